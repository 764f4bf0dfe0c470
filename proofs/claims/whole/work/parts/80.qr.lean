/-! ease -/
def sm (f : Nat → Int32) (n : Nat) : Int32 := lp (fun k a => a + f k) 0 n 0
theorem sm_s (f : Nat → Int32) (n : Nat) : sm f (n + 1) = sm f n + f n := by unfold sm; rw [lp_snoc, Nat.zero_add]
theorem sm_congr {f g : Nat → Int32} {n : Nat} (h : ∀ k, k < n → f k = g k) : sm f n = sm g n := lp_congr n 0 0 (fun j b _ h2 => by rw [h j (by omega)])
theorem i_lc (a b c : Int32) : a + (b + c) = b + (a + c) := by rw [← Int32.add_assoc, Int32.add_comm a b, Int32.add_assoc]
theorem ac3 (a b c e : Int32) : a - b + c + e = a + e - b + c := by simp only [Int32.sub_eq_add_neg, Int32.add_assoc, Int32.add_comm, i_lc]
theorem sm_upd {f g : Nat → Int32} {j : Nat} (h : ∀ k, k ≠ j → g k = f k) : ∀ n, sm g n = if j < n then sm f n - f j + g j else sm f n := by
  intro n
  induction n with
  | zero => rw [if_neg (by omega)]; rfl
  | succ n ih =>
    rw [sm_s, sm_s, ih]
    by_cases e : j = n
    · subst e
      rw [if_neg (by omega), if_pos (by omega), Int32.add_sub_cancel]
    · rw [h n (fun q => e q.symm)]
      by_cases q : j < n
      · rw [if_pos q, if_pos (by omega), ac3]
      · rw [if_neg q, if_neg (by omega)]
theorem lp_plus (f : Nat → Int32) : ∀ (n i : Nat) (w : Int32), lp (fun k a => a + f k) i n w = w + lp (fun k a => a + f k) i n 0 := by
  intro n
  induction n with
  | zero => intro i w; exact (Int32.add_zero w).symm
  | succ n ih =>
    intro i w
    show lp _ (i + 1) n (w + f i) = w + lp _ (i + 1) n (0 + f i)
    rw [ih, ih (i + 1) (0 + f i), Int32.zero_add, Int32.add_assoc]
theorem msize_neg (a : Int32) : msize (-a) = msize a := by
  by_cases h0 : a = -2147483648
  · subst h0; decide
  · have h1 : a.toInt ≠ -2147483648 := fun g => h0 (Int32.toInt_inj.mp (by rw [g]; decide))
    have h2 := Int32.le_toInt a
    have h3 := Int32.toInt_lt a
    have e : (-a).toInt = -a.toInt := by
      rw [Int32.toInt_neg]
      exact Int.bmod_eq_of_le (by omega) (by omega)
    unfold msize
    by_cases p : 0 ≤ a
    · rw [if_pos p]
      have p2 := Int32.le_iff_toInt_le.mp p
      rw [Int32.toInt_zero] at p2
      by_cases q : 0 ≤ -a
      · have q2 := Int32.le_iff_toInt_le.mp q
        rw [e, Int32.toInt_zero] at q2
        rw [if_pos q]
        exact Int32.toInt_inj.mp (by rw [e]; omega)
      · rw [if_neg q, Int32.neg_neg]
    · rw [if_neg p]
      have p2 : ¬ (0 : Int) ≤ a.toInt := fun g => p (Int32.le_iff_toInt_le.mpr (by rw [Int32.toInt_zero]; exact g))
      rw [if_pos (Int32.le_iff_toInt_le.mpr (by rw [e, Int32.toInt_zero]; omega))]
theorem msize_sub (a b : Int32) : msize (a - b) = jabs (b - a) := by
  rw [jabs_m, ← msize_neg, Int32.neg_sub]
/-- a last without the layers in s -/
def zLB (Z : zS) (h z : Nat) (s : Nat → Bool) : Int32 := Z.1 1 (h * 8 + z) + sm (fun k => if Z.2 2 (h * 12 + k) = z ∧ s k = false then Z.1 2 (h * 12 + k) else 0) (Z.2 1 h)
def zGap (T : zT) (Z : zS) (m h : Nat) (s : Nat → Bool) (z : Nat) : Int32 := zLB Z h z s - zFoot T m z (Z.1 3 m)
def zFB (T : zT) (Z : zS) (m h : Nat) (s : Nat → Bool) : Int32 := sm (fun z => jabs (zGap T Z m h s z)) 8
theorem zLB_0 {Z : zS} {h z : Nat} : zLB Z h z (fun _ => false) = zLast Z h z := by
  unfold zLB zLast zLsum sm
  congr 1
  refine lp_congr _ _ _ (fun k a _ _ => ?_)
  show a + (if Z.2 2 (h * 12 + k) = z ∧ false = false then Z.1 2 (h * 12 + k) else 0) = if Z.2 2 (h * 12 + k) = z then a + Z.1 2 (h * 12 + k) else a
  by_cases e : Z.2 2 (h * 12 + k) = z
  · rw [if_pos ⟨e, rfl⟩, if_pos e]
  · rw [if_neg (fun q => e q.1), if_neg e, Int32.add_zero]
theorem zGap_c {T : zT} {Z : zS} {m h z : Nat} {s s' : Nat → Bool} (e : ∀ k, k < Z.2 1 h → s' k = s k) : zGap T Z m h s' z = zGap T Z m h s z := by
  unfold zGap zLB
  congr 2
  exact sm_congr (fun k hk => by rw [e k hk])
theorem ac4 (w a b c : Int32) : w + (a - b + c) = w + a + (c - b) := by simp only [Int32.sub_eq_add_neg, Int32.add_assoc, Int32.add_comm, i_lc]
theorem ac5 (w a f : Int32) : w + a - f = w - f + a := by simp only [Int32.sub_eq_add_neg, Int32.add_assoc, Int32.add_comm, i_lc]
/-- one layer more off, or on again -/
theorem zGap_u {T : zT} {Z : zS} {m h z j : Nat} {s s' : Nat → Bool} (hj : j < Z.2 1 h) (e : ∀ k, k ≠ j → s' k = s k) (hn : s' j = !s j) : zGap T Z m h s' z = zGap T Z m h s z + (if Z.2 2 (h * 12 + j) = z then (if s' j = true then -Z.1 2 (h * 12 + j) else Z.1 2 (h * 12 + j)) else 0) := by
  unfold zGap zLB
  rw [sm_upd (f := fun k => if Z.2 2 (h * 12 + k) = z ∧ s k = false then Z.1 2 (h * 12 + k) else 0) (j := j) (fun k hk => by rw [e k hk]), if_pos hj, ac4, ac5]
  congr 1
  by_cases ez : Z.2 2 (h * 12 + j) = z
  · rw [if_pos ez]
    cases hs : s j with
    | true =>
      rw [hs] at hn
      rw [if_pos ⟨ez, by rw [hn]; rfl⟩, if_neg (fun q => absurd q.2 (by decide)), if_neg (by rw [hn]; decide), Int32.sub_zero]
    | false =>
      rw [hs] at hn
      rw [if_neg (fun q => absurd q.2 (by rw [hn]; decide)), if_pos ⟨ez, rfl⟩, if_pos (by rw [hn]; rfl), Int32.zero_sub]
  · rw [if_neg (fun q => ez q.1), if_neg (fun q => ez q.1), if_neg ez, Int32.sub_zero]
theorem zFB_u {T : zT} {Z : zS} {m h j : Nat} {s s' : Nat → Bool} (hj : j < Z.2 1 h) (hz : Z.2 2 (h * 12 + j) < 8) (e : ∀ k, k ≠ j → s' k = s k) (hn : s' j = !s j) : zFB T Z m h s' = zFB T Z m h s + (jabs (zGap T Z m h s' (Z.2 2 (h * 12 + j))) - jabs (zGap T Z m h s (Z.2 2 (h * 12 + j)))) := by
  unfold zFB
  rw [sm_upd (f := fun z => jabs (zGap T Z m h s z)) (j := Z.2 2 (h * 12 + j)) (fun z hz => by rw [zGap_u hj e hn, if_neg (fun q => hz q.symm), Int32.add_zero]), if_pos hz]
  simp only [Int32.sub_eq_add_neg, Int32.add_assoc, Int32.add_comm, i_lc]
theorem sh1 {n k : Nat} (hn : n < 2 ^ 31) (hk : k < 31) : nI n >>> (nI k &&& 31) &&& 1 = nI (n / 2 ^ k % 2) := by
  have h1 : ∀ k, k < 31 → ((nI k &&& 31).toBitVec.smod 32).toNat = k := by decide +kernel
  rw [pk_shrN hn _ k (h1 k hk), pk_andN (Nat.lt_of_le_of_lt (Nat.div_le_self _ _) (by omega)) 1 (by decide)]
theorem tb_d (n k : Nat) : n.testBit k = decide (n / 2 ^ k % 2 = 1) := Nat.testBit_eq_decide_div_mod_eq
theorem sh1_t {n k : Nat} (hn : n < 2 ^ 31) (hk : k < 31) : nI n >>> (nI k &&& 31) &&& 1 = 1 ↔ n.testBit k = true := by
  rw [sh1 hn hk, tb_d]
  have : n / 2 ^ k % 2 = 0 ∨ n / 2 ^ k % 2 = 1 := by omega
  rcases this with e | e
  · rw [e]; decide
  · rw [e]; decide
theorem jbit_t {n k : Nat} (hn : n < 2 ^ 31) (hk : k < 31) : jbit (nI n) k = n.testBit k := by
  unfold jbit
  by_cases h : n.testBit k = true
  · rw [h]; exact decide_eq_true ((sh1_t hn hk).mpr h)
  · rw [Bool.not_eq_true] at h
    rw [h]; exact decide_eq_false (fun g => by rw [(sh1_t hn hk).mp g] at h; exact absurd h (by decide))
theorem div_next (n d : Nat) (hd : 0 < d) : (n + 1) / d ≤ n / d + 1 := by
  have := Nat.div_lt_of_lt_mul (m := n + 1) (n := d) (k := n / d + 2) (by
    have := Nat.lt_mul_div_succ n hd
    rw [Nat.mul_add] at this ⊢
    omega)
  omega
/-- where the bits of a number and the one ahead agree, they agree from there on -/
theorem bits_on {n k j : Nat} (h : (n + 1).testBit k = n.testBit k) (hj : k ≤ j) : (n + 1).testBit j = n.testBit j := by
  rw [tb_d, tb_d] at h ⊢
  have h1 := div_next n (2 ^ k) (Nat.two_pow_pos k)
  have h2 : n / 2 ^ k ≤ (n + 1) / 2 ^ k := Nat.div_le_div_right (by omega)
  have h3 : (n + 1) / 2 ^ k = n / 2 ^ k := by
    have := decide_eq_decide.mp h
    omega
  have e : 2 ^ j = 2 ^ k * 2 ^ (j - k) := by rw [← Nat.pow_add]; congr 1; omega
  rw [e, ← Nat.div_div_eq_div_mul, ← Nat.div_div_eq_div_mul, h3]
theorem nI_xor {a b : Nat} (ha : a < 2 ^ 31) (hb : b < 2 ^ 31) : nI a ^^^ nI b = nI (a ^^^ b) := by
  refine Int32.toBitVec_inj.mp (BitVec.eq_of_toNat_eq ?_)
  rw [Int32.toBitVec_xor, BitVec.toNat_xor, pk_tn (by omega), pk_tn (by omega), pk_tn (Nat.lt_of_lt_of_le (Nat.xor_lt_two_pow ha hb) (by decide))]
theorem two_L : ∀ L, L < 13 → (1 : Int32) <<< (nI L &&& 31) = nI (2 ^ L) := by decide +kernel
def zMany (b : Int32) : Int32 := lp (fun k a => a + (b >>> (nI k &&& 31) &&& 1)) 0 21 0
/-- how many layers the best one has off -/
def zFew (b : Int32) : Int32 := if b = -2 then 13 else jbc b
def zEs (T : zT) (Z : zS) (m h : Nat) (n : Int32) (o : Nat) (b : Int32) : Int32 := if zFB T Z m h (fun k => o.testBit k) ≤ n ∧ jbc (nI o) < zFew b then nI o else b
def qEase (T : zT) (Z : zS) (a n : Int32) : Int32 := if zIn (T.1 1) a ∧ (0 ≤ n ∧ n ≤ 9999) then lp (zEs T Z a.toNatClampNeg (Z.2 3 a.toNatClampNeg) n) 0 (2 ^ Z.2 1 (Z.2 3 a.toNatClampNeg)) (-2) else -1
section qR
variable {l : Launch} {d : Nat} {D : Nat → Bool} {T : zT} {W : Nat → zL} {Z : zS} {t : Nat} {x : aS}
set_option maxHeartbeats 4000000 in
set_option maxRecDepth 100000 in
theorem c_X4_shift {z : Nat} {v : Int32} (hD : aDC D) (hz : z < 8) : aDI l mX4_shift (d + 1) D [.ref bRk, .int (nI z), .int v] x (jabs (x.1 (bRk + 4) z + v) - jabs (x.1 (bRk + 4) z)) (aWr x (bRk + 4) z (x.1 (bRk + 4) z + v)) := by
  refine a_metI (by decide) (Nat.le_of_ble_eq_true rfl) rfl ?_
  refine a_aload_n (i := 0) dX4_shift_0 rfl rfl ?_
  refine gX4_18 rfl dX4_shift_1 (isRk_0 hD) ?_
  refine a_iload_n (i := 1) dX4_shift_4 rfl rfl ?_
  refine a_ialdN dX4_shift_5 (isRk_4 hD) (by first | with_reducible exact rfl | with_reducible exact ix8 _ _ | with_reducible exact ix12 _ _ | exact rfl) (by omega) (by decide) ?_
  refine kX4_55 rfl dX4_shift_6 (Nat.le_of_ble_eq_true rfl) ?_
  refine a_istore_n (i := 3) dX4_shift_9 rfl (by decide) ?_
  refine a_aload_n (i := 0) dX4_shift_10 rfl rfl ?_
  refine gX4_18 rfl dX4_shift_11 (isRk_0 hD) ?_
  refine a_iload_n (i := 1) dX4_shift_14 rfl rfl ?_
  refine a_dup2_11 dX4_shift_15 rfl rfl ?_
  refine a_ialdN dX4_shift_16 (isRk_4 hD) (by first | with_reducible exact rfl | with_reducible exact ix8 _ _ | with_reducible exact ix12 _ _ | exact rfl) (by omega) (by decide) ?_
  refine a_iload_n (i := 2) dX4_shift_17 rfl rfl ?_
  refine a_iadd dX4_shift_18 ?_
  refine a_iastN dX4_shift_19 (isRk_4 hD) (by first | with_reducible exact rfl | with_reducible exact ix8 _ _ | with_reducible exact ix12 _ _ | exact rfl) (by omega) (by decide) ?_
  refine a_aload_n (i := 0) dX4_shift_20 rfl rfl ?_
  refine gX4_18 rfl dX4_shift_21 (isRk_0 hD) ?_
  refine a_iload_n (i := 1) dX4_shift_24 rfl rfl ?_
  refine a_ialdN dX4_shift_25 (isRk_4 hD) (by first | with_reducible exact rfl | with_reducible exact ix8 _ _ | with_reducible exact ix12 _ _ | exact rfl) (by omega) (by decide) ?_
  rw [aWr_s]
  refine kX4_55 rfl dX4_shift_26 (Nat.le_of_ble_eq_true rfl) ?_
  refine a_iload_n (i := 3) dX4_shift_29 rfl rfl ?_
  refine a_isub dX4_shift_30 ?_
  exact a_iret dX4_shift_31 (by exact ⟨rfl, rfl⟩)
/-- the gaps are those of s -/
def gR (T : zT) (Z : zS) (m h : Nat) (s : Nat → Bool) (x y : aS) : Prop := (∀ z, z < 8 → y.1 (bRk + 4) z = zGap T Z m h s z) ∧ (∀ n, n ≠ bRk + 4 → y.1 n = x.1 n) ∧ y.2 = x.2
set_option maxHeartbeats 4000000 in
set_option maxRecDepth 100000 in
theorem c_X4_fewestOff {m : Nat} {n : Int32} (hD : aDC D) (ht : aTdB t) (ok : zTok T) (hZ : zOk T Z) (hT : rT T x t) (hS : rS T Z x bNow) (hm : m < T.1 1) : aCt l mX4_fewestOff (d + 2) D [.ref bRk, .ref t, .ref bNow, .int (nI m), .int n] x (fun v y => v = some (.int (lp (zEs T Z m (Z.2 3 m) n) 0 (2 ^ Z.2 1 (Z.2 3 m)) (-2))) ∧ cF x y) := by
  have h6 := ok.1
  have h8 := ok.2.1
  have hh := hZ.2.2 m hm
  have c12 := (hZ.2.1 _ hh).1
  have f1 := (hS.2.2.2 m hm).1
  have f2 := (hS.2.2.2 m hm).2.1
  have f3 := (hS.2.2.1 _ hh).2.1
  have nt : ∀ k, k < 256 → t + k ≠ bRk + 4 := fun k hk => by rcases ht with rfl | rfl <;> unfold bRk <;> omega
  have nb : ∀ k, k < 256 → bNow + k ≠ bRk + 4 := fun k hk => by unfold bRk bNow; omega
  generalize hH : Z.2 3 m = H at *
  generalize hL : Z.2 1 H = L at *
  refine a_met (by decide) (Nat.le_of_ble_eq_true rfl) (fun v y q => Or.inl ⟨rfl, _, q.1⟩) ?_
  have gT : ∀ y, (∀ n, n ≠ bRk + 4 → y.1 n = x.1 n) → rT T y t := fun y hy => rT_same (fun k hk => hy _ (nt k hk)) ok hT
  have gS : ∀ y, (∀ n, n ≠ bRk + 4 → y.1 n = x.1 n) → rS T Z y bNow := fun y hy => rS_same (fun k hk => hy _ (nb k hk)) hS
  have gF : ∀ y, (∀ n, n ≠ bRk + 4 → y.1 n = x.1 n) → y.2 = x.2 → cF x y := fun y h1 h2 n _ _ c => ⟨h1 n (fun e => c (by rw [e]; decide)), by rw [h2]⟩
  -- all choices of layers
  have B : ∀ (f o : Nat), (o + 1) + f = 2 ^ L → ∀ (b : Int32) (y : aS), gR T Z m H (fun k => o.testBit k) x y → aV l mX4_fewestOff (d + 2) D none 113 [(0, .ref bRk), (1, .ref t), (2, .ref bNow), (3, .int (nI m)), (4, .int n), (5, .int (nI H)), (6, .int (nI L)), (7, .int (zFB T Z m H (fun k => o.testBit k))), (8, .int b), (9, .int (zFew b)), (10, .int (nI (o + 1)))] [] y (fun v y => v = some (.int (lp (zEs T Z m H n) (o + 1) f b)) ∧ cF x y) := by
    have p12 : 2 ^ L ≤ 4096 := Nat.pow_le_pow_right (i := L) (j := 12) (by decide) c12
    intro f
    induction f with
    | zero =>
      intro o ho b y hy
      refine a_iload (i := 10) dX4_fewestOff_113 rfl ?_
      refine a_iconst (v := 1) dX4_fewestOff_115 (by decide) ?_
      refine a_iload (i := 6) dX4_fewestOff_116 rfl ?_
      refine a_ishl dX4_fewestOff_118 ?_
      rw [two_L L (by omega)]
      refine a_icmp_ge (tg := 243) dX4_fewestOff_119 (by decide) (fun c_119 => ?_) (fun c_119 => ?_)
      · refine a_iload (i := 8) dX4_fewestOff_243 rfl ?_
        exact a_iret dX4_fewestOff_245 (by exact ⟨rfl, gF y hy.2.1 hy.2.2⟩)
      · exact absurd (nI_le (show 2 ^ L ≤ o + 1 by omega) (by omega)) c_119
    | succ f ih =>
      intro o ho b y hy
      have step : ∀ y, gR T Z m H (fun k => (o + 1).testBit k) x y → aV l mX4_fewestOff (d + 2) D none 209 [(0, .ref bRk), (1, .ref t), (2, .ref bNow), (3, .int (nI m)), (4, .int n), (5, .int (nI H)), (6, .int (nI L)), (7, .int (zFB T Z m H (fun k => (o + 1).testBit k))), (8, .int b), (9, .int (zFew b)), (10, .int (nI (o + 1)))] [] y (fun v y => v = some (.int (lp (zEs T Z m H n) (o + 1 + 1) f (zEs T Z m H n (o + 1) b))) ∧ cF x y) := by
        intro y hy
        have nn : ¬ nI (o + 1) = -2 := fun g => absurd (show nI (o + 1) < 0 by rw [g]; decide) (nI_pos (by omega))
        have ef : zFew (nI (o + 1)) = jbc (nI (o + 1)) := if_neg nn
        have ih1 := ih (o + 1) (by omega) (nI (o + 1)) y hy
        rw [ef] at ih1
        have ih2 := ih (o + 1) (by omega) b y hy
        refine a_iload (i := 7) dX4_fewestOff_209 rfl ?_
        refine a_iload (i := 4) dX4_fewestOff_211 rfl ?_
        refine a_icmp_gt (tg := 237) dX4_fewestOff_213 (by decide) (fun c_213 => ?_) (fun c_213 => ?_)
        · rw [show zEs T Z m H n (o + 1) b = b from if_neg (fun g => absurd g.1 (Int32.not_le.mpr c_213))]
          refine a_iincK (i := 10) (u := 1) dX4_fewestOff_237 rfl (by decide) (by decide) ?_
          refine a_goto (tg := 113) dX4_fewestOff_240 (by decide) ?_
          rw [nI_1]; first | exact a_loc _ rfl ih1 | exact a_loc _ rfl ih2
        · refine a_iload (i := 10) dX4_fewestOff_216 rfl ?_
          refine kX4_70 rfl dX4_fewestOff_218 (Nat.le_of_ble_eq_true rfl) (c_J6_bitCount) ?_
          refine a_iload (i := 9) dX4_fewestOff_221 rfl ?_
          refine a_icmp_ge (tg := 237) dX4_fewestOff_223 (by decide) (fun c_223 => ?_) (fun c_223 => ?_)
          · rw [show zEs T Z m H n (o + 1) b = b from if_neg (fun g => absurd g.2 (Int32.not_lt.mpr c_223))]
            refine a_iincK (i := 10) (u := 1) dX4_fewestOff_237 rfl (by decide) (by decide) ?_
            refine a_goto (tg := 113) dX4_fewestOff_240 (by decide) ?_
            rw [nI_1]; first | exact a_loc _ rfl ih1 | exact a_loc _ rfl ih2
          · rw [show zEs T Z m H n (o + 1) b = nI (o + 1) from if_pos ⟨Int32.not_lt.mp c_213, Int32.not_le.mp c_223⟩]
            refine a_iload (i := 10) dX4_fewestOff_226 rfl ?_
            refine a_istore (i := 8) dX4_fewestOff_228 (by decide) ?_
            refine a_iload (i := 10) dX4_fewestOff_230 rfl ?_
            refine kX4_70 rfl dX4_fewestOff_232 (Nat.le_of_ble_eq_true rfl) (c_J6_bitCount) ?_
            refine a_istore (i := 9) dX4_fewestOff_235 (by decide) ?_
            refine a_iincK (i := 10) (u := 1) dX4_fewestOff_237 rfl (by decide) (by decide) ?_
            refine a_goto (tg := 113) dX4_fewestOff_240 (by decide) ?_
            rw [nI_1]; first | exact a_loc _ rfl ih1 | exact a_loc _ rfl ih2
      have C : ∀ (g k : Nat), k + g = L → ∀ y, gR T Z m H (fun j => if j < k then (o + 1).testBit j else o.testBit j) x y → aV l mX4_fewestOff (d + 2) D none 125 [(0, .ref bRk), (1, .ref t), (2, .ref bNow), (3, .int (nI m)), (4, .int n), (5, .int (nI H)), (6, .int (nI L)), (7, .int (zFB T Z m H (fun j => if j < k then (o + 1).testBit j else o.testBit j))), (8, .int b), (9, .int (zFew b)), (10, .int (nI (o + 1))), (11, .int (nI k))] [] y (fun v y => v = some (.int (lp (zEs T Z m H n) (o + 1 + 1) f (zEs T Z m H n (o + 1) b))) ∧ cF x y) := by
        intro g
        induction g with
        | zero =>
          intro k hk y hy
          rw [Nat.add_zero] at hk
          subst hk
          have e : ∀ j, j < Z.2 1 H → (fun j => (o + 1).testBit j) j = (fun j => if j < k then (o + 1).testBit j else o.testBit j) j := fun j hj => by simp only; rw [if_pos (by omega)]
          have s1 := step y ⟨fun z hz => by rw [zGap_c e]; exact hy.1 z hz, hy.2⟩
          rw [show zFB T Z m H (fun k => (o + 1).testBit k) = zFB T Z m H (fun j => if j < k then (o + 1).testBit j else o.testBit j) from sm_congr (fun z _ => by rw [zGap_c e])] at s1
          refine a_iload (i := 11) dX4_fewestOff_125 rfl ?_
          refine a_iload (i := 6) dX4_fewestOff_127 rfl ?_
          refine a_icmp_ge (tg := 209) dX4_fewestOff_129 (by decide) (fun c_129 => ?_) (fun c_129 => ?_)
          · exact a_loc _ rfl s1
          · exact absurd (Int32.le_refl _) c_129
        | succ g ihc =>
          intro k hk y hy
          have k31 : k < 31 := by omega
          have o31 : o + 1 < 2 ^ 31 := by omega
          have ex : (nI (o + 1) ^^^ (nI (o + 1) - 1)) >>> (nI k &&& 31) &&& 1 = 1 ↔ ¬ (o + 1).testBit k = o.testBit k := by
            rw [nI_pred, nI_xor o31 (by omega), sh1_t (Nat.lt_of_lt_of_le (Nat.xor_lt_two_pow (n := 13) (show o + 1 < 2 ^ 13 by omega) (show o < 2 ^ 13 by omega)) (by decide)) k31, Nat.testBit_xor]
            cases (o + 1).testBit k <;> cases o.testBit k <;> decide
          by_cases q : (o + 1).testBit k = o.testBit k
          · have e : ∀ j, j < Z.2 1 H → (fun j => (o + 1).testBit j) j = (fun j => if j < k then (o + 1).testBit j else o.testBit j) j := fun j hj => by
              simp only
              by_cases qj : j < k
              · rw [if_pos qj]
              · rw [if_neg qj, bits_on q (by omega)]
            have s1 := step y ⟨fun z hz => by rw [zGap_c e]; exact hy.1 z hz, hy.2⟩
            rw [show zFB T Z m H (fun k => (o + 1).testBit k) = zFB T Z m H (fun j => if j < k then (o + 1).testBit j else o.testBit j) from sm_congr (fun z _ => by rw [zGap_c e])] at s1
            refine a_iload (i := 11) dX4_fewestOff_125 rfl ?_
            refine a_iload (i := 6) dX4_fewestOff_127 rfl ?_
            refine a_icmp_ge (tg := 209) dX4_fewestOff_129 (by decide) (fun c_129 => ?_) (fun c_129 => ?_)
            · exact absurd c_129 (nI_ge (show k < L by omega) (by omega))
            · refine a_iload (i := 10) dX4_fewestOff_132 rfl ?_
              refine a_iload (i := 10) dX4_fewestOff_134 rfl ?_
              refine a_iconst (v := 1) dX4_fewestOff_136 (by decide) ?_
              refine a_isub dX4_fewestOff_137 ?_
              refine a_ixor dX4_fewestOff_138 ?_
              refine a_iload (i := 11) dX4_fewestOff_139 rfl ?_
              refine a_ishr dX4_fewestOff_141 ?_
              refine a_iconst (v := 1) dX4_fewestOff_142 (by decide) ?_
              refine a_iand dX4_fewestOff_143 ?_
              refine a_iconst (v := 1) dX4_fewestOff_144 (by decide) ?_
              refine a_icmp_ne (tg := 209) dX4_fewestOff_145 (by decide) (fun c_145 => ?_) (fun c_145 => ?_)
              · exact a_loc _ rfl s1
              · exact absurd q (ex.mp c_145)
          · obtain ⟨s, hs⟩ : ∃ s, s = (fun j => if j < k then (o + 1).testBit j else o.testBit j) := ⟨_, rfl⟩
            obtain ⟨s', hs'⟩ : ∃ s', s' = (fun j => if j < k + 1 then (o + 1).testBit j else o.testBit j) := ⟨_, rfl⟩
            have e1 : ∀ j, j ≠ k → s' j = s j := fun j hj => by
              rw [hs, hs']
              simp only
              by_cases qj : j < k
              · rw [if_pos qj, if_pos (by omega)]
              · rw [if_neg qj, if_neg (by omega)]
            have e2 : s' k = (o + 1).testBit k := by rw [hs']; simp only; rw [if_pos (by omega)]
            have e3 : s' k = !s k := by
              rw [e2, hs]; simp only; rw [if_neg (by omega)]
              revert q
              cases (o + 1).testBit k <;> cases o.testBit k <;> decide
            have kL : k < Z.2 1 H := by omega
            have hz := (hZ.2.1 H hh).2 k kL
            obtain ⟨l1, l2⟩ := ((gS y hy.2.1).2.2.1 H hh).2.2 k kL
            have g0 := hy.1 _ hz
            rw [← hs] at hy g0 ⊢
            have U := fun z => zGap_u (T := T) (m := m) (z := z) kL e1 e3
            have V := zFB_u (T := T) (m := m) kL hz e1 e3
            have hsh := c_X4_shift (l := l) (d := d) (D := D) (x := y) (z := Z.2 2 (H * 12 + k)) (v := if s' k = true then -Z.1 2 (H * 12 + k) else Z.1 2 (H * 12 + k)) hD hz
            rw [g0] at hsh
            have g1 : gR T Z m H s' x (aWr y (bRk + 4) (Z.2 2 (H * 12 + k)) (zGap T Z m H s (Z.2 2 (H * 12 + k)) + (if s' k = true then -Z.1 2 (H * 12 + k) else Z.1 2 (H * 12 + k)))) := by
              refine ⟨fun z hz2 => ?_, fun n hn => by rw [aWr_n _ _ _ hn, hy.2.1 n hn], hy.2.2⟩
              rw [U z]
              by_cases ez : Z.2 2 (H * 12 + k) = z
              · subst ez; rw [aWr_s, if_pos rfl]
              · rw [aWr_j _ _ _ (fun q => ez q.symm), if_neg ez, Int32.add_zero, hy.1 z hz2]
            have ev : zFB T Z m H s + (jabs (zGap T Z m H s (Z.2 2 (H * 12 + k)) + (if s' k = true then -Z.1 2 (H * 12 + k) else Z.1 2 (H * 12 + k))) - jabs (zGap T Z m H s (Z.2 2 (H * 12 + k)))) = zFB T Z m H s' := by
              rw [V, U, if_pos rfl]
            have ihc2 := ihc (k + 1) (by omega) _ (by rw [← hs']; exact g1)
            rw [← hs'] at ihc2
            by_cases qb : (o + 1).testBit k = true
            · rw [e2, if_pos qb] at hsh g1 ev ihc2
              refine a_iload (i := 11) dX4_fewestOff_125 rfl ?_
              refine a_iload (i := 6) dX4_fewestOff_127 rfl ?_
              refine a_icmp_ge (tg := 209) dX4_fewestOff_129 (by decide) (fun c_129 => ?_) (fun c_129 => ?_)
              · exact absurd c_129 (nI_ge (show k < L by omega) (by omega))
              · refine a_iload (i := 10) dX4_fewestOff_132 rfl ?_
                refine a_iload (i := 10) dX4_fewestOff_134 rfl ?_
                refine a_iconst (v := 1) dX4_fewestOff_136 (by decide) ?_
                refine a_isub dX4_fewestOff_137 ?_
                refine a_ixor dX4_fewestOff_138 ?_
                refine a_iload (i := 11) dX4_fewestOff_139 rfl ?_
                refine a_ishr dX4_fewestOff_141 ?_
                refine a_iconst (v := 1) dX4_fewestOff_142 (by decide) ?_
                refine a_iand dX4_fewestOff_143 ?_
                refine a_iconst (v := 1) dX4_fewestOff_144 (by decide) ?_
                refine a_icmp_ne (tg := 209) dX4_fewestOff_145 (by decide) (fun c_145 => ?_) (fun c_145 => ?_)
                · exact absurd (ex.mpr q) c_145
                · refine a_iload (i := 5) dX4_fewestOff_148 rfl ?_
                  refine a_bipush (v := 12) dX4_fewestOff_150 (by decide) ?_
                  refine a_imul dX4_fewestOff_152 ?_
                  refine a_iload (i := 11) dX4_fewestOff_153 rfl ?_
                  refine a_iadd dX4_fewestOff_155 ?_
                  rw [ix12]
                  refine a_istore (i := 12) dX4_fewestOff_156 (by decide) ?_
                  refine a_iload (i := 7) dX4_fewestOff_158 rfl ?_
                  refine a_aload_n (i := 0) dX4_fewestOff_160 rfl rfl ?_
                  refine a_aload_n (i := 2) dX4_fewestOff_161 rfl rfl ?_
                  refine gX4_61 rfl dX4_fewestOff_162 (isS_0 hD hbNow) ?_
                  refine a_iload (i := 12) dX4_fewestOff_165 rfl ?_
                  refine a_ialdN dX4_fewestOff_167 (isS_8 hD hbNow) (by first | with_reducible exact rfl | with_reducible exact ix8 _ _ | with_reducible exact ix12 _ _ | exact rfl) (by omega) (by decide) ?_
                  rw [l1]
                  refine a_iload (i := 10) dX4_fewestOff_168 rfl ?_
                  refine a_iload (i := 11) dX4_fewestOff_170 rfl ?_
                  refine a_ishr dX4_fewestOff_172 ?_
                  refine a_iconst (v := 1) dX4_fewestOff_173 (by decide) ?_
                  refine a_iand dX4_fewestOff_174 ?_
                  refine a_iconst (v := 1) dX4_fewestOff_175 (by decide) ?_
                  refine a_icmp_ne (tg := 190) dX4_fewestOff_176 (by decide) (fun c_176 => ?_) (fun c_176 => ?_)
                  · exact absurd ((sh1_t o31 k31).mpr qb) c_176
                  · refine a_aload_n (i := 2) dX4_fewestOff_179 rfl rfl ?_
                    refine gX4_64 rfl dX4_fewestOff_180 (isS_0 hD hbNow) ?_
                    refine a_iload (i := 12) dX4_fewestOff_183 rfl ?_
                    refine a_ialdN dX4_fewestOff_185 (isS_9 hD hbNow) (by first | with_reducible exact rfl | with_reducible exact ix8 _ _ | with_reducible exact ix12 _ _ | exact rfl) (by omega) (by decide) ?_
                    rw [l2]
                    refine a_ineg dX4_fewestOff_186 ?_
                    refine a_goto (tg := 197) dX4_fewestOff_187 (by decide) ?_
                    refine kX4_67 rfl dX4_fewestOff_197 (Nat.le_of_ble_eq_true rfl) (isRk_0 hD) (hsh) ?_
                    refine a_iadd dX4_fewestOff_200 ?_
                    rw [ev]
                    refine a_istore (i := 7) dX4_fewestOff_201 (by decide) ?_
                    refine a_iincK (i := 11) (u := 1) dX4_fewestOff_203 rfl (by decide) (by decide) ?_
                    refine a_goto (tg := 125) dX4_fewestOff_206 (by decide) ?_
                    rw [nI_1]; exact a_loc _ rfl ihc2
            · rw [e2, if_neg qb] at hsh g1 ev ihc2
              refine a_iload (i := 11) dX4_fewestOff_125 rfl ?_
              refine a_iload (i := 6) dX4_fewestOff_127 rfl ?_
              refine a_icmp_ge (tg := 209) dX4_fewestOff_129 (by decide) (fun c_129 => ?_) (fun c_129 => ?_)
              · exact absurd c_129 (nI_ge (show k < L by omega) (by omega))
              · refine a_iload (i := 10) dX4_fewestOff_132 rfl ?_
                refine a_iload (i := 10) dX4_fewestOff_134 rfl ?_
                refine a_iconst (v := 1) dX4_fewestOff_136 (by decide) ?_
                refine a_isub dX4_fewestOff_137 ?_
                refine a_ixor dX4_fewestOff_138 ?_
                refine a_iload (i := 11) dX4_fewestOff_139 rfl ?_
                refine a_ishr dX4_fewestOff_141 ?_
                refine a_iconst (v := 1) dX4_fewestOff_142 (by decide) ?_
                refine a_iand dX4_fewestOff_143 ?_
                refine a_iconst (v := 1) dX4_fewestOff_144 (by decide) ?_
                refine a_icmp_ne (tg := 209) dX4_fewestOff_145 (by decide) (fun c_145 => ?_) (fun c_145 => ?_)
                · exact absurd (ex.mpr q) c_145
                · refine a_iload (i := 5) dX4_fewestOff_148 rfl ?_
                  refine a_bipush (v := 12) dX4_fewestOff_150 (by decide) ?_
                  refine a_imul dX4_fewestOff_152 ?_
                  refine a_iload (i := 11) dX4_fewestOff_153 rfl ?_
                  refine a_iadd dX4_fewestOff_155 ?_
                  rw [ix12]
                  refine a_istore (i := 12) dX4_fewestOff_156 (by decide) ?_
                  refine a_iload (i := 7) dX4_fewestOff_158 rfl ?_
                  refine a_aload_n (i := 0) dX4_fewestOff_160 rfl rfl ?_
                  refine a_aload_n (i := 2) dX4_fewestOff_161 rfl rfl ?_
                  refine gX4_61 rfl dX4_fewestOff_162 (isS_0 hD hbNow) ?_
                  refine a_iload (i := 12) dX4_fewestOff_165 rfl ?_
                  refine a_ialdN dX4_fewestOff_167 (isS_8 hD hbNow) (by first | with_reducible exact rfl | with_reducible exact ix8 _ _ | with_reducible exact ix12 _ _ | exact rfl) (by omega) (by decide) ?_
                  rw [l1]
                  refine a_iload (i := 10) dX4_fewestOff_168 rfl ?_
                  refine a_iload (i := 11) dX4_fewestOff_170 rfl ?_
                  refine a_ishr dX4_fewestOff_172 ?_
                  refine a_iconst (v := 1) dX4_fewestOff_173 (by decide) ?_
                  refine a_iand dX4_fewestOff_174 ?_
                  refine a_iconst (v := 1) dX4_fewestOff_175 (by decide) ?_
                  refine a_icmp_ne (tg := 190) dX4_fewestOff_176 (by decide) (fun c_176 => ?_) (fun c_176 => ?_)
                  · refine a_aload_n (i := 2) dX4_fewestOff_190 rfl rfl ?_
                    refine gX4_64 rfl dX4_fewestOff_191 (isS_0 hD hbNow) ?_
                    refine a_iload (i := 12) dX4_fewestOff_194 rfl ?_
                    refine a_ialdN dX4_fewestOff_196 (isS_9 hD hbNow) (by first | with_reducible exact rfl | with_reducible exact ix8 _ _ | with_reducible exact ix12 _ _ | exact rfl) (by omega) (by decide) ?_
                    rw [l2]
                    refine kX4_67 rfl dX4_fewestOff_197 (Nat.le_of_ble_eq_true rfl) (isRk_0 hD) (hsh) ?_
                    refine a_iadd dX4_fewestOff_200 ?_
                    rw [ev]
                    refine a_istore (i := 7) dX4_fewestOff_201 (by decide) ?_
                    refine a_iincK (i := 11) (u := 1) dX4_fewestOff_203 rfl (by decide) (by decide) ?_
                    refine a_goto (tg := 125) dX4_fewestOff_206 (by decide) ?_
                    rw [nI_1]; exact a_loc _ rfl ihc2
                  · exact absurd ((sh1_t o31 k31).mp c_176) qb
      have C0 := C L 0 (Nat.zero_add _) y
      have e0 : (fun j => if j < 0 then (o + 1).testBit j else o.testBit j) = (fun k => o.testBit k) := by funext j; rw [if_neg (by omega)]
      rw [e0] at C0
      refine a_iload (i := 10) dX4_fewestOff_113 rfl ?_
      refine a_iconst (v := 1) dX4_fewestOff_115 (by decide) ?_
      refine a_iload (i := 6) dX4_fewestOff_116 rfl ?_
      refine a_ishl dX4_fewestOff_118 ?_
      rw [two_L L (by omega)]
      refine a_icmp_ge (tg := 243) dX4_fewestOff_119 (by decide) (fun c_119 => ?_) (fun c_119 => ?_)
      · exact absurd c_119 (nI_ge (show o + 1 < 2 ^ L by omega) (by omega))
      · refine a_iconst (v := 0) dX4_fewestOff_122 (by decide) ?_
        refine a_istore (i := 11) dX4_fewestOff_123 (by decide) ?_
        exact a_loc _ rfl (C0 hy)
  have E0 : ∀ y, gR T Z m H (fun k => (0 : Nat).testBit k) x y → aV l mX4_fewestOff (d + 2) D none 80 [(0, .ref bRk), (1, .ref t), (2, .ref bNow), (3, .int (nI m)), (4, .int n), (5, .int (nI H)), (6, .int (nI L)), (7, .int (zFB T Z m H (fun k => (0 : Nat).testBit k)))] [] y (fun v y => v = some (.int (lp (zEs T Z m H n) 0 (2 ^ L) (-2))) ∧ cF x y) := by
    intro y hy
    obtain ⟨p, hp⟩ : ∃ p, 2 ^ L = p + 1 := ⟨2 ^ L - 1, by have := Nat.two_pow_pos L; omega⟩
    rw [hp]
    show aV _ _ _ _ _ _ _ _ _ (fun v y => v = some (.int (lp (zEs T Z m H n) 1 p (zEs T Z m H n 0 (-2)))) ∧ cF x y)
    have B0 := fun b => B p 0 (by omega) b y hy
    by_cases q : zFB T Z m H (fun k => (0 : Nat).testBit k) ≤ n
    · rw [show zEs T Z m H n 0 (-2) = 0 from if_pos ⟨q, by decide⟩]
      have B1 := B0 0
      rw [show zFew 0 = 0 from by decide] at B1
      refine a_iload (i := 7) dX4_fewestOff_80 rfl ?_
      refine a_iload (i := 4) dX4_fewestOff_82 rfl ?_
      refine a_icmp_gt (tg := 91) dX4_fewestOff_84 (by decide) (fun c_84 => ?_) (fun c_84 => ?_)
      · exact absurd q (Int32.not_le.mpr c_84)
      · refine a_iconst (v := 0) dX4_fewestOff_87 (by decide) ?_
        refine a_goto (tg := 93) dX4_fewestOff_88 (by decide) ?_
        refine a_istore (i := 8) dX4_fewestOff_93 (by decide) ?_
        refine a_iload (i := 7) dX4_fewestOff_95 rfl ?_
        refine a_iload (i := 4) dX4_fewestOff_97 rfl ?_
        refine a_icmp_gt (tg := 106) dX4_fewestOff_99 (by decide) (fun c_99 => ?_) (fun c_99 => ?_)
        · exact absurd q (Int32.not_le.mpr c_99)
        · refine a_iconst (v := 0) dX4_fewestOff_102 (by decide) ?_
          refine a_goto (tg := 108) dX4_fewestOff_103 (by decide) ?_
          refine a_istore (i := 9) dX4_fewestOff_108 (by decide) ?_
          refine a_iconst (v := 1) dX4_fewestOff_110 (by decide) ?_
          refine a_istore (i := 10) dX4_fewestOff_111 (by decide) ?_
          exact a_loc _ rfl B1
    · rw [show zEs T Z m H n 0 (-2) = -2 from if_neg (fun g => q g.1)]
      have B1 := B0 (-2)
      rw [show zFew (-2) = 13 from by decide] at B1
      refine a_iload (i := 7) dX4_fewestOff_80 rfl ?_
      refine a_iload (i := 4) dX4_fewestOff_82 rfl ?_
      refine a_icmp_gt (tg := 91) dX4_fewestOff_84 (by decide) (fun c_84 => ?_) (fun c_84 => ?_)
      · refine a_bipush (v := (-2)) dX4_fewestOff_91 (by decide) ?_
        refine a_istore (i := 8) dX4_fewestOff_93 (by decide) ?_
        refine a_iload (i := 7) dX4_fewestOff_95 rfl ?_
        refine a_iload (i := 4) dX4_fewestOff_97 rfl ?_
        refine a_icmp_gt (tg := 106) dX4_fewestOff_99 (by decide) (fun c_99 => ?_) (fun c_99 => ?_)
        · refine a_bipush (v := 13) dX4_fewestOff_106 (by decide) ?_
          refine a_istore (i := 9) dX4_fewestOff_108 (by decide) ?_
          refine a_iconst (v := 1) dX4_fewestOff_110 (by decide) ?_
          refine a_istore (i := 10) dX4_fewestOff_111 (by decide) ?_
          exact a_loc _ rfl B1
        · exact absurd (Int32.not_lt.mp c_99) q
      · exact absurd (Int32.not_lt.mp c_84) q
  have A : ∀ (f i : Nat), i + f = 8 → ∀ y : aS, y.2 = x.2 → (∀ n, n ≠ bRk + 4 → y.1 n = x.1 n) → (∀ z, z < i → y.1 (bRk + 4) z = zGap T Z m H (fun k => (0 : Nat).testBit k) z) → aV l mX4_fewestOff (d + 2) D none 23 [(0, .ref bRk), (1, .ref t), (2, .ref bNow), (3, .int (nI m)), (4, .int n), (5, .int (nI H)), (6, .int (nI L)), (7, .int (sm (fun z => jabs (zGap T Z m H (fun k => (0 : Nat).testBit k) z)) i)), (8, .int (nI i))] [] y (fun v y => v = some (.int (lp (zEs T Z m H n) 0 (2 ^ L) (-2))) ∧ cF x y) := by
    intro f
    induction f with
    | zero =>
      intro i hi y h1 h2 h3
      rw [Nat.add_zero] at hi
      subst hi
      refine a_iload (i := 8) dX4_fewestOff_23 rfl ?_
      refine a_bipush (v := 8) dX4_fewestOff_25 (by decide) ?_
      refine a_icmp_ge (tg := 80) dX4_fewestOff_27 (by decide) (fun c_27 => ?_) (fun c_27 => ?_)
      · exact a_loc _ rfl (E0 y ⟨h3, h2, h1⟩)
      · exact absurd (Int32.le_refl _) c_27
    | succ f ih =>
      intro i hi y h1 h2 h3
      have eg : zLast Z H i - zFoot T m i (Z.1 3 m) = zGap T Z m H (fun k => (0 : Nat).testBit k) i := by
        unfold zGap
        rw [← zLB_0, show (fun k => (0 : Nat).testBit k) = (fun _ => false) from by funext k; exact Nat.zero_testBit k]
      have ih2 := ih (i + 1) (by omega) (aWr y (bRk + 4) i (zGap T Z m H (fun k => (0 : Nat).testBit k) i)) h1 (fun n hn => by rw [aWr_n _ _ _ hn, h2 n hn]) (fun z hz => by
        by_cases e : z = i
        · subst e; rw [aWr_s]
        · rw [aWr_j _ _ _ e, h3 z (by omega)])
      rw [sm_s] at ih2
      have hf := c_X8_footAt (l := l) (d := d + 1) (D := D) (z := i) (u := Z.1 3 m) (x := y) hD ht (show m < 8 by omega)
      rw [tFoot_z (gT y h2) ok hm (by omega)] at hf
      have f2y : y.1 (bNow + 11) m = Z.1 3 m := by rw [h2 _ (nb 11 (by decide))]; exact f2
      refine a_iload (i := 8) dX4_fewestOff_23 rfl ?_
      refine a_bipush (v := 8) dX4_fewestOff_25 (by decide) ?_
      refine a_icmp_ge (tg := 80) dX4_fewestOff_27 (by decide) (fun c_27 => ?_) (fun c_27 => ?_)
      · exact absurd c_27 (nI_ge (show i < 8 by omega) (by decide))
      · refine a_aload_n (i := 0) dX4_fewestOff_30 rfl rfl ?_
        refine gX4_18 rfl dX4_fewestOff_31 (isRk_0 hD) ?_
        refine a_iload (i := 8) dX4_fewestOff_34 rfl ?_
        refine a_aload_n (i := 2) dX4_fewestOff_36 rfl rfl ?_
        refine a_iload (i := 5) dX4_fewestOff_37 rfl ?_
        refine a_iload (i := 8) dX4_fewestOff_39 rfl ?_
        refine kX4_42 rfl dX4_fewestOff_41 (Nat.le_of_ble_eq_true rfl) (isS_0 hD hbNow) (cz_lastAt hD hbNow ok (gS y h2) hh (by omega)) ?_
        refine a_aload_n (i := 1) dX4_fewestOff_44 rfl rfl ?_
        refine a_iload_n (i := 3) dX4_fewestOff_45 rfl rfl ?_
        refine a_iload (i := 8) dX4_fewestOff_46 rfl ?_
        refine a_aload_n (i := 2) dX4_fewestOff_48 rfl rfl ?_
        refine gX4_46 rfl dX4_fewestOff_49 (isS_0 hD hbNow) ?_
        refine a_iload_n (i := 3) dX4_fewestOff_52 rfl rfl ?_
        refine a_ialdN dX4_fewestOff_53 (isS_11 hD hbNow) (by first | with_reducible exact rfl | with_reducible exact ix8 _ _ | with_reducible exact ix12 _ _ | exact rfl) (by omega) (by decide) ?_
        rw [f2y]
        refine kX4_49 rfl dX4_fewestOff_54 (Nat.le_of_ble_eq_true rfl) (isT_0 hD ht) (hf) ?_
        refine a_isub dX4_fewestOff_57 ?_
        rw [eg]
        refine a_iastN dX4_fewestOff_58 (isRk_4 hD) (by first | with_reducible exact rfl | with_reducible exact ix8 _ _ | with_reducible exact ix12 _ _ | exact rfl) (by omega) (by decide) ?_
        refine a_iload (i := 7) dX4_fewestOff_59 rfl ?_
        refine a_aload_n (i := 0) dX4_fewestOff_61 rfl rfl ?_
        refine gX4_18 rfl dX4_fewestOff_62 (isRk_0 hD) ?_
        refine a_iload (i := 8) dX4_fewestOff_65 rfl ?_
        refine a_ialdN dX4_fewestOff_67 (isRk_4 hD) (by first | with_reducible exact rfl | with_reducible exact ix8 _ _ | with_reducible exact ix12 _ _ | exact rfl) (by omega) (by decide) ?_
        rw [aWr_s]
        refine kX4_55 rfl dX4_fewestOff_68 (Nat.le_of_ble_eq_true rfl) ?_
        refine a_iadd dX4_fewestOff_71 ?_
        refine a_istore (i := 7) dX4_fewestOff_72 (by decide) ?_
        refine a_iincK (i := 8) (u := 1) dX4_fewestOff_74 rfl (by decide) (by decide) ?_
        refine a_goto (tg := 23) dX4_fewestOff_77 (by decide) ?_
        rw [nI_1]; exact a_loc _ rfl ih2
  refine a_aload_n (i := 2) dX4_fewestOff_0 rfl rfl ?_
  refine gX4_34 rfl dX4_fewestOff_1 (isS_0 hD hbNow) ?_
  refine a_iload_n (i := 3) dX4_fewestOff_4 rfl rfl ?_
  refine a_ialdN dX4_fewestOff_5 (isS_10 hD hbNow) (by first | with_reducible exact rfl | with_reducible exact ix8 _ _ | with_reducible exact ix12 _ _ | exact rfl) (by omega) (by decide) ?_
  rw [f1]
  refine a_istore (i := 5) dX4_fewestOff_6 (by decide) ?_
  refine a_aload_n (i := 2) dX4_fewestOff_8 rfl rfl ?_
  refine gX4_39 rfl dX4_fewestOff_9 (isS_0 hD hbNow) ?_
  refine a_iload (i := 5) dX4_fewestOff_12 rfl ?_
  refine a_ialdN dX4_fewestOff_14 (isS_7 hD hbNow) (by first | with_reducible exact rfl | with_reducible exact ix8 _ _ | with_reducible exact ix12 _ _ | exact rfl) (by omega) (by decide) ?_
  rw [f3]
  refine a_istore (i := 6) dX4_fewestOff_15 (by decide) ?_
  refine a_iconst (v := 0) dX4_fewestOff_17 (by decide) ?_
  refine a_istore (i := 7) dX4_fewestOff_18 (by decide) ?_
  refine a_iconst (v := 0) dX4_fewestOff_20 (by decide) ?_
  refine a_istore (i := 8) dX4_fewestOff_21 (by decide) ?_
  exact a_loc _ rfl (A 8 0 rfl x rfl (fun _ _ => rfl) (fun z hz => absurd hz (by omega)))
set_option maxHeartbeats 4000000 in
set_option maxRecDepth 100000 in
theorem c_X11_ease {a n : Int32} (hD : aDC D) (h : cR T W Z x t) : aCt l mX11_ease (d + 3) D [.ref bLH, .int a, .int n] x (fun v y => v = some (.int (qEase T Z a n)) ∧ cF x y) := by
  obtain ⟨ht, hp, ok, hZ, hT, hW, hS⟩ := h
  have h8 := ok.2.1
  refine a_met (by decide) (Nat.le_of_ble_eq_true rfl) (fun v y q => Or.inl ⟨rfl, _, q.1⟩) ?_
  unfold qEase
  by_cases q : zIn (T.1 1) a ∧ (0 ≤ n ∧ n ≤ 9999)
  · rw [if_pos q]
    obtain ⟨q1, q2⟩ := q
    obtain ⟨A, hA, rfl⟩ := zIn_of (by omega) q1
    rw [nI_clamp (by omega)]
    refine a_aload_n (i := 0) dX11_ease_0 rfl rfl ?_
    refine a_iload_n (i := 1) dX11_ease_1 rfl rfl ?_
    refine kX11_125 rfl dX11_ease_2 (Nat.le_of_ble_eq_true rfl) (isLH_0 hD) (c_X11_isMan hD ht hp hT) ?_
    refine a_if_eq (tg := 19) dX11_ease_5 (by decide) (fun c_5 => ?_) (fun c_5 => ?_)
    · exact absurd c_5 (bI_p.mpr q1)
    · refine a_iload_n (i := 2) dX11_ease_8 rfl rfl ?_
      refine a_if_lt (tg := 19) dX11_ease_9 (by decide) (fun c_9 => ?_) (fun c_9 => ?_)
      · exact absurd q2.1 (Int32.not_le.mpr c_9)
      · refine a_iload_n (i := 2) dX11_ease_12 rfl rfl ?_
        refine a_sipush (v := 9999) dX11_ease_13 (by decide) ?_
        refine a_icmp_le (tg := 21) dX11_ease_16 (by decide) (fun c_16 => ?_) (fun c_16 => ?_)
        · refine a_aload_n (i := 0) dX11_ease_21 rfl rfl ?_
          refine gX11_64 rfl dX11_ease_22 (isLH_0 hD) ?_
          refine a_aload_n (i := 0) dX11_ease_25 rfl rfl ?_
          refine gX11_23 rfl dX11_ease_26 (isLH_0 hD) ?_
          rw [hp]
          refine a_aload_n (i := 0) dX11_ease_29 rfl rfl ?_
          refine gX11_30 rfl dX11_ease_30 (isLH_0 hD) ?_
          refine a_iload_n (i := 1) dX11_ease_33 rfl rfl ?_
          refine a_iload_n (i := 2) dX11_ease_34 rfl rfl ?_
          refine kgX11_309 rfl dX11_ease_35 (Nat.le_of_ble_eq_true rfl) (isRk_0 hD) (c_X4_fewestOff hD ht ok hZ hT hS hA) ?_
          rintro v y ⟨rfl, hF⟩
          exact a_iret dX11_ease_38 (by exact ⟨rfl, hF⟩)
        · exact absurd q2.2 c_16
  · rw [if_neg q]
    refine a_aload_n (i := 0) dX11_ease_0 rfl rfl ?_
    refine a_iload_n (i := 1) dX11_ease_1 rfl rfl ?_
    refine kX11_125 rfl dX11_ease_2 (Nat.le_of_ble_eq_true rfl) (isLH_0 hD) (c_X11_isMan hD ht hp hT) ?_
    refine a_if_eq (tg := 19) dX11_ease_5 (by decide) (fun c_5 => ?_) (fun c_5 => ?_)
    · refine a_iconst (v := (-1)) dX11_ease_19 (by decide) ?_
      exact a_iret dX11_ease_20 (by exact ⟨rfl, cF_r⟩)
    · refine a_iload_n (i := 2) dX11_ease_8 rfl rfl ?_
      refine a_if_lt (tg := 19) dX11_ease_9 (by decide) (fun c_9 => ?_) (fun c_9 => ?_)
      · refine a_iconst (v := (-1)) dX11_ease_19 (by decide) ?_
        exact a_iret dX11_ease_20 (by exact ⟨rfl, cF_r⟩)
      · refine a_iload_n (i := 2) dX11_ease_12 rfl rfl ?_
        refine a_sipush (v := 9999) dX11_ease_13 (by decide) ?_
        refine a_icmp_le (tg := 21) dX11_ease_16 (by decide) (fun c_16 => ?_) (fun c_16 => ?_)
        · exact absurd ⟨bI_p.mp c_5, Int32.not_lt.mp c_9, c_16⟩ q
        · refine a_iconst (v := (-1)) dX11_ease_19 (by decide) ?_
          exact a_iret dX11_ease_20 (by exact ⟨rfl, cF_r⟩)
end qR
