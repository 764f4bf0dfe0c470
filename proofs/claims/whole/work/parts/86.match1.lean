/-! match: the class -/
def mOk (T : zT) (Z : zS) (ff : Nat → Nat → Nat) : Prop := ∀ h, h < T.1 0 → ∀ m, m < T.1 1 → zFar T Z m h = nI (ff h m) ∧ ff h m ≤ 160000000
theorem ix256 (h z : Nat) : nI h * 256 + nI z = nI (h * 256 + z) := by rw [show (256 : Int32) = nI 256 from rfl, pk_mul, nI_add]
theorem g_or : ∀ g, g < 256 → ∀ m, m < 8 → nI g ||| ((1 : Int32) <<< (nI m &&& 31)) = nI (g ||| 2 ^ m) := by decide +kernel
theorem jbc_pc : ∀ g, g < 256 → jbc (nI g) = nI (pc g) := by decide +kernel
theorem sh1_b {n k : Nat} (hn : n < 2 ^ 31) (hk : k < 31) : nI n >>> (nI k &&& 31) &&& 1 = bI (n.testBit k) := by
  rw [sh1 hn hk, tb_d]
  have : n / 2 ^ k % 2 = 0 ∨ n / 2 ^ k % 2 = 1 := by omega
  rcases this with e | e <;> rw [e] <;> rfl
section qW
variable {l : Launch} {d : Nat} {D : Nat → Bool} {T : zT} {W : Nat → zL} {Z : zS} {t : Nat} {x : aS} {ff : Nat → Nat → Nat} {H F M : Nat}
set_option maxHeartbeats 4000000 in
set_option maxRecDepth 100000 in
theorem c_J7_fill {n len : Nat} {v : Int32} (hn : aIs D n 14 len) (hl : len < 2147483648) : aCt l mJ7_fill_53178 d D [.ref n, .int v] x (fun r y => r = none ∧ (∀ j, j < len → y.1 n j = v) ∧ (∀ a, a ≠ n → y.1 a = x.1 a) ∧ y.2 = x.2) := by
  refine a_met (by decide) (Nat.le_of_ble_eq_true rfl) (fun v y q => Or.inr (Or.inr (Or.inr ⟨rfl, q.1⟩))) ?_
  have L : ∀ (f i : Nat), i + f = len → ∀ y : aS, (∀ j, j < i → y.1 n j = v) → (∀ a, a ≠ n → y.1 a = x.1 a) → y.2 = x.2 → aV l mJ7_fill_53178 d D none 5 [(0, .ref n), (1, .int v), (2, .int (nI i)), (3, .int (nI len))] [] y (fun r y => r = none ∧ (∀ j, j < len → y.1 n j = v) ∧ (∀ a, a ≠ n → y.1 a = x.1 a) ∧ y.2 = x.2) := by
    intro f
    induction f with
    | zero =>
      intro i hi y h1 h2 h3
      rw [Nat.add_zero] at hi
      subst hi
      refine a_iload_n (i := 2) dJ7_fill_53178_5 rfl rfl ?_
      refine a_iload_n (i := 3) dJ7_fill_53178_6 rfl rfl ?_
      refine a_icmp_ge (tg := 20) dJ7_fill_53178_7 (by decide) (fun c_7 => ?_) (fun c_7 => ?_)
      · exact a_vret dJ7_fill_53178_20 (by exact ⟨rfl, h1, h2, h3⟩)
      · exact absurd (Int32.le_refl _) c_7
    | succ f ih =>
      intro i hi y h1 h2 h3
      have ih2 := ih (i + 1) (by omega) (aWr y n i v) (fun j hj => by
        by_cases e : j = i
        · subst e; rw [aWr_s]
        · rw [aWr_j _ _ _ e, h1 j (by omega)]) (fun a ha => by rw [aWr_n _ _ _ ha, h2 a ha]) h3
      refine a_iload_n (i := 2) dJ7_fill_53178_5 rfl rfl ?_
      refine a_iload_n (i := 3) dJ7_fill_53178_6 rfl rfl ?_
      refine a_icmp_ge (tg := 20) dJ7_fill_53178_7 (by decide) (fun c_7 => ?_) (fun c_7 => ?_)
      · exact absurd c_7 (nI_ge (show i < len by omega) (by omega))
      · refine a_aload_n (i := 0) dJ7_fill_53178_10 rfl rfl ?_
        refine a_iload_n (i := 2) dJ7_fill_53178_11 rfl rfl ?_
        refine a_iload_n (i := 1) dJ7_fill_53178_12 rfl rfl ?_
        refine a_iastN dJ7_fill_53178_13 hn (by first | with_reducible exact rfl | with_reducible exact ix8 _ _ | with_reducible exact ix12 _ _ | exact rfl) (by omega) (by exact hl) ?_
        refine a_iincK (i := 2) (u := 1) dJ7_fill_53178_14 rfl (by decide) (by decide) ?_
        refine a_goto (tg := 5) dJ7_fill_53178_17 (by decide) ?_
        rw [nI_1]; exact a_loc _ rfl ih2
  refine a_iconst (v := 0) dJ7_fill_53178_0 (by decide) ?_
  refine a_istore_n (i := 2) dJ7_fill_53178_1 rfl (by decide) ?_
  refine a_aload_n (i := 0) dJ7_fill_53178_2 rfl rfl ?_
  refine a_alen dJ7_fill_53178_3 hn (by decide) ?_
  refine a_istore_n (i := 3) dJ7_fill_53178_4 rfl (by decide) ?_
  exact a_loc _ rfl (L len 0 (Nat.zero_add _) x (fun j hj => absurd hj (by omega)) (fun _ _ => rfl) rfl)
/-- the class's rows: how far each is, the least from house k on -/
def pR (T : zT) (ff : Nat → Nat → Nat) (y : aS) : Prop := ∀ h, h < T.1 0 → ∀ m, m < T.1 1 → y.1 (bRk + 5) (h * 8 + m) = nI (ff h m)
def lR (T : zT) (ff : Nat → Nat → Nat) (k : Nat) (y : aS) : Prop := ∀ j, k ≤ j → j ≤ T.1 0 → ∀ g, g < 2 ^ T.1 1 → y.1 (bRk + 6) (j * 256 + g) = nI (cLe ff (T.1 0) (T.1 1) (min (T.1 0) (T.1 1)) (T.1 0 - j) g)
set_option maxHeartbeats 4000000 in
set_option maxRecDepth 100000 in
theorem c_X4_farWith {h g m : Nat} (hD : aDC D) (ok : zTok T) (hp : pR T ff x) (hl : lR T ff (h + 1) x) (hh : h < T.1 0) (hg : g < 2 ^ T.1 1) (hm : m < T.1 1) : aDI l mX4_farWith d D [.ref bRk, .int (nI h), .int (nI g), .int (nI m)] x (nI (ff h m + cLe ff (T.1 0) (T.1 1) (min (T.1 0) (T.1 1)) (T.1 0 - (h + 1)) (g ||| 2 ^ m))) x := by
  have h6 := ok.1
  have h8 := ok.2.1
  have h2 := two_le h8
  have gl := or_lt (T.1 1) (by omega) g hg m hm
  refine a_metI (by decide) (Nat.le_of_ble_eq_true rfl) rfl ?_
  refine a_aload_n (i := 0) dX4_farWith_0 rfl rfl ?_
  refine gX4_21 rfl dX4_farWith_1 (isRk_0 hD) ?_
  refine a_iload_n (i := 1) dX4_farWith_4 rfl rfl ?_
  refine a_bipush (v := 8) dX4_farWith_5 (by decide) ?_
  refine a_imul dX4_farWith_7 ?_
  refine a_iload_n (i := 3) dX4_farWith_8 rfl rfl ?_
  refine a_iadd dX4_farWith_9 ?_
  refine a_ialdN dX4_farWith_10 (isRk_5 hD) (by first | with_reducible exact rfl | with_reducible exact ix8 _ _ | with_reducible exact ix12 _ _ | exact rfl) (by omega) (by decide) ?_
  rw [hp h hh m hm]
  refine a_aload_n (i := 0) dX4_farWith_11 rfl rfl ?_
  refine gX4_24 rfl dX4_farWith_12 (isRk_0 hD) ?_
  refine a_iload_n (i := 1) dX4_farWith_15 rfl rfl ?_
  refine a_iconst (v := 1) dX4_farWith_16 (by decide) ?_
  refine a_iadd dX4_farWith_17 ?_
  rw [nI_1]
  refine a_sipush (v := 256) dX4_farWith_18 (by decide) ?_
  refine a_imul dX4_farWith_21 ?_
  refine a_iload_n (i := 2) dX4_farWith_22 rfl rfl ?_
  refine a_iconst (v := 1) dX4_farWith_23 (by decide) ?_
  refine a_iload_n (i := 3) dX4_farWith_24 rfl rfl ?_
  refine a_ishl dX4_farWith_25 ?_
  refine a_ior dX4_farWith_26 ?_
  rw [g_or g (by omega) m (by omega)]
  refine a_iadd dX4_farWith_27 ?_
  refine a_ialdN dX4_farWith_28 (isRk_6 hD) (by first | exact ix256 _ _ | with_reducible exact rfl | with_reducible exact ix8 _ _ | with_reducible exact ix12 _ _ | exact rfl) (by omega) (by decide) ?_
  rw [hl (h + 1) (Nat.le_refl _) (by omega) _ gl]
  refine a_iadd dX4_farWith_29 ?_
  rw [nI_add]
  exact a_iret dX4_farWith_30 (by exact ⟨rfl, rfl⟩)
set_option maxHeartbeats 4000000 in
set_option maxRecDepth 100000 in
theorem c_X4_leastFrom {h g : Nat} (hD : aDC D) (ht : aTdB t) (ok : zTok T) (hT : rT T x t) (hf : ∀ h, h < T.1 0 → ∀ m, m < T.1 1 → ff h m ≤ 160000000) (hp : pR T ff x) (hl : lR T ff (h + 1) x) (hh : h < T.1 0) (hg : g < 2 ^ T.1 1) : aDI l mX4_leastFrom (d + 1) D [.ref bRk, .ref t, .int (nI h), .int (nI g)] x (nI (cLe ff (T.1 0) (T.1 1) (min (T.1 0) (T.1 1)) (T.1 0 - h) g)) x := by
  have h6 := ok.1
  have h8 := ok.2.1
  have h2 := two_le h8
  have e1 : x.1 t 4 = nI (T.1 1) := hT.2.1
  obtain ⟨e, he⟩ : ∃ e, T.1 0 - h = e + 1 := ⟨T.1 0 - h - 1, by omega⟩
  have he2 : T.1 0 - (h + 1) = e := by omega
  have heh : T.1 0 - (e + 1) = h := by omega
  have hl0 := hl (h + 1) (Nat.le_refl _) (by omega) g hg
  rw [he2] at hl0
  refine a_metI (by decide) (Nat.le_of_ble_eq_true rfl) rfl ?_
  rw [he]
  have tF : (1000000000 : Int32) = nI tFar := rfl
  have L : ∀ (f m : Nat), m + f = T.1 1 → ∀ A, A ≤ tFar → aV l mX4_leastFrom (d + 1) D none 19 [(0, .ref bRk), (1, .ref t), (2, .int (nI h)), (3, .int (nI g)), (4, .int (nI A)), (5, .int (nI m))] [] x (fun v y => v = some (.int (nI (min (lp (fun m a => if g.testBit m = true then a else min a (ff (T.1 0 - (e + 1)) m + cLe ff (T.1 0) (T.1 1) (min (T.1 0) (T.1 1)) e (g ||| 2 ^ m))) m f A) tFar))) ∧ y = x) := by
    intro f
    induction f with
    | zero =>
      intro m hm A hA
      rw [Nat.add_zero] at hm
      subst hm
      have em : jmin (nI A) (nI tFar) = nI (min A tFar) := jmin_n (by unfold tFar at hA; omega) (by decide)
      unfold jmin at em
      refine a_iload (i := 5) dX4_leastFrom_19 rfl ?_
      refine a_aload_n (i := 1) dX4_leastFrom_21 rfl rfl ?_
      refine gX4_79 rfl dX4_leastFrom_22 (isT_0 hD ht) ?_
      rw [e1]
      refine a_icmp_ge (tg := 58) dX4_leastFrom_25 (by decide) (fun c_25 => ?_) (fun c_25 => ?_)
      · refine a_iload (i := 4) dX4_leastFrom_58 rfl ?_
        refine a_ldc (v := 1000000000) dX4_leastFrom_60 (oX4_89 rfl) ?_
        refine kX4_86 rfl dX4_leastFrom_62 (Nat.le_of_ble_eq_true rfl) ?_
        rw [tF, em]
        exact a_iret dX4_leastFrom_65 (by exact ⟨rfl, rfl⟩)
      · exact absurd (Int32.le_refl _) c_25
    | succ f ih =>
      intro m hm A hA
      have ih2 := ih (m + 1) (by omega)
      show aV _ _ _ _ _ _ _ _ _ (fun v y => v = some (.int (nI (min (lp (fun m a => if g.testBit m = true then a else min a (ff (T.1 0 - (e + 1)) m + cLe ff (T.1 0) (T.1 1) (min (T.1 0) (T.1 1)) e (g ||| 2 ^ m))) (m + 1) f (if g.testBit m = true then A else min A (ff (T.1 0 - (e + 1)) m + cLe ff (T.1 0) (T.1 1) (min (T.1 0) (T.1 1)) e (g ||| 2 ^ m)))) tFar))) ∧ y = x)
      rcases tb_cases g m with hb | hb
      · rw [if_pos hb]
        have ih3 := ih2 A hA
        refine a_iload (i := 5) dX4_leastFrom_19 rfl ?_
        refine a_aload_n (i := 1) dX4_leastFrom_21 rfl rfl ?_
        refine gX4_79 rfl dX4_leastFrom_22 (isT_0 hD ht) ?_
        rw [e1]
        refine a_icmp_ge (tg := 58) dX4_leastFrom_25 (by decide) (fun c_25 => ?_) (fun c_25 => ?_)
        · exact absurd c_25 (nI_ge (show m < T.1 1 by omega) (by omega))
        · refine a_iload_n (i := 3) dX4_leastFrom_28 rfl rfl ?_
          refine a_iload (i := 5) dX4_leastFrom_29 rfl ?_
          refine a_ishr dX4_leastFrom_31 ?_
          refine a_iconst (v := 1) dX4_leastFrom_32 (by decide) ?_
          refine a_iand dX4_leastFrom_33 ?_
          rw [sh1_b (by omega) (by omega), hb]
          refine a_if_ne (tg := 52) dX4_leastFrom_34 (by decide) (fun c_34 => ?_) (fun c_34 => ?_)
          · refine a_iincK (i := 5) (u := 1) dX4_leastFrom_52 rfl (by decide) (by decide) ?_
            refine a_goto (tg := 19) dX4_leastFrom_55 (by decide) ?_
            rw [nI_1]; exact a_loc _ rfl ih3
          · exact absurd c_34 (by decide)
      · rw [if_neg (by rw [hb]; decide)]
        have hw := c_X4_farWith (l := l) (d := d) hD ok hp hl hh hg (show m < T.1 1 by omega)
        rw [he2] at hw
        have f1 := hf h hh m (by omega)
        have b1 := cLe_b (ff := ff) (H := T.1 0) (F := T.1 1) (M := min (T.1 0) (T.1 1)) e (g ||| 2 ^ m)
        rw [heh]
        rw [heh] at ih2
        generalize hv : cLe ff (T.1 0) (T.1 1) (min (T.1 0) (T.1 1)) e (g ||| 2 ^ m) = v at *
        have em : jmin (nI A) (nI (ff h m + v)) = nI (min A (ff h m + v)) := jmin_n (by unfold tFar at hA; omega) (by unfold tFar at b1; omega)
        unfold jmin at em
        have ih3 := ih2 (min A (ff h m + v)) (by omega)
        refine a_iload (i := 5) dX4_leastFrom_19 rfl ?_
        refine a_aload_n (i := 1) dX4_leastFrom_21 rfl rfl ?_
        refine gX4_79 rfl dX4_leastFrom_22 (isT_0 hD ht) ?_
        rw [e1]
        refine a_icmp_ge (tg := 58) dX4_leastFrom_25 (by decide) (fun c_25 => ?_) (fun c_25 => ?_)
        · exact absurd c_25 (nI_ge (show m < T.1 1 by omega) (by omega))
        · refine a_iload_n (i := 3) dX4_leastFrom_28 rfl rfl ?_
          refine a_iload (i := 5) dX4_leastFrom_29 rfl ?_
          refine a_ishr dX4_leastFrom_31 ?_
          refine a_iconst (v := 1) dX4_leastFrom_32 (by decide) ?_
          refine a_iand dX4_leastFrom_33 ?_
          rw [sh1_b (by omega) (by omega), hb]
          refine a_if_ne (tg := 52) dX4_leastFrom_34 (by decide) (fun c_34 => ?_) (fun c_34 => ?_)
          · exact absurd rfl c_34
          · refine a_iload (i := 4) dX4_leastFrom_37 rfl ?_
            refine a_aload_n (i := 0) dX4_leastFrom_39 rfl rfl ?_
            refine a_iload_n (i := 2) dX4_leastFrom_40 rfl rfl ?_
            refine a_iload_n (i := 3) dX4_leastFrom_41 rfl rfl ?_
            refine a_iload (i := 5) dX4_leastFrom_42 rfl ?_
            refine kX4_100 rfl dX4_leastFrom_44 (Nat.le_of_ble_eq_true rfl) (isRk_0 hD) (hw) ?_
            refine kX4_86 rfl dX4_leastFrom_47 (Nat.le_of_ble_eq_true rfl) ?_
            rw [em]
            refine a_istore (i := 4) dX4_leastFrom_50 (by decide) ?_
            refine a_iincK (i := 5) (u := 1) dX4_leastFrom_52 rfl (by decide) (by decide) ?_
            refine a_goto (tg := 19) dX4_leastFrom_55 (by decide) ?_
            rw [nI_1]; exact a_loc _ rfl ih3
  have b0 := cLe_b (ff := ff) (H := T.1 0) (F := T.1 1) (M := min (T.1 0) (T.1 1)) e g
  refine a_aload_n (i := 0) dX4_leastFrom_0 rfl rfl ?_
  refine gX4_24 rfl dX4_leastFrom_1 (isRk_0 hD) ?_
  refine a_iload_n (i := 2) dX4_leastFrom_4 rfl rfl ?_
  refine a_iconst (v := 1) dX4_leastFrom_5 (by decide) ?_
  refine a_iadd dX4_leastFrom_6 ?_
  rw [nI_1]
  refine a_sipush (v := 256) dX4_leastFrom_7 (by decide) ?_
  refine a_imul dX4_leastFrom_10 ?_
  refine a_iload_n (i := 3) dX4_leastFrom_11 rfl rfl ?_
  refine a_iadd dX4_leastFrom_12 ?_
  refine a_ialdN dX4_leastFrom_13 (isRk_6 hD) (by first | exact ix256 _ _ | with_reducible exact rfl | with_reducible exact ix8 _ _ | with_reducible exact ix12 _ _ | exact rfl) (by omega) (by decide) ?_
  rw [hl0]
  refine a_istore (i := 4) dX4_leastFrom_14 (by decide) ?_
  refine a_iconst (v := 0) dX4_leastFrom_16 (by decide) ?_
  refine a_istore (i := 5) dX4_leastFrom_17 (by decide) ?_
  exact a_loc _ rfl (L (T.1 1) 0 (Nat.zero_add _) _ b0)
/-- who for a house -/
def prd (ff : Nat → Nat → Nat) (H F M h : Nat) : Int32 := if h < H then (match cWc ff H F M (H - (h + 1)) (gP ff H F M h) 0 F with
  | some m => nI m
  | none => -2) else -2
set_option maxHeartbeats 4000000 in
set_option maxRecDepth 100000 in
theorem c_X4_choosePairs (hD : aDC D) (ht : aTdB t) (ok : zTok T) (hT : rT T x t) (hf : ∀ h, h < T.1 0 → ∀ m, m < T.1 1 → ff h m ≤ 160000000) (hp : pR T ff x) (hl : lR T ff 0 x) : aCt l mX4_choosePairs (d + 1) D [.ref bRk, .ref t] x (fun v y => v = none ∧ (∀ h, h < 6 → y.1 (bRk + 1) h = prd ff (T.1 0) (T.1 1) (min (T.1 0) (T.1 1)) h) ∧ (∀ n, n ≠ bRk + 1 → y.1 n = x.1 n) ∧ y.2 = x.2) := by
  have h6 := ok.1
  have h8 := ok.2.1
  have h2 := two_le h8
  have gok := gP_ok (ff := ff) h8 rfl h6 hf
  have gT : ∀ y : aS, (∀ n, n ≠ bRk + 1 → y.1 n = x.1 n) → rT T y t := fun y hy => rT_same (fun k hk => hy _ (by rcases ht with rfl | rfl <;> unfold bRk <;> omega)) ok hT
  generalize hMM : min (T.1 0) (T.1 1) = M at *
  refine a_met (by decide) (Nat.le_of_ble_eq_true rfl) (fun v y q => Or.inr (Or.inr (Or.inr ⟨rfl, q.1⟩))) ?_
  have L : ∀ (f h : Nat), h + f = T.1 0 → ∀ y : aS, (∀ j, j < 6 → y.1 (bRk + 1) j = if j < h then prd ff (T.1 0) (T.1 1) M j else -2) → (∀ n, n ≠ bRk + 1 → y.1 n = x.1 n) → y.2 = x.2 → aV l mX4_choosePairs (d + 1) D none 13 [(0, .ref bRk), (1, .ref t), (2, .int (nI (gP ff (T.1 0) (T.1 1) M h))), (3, .int (nI h))] [] y (fun v y => v = none ∧ (∀ h, h < 6 → y.1 (bRk + 1) h = prd ff (T.1 0) (T.1 1) M h) ∧ (∀ n, n ≠ bRk + 1 → y.1 n = x.1 n) ∧ y.2 = x.2) := by
    intro f
    induction f with
    | zero =>
      intro h hh y h1 h3 h4
      rw [Nat.add_zero] at hh
      have e0 : y.1 t 1 = nI (T.1 0) := (gT y h3).1
      subst hh
      refine a_iload_n (i := 3) dX4_choosePairs_13 rfl rfl ?_
      refine a_aload_n (i := 1) dX4_choosePairs_14 rfl rfl ?_
      refine gX4_75 rfl dX4_choosePairs_15 (isT_0 hD ht) ?_
      rw [e0]
      refine a_icmp_ge (tg := 107) dX4_choosePairs_18 (by decide) (fun c_18 => ?_) (fun c_18 => ?_)
      · exact a_vret dX4_choosePairs_107 (by exact ⟨rfl, fun j hj => by rw [h1 j hj]; by_cases q : j < T.1 0; rw [if_pos q]; rw [if_neg q, prd, if_neg q], h3, h4⟩)
      · exact absurd (Int32.le_refl _) c_18
    | succ f ih =>
      intro h hh y h1 h3 h4
      have e0 : y.1 t 1 = nI (T.1 0) := (gT y h3).1
      have e1 : y.1 t 4 = nI (T.1 1) := (gT y h3).2.1
      obtain ⟨a, b, c⟩ := gok h (by omega)
      have hp' : pR T ff y := fun i hi m hm => by rw [h3 _ (by decide)]; exact hp i hi m hm
      have hl' : lR T ff 0 y := fun j hj hj2 g hg => by rw [h3 _ (by decide)]; exact hl j hj hj2 g hg
      obtain ⟨e, he⟩ : ∃ e, T.1 0 - h = e + 1 := ⟨T.1 0 - h - 1, by omega⟩
      have he2 : T.1 0 - (h + 1) = e := by omega
      have heh : T.1 0 - (e + 1) = h := by omega
      have hlg := hl' h (by omega) (by omega) _ a
      rw [he, hMM] at hlg
      have gs : gP ff (T.1 0) (T.1 1) M (h + 1) = match cWc ff (T.1 0) (T.1 1) M e (gP ff (T.1 0) (T.1 1) M h) 0 (T.1 1) with | some m => gP ff (T.1 0) (T.1 1) M h ||| 2 ^ m | none => gP ff (T.1 0) (T.1 1) M h := by rw [gP, he2]; rfl
      have pd : prd ff (T.1 0) (T.1 1) M h = match cWc ff (T.1 0) (T.1 1) M e (gP ff (T.1 0) (T.1 1) M h) 0 (T.1 1) with | some m => nI m | none => -2 := by rw [prd, if_pos (by omega), he2]
      generalize hG : gP ff (T.1 0) (T.1 1) M h = G at *
      have I : ∀ (p m : Nat), m + p = T.1 1 → cWc ff (T.1 0) (T.1 1) M e G 0 (T.1 1) = cWc ff (T.1 0) (T.1 1) M e G m p → aV l mX4_choosePairs (d + 1) D none 24 [(0, .ref bRk), (1, .ref t), (2, .int (nI G)), (3, .int (nI h)), (4, .int (nI m))] [] y (fun v y => v = none ∧ (∀ h, h < 6 → y.1 (bRk + 1) h = prd ff (T.1 0) (T.1 1) M h) ∧ (∀ n, n ≠ bRk + 1 → y.1 n = x.1 n) ∧ y.2 = x.2) := by
        intro p
        induction p with
        | zero =>
          intro m hm hc
          rw [Nat.add_zero] at hm
          have hc2 : cWc ff (T.1 0) (T.1 1) M e G 0 (T.1 1) = none := hc
          rw [hc2] at gs pd
          simp only at gs pd
          have ih2 := ih (h + 1) (by omega) y (fun j hj => by
            rw [h1 j hj]
            by_cases q : j = h
            · subst q; rw [if_neg (by omega), if_pos (by omega), pd]
            · by_cases q2 : j < h
              · rw [if_pos q2, if_pos (by omega)]
              · rw [if_neg q2, if_neg (by omega)]) h3 h4
          rw [gs] at ih2
          subst hm
          refine a_iload (i := 4) dX4_choosePairs_24 rfl ?_
          refine a_aload_n (i := 1) dX4_choosePairs_26 rfl rfl ?_
          refine gX4_79 rfl dX4_choosePairs_27 (isT_0 hD ht) ?_
          rw [e1]
          refine a_icmp_ge (tg := 101) dX4_choosePairs_30 (by decide) (fun c_30 => ?_) (fun c_30 => ?_)
          · refine a_iincK (i := 3) (u := 1) dX4_choosePairs_101 rfl (by decide) (by decide) ?_
            refine a_goto (tg := 13) dX4_choosePairs_104 (by decide) ?_
            rw [nI_1]; exact a_loc _ rfl ih2
          · exact absurd (Int32.le_refl _) c_30
        | succ p ihp =>
          intro m hm hc
          have mF : m < T.1 1 := by omega
          rw [cWc] at hc
          rcases tb_cases G m with hb | hb
          · have hc2 : cWc ff (T.1 0) (T.1 1) M e G 0 (T.1 1) = cWc ff (T.1 0) (T.1 1) M e G (m + 1) p := by rw [hc, if_neg (fun q => by rw [hb] at q; exact absurd q.1 (by decide))]
            refine a_iload (i := 4) dX4_choosePairs_24 rfl ?_
            refine a_aload_n (i := 1) dX4_choosePairs_26 rfl rfl ?_
            refine gX4_79 rfl dX4_choosePairs_27 (isT_0 hD ht) ?_
            rw [e1]
            refine a_icmp_ge (tg := 101) dX4_choosePairs_30 (by decide) (fun c_30 => ?_) (fun c_30 => ?_)
            · exact absurd c_30 (nI_ge mF (by omega))
            · refine a_iload_n (i := 2) dX4_choosePairs_33 rfl rfl ?_
              refine a_iload (i := 4) dX4_choosePairs_34 rfl ?_
              refine a_ishr dX4_choosePairs_36 ?_
              refine a_iconst (v := 1) dX4_choosePairs_37 (by decide) ?_
              refine a_iand dX4_choosePairs_38 ?_
              rw [sh1_b (by omega) (by omega), hb]
              refine a_if_ne (tg := 46) dX4_choosePairs_39 (by decide) (fun c_39 => ?_) (fun c_39 => ?_)
              · refine a_iconst (v := 0) dX4_choosePairs_46 (by decide) ?_
                refine a_istore (i := 5) dX4_choosePairs_47 (by decide) ?_
                refine a_iload (i := 5) dX4_choosePairs_49 rfl ?_
                refine a_if_eq (tg := 95) dX4_choosePairs_51 (by decide) (fun c_51 => ?_) (fun c_51 => ?_)
                · refine a_iincK (i := 4) (u := 1) dX4_choosePairs_95 rfl (by decide) (by decide) ?_
                  refine a_goto (tg := 24) dX4_choosePairs_98 (by decide) ?_
                  rw [nI_1]; exact a_loc _ rfl (ihp (m + 1) (by omega) hc2)
                · exact absurd rfl c_51
              · exact absurd c_39 (by decide)
          · have hw := c_X4_farWith (l := l) (d := d) hD ok hp' (fun j hj => hl' j (by omega)) (show h < T.1 0 by omega) a mF
            rw [he2, hMM] at hw
            have f1 := hf h (by omega) m mF
            have b1 := cLe_b (ff := ff) (H := T.1 0) (F := T.1 1) (M := M) e (G ||| 2 ^ m)
            have b2 := cLe_b (ff := ff) (H := T.1 0) (F := T.1 1) (M := M) (e + 1) G
            have tf : tFar = 1000000000 := rfl
            rw [heh] at hc
            have ieq := nI_eq (a := ff h m + cLe ff (T.1 0) (T.1 1) M e (G ||| 2 ^ m)) (b := cLe ff (T.1 0) (T.1 1) M (e + 1) G) (by omega) (by omega)
            by_cases q : ff h m + cLe ff (T.1 0) (T.1 1) M e (G ||| 2 ^ m) = cLe ff (T.1 0) (T.1 1) M (e + 1) G
            · have hc2 : cWc ff (T.1 0) (T.1 1) M e G 0 (T.1 1) = some m := by rw [hc, if_pos ⟨hb, q⟩]
              rw [hc2] at gs pd
              simp only at gs pd
              have ih2 := ih (h + 1) (by omega) (aWr y (bRk + 1) h (nI m)) (fun j hj => by
                by_cases q : j = h
                · subst q; rw [aWr_s, if_pos (by omega), pd]
                · rw [aWr_j _ _ _ q, h1 j hj]
                  by_cases q2 : j < h
                  · rw [if_pos q2, if_pos (by omega)]
                  · rw [if_neg q2, if_neg (by omega)]) (fun n hn => by rw [aWr_n _ _ _ hn, h3 n hn]) h4
              rw [gs] at ih2
              refine a_iload (i := 4) dX4_choosePairs_24 rfl ?_
              refine a_aload_n (i := 1) dX4_choosePairs_26 rfl rfl ?_
              refine gX4_79 rfl dX4_choosePairs_27 (isT_0 hD ht) ?_
              rw [e1]
              refine a_icmp_ge (tg := 101) dX4_choosePairs_30 (by decide) (fun c_30 => ?_) (fun c_30 => ?_)
              · exact absurd c_30 (nI_ge mF (by omega))
              · refine a_iload_n (i := 2) dX4_choosePairs_33 rfl rfl ?_
                refine a_iload (i := 4) dX4_choosePairs_34 rfl ?_
                refine a_ishr dX4_choosePairs_36 ?_
                refine a_iconst (v := 1) dX4_choosePairs_37 (by decide) ?_
                refine a_iand dX4_choosePairs_38 ?_
                rw [sh1_b (by omega) (by omega), hb]
                refine a_if_ne (tg := 46) dX4_choosePairs_39 (by decide) (fun c_39 => ?_) (fun c_39 => ?_)
                · exact absurd rfl c_39
                · refine a_iconst (v := 1) dX4_choosePairs_42 (by decide) ?_
                  refine a_goto (tg := 47) dX4_choosePairs_43 (by decide) ?_
                  refine a_istore (i := 5) dX4_choosePairs_47 (by decide) ?_
                  refine a_iload (i := 5) dX4_choosePairs_49 rfl ?_
                  refine a_if_eq (tg := 95) dX4_choosePairs_51 (by decide) (fun c_51 => ?_) (fun c_51 => ?_)
                  · exact absurd c_51 (by decide)
                  · refine a_aload_n (i := 0) dX4_choosePairs_54 rfl rfl ?_
                    refine a_iload_n (i := 3) dX4_choosePairs_55 rfl rfl ?_
                    refine a_iload_n (i := 2) dX4_choosePairs_56 rfl rfl ?_
                    refine a_iload (i := 4) dX4_choosePairs_57 rfl ?_
                    refine kX4_100 rfl dX4_choosePairs_59 (Nat.le_of_ble_eq_true rfl) (isRk_0 hD) (hw) ?_
                    refine a_aload_n (i := 0) dX4_choosePairs_62 rfl rfl ?_
                    refine gX4_24 rfl dX4_choosePairs_63 (isRk_0 hD) ?_
                    refine a_iload_n (i := 3) dX4_choosePairs_66 rfl rfl ?_
                    refine a_sipush (v := 256) dX4_choosePairs_67 (by decide) ?_
                    refine a_imul dX4_choosePairs_70 ?_
                    refine a_iload_n (i := 2) dX4_choosePairs_71 rfl rfl ?_
                    refine a_iadd dX4_choosePairs_72 ?_
                    refine a_ialdN dX4_choosePairs_73 (isRk_6 hD) (by first | exact ix256 _ _ | with_reducible exact rfl | with_reducible exact ix8 _ _ | with_reducible exact ix12 _ _ | exact rfl) (by omega) (by decide) ?_
                    rw [hlg]
                    refine a_icmp_ne (tg := 95) dX4_choosePairs_74 (by decide) (fun c_74 => ?_) (fun c_74 => ?_)
                    · exact absurd (ieq.mpr q) c_74
                    · refine a_aload_n (i := 0) dX4_choosePairs_77 rfl rfl ?_
                      refine gX4_9 rfl dX4_choosePairs_78 (isRk_0 hD) ?_
                      refine a_iload_n (i := 3) dX4_choosePairs_81 rfl rfl ?_
                      refine a_iload (i := 4) dX4_choosePairs_82 rfl ?_
                      refine a_iastN dX4_choosePairs_84 (isRk_1 hD) (by first | with_reducible exact rfl | with_reducible exact ix8 _ _ | with_reducible exact ix12 _ _ | exact rfl) (by omega) (by decide) ?_
                      refine a_iload_n (i := 2) dX4_choosePairs_85 rfl rfl ?_
                      refine a_iconst (v := 1) dX4_choosePairs_86 (by decide) ?_
                      refine a_iload (i := 4) dX4_choosePairs_87 rfl ?_
                      refine a_ishl dX4_choosePairs_89 ?_
                      refine a_ior dX4_choosePairs_90 ?_
                      rw [g_or G (by omega) m (by omega)]
                      refine a_istore_n (i := 2) dX4_choosePairs_91 rfl (by decide) ?_
                      refine a_goto (tg := 101) dX4_choosePairs_92 (by decide) ?_
                      refine a_iincK (i := 3) (u := 1) dX4_choosePairs_101 rfl (by decide) (by decide) ?_
                      refine a_goto (tg := 13) dX4_choosePairs_104 (by decide) ?_
                      rw [nI_1]; exact a_loc _ rfl ih2
            · have hc2 : cWc ff (T.1 0) (T.1 1) M e G 0 (T.1 1) = cWc ff (T.1 0) (T.1 1) M e G (m + 1) p := by rw [hc, if_neg (fun g => q g.2)]
              refine a_iload (i := 4) dX4_choosePairs_24 rfl ?_
              refine a_aload_n (i := 1) dX4_choosePairs_26 rfl rfl ?_
              refine gX4_79 rfl dX4_choosePairs_27 (isT_0 hD ht) ?_
              rw [e1]
              refine a_icmp_ge (tg := 101) dX4_choosePairs_30 (by decide) (fun c_30 => ?_) (fun c_30 => ?_)
              · exact absurd c_30 (nI_ge mF (by omega))
              · refine a_iload_n (i := 2) dX4_choosePairs_33 rfl rfl ?_
                refine a_iload (i := 4) dX4_choosePairs_34 rfl ?_
                refine a_ishr dX4_choosePairs_36 ?_
                refine a_iconst (v := 1) dX4_choosePairs_37 (by decide) ?_
                refine a_iand dX4_choosePairs_38 ?_
                rw [sh1_b (by omega) (by omega), hb]
                refine a_if_ne (tg := 46) dX4_choosePairs_39 (by decide) (fun c_39 => ?_) (fun c_39 => ?_)
                · exact absurd rfl c_39
                · refine a_iconst (v := 1) dX4_choosePairs_42 (by decide) ?_
                  refine a_goto (tg := 47) dX4_choosePairs_43 (by decide) ?_
                  refine a_istore (i := 5) dX4_choosePairs_47 (by decide) ?_
                  refine a_iload (i := 5) dX4_choosePairs_49 rfl ?_
                  refine a_if_eq (tg := 95) dX4_choosePairs_51 (by decide) (fun c_51 => ?_) (fun c_51 => ?_)
                  · exact absurd c_51 (by decide)
                  · refine a_aload_n (i := 0) dX4_choosePairs_54 rfl rfl ?_
                    refine a_iload_n (i := 3) dX4_choosePairs_55 rfl rfl ?_
                    refine a_iload_n (i := 2) dX4_choosePairs_56 rfl rfl ?_
                    refine a_iload (i := 4) dX4_choosePairs_57 rfl ?_
                    refine kX4_100 rfl dX4_choosePairs_59 (Nat.le_of_ble_eq_true rfl) (isRk_0 hD) (hw) ?_
                    refine a_aload_n (i := 0) dX4_choosePairs_62 rfl rfl ?_
                    refine gX4_24 rfl dX4_choosePairs_63 (isRk_0 hD) ?_
                    refine a_iload_n (i := 3) dX4_choosePairs_66 rfl rfl ?_
                    refine a_sipush (v := 256) dX4_choosePairs_67 (by decide) ?_
                    refine a_imul dX4_choosePairs_70 ?_
                    refine a_iload_n (i := 2) dX4_choosePairs_71 rfl rfl ?_
                    refine a_iadd dX4_choosePairs_72 ?_
                    refine a_ialdN dX4_choosePairs_73 (isRk_6 hD) (by first | exact ix256 _ _ | with_reducible exact rfl | with_reducible exact ix8 _ _ | with_reducible exact ix12 _ _ | exact rfl) (by omega) (by decide) ?_
                    rw [hlg]
                    refine a_icmp_ne (tg := 95) dX4_choosePairs_74 (by decide) (fun c_74 => ?_) (fun c_74 => ?_)
                    · refine a_iincK (i := 4) (u := 1) dX4_choosePairs_95 rfl (by decide) (by decide) ?_
                      refine a_goto (tg := 24) dX4_choosePairs_98 (by decide) ?_
                      rw [nI_1]; exact a_loc _ rfl (ihp (m + 1) (by omega) hc2)
                    · exact absurd (ieq.mp c_74) q
      refine a_iload_n (i := 3) dX4_choosePairs_13 rfl rfl ?_
      refine a_aload_n (i := 1) dX4_choosePairs_14 rfl rfl ?_
      refine gX4_75 rfl dX4_choosePairs_15 (isT_0 hD ht) ?_
      rw [e0]
      refine a_icmp_ge (tg := 107) dX4_choosePairs_18 (by decide) (fun c_18 => ?_) (fun c_18 => ?_)
      · exact absurd c_18 (nI_ge (show h < T.1 0 by omega) (by omega))
      · refine a_iconst (v := 0) dX4_choosePairs_21 (by decide) ?_
        refine a_istore (i := 4) dX4_choosePairs_22 (by decide) ?_
        exact a_loc _ rfl (I (T.1 1) 0 (Nat.zero_add _) rfl)
  refine a_aload_n (i := 0) dX4_choosePairs_0 rfl rfl ?_
  refine gX4_9 rfl dX4_choosePairs_1 (isRk_0 hD) ?_
  refine a_bipush (v := (-2)) dX4_choosePairs_4 (by decide) ?_
  refine kgX4_103 rfl dX4_choosePairs_6 (Nat.le_of_ble_eq_true rfl) (c_J7_fill (isRk_1 hD) (by decide)) ?_
  rintro v y ⟨rfl, y1, y2, y3⟩
  refine a_iconst (v := 0) dX4_choosePairs_9 (by decide) ?_
  refine a_istore_n (i := 2) dX4_choosePairs_10 rfl (by decide) ?_
  refine a_iconst (v := 0) dX4_choosePairs_11 (by decide) ?_
  refine a_istore_n (i := 3) dX4_choosePairs_12 rfl (by decide) ?_
  exact a_loc _ rfl (L (T.1 0) 0 (Nat.zero_add _) y (fun j hj => by rw [y1 j hj, if_neg (by omega)]) y2 y3)
set_option maxHeartbeats 4000000 in
set_option maxRecDepth 100000 in
theorem c_X4_pair (hD : aDC D) (ht : aTdB t) (ok : zTok T) (hT : rT T x t) (hS : rS T Z x bNow) (hm : mOk T Z ff) : aCt l mX4_pair (d + 2) D [.ref bRk, .ref t, .ref bNow] x (fun v y => v = none ∧ y.1 bRk 1 = nI (cLe ff (T.1 0) (T.1 1) (min (T.1 0) (T.1 1)) (T.1 0) 0) ∧ (∀ h, h < 6 → y.1 (bRk + 1) h = prd ff (T.1 0) (T.1 1) (min (T.1 0) (T.1 1)) h) ∧ cF x y) := by
  have h6 := ok.1
  have h8 := ok.2.1
  have h2 := two_le h8
  have hf : ∀ h, h < T.1 0 → ∀ m, m < T.1 1 → ff h m ≤ 160000000 := fun h hh m hm2 => (hm h hh m hm2).2
  have gT : ∀ y : aS, (∀ n, n / 256 ≠ 11 → y.1 n = x.1 n) → rT T y t := fun y hy => rT_same (fun k hk => hy _ (by rcases ht with rfl | rfl <;> omega)) ok hT
  have gS : ∀ y : aS, (∀ n, n / 256 ≠ 11 → y.1 n = x.1 n) → rS T Z y bNow := fun y hy => rS_same (fun k hk => hy _ (by unfold bNow; omega)) hS
  refine a_met (by decide) (Nat.le_of_ble_eq_true rfl) (fun v y q => Or.inr (Or.inr (Or.inr ⟨rfl, q.1⟩))) ?_
  have E : ∀ y : aS, pR T ff y → lR T ff 0 y → (∀ n, n / 256 ≠ 11 → y.1 n = x.1 n) → y.2 = x.2 → aV l mX4_pair (d + 2) D none 178 [(0, .ref bRk), (1, .ref t)] [] y (fun v y => v = none ∧ y.1 bRk 1 = nI (cLe ff (T.1 0) (T.1 1) (min (T.1 0) (T.1 1)) (T.1 0) 0) ∧ (∀ h, h < 6 → y.1 (bRk + 1) h = prd ff (T.1 0) (T.1 1) (min (T.1 0) (T.1 1)) h) ∧ cF x y) := by
    intro y h1 h3 h4 h5
    have e0 : y.1 (bRk + 6) 0 = nI (cLe ff (T.1 0) (T.1 1) (min (T.1 0) (T.1 1)) (T.1 0) 0) := by have := h3 0 (by omega) (by omega) 0 (Nat.two_pow_pos _); simpa using this
    generalize cLe ff (T.1 0) (T.1 1) (min (T.1 0) (T.1 1)) (T.1 0) 0 = C at *
    have hc := c_X4_choosePairs (l := l) (d := d) (D := D) (x := aWr y bRk 1 (nI C)) (ff := ff) hD ht ok (gT _ (fun n hn => by rw [aWr_n _ _ _ (fun e => hn (by rw [e]; decide)), h4 n hn])) hf (fun h hh m hm => by rw [aWr_n _ _ _ (by decide)]; exact h1 h hh m hm) (fun j hj hj2 g hg => by rw [aWr_n _ _ _ (by decide)]; exact h3 j hj hj2 g hg)
    refine a_aload_n (i := 0) dX4_pair_178 rfl rfl ?_
    refine a_aload_n (i := 0) dX4_pair_179 rfl rfl ?_
    refine gX4_24 rfl dX4_pair_180 (isRk_0 hD) ?_
    refine a_iconst (v := 0) dX4_pair_183 (by decide) ?_
    refine a_ialdN dX4_pair_184 (isRk_6 hD) (by first | exact (show (0 : Int32) = nI 0 from rfl) | with_reducible exact rfl | with_reducible exact ix8 _ _ | with_reducible exact ix12 _ _ | exact rfl) (by omega) (by decide) ?_
    rw [e0]
    refine pX4_93 rfl dX4_pair_185 (isRk_0 hD) ?_
    refine a_aload_n (i := 0) dX4_pair_188 rfl rfl ?_
    refine a_aload_n (i := 1) dX4_pair_189 rfl rfl ?_
    refine kgX4_96 rfl dX4_pair_190 (Nat.le_of_ble_eq_true rfl) (isRk_0 hD) (hc) ?_
    rintro v z ⟨rfl, z1, z2, z3⟩
    exact a_vret dX4_pair_193 (by exact ⟨rfl, by rw [z2 _ (by decide), aWr_s], z1, fun n _ _ c => ⟨by rw [z2 n (fun e => c (by rw [e]; decide)), aWr_n _ _ _ (fun e => c (by rw [e]; decide)), h4 n c], by rw [z3]; show y.2 n = _; rw [h5]⟩⟩)
  have B : ∀ (k : Nat), k ≤ T.1 0 → ∀ y : aS, pR T ff y → lR T ff k y → (∀ n, n / 256 ≠ 11 → y.1 n = x.1 n) → y.2 = x.2 → aV l mX4_pair (d + 2) D none 129 [(0, .ref bRk), (1, .ref t), (2, .ref bNow), (3, .int (nI (2 ^ T.1 1))), (5, .int (nI k - 1))] [] y (fun v y => v = none ∧ y.1 bRk 1 = nI (cLe ff (T.1 0) (T.1 1) (min (T.1 0) (T.1 1)) (T.1 0) 0) ∧ (∀ h, h < 6 → y.1 (bRk + 1) h = prd ff (T.1 0) (T.1 1) (min (T.1 0) (T.1 1)) h) ∧ cF x y) := by
    intro k
    induction k with
    | zero =>
      intro _ y h1 h3 h4 h5
      refine a_iload (i := 5) dX4_pair_129 rfl ?_
      refine a_if_lt (tg := 178) dX4_pair_131 (by decide) (fun c_131 => ?_) (fun c_131 => ?_)
      · exact a_loc _ rfl (E y h1 h3 h4 h5)
      · exact absurd (by decide) c_131
    | succ k ih =>
      intro hk y h1 h3 h4 h5
      rw [nI_pred]
      have G : ∀ (f g : Nat), g + f = 2 ^ T.1 1 → ∀ z : aS, pR T ff z → lR T ff (k + 1) z → (∀ q, q < g → z.1 (bRk + 6) (k * 256 + q) = nI (cLe ff (T.1 0) (T.1 1) (min (T.1 0) (T.1 1)) (T.1 0 - k) q)) → (∀ n, n / 256 ≠ 11 → z.1 n = x.1 n) → z.2 = x.2 → aV l mX4_pair (d + 2) D none 137 [(0, .ref bRk), (1, .ref t), (2, .ref bNow), (3, .int (nI (2 ^ T.1 1))), (5, .int (nI k)), (6, .int (nI g))] [] z (fun v y => v = none ∧ y.1 bRk 1 = nI (cLe ff (T.1 0) (T.1 1) (min (T.1 0) (T.1 1)) (T.1 0) 0) ∧ (∀ h, h < 6 → y.1 (bRk + 1) h = prd ff (T.1 0) (T.1 1) (min (T.1 0) (T.1 1)) h) ∧ cF x y) := by
        intro f
        induction f with
        | zero =>
          intro g hg z g1 g3 gq g4 g5
          rw [Nat.add_zero] at hg
          subst hg
          have ih2 := ih (by omega) z g1 (fun j hj hj2 q hq => by
            by_cases e : j = k
            · subst e; exact gq q hq
            · exact g3 j (by omega) hj2 q hq) g4 g5
          rw [show nI k - 1 = nI k + (-1) from Int32.sub_eq_add_neg _ _] at ih2
          refine a_iload (i := 6) dX4_pair_137 rfl ?_
          refine a_iload_n (i := 3) dX4_pair_139 rfl rfl ?_
          refine a_icmp_ge (tg := 172) dX4_pair_140 (by decide) (fun c_140 => ?_) (fun c_140 => ?_)
          · refine a_iincK (i := 5) (u := (-1)) dX4_pair_172 rfl (by decide) (by decide) ?_
            refine a_goto (tg := 129) dX4_pair_175 (by decide) ?_
            exact a_loc _ rfl ih2
          · exact absurd (Int32.le_refl _) c_140
        | succ f ihg =>
          intro g hg z g1 g3 gq g4 g5
          have hw := c_X4_leastFrom (l := l) (d := d) (ff := ff) hD ht ok (gT z g4) hf g1 g3 (show k < T.1 0 by omega) (show g < 2 ^ T.1 1 by omega)
          have ih2 := ihg (g + 1) (by omega) (aWr z (bRk + 6) (k * 256 + g) (nI (cLe ff (T.1 0) (T.1 1) (min (T.1 0) (T.1 1)) (T.1 0 - k) g))) (fun h hh m hm => by rw [aWr_n _ _ _ (by decide)]; exact g1 h hh m hm) (fun j hj hj2 q hq => by rw [aWr_j _ _ _ (by omega)]; exact g3 j hj hj2 q hq) (fun q hq => by
            by_cases e : q = g
            · subst e; rw [aWr_s]
            · rw [aWr_j _ _ _ (by omega)]; exact gq q (by omega)) (fun n hn => by rw [aWr_n _ _ _ (fun e => hn (by rw [e]; decide)), g4 n hn]) g5
          refine a_iload (i := 6) dX4_pair_137 rfl ?_
          refine a_iload_n (i := 3) dX4_pair_139 rfl rfl ?_
          refine a_icmp_ge (tg := 172) dX4_pair_140 (by decide) (fun c_140 => ?_) (fun c_140 => ?_)
          · exact absurd c_140 (nI_ge (show g < 2 ^ T.1 1 by omega) (by omega))
          · refine a_aload_n (i := 0) dX4_pair_143 rfl rfl ?_
            refine gX4_24 rfl dX4_pair_144 (isRk_0 hD) ?_
            refine a_iload (i := 5) dX4_pair_147 rfl ?_
            refine a_sipush (v := 256) dX4_pair_149 (by decide) ?_
            refine a_imul dX4_pair_152 ?_
            refine a_iload (i := 6) dX4_pair_153 rfl ?_
            refine a_iadd dX4_pair_155 ?_
            refine a_aload_n (i := 0) dX4_pair_156 rfl rfl ?_
            refine a_aload_n (i := 1) dX4_pair_157 rfl rfl ?_
            refine a_iload (i := 5) dX4_pair_158 rfl ?_
            refine a_iload (i := 6) dX4_pair_160 rfl ?_
            refine kX4_90 rfl dX4_pair_162 (Nat.le_of_ble_eq_true rfl) (isRk_0 hD) (hw) ?_
            refine a_iastN dX4_pair_165 (isRk_6 hD) (by first | exact ix256 _ _ | with_reducible exact rfl | with_reducible exact ix8 _ _ | with_reducible exact ix12 _ _ | exact rfl) (by omega) (by decide) ?_
            refine a_iincK (i := 6) (u := 1) dX4_pair_166 rfl (by decide) (by decide) ?_
            refine a_goto (tg := 137) dX4_pair_169 (by decide) ?_
            rw [nI_1]; exact a_loc _ rfl ih2
      refine a_iload (i := 5) dX4_pair_129 rfl ?_
      refine a_if_lt (tg := 178) dX4_pair_131 (by decide) (fun c_131 => ?_) (fun c_131 => ?_)
      · exact absurd c_131 (nI_pos (by omega))
      · refine a_iconst (v := 0) dX4_pair_134 (by decide) ?_
        refine a_istore (i := 6) dX4_pair_135 (by decide) ?_
        exact a_loc _ rfl (G _ 0 (Nat.zero_add _) y h1 h3 (fun q hq => absurd hq (by omega)) h4 h5)
  have A : ∀ (f g : Nat), g + f = 2 ^ T.1 1 → ∀ y : aS, pR T ff y → (∀ q, q < g → y.1 (bRk + 6) (T.1 0 * 256 + q) = nI (if pc q = min (T.1 0) (T.1 1) then 0 else tFar)) → (∀ n, n / 256 ≠ 11 → y.1 n = x.1 n) → y.2 = x.2 → aV l mX4_pair (d + 2) D none 77 [(0, .ref bRk), (1, .ref t), (2, .ref bNow), (3, .int (nI (2 ^ T.1 1))), (4, .int (nI (min (T.1 0) (T.1 1)))), (5, .int (nI g))] [] y (fun v y => v = none ∧ y.1 bRk 1 = nI (cLe ff (T.1 0) (T.1 1) (min (T.1 0) (T.1 1)) (T.1 0) 0) ∧ (∀ h, h < 6 → y.1 (bRk + 1) h = prd ff (T.1 0) (T.1 1) (min (T.1 0) (T.1 1)) h) ∧ cF x y) := by
    intro f
    induction f with
    | zero =>
      intro g hg y h1 h3 h4 h5
      rw [Nat.add_zero] at hg
      have e0 : y.1 t 1 = nI (T.1 0) := (gT y h4).1
      subst hg
      have B0 := B (T.1 0) (Nat.le_refl _) y h1 (fun j hj hj2 q hq => by
        have : j = T.1 0 := by omega
        subst this
        rw [Nat.sub_self]
        exact h3 q hq) h4 h5
      refine a_iload (i := 5) dX4_pair_77 rfl ?_
      refine a_iload_n (i := 3) dX4_pair_79 rfl rfl ?_
      refine a_icmp_ge (tg := 121) dX4_pair_80 (by decide) (fun c_80 => ?_) (fun c_80 => ?_)
      · refine a_aload_n (i := 1) dX4_pair_121 rfl rfl ?_
        refine gX4_75 rfl dX4_pair_122 (isT_0 hD ht) ?_
        rw [e0]
        refine a_iconst (v := 1) dX4_pair_125 (by decide) ?_
        refine a_isub dX4_pair_126 ?_
        refine a_istore (i := 5) dX4_pair_127 (by decide) ?_
        exact a_loc _ rfl B0
      · exact absurd (Int32.le_refl _) c_80
    | succ f ih =>
      intro g hg y h1 h3 h4 h5
      have e0 : y.1 t 1 = nI (T.1 0) := (gT y h4).1
      have pl := (pc_le (T.1 1) (by omega) g (by omega)).1
      have ih2 := ih (g + 1) (by omega) (aWr y (bRk + 6) (T.1 0 * 256 + g) (nI (if pc g = min (T.1 0) (T.1 1) then 0 else tFar))) (fun h hh m hm => by rw [aWr_n _ _ _ (by decide)]; exact h1 h hh m hm) (fun q hq => by
        by_cases e : q = g
        · subst e; rw [aWr_s]
        · rw [aWr_j _ _ _ (by omega)]; exact h3 q (by omega)) (fun n hn => by rw [aWr_n _ _ _ (fun e => hn (by rw [e]; decide)), h4 n hn]) h5
      by_cases q : pc g = min (T.1 0) (T.1 1)
      · rw [if_pos q] at ih2
        refine a_iload (i := 5) dX4_pair_77 rfl ?_
        refine a_iload_n (i := 3) dX4_pair_79 rfl rfl ?_
        refine a_icmp_ge (tg := 121) dX4_pair_80 (by decide) (fun c_80 => ?_) (fun c_80 => ?_)
        · exact absurd c_80 (nI_ge (show g < 2 ^ T.1 1 by omega) (by omega))
        · refine a_aload_n (i := 0) dX4_pair_83 rfl rfl ?_
          refine gX4_24 rfl dX4_pair_84 (isRk_0 hD) ?_
          refine a_aload_n (i := 1) dX4_pair_87 rfl rfl ?_
          refine gX4_75 rfl dX4_pair_88 (isT_0 hD ht) ?_
          rw [e0]
          refine a_sipush (v := 256) dX4_pair_91 (by decide) ?_
          refine a_imul dX4_pair_94 ?_
          refine a_iload (i := 5) dX4_pair_95 rfl ?_
          refine a_iadd dX4_pair_97 ?_
          refine a_iload (i := 5) dX4_pair_98 rfl ?_
          refine kX4_70 rfl dX4_pair_100 (Nat.le_of_ble_eq_true rfl) (c_J6_bitCount) ?_
          rw [jbc_pc g (by omega)]
          refine a_iload (i := 4) dX4_pair_103 rfl ?_
          refine a_icmp_ne (tg := 112) dX4_pair_105 (by decide) (fun c_105 => ?_) (fun c_105 => ?_)
          · exact absurd (by rw [q]) c_105
          · refine a_iconst (v := 0) dX4_pair_108 (by decide) ?_
            refine a_goto (tg := 114) dX4_pair_109 (by decide) ?_
            refine a_iastN dX4_pair_114 (isRk_6 hD) (by first | exact ix256 _ _ | with_reducible exact rfl | with_reducible exact ix8 _ _ | with_reducible exact ix12 _ _ | exact rfl) (by omega) (by decide) ?_
            refine a_iincK (i := 5) (u := 1) dX4_pair_115 rfl (by decide) (by decide) ?_
            refine a_goto (tg := 77) dX4_pair_118 (by decide) ?_
            rw [nI_1]; exact a_loc _ rfl ih2
      · rw [if_neg q] at ih2
        refine a_iload (i := 5) dX4_pair_77 rfl ?_
        refine a_iload_n (i := 3) dX4_pair_79 rfl rfl ?_
        refine a_icmp_ge (tg := 121) dX4_pair_80 (by decide) (fun c_80 => ?_) (fun c_80 => ?_)
        · exact absurd c_80 (nI_ge (show g < 2 ^ T.1 1 by omega) (by omega))
        · refine a_aload_n (i := 0) dX4_pair_83 rfl rfl ?_
          refine gX4_24 rfl dX4_pair_84 (isRk_0 hD) ?_
          refine a_aload_n (i := 1) dX4_pair_87 rfl rfl ?_
          refine gX4_75 rfl dX4_pair_88 (isT_0 hD ht) ?_
          rw [e0]
          refine a_sipush (v := 256) dX4_pair_91 (by decide) ?_
          refine a_imul dX4_pair_94 ?_
          refine a_iload (i := 5) dX4_pair_95 rfl ?_
          refine a_iadd dX4_pair_97 ?_
          refine a_iload (i := 5) dX4_pair_98 rfl ?_
          refine kX4_70 rfl dX4_pair_100 (Nat.le_of_ble_eq_true rfl) (c_J6_bitCount) ?_
          rw [jbc_pc g (by omega)]
          refine a_iload (i := 4) dX4_pair_103 rfl ?_
          refine a_icmp_ne (tg := 112) dX4_pair_105 (by decide) (fun c_105 => ?_) (fun c_105 => ?_)
          · refine a_ldc (v := 1000000000) dX4_pair_112 (oX4_89 rfl) ?_
            refine a_iastN dX4_pair_114 (isRk_6 hD) (by first | exact ix256 _ _ | with_reducible exact rfl | with_reducible exact ix8 _ _ | with_reducible exact ix12 _ _ | exact rfl) (by omega) (by decide) ?_
            refine a_iincK (i := 5) (u := 1) dX4_pair_115 rfl (by decide) (by decide) ?_
            refine a_goto (tg := 77) dX4_pair_118 (by decide) ?_
            rw [nI_1]; exact a_loc _ rfl ih2
          · exact absurd ((nI_eq (by omega) (by omega)).mp c_105) q
  have P : ∀ (f h : Nat), h + f = T.1 0 → ∀ y : aS, (∀ i, i < h → ∀ m, m < T.1 1 → y.1 (bRk + 5) (i * 8 + m) = nI (ff i m)) → (∀ n, n / 256 ≠ 11 → y.1 n = x.1 n) → y.2 = x.2 → aV l mX4_pair (d + 2) D none 2 [(0, .ref bRk), (1, .ref t), (2, .ref bNow), (3, .int (nI h))] [] y (fun v y => v = none ∧ y.1 bRk 1 = nI (cLe ff (T.1 0) (T.1 1) (min (T.1 0) (T.1 1)) (T.1 0) 0) ∧ (∀ h, h < 6 → y.1 (bRk + 1) h = prd ff (T.1 0) (T.1 1) (min (T.1 0) (T.1 1)) h) ∧ cF x y) := by
    intro f
    induction f with
    | zero =>
      intro h hh y h1 h4 h5
      rw [Nat.add_zero] at hh
      have e0 : y.1 t 1 = nI (T.1 0) := (gT y h4).1
      have e1 : y.1 t 4 = nI (T.1 1) := (gT y h4).2.1
      subst hh
      have em : jmin (nI (T.1 0)) (nI (T.1 1)) = nI (min (T.1 0) (T.1 1)) := jmin_n (by omega) (by omega)
      unfold jmin at em
      refine a_iload_n (i := 3) dX4_pair_2 rfl rfl ?_
      refine a_aload_n (i := 1) dX4_pair_3 rfl rfl ?_
      refine gX4_75 rfl dX4_pair_4 (isT_0 hD ht) ?_
      rw [e0]
      refine a_icmp_ge (tg := 54) dX4_pair_7 (by decide) (fun c_7 => ?_) (fun c_7 => ?_)
      · refine a_iconst (v := 1) dX4_pair_54 (by decide) ?_
        refine a_aload_n (i := 1) dX4_pair_55 rfl rfl ?_
        refine gX4_79 rfl dX4_pair_56 (isT_0 hD ht) ?_
        rw [e1]
        refine a_ishl dX4_pair_59 ?_
        rw [two_L _ (by omega)]
        refine a_istore_n (i := 3) dX4_pair_60 rfl (by decide) ?_
        refine a_aload_n (i := 1) dX4_pair_61 rfl rfl ?_
        refine gX4_75 rfl dX4_pair_62 (isT_0 hD ht) ?_
        rw [e0]
        refine a_aload_n (i := 1) dX4_pair_65 rfl rfl ?_
        refine gX4_79 rfl dX4_pair_66 (isT_0 hD ht) ?_
        rw [e1]
        refine kX4_86 rfl dX4_pair_69 (Nat.le_of_ble_eq_true rfl) ?_
        rw [em]
        refine a_istore (i := 4) dX4_pair_72 (by decide) ?_
        refine a_iconst (v := 0) dX4_pair_74 (by decide) ?_
        refine a_istore (i := 5) dX4_pair_75 (by decide) ?_
        exact a_loc _ rfl (A _ 0 (Nat.zero_add _) y h1 (fun q hq => absurd hq (by omega)) h4 h5)
      · exact absurd (Int32.le_refl _) c_7
    | succ f ih =>
      intro h hh y h1 h4 h5
      have e0 : y.1 t 1 = nI (T.1 0) := (gT y h4).1
      have Q : ∀ (p m : Nat), m + p = T.1 1 → ∀ z : aS, (∀ i, i < h → ∀ m, m < T.1 1 → z.1 (bRk + 5) (i * 8 + m) = nI (ff i m)) → (∀ q, q < m → z.1 (bRk + 5) (h * 8 + q) = nI (ff h q)) → (∀ n, n / 256 ≠ 11 → z.1 n = x.1 n) → z.2 = x.2 → aV l mX4_pair (d + 2) D none 13 [(0, .ref bRk), (1, .ref t), (2, .ref bNow), (3, .int (nI h)), (4, .int (nI m))] [] z (fun v y => v = none ∧ y.1 bRk 1 = nI (cLe ff (T.1 0) (T.1 1) (min (T.1 0) (T.1 1)) (T.1 0) 0) ∧ (∀ h, h < 6 → y.1 (bRk + 1) h = prd ff (T.1 0) (T.1 1) (min (T.1 0) (T.1 1)) h) ∧ cF x y) := by
        intro p
        induction p with
        | zero =>
          intro m hmp z z1 z2 z3 z4
          rw [Nat.add_zero] at hmp
          have e1 : z.1 t 4 = nI (T.1 1) := (gT z z3).2.1
          subst hmp
          have ih2 := ih (h + 1) (by omega) z (fun i hi m hm => by
            by_cases e : i = h
            · subst e; exact z2 m hm
            · exact z1 i (by omega) m hm) z3 z4
          refine a_iload (i := 4) dX4_pair_13 rfl ?_
          refine a_aload_n (i := 1) dX4_pair_15 rfl rfl ?_
          refine gX4_79 rfl dX4_pair_16 (isT_0 hD ht) ?_
          rw [e1]
          refine a_icmp_ge (tg := 48) dX4_pair_19 (by decide) (fun c_19 => ?_) (fun c_19 => ?_)
          · refine a_iincK (i := 3) (u := 1) dX4_pair_48 rfl (by decide) (by decide) ?_
            refine a_goto (tg := 2) dX4_pair_51 (by decide) ?_
            rw [nI_1]; exact a_loc _ rfl ih2
          · exact absurd (Int32.le_refl _) c_19
        | succ p ihq =>
          intro m hmp z z1 z2 z3 z4
          have e1 : z.1 t 4 = nI (T.1 1) := (gT z z3).2.1
          have hw := cz_farOf (l := l) (d := d) hD hbNow ht ok (gT z z3) (gS z z3) (show m < T.1 1 by omega) (show h < T.1 0 by omega)
          rw [(hm h (by omega) m (by omega)).1] at hw
          have ih2 := ihq (m + 1) (by omega) (aWr z (bRk + 5) (h * 8 + m) (nI (ff h m))) (fun i hi q hq => by rw [aWr_j _ _ _ (by omega)]; exact z1 i hi q hq) (fun q hq => by
            by_cases e : q = m
            · subst e; rw [aWr_s]
            · rw [aWr_j _ _ _ (by omega)]; exact z2 q (by omega)) (fun n hn => by rw [aWr_n _ _ _ (fun e => hn (by rw [e]; decide)), z3 n hn]) z4
          refine a_iload (i := 4) dX4_pair_13 rfl ?_
          refine a_aload_n (i := 1) dX4_pair_15 rfl rfl ?_
          refine gX4_79 rfl dX4_pair_16 (isT_0 hD ht) ?_
          rw [e1]
          refine a_icmp_ge (tg := 48) dX4_pair_19 (by decide) (fun c_19 => ?_) (fun c_19 => ?_)
          · exact absurd c_19 (nI_ge (show m < T.1 1 by omega) (by omega))
          · refine a_aload_n (i := 0) dX4_pair_22 rfl rfl ?_
            refine gX4_21 rfl dX4_pair_23 (isRk_0 hD) ?_
            refine a_iload_n (i := 3) dX4_pair_26 rfl rfl ?_
            refine a_bipush (v := 8) dX4_pair_27 (by decide) ?_
            refine a_imul dX4_pair_29 ?_
            refine a_iload (i := 4) dX4_pair_30 rfl ?_
            refine a_iadd dX4_pair_32 ?_
            refine a_aload_n (i := 2) dX4_pair_33 rfl rfl ?_
            refine a_aload_n (i := 1) dX4_pair_34 rfl rfl ?_
            refine a_iload (i := 4) dX4_pair_35 rfl ?_
            refine a_iload_n (i := 3) dX4_pair_37 rfl rfl ?_
            refine kX4_82 rfl dX4_pair_38 (Nat.le_of_ble_eq_true rfl) (isS_0 hD hbNow) (hw) ?_
            refine a_iastN dX4_pair_41 (isRk_5 hD) (by first | with_reducible exact rfl | with_reducible exact ix8 _ _ | with_reducible exact ix12 _ _ | exact rfl) (by omega) (by decide) ?_
            refine a_iincK (i := 4) (u := 1) dX4_pair_42 rfl (by decide) (by decide) ?_
            refine a_goto (tg := 13) dX4_pair_45 (by decide) ?_
            rw [nI_1]; exact a_loc _ rfl ih2
      refine a_iload_n (i := 3) dX4_pair_2 rfl rfl ?_
      refine a_aload_n (i := 1) dX4_pair_3 rfl rfl ?_
      refine gX4_75 rfl dX4_pair_4 (isT_0 hD ht) ?_
      rw [e0]
      refine a_icmp_ge (tg := 54) dX4_pair_7 (by decide) (fun c_7 => ?_) (fun c_7 => ?_)
      · exact absurd c_7 (nI_ge (show h < T.1 0 by omega) (by omega))
      · refine a_iconst (v := 0) dX4_pair_10 (by decide) ?_
        refine a_istore (i := 4) dX4_pair_11 (by decide) ?_
        exact a_loc _ rfl (Q (T.1 1) 0 (Nat.zero_add _) y h1 (fun q hq => absurd hq (by omega)) h4 h5)
  refine a_iconst (v := 0) dX4_pair_0 (by decide) ?_
  refine a_istore_n (i := 3) dX4_pair_1 rfl (by decide) ?_
  exact a_loc _ rfl (P (T.1 0) 0 (Nat.zero_add _) x (fun i hi => absurd hi (by omega)) (fun _ _ => rfl) rfl)
theorem zIn8' {a : Int32} : (0 ≤ a ∧ a ≤ 7) ↔ zIn 8 a := zIn_le (n := 7) rfl (by decide)
def qMatch (T : zT) (ff : Nat → Nat → Nat) (a : Int32) : Int32 := if zIn 8 a then (if a = 6 then nI (min (T.1 0) (T.1 1)) else if a = 7 then nI (cLe ff (T.1 0) (T.1 1) (min (T.1 0) (T.1 1)) (T.1 0) 0) else prd ff (T.1 0) (T.1 1) (min (T.1 0) (T.1 1)) a.toNatClampNeg) else -1
set_option maxHeartbeats 4000000 in
set_option maxRecDepth 100000 in
theorem c_X11_match {a : Int32} (hD : aDC D) (h : cR T W Z x t) (hm : mOk T Z ff) : aCt l mX11_match (d + 3) D [.ref bLH, .int a] x (fun v y => v = some (.int (qMatch T ff a)) ∧ cF x y) := by
  obtain ⟨ht, hp, ok, hZ, hT, hW, hS⟩ := h
  have h6 := ok.1
  have h8 := ok.2.1
  have e0 : x.1 t 1 = nI (T.1 0) := hT.1
  have e1 : x.1 t 4 = nI (T.1 1) := hT.2.1
  have em : jmin (nI (T.1 0)) (nI (T.1 1)) = nI (min (T.1 0) (T.1 1)) := jmin_n (by omega) (by omega)
  unfold jmin at em
  refine a_met (by decide) (Nat.le_of_ble_eq_true rfl) (fun v y q => Or.inl ⟨rfl, _, q.1⟩) ?_
  unfold qMatch
  by_cases q : zIn 8 a
  · rw [if_pos q]
    have q7 := zIn8.mpr q
    obtain ⟨A, hA, rfl⟩ := zIn_of (by decide) q
    rw [nI_clamp (by omega)]
    refine a_iload_n (i := 1) dX11_match_0 rfl rfl ?_
    refine a_if_lt (tg := 10) dX11_match_1 (by decide) (fun c_1 => ?_) (fun c_1 => ?_)
    · exact absurd q7.1 (Int32.not_le.mpr c_1)
    · refine a_iload_n (i := 1) dX11_match_4 rfl rfl ?_
      refine a_bipush (v := 7) dX11_match_5 (by decide) ?_
      refine a_icmp_le (tg := 12) dX11_match_7 (by decide) (fun c_7 => ?_) (fun c_7 => ?_)
      · refine a_iload_n (i := 1) dX11_match_12 rfl rfl ?_
        refine a_bipush (v := 6) dX11_match_13 (by decide) ?_
        refine a_icmp_ne (tg := 36) dX11_match_15 (by decide) (fun c_15 => ?_) (fun c_15 => ?_)
        · rw [if_neg c_15]
          have a6 : A ≠ 6 := fun e => c_15 (by rw [e]; rfl)
          refine a_aload_n (i := 0) dX11_match_36 rfl rfl ?_
          refine gX11_64 rfl dX11_match_37 (isLH_0 hD) ?_
          refine a_aload_n (i := 0) dX11_match_40 rfl rfl ?_
          refine gX11_23 rfl dX11_match_41 (isLH_0 hD) ?_
          rw [hp]
          refine a_aload_n (i := 0) dX11_match_44 rfl rfl ?_
          refine gX11_30 rfl dX11_match_45 (isLH_0 hD) ?_
          refine kgX11_313 rfl dX11_match_48 (Nat.le_of_ble_eq_true rfl) (isRk_0 hD) (c_X4_pair hD ht ok hT hS hm) ?_
          rintro v y ⟨rfl, y1, y2, y3⟩
          refine a_iload_n (i := 1) dX11_match_51 rfl rfl ?_
          refine a_bipush (v := 7) dX11_match_52 (by decide) ?_
          refine a_icmp_ne (tg := 67) dX11_match_54 (by decide) (fun c_54 => ?_) (fun c_54 => ?_)
          · rw [if_neg c_54]
            have a7 : A ≠ 7 := fun e => c_54 (by rw [e]; rfl)
            refine a_aload_n (i := 0) dX11_match_67 rfl rfl ?_
            refine gX11_64 rfl dX11_match_68 (isLH_0 hD) ?_
            refine gX11_320 rfl dX11_match_71 (isRk_0 hD) ?_
            refine a_iload_n (i := 1) dX11_match_74 rfl rfl ?_
            refine a_ialdN dX11_match_75 (isRk_1 hD) (by first | with_reducible exact rfl | with_reducible exact ix8 _ _ | with_reducible exact ix12 _ _ | exact rfl) (by omega) (by decide) ?_
            rw [y2 A (by omega)]
            exact a_iret dX11_match_76 (by exact ⟨rfl, y3⟩)
          · rw [if_pos c_54]
            refine a_aload_n (i := 0) dX11_match_57 rfl rfl ?_
            refine gX11_64 rfl dX11_match_58 (isLH_0 hD) ?_
            refine gX11_317 rfl dX11_match_61 (isRk_0 hD) ?_
            rw [y1]
            refine a_goto (tg := 76) dX11_match_64 (by decide) ?_
            exact a_iret dX11_match_76 (by exact ⟨rfl, y3⟩)
        · rw [if_pos c_15]
          refine a_aload_n (i := 0) dX11_match_18 rfl rfl ?_
          refine gX11_23 rfl dX11_match_19 (isLH_0 hD) ?_
          rw [hp]
          refine gX11_112 rfl dX11_match_22 (isT_0 hD ht) ?_
          rw [e0]
          refine a_aload_n (i := 0) dX11_match_25 rfl rfl ?_
          refine gX11_23 rfl dX11_match_26 (isLH_0 hD) ?_
          rw [hp]
          refine gX11_122 rfl dX11_match_29 (isT_0 hD ht) ?_
          rw [e1]
          refine kX11_304 rfl dX11_match_32 (Nat.le_of_ble_eq_true rfl) ?_
          rw [em]
          exact a_iret dX11_match_35 (by exact ⟨rfl, cF_r⟩)
      · exact absurd q7.2 c_7
  · rw [if_neg q]
    refine a_iload_n (i := 1) dX11_match_0 rfl rfl ?_
    refine a_if_lt (tg := 10) dX11_match_1 (by decide) (fun c_1 => ?_) (fun c_1 => ?_)
    · refine a_iconst (v := (-1)) dX11_match_10 (by decide) ?_
      exact a_iret dX11_match_11 (by exact ⟨rfl, cF_r⟩)
    · refine a_iload_n (i := 1) dX11_match_4 rfl rfl ?_
      refine a_bipush (v := 7) dX11_match_5 (by decide) ?_
      refine a_icmp_le (tg := 12) dX11_match_7 (by decide) (fun c_7 => ?_) (fun c_7 => ?_)
      · exact absurd (zIn8.mp ⟨Int32.not_lt.mp c_1, c_7⟩) q
      · refine a_iconst (v := (-1)) dX11_match_10 (by decide) ?_
        exact a_iret dX11_match_11 (by exact ⟨rfl, cF_r⟩)
end qW
