/-! the tape; feed. B: the bytes (below 256) -/
def sB (b : Nat) : Int32 := (nI b).toInt8.toInt32
def rTp (n : Nat) (B : Nat → Nat) (x : aS) : Prop := x.1 bTp 0 = nI n ∧ ∀ i, i < n → x.1 (bTp + 2) i = sB (B i)
def rTm (n : Nat) (B : Nat → Nat) (x : aS) : Prop := x.1 bM 1 = nI n ∧ ∀ i, i < n → x.1 (bM + 1) i = nI (B i)
/-- the byte of a number at a shift -/
def byt (w : Int32) (s : Nat) : Nat := (w >>> (nI s &&& 31) &&& 255).toNatClampNeg
theorem byt_ok (w : Int32) (s : Nat) : w >>> (nI s &&& 31) &&& 255 = nI (byt w s) ∧ byt w s < 256 := by
  obtain ⟨j, hj, e⟩ := pk_andE (w >>> (nI s &&& 31)) (m := 255) 8 (by decide)
  unfold byt
  rw [e, nI_clamp (by omega)]
  exact ⟨rfl, hj⟩
theorem byt_s (w : Int32) (s : Nat) : (w >>> (nI s &&& 31)).toInt8.toInt32 = sB (byt w s) := by
  unfold sB
  rw [← (byt_ok w s).1]
  congr 1
  rw [Int32.toInt8_and, show (255 : Int32).toInt8 = -1 from by decide, Int8.and_neg_one]
/-- the words, by their numbers -/
def fdW (a b c e f : Int32) (q : Nat) : Int32 := if q < 4 then a else if q < 8 then b else if q < 12 then c else if q < 16 then e else f
def fdB (n : Nat) (B : Nat → Nat) (a b c e f : Int32) : Nat → Nat := fun i => if i < n then B i else byt (fdW a b c e f (i - n)) (24 - 8 * ((i - n) % 4))
section qAC
variable {l : Launch} {d : Nat} {D : Nat → Bool} {x : aS} {n : Nat} {B : Nat → Nat}
set_option maxHeartbeats 4000000 in
set_option maxRecDepth 100000 in
theorem c_X7_append {w : Int32} {S : Nat} (hD : aDC D) (hs : x.1 bTp 0 = nI S) (h : S + 4 ≤ 700) : aCt l mX7_append d D [.ref bTp, .int w] x (fun v y => v = none ∧ y.1 bTp 0 = nI (S + 4) ∧ (∀ q, q < 4 → y.1 (bTp + 2) (S + q) = sB (byt w (24 - 8 * q))) ∧ (∀ j, j < S → y.1 (bTp + 2) j = x.1 (bTp + 2) j) ∧ (∀ n j, n ≠ bTp + 2 → ¬ (n = bTp ∧ j = 0) → y.1 n j = x.1 n j) ∧ y.2 = x.2) := by
  refine a_met (by decide) (Nat.le_of_ble_eq_true rfl) (fun v y q => Or.inr (Or.inr (Or.inr ⟨rfl, q.1⟩))) ?_
  have L : ∀ (f i : Nat), i + f = 4 → ∀ (y : aS) (sh : Int32), (i < 4 → sh = nI (24 - 8 * i)) → (i = 4 → sh = -8) → y.1 bTp 0 = nI (S + i) → (∀ q, q < i → y.1 (bTp + 2) (S + q) = sB (byt w (24 - 8 * q))) → (∀ j, j < S → y.1 (bTp + 2) j = x.1 (bTp + 2) j) → (∀ n j, n ≠ bTp + 2 → ¬ (n = bTp ∧ j = 0) → y.1 n j = x.1 n j) → y.2 = x.2 → aV l mX7_append d D none 3 [(0, .ref bTp), (1, .int w), (2, .int sh)] [] y (fun v y => v = none ∧ y.1 bTp 0 = nI (S + 4) ∧ (∀ q, q < 4 → y.1 (bTp + 2) (S + q) = sB (byt w (24 - 8 * q))) ∧ (∀ j, j < S → y.1 (bTp + 2) j = x.1 (bTp + 2) j) ∧ (∀ n j, n ≠ bTp + 2 → ¬ (n = bTp ∧ j = 0) → y.1 n j = x.1 n j) ∧ y.2 = x.2) := by
    intro f
    induction f with
    | zero =>
      intro i hi y sh s1 s2 h1 h2 h3 h4 h5
      rw [Nat.add_zero] at hi
      subst hi
      rw [s2 rfl]
      refine a_iload_n (i := 2) dX7_append_3 rfl rfl ?_
      refine a_if_lt (tg := 46) dX7_append_4 (by decide) (fun c_4 => ?_) (fun c_4 => ?_)
      · exact a_vret dX7_append_46 (by exact ⟨rfl, h1, h2, h3, h4, h5⟩)
      · exact absurd (by decide) c_4
    | succ f ih =>
      intro i hi y sh s1 s2 h1 h2 h3 h4 h5
      have e := s1 (by omega)
      subst e
      have eb : (w >>> (nI (24 - 8 * i) &&& 31)).toInt8.toInt32 = sB (byt w (24 - 8 * i)) := byt_s _ _
      have eb2 : (sB (byt w (24 - 8 * i))).toInt8.toInt32 = sB (byt w (24 - 8 * i)) := by unfold sB; simp
      obtain ⟨y1, hy1⟩ : ∃ y1, y1 = aWr (aWr y (bTp + 2) (S + i) (sB (byt w (24 - 8 * i)))) bTp 0 (nI (S + (i + 1))) := ⟨_, rfl⟩
      have e0 : (aWr y (bTp + 2) (S + i) (sB (byt w (24 - 8 * i)))).1 bTp 0 = nI (S + i) := by rw [aWr_n _ _ _ (by decide)]; exact h1
      have es : nI (S + i) + 1 = nI (S + (i + 1)) := nI_1 _
      have ih2 := ih (i + 1) (by omega) y1 (nI (24 - 8 * i) + -8) (fun g => by
        rw [show (-8 : Int32) = -nI 8 from rfl, ← Int32.sub_eq_add_neg, pk_sub (by omega)]; exact congrArg nI (by omega)) (fun g => by
        have : i = 3 := by omega
        subst this; decide) (by rw [hy1, aWr_s]) (fun q hq => by
        rw [hy1, aWr_n _ _ _ (by decide)]
        by_cases e : q = i
        · subst e; rw [aWr_s]
        · rw [aWr_j _ _ _ (by omega)]; exact h2 q (by omega)) (fun j hj => by rw [hy1, aWr_n _ _ _ (by decide), aWr_j _ _ _ (by omega)]; exact h3 j hj) (fun m j a b => by rw [hy1, aWr_o _ _ b, aWr_n _ _ _ a]; exact h4 m j a b) (by rw [hy1]; exact h5)
      rw [hy1] at ih2
      refine a_iload_n (i := 2) dX7_append_3 rfl rfl ?_
      refine a_if_lt (tg := 46) dX7_append_4 (by decide) (fun c_4 => ?_) (fun c_4 => ?_)
      · exact absurd c_4 (nI_pos (by omega))
      · refine a_aload_n (i := 0) dX7_append_7 rfl rfl ?_
        refine gX7_19 rfl dX7_append_8 (isTp_0 hD) ?_
        rw [h1]
        refine a_sipush (v := 700) dX7_append_11 (by decide) ?_
        refine a_icmp_ge (tg := 46) dX7_append_14 (by decide) (fun c_14 => ?_) (fun c_14 => ?_)
        · exact absurd c_14 (nI_ge (show S + i < 700 by omega) (by decide))
        · refine a_aload_n (i := 0) dX7_append_17 rfl rfl ?_
          refine gX7_9 rfl dX7_append_18 (isTp_0 hD) ?_
          refine a_aload_n (i := 0) dX7_append_21 rfl rfl ?_
          refine gX7_19 rfl dX7_append_22 (isTp_0 hD) ?_
          rw [h1]
          refine a_iload_n (i := 1) dX7_append_25 rfl rfl ?_
          refine a_iload_n (i := 2) dX7_append_26 rfl rfl ?_
          refine a_ishr dX7_append_27 ?_
          refine a_i2b dX7_append_28 ?_
          rw [eb]
          refine a_bastN dX7_append_29 (isTp_2 hD) (by first | with_reducible exact rfl | with_reducible exact ix8 _ _ | with_reducible exact ix12 _ _ | exact rfl) (by omega) (by decide) ?_
          rw [eb2]
          refine a_aload_n (i := 0) dX7_append_30 rfl rfl ?_
          refine a_dup dX7_append_31 rfl ?_
          refine gX7_19 rfl dX7_append_32 (isTp_0 hD) ?_
          rw [e0]
          refine a_iconst (v := 1) dX7_append_35 (by decide) ?_
          refine a_iadd dX7_append_36 ?_
          rw [es]
          refine pX7_19 rfl dX7_append_37 (isTp_0 hD) ?_
          refine a_iincK (i := 2) (u := (-8)) dX7_append_40 rfl (by decide) (by decide) ?_
          refine a_goto (tg := 3) dX7_append_43 (by decide) ?_
          exact a_loc _ rfl ih2
  refine a_bipush (v := 24) dX7_append_0 (by decide) ?_
  refine a_istore_n (i := 2) dX7_append_2 rfl (by decide) ?_
  exact a_loc _ rfl (L 4 0 rfl x (nI 24) (fun _ => rfl) (fun g => absurd g (by decide)) (by rw [Nat.add_zero]; exact hs) (fun q hq => absurd hq (by omega)) (fun _ _ => rfl) (fun _ _ _ _ => rfl) rfl)
/-- frame of feed -/
def cTp (x y : aS) : Prop := (∀ n j, n ≠ bTp + 2 → ¬ (n = bTp ∧ j = 0) → y.1 n j = x.1 n j) ∧ y.2 = x.2
def mTp (x y : aS) : Prop := (∀ n j, n ≠ bM + 1 → ¬ (n = bM ∧ (j = 1 ∨ j = 2)) → y.1 n j = x.1 n j) ∧ y.2 = x.2
set_option maxHeartbeats 4000000 in
set_option maxRecDepth 100000 in
theorem c_X11_feed {a b c e f : Int32} (hD : aDC D) (h : rTp n B x) (hn : n ≤ 700) : aCt l mX11_feed (d + 1) D [.ref bLH, .int a, .int b, .int c, .int e, .int f] x (fun v y => (¬ n + 20 ≤ 700 → v = some (.int (-1)) ∧ y = x) ∧ (n + 20 ≤ 700 → v = some (.int (nI (n + 20))) ∧ rTp (n + 20) (fdB n B a b c e f) y ∧ cTp x y)) := by
  have e20 : nI n + 20 = nI (n + 20) := nI_add n 20
  refine a_met (by decide) (Nat.le_of_ble_eq_true rfl) (fun v y q => Or.inl ⟨rfl, by by_cases g : n + 20 ≤ 700; exact ⟨_, (q.2 g).1⟩; exact ⟨_, (q.1 g).1⟩⟩) ?_
  by_cases q : n + 20 ≤ 700
  · have K : ∀ y1 y2 y3 y4 y5 : aS, (y1.1 bTp 0 = nI (n + 4) ∧ (∀ q, q < 4 → y1.1 (bTp + 2) (n + q) = sB (byt a (24 - 8 * q))) ∧ (∀ j, j < n → y1.1 (bTp + 2) j = x.1 (bTp + 2) j) ∧ (∀ n j, n ≠ bTp + 2 → ¬ (n = bTp ∧ j = 0) → y1.1 n j = x.1 n j) ∧ y1.2 = x.2) → (y2.1 bTp 0 = nI (n + 4 + 4) ∧ (∀ q, q < 4 → y2.1 (bTp + 2) (n + 4 + q) = sB (byt b (24 - 8 * q))) ∧ (∀ j, j < n + 4 → y2.1 (bTp + 2) j = y1.1 (bTp + 2) j) ∧ (∀ n j, n ≠ bTp + 2 → ¬ (n = bTp ∧ j = 0) → y2.1 n j = y1.1 n j) ∧ y2.2 = y1.2) → (y3.1 bTp 0 = nI (n + 8 + 4) ∧ (∀ q, q < 4 → y3.1 (bTp + 2) (n + 8 + q) = sB (byt c (24 - 8 * q))) ∧ (∀ j, j < n + 8 → y3.1 (bTp + 2) j = y2.1 (bTp + 2) j) ∧ (∀ n j, n ≠ bTp + 2 → ¬ (n = bTp ∧ j = 0) → y3.1 n j = y2.1 n j) ∧ y3.2 = y2.2) → (y4.1 bTp 0 = nI (n + 12 + 4) ∧ (∀ q, q < 4 → y4.1 (bTp + 2) (n + 12 + q) = sB (byt e (24 - 8 * q))) ∧ (∀ j, j < n + 12 → y4.1 (bTp + 2) j = y3.1 (bTp + 2) j) ∧ (∀ n j, n ≠ bTp + 2 → ¬ (n = bTp ∧ j = 0) → y4.1 n j = y3.1 n j) ∧ y4.2 = y3.2) → (y5.1 bTp 0 = nI (n + 16 + 4) ∧ (∀ q, q < 4 → y5.1 (bTp + 2) (n + 16 + q) = sB (byt f (24 - 8 * q))) ∧ (∀ j, j < n + 16 → y5.1 (bTp + 2) j = y4.1 (bTp + 2) j) ∧ (∀ n j, n ≠ bTp + 2 → ¬ (n = bTp ∧ j = 0) → y5.1 n j = y4.1 n j) ∧ y5.2 = y4.2) → y5.1 bTp 0 = nI (n + 20) ∧ rTp (n + 20) (fdB n B a b c e f) y5 ∧ cTp x y5 := by
      intro y1 y2 y3 y4 y5 ⟨a0, a1, a2, a3, a4⟩ ⟨b0, b1, b2, b3, b4⟩ ⟨c0, c1, c2, c3, c4⟩ ⟨d0, d1, d2, d3, d4⟩ ⟨e0, e1, e2, e3, e4⟩
      refine ⟨e0, ⟨e0, fun i hi => ?_⟩, fun m j g1 g2 => by rw [e3 m j g1 g2, d3 m j g1 g2, c3 m j g1 g2, b3 m j g1 g2, a3 m j g1 g2], by rw [e4, d4, c4, b4, a4]⟩
      unfold fdB
      by_cases q0 : i < n
      · rw [if_pos q0, e2 i (by omega), d2 i (by omega), c2 i (by omega), b2 i (by omega), a2 i q0]; exact h.2 i q0
      · rw [if_neg q0]
        obtain ⟨k, rfl⟩ : ∃ k, i = n + k := ⟨i - n, by omega⟩
        rw [Nat.add_sub_cancel_left]
        unfold fdW
        by_cases k4 : k < 4
        · rw [if_pos k4, show k % 4 = k by omega, e2 _ (by omega), d2 _ (by omega), c2 _ (by omega), b2 _ (by omega)]; exact a1 k k4
        · rw [if_neg k4]
          by_cases k8 : k < 8
          · rw [if_pos k8, e2 _ (by omega), d2 _ (by omega), c2 _ (by omega)]
            have := b1 (k - 4) (by omega)
            rwa [show n + 4 + (k - 4) = n + k by omega, show k - 4 = k % 4 by omega] at this
          · rw [if_neg k8]
            by_cases k12 : k < 12
            · rw [if_pos k12, e2 _ (by omega), d2 _ (by omega)]
              have := c1 (k - 8) (by omega)
              rwa [show n + 8 + (k - 8) = n + k by omega, show k - 8 = k % 4 by omega] at this
            · rw [if_neg k12]
              by_cases k16 : k < 16
              · rw [if_pos k16, e2 _ (by omega)]
                have := d1 (k - 12) (by omega)
                rwa [show n + 12 + (k - 12) = n + k by omega, show k - 12 = k % 4 by omega] at this
              · rw [if_neg k16]
                have := e1 (k - 16) (by omega)
                rwa [show n + 16 + (k - 16) = n + k by omega, show k - 16 = k % 4 by omega] at this
    refine a_aload_n (i := 0) dX11_feed_0 rfl rfl ?_
    refine gX11_14 rfl dX11_feed_1 (isLH_0 hD) ?_
    refine gX11_68 rfl dX11_feed_4 (isRd_0 hD) ?_
    refine a_astore (i := 6) dX11_feed_7 (by decide) ?_
    refine a_aload (i := 6) dX11_feed_9 rfl ?_
    refine gX11_72 rfl dX11_feed_11 (isTp_0 hD) ?_
    rw [h.1]
    refine a_bipush (v := 20) dX11_feed_14 (by decide) ?_
    refine a_iadd dX11_feed_16 ?_
    rw [e20]
    refine a_sipush (v := 700) dX11_feed_17 (by decide) ?_
    refine a_icmp_le (tg := 25) dX11_feed_20 (by decide) (fun c_20 => ?_) (fun c_20 => ?_)
    · refine a_aload (i := 6) dX11_feed_25 rfl ?_
      refine a_iload_n (i := 1) dX11_feed_27 rfl rfl ?_
      refine kgX11_78 rfl dX11_feed_28 (Nat.le_of_ble_eq_true rfl) (isTp_0 hD) (c_X7_append (S := n) hD h.1 (by omega)) ?_
      rintro v y1 ⟨rfl, k1⟩
      refine a_aload (i := 6) dX11_feed_31 rfl ?_
      refine a_iload_n (i := 2) dX11_feed_33 rfl rfl ?_
      refine kgX11_78 rfl dX11_feed_34 (Nat.le_of_ble_eq_true rfl) (isTp_0 hD) (c_X7_append (S := n + 4) hD k1.1 (by omega)) ?_
      rintro v y2 ⟨rfl, k2⟩
      refine a_aload (i := 6) dX11_feed_37 rfl ?_
      refine a_iload_n (i := 3) dX11_feed_39 rfl rfl ?_
      refine kgX11_78 rfl dX11_feed_40 (Nat.le_of_ble_eq_true rfl) (isTp_0 hD) (c_X7_append (S := n + 8) hD k2.1 (by omega)) ?_
      rintro v y3 ⟨rfl, k3⟩
      refine a_aload (i := 6) dX11_feed_43 rfl ?_
      refine a_iload (i := 4) dX11_feed_45 rfl ?_
      refine kgX11_78 rfl dX11_feed_47 (Nat.le_of_ble_eq_true rfl) (isTp_0 hD) (c_X7_append (S := n + 12) hD k3.1 (by omega)) ?_
      rintro v y4 ⟨rfl, k4⟩
      refine a_aload (i := 6) dX11_feed_50 rfl ?_
      refine a_iload (i := 5) dX11_feed_52 rfl ?_
      refine kgX11_78 rfl dX11_feed_54 (Nat.le_of_ble_eq_true rfl) (isTp_0 hD) (c_X7_append (S := n + 16) hD k4.1 (by omega)) ?_
      rintro v y5 ⟨rfl, k5⟩
      obtain ⟨f0, f1, f2⟩ := K y1 y2 y3 y4 y5 k1 k2 k3 k4 k5
      refine a_aload (i := 6) dX11_feed_57 rfl ?_
      refine gX11_72 rfl dX11_feed_59 (isTp_0 hD) ?_
      rw [f0]
      exact a_iret dX11_feed_62 (by exact ⟨fun g => absurd q g, fun _ => ⟨rfl, f1, f2⟩⟩)
    · exact absurd (nI_le q (by decide)) c_20
  · refine a_aload_n (i := 0) dX11_feed_0 rfl rfl ?_
    refine gX11_14 rfl dX11_feed_1 (isLH_0 hD) ?_
    refine gX11_68 rfl dX11_feed_4 (isRd_0 hD) ?_
    refine a_astore (i := 6) dX11_feed_7 (by decide) ?_
    refine a_aload (i := 6) dX11_feed_9 rfl ?_
    refine gX11_72 rfl dX11_feed_11 (isTp_0 hD) ?_
    rw [h.1]
    refine a_bipush (v := 20) dX11_feed_14 (by decide) ?_
    refine a_iadd dX11_feed_16 ?_
    rw [e20]
    refine a_sipush (v := 700) dX11_feed_17 (by decide) ?_
    refine a_icmp_le (tg := 25) dX11_feed_20 (by decide) (fun c_20 => ?_) (fun c_20 => ?_)
    · exact absurd ((nI_leI (a := n + 20) (b := 700) (by omega) (by decide)).mp c_20) q
    · refine a_iconst (v := (-1)) dX11_feed_23 (by decide) ?_
      exact a_iret dX11_feed_24 (by exact ⟨fun _ => ⟨rfl, rfl⟩, fun g => absurd g q⟩)
theorem fd_sh : ∀ k, k < 20 → (24 : Int32) - 8 * (nI k - nI k / 4 * 4) = nI (24 - 8 * (k % 4)) := by decide +kernel
set_option maxHeartbeats 4000000 in
set_option maxRecDepth 100000 in
theorem c_X12_feed {a b c e f : Int32} (hM : D 12 = true) (h : rTm n B x) (hn : n ≤ 700) : aCt l mX12_feed d D [.ref bM, .int a, .int b, .int c, .int e, .int f] x (fun v y => (¬ n + 20 ≤ 700 → v = some (.int (-1)) ∧ y = aWr x bM 2 0) ∧ (n + 20 ≤ 700 → v = some (.int (nI (n + 20))) ∧ rTm (n + 20) (fdB n B a b c e f) y ∧ mTp x y)) := by
  have h0 : rTm n B (aWr x bM 2 0) := ⟨by rw [aWr_j _ _ _ (by decide)]; exact h.1, fun i hi => by rw [aWr_n _ _ _ (by decide)]; exact h.2 i hi⟩
  have F0 : mTp x (aWr x bM 2 0) := ⟨fun n j _ g => aWr_o _ _ (fun e => g ⟨e.1, Or.inr e.2⟩), rfl⟩
  have e20 : nI n + 20 = nI (n + 20) := nI_add n 20
  refine a_met (by decide) (Nat.le_of_ble_eq_true rfl) (fun v y q => Or.inl ⟨rfl, by by_cases g : n + 20 ≤ 700; exact ⟨_, (q.2 g).1⟩; exact ⟨_, (q.1 g).1⟩⟩) ?_
  refine a_aload_n (i := 0) dX12_feed_0 rfl rfl ?_
  refine a_iconst (v := 0) dX12_feed_1 (by decide) ?_
  refine pX12_175 rfl dX12_feed_2 (isM_0 hM) ?_
  refine a_loc [(0, .ref bM), (1, .int a), (2, .int b), (3, .int c), (4, .int e), (5, .int f)] rfl ?_
  generalize aWr x bM 2 0 = X at *
  by_cases q : n + 20 ≤ 700
  · have L : ∀ (g k : Nat), k + g = 20 → ∀ y : aS, (∀ i, i < n + k → y.1 (bM + 1) i = nI (fdB n B a b c e f i)) → (∀ m, m ≠ bM + 1 → y.1 m = X.1 m) → y.2 = X.2 → aV l mX12_feed d D none 23 [(0, .ref bM), (1, .int a), (2, .int b), (3, .int c), (4, .int e), (5, .int f), (6, .int (nI k))] [] y (fun v y => v = some (.int (nI (n + 20))) ∧ rTm (n + 20) (fdB n B a b c e f) y ∧ mTp x y) := by
      intro g
      induction g with
      | zero =>
        intro k hk y h1 h2 h3
        rw [Nat.add_zero] at hk
        subst hk
        have ey : y.1 bM 1 = nI n := by rw [h2 _ (by decide)]; exact h0.1
        have F : mTp x (aWr y bM 1 (nI (n + 20))) := ⟨fun m j g1 g2 => by rw [aWr_o _ _ (fun e => g2 ⟨e.1, Or.inl e.2⟩), h2 m g1]; exact F0.1 m j g1 g2, h3.trans F0.2⟩
        refine a_iload (i := 6) dX12_feed_23 rfl ?_
        refine a_bipush (v := 20) dX12_feed_25 (by decide) ?_
        refine a_icmp_ge (tg := 113) dX12_feed_27 (by decide) (fun c_27 => ?_) (fun c_27 => ?_)
        · refine a_aload_n (i := 0) dX12_feed_113 rfl rfl ?_
          refine a_dup dX12_feed_114 rfl ?_
          refine gX12_178 rfl dX12_feed_115 (isM_0 hM) ?_
          rw [ey]
          refine a_bipush (v := 20) dX12_feed_118 (by decide) ?_
          refine a_iadd dX12_feed_120 ?_
          rw [e20]
          refine pX12_178 rfl dX12_feed_121 (isM_0 hM) ?_
          refine a_aload_n (i := 0) dX12_feed_124 rfl rfl ?_
          refine gX12_178 rfl dX12_feed_125 (isM_0 hM) ?_
          rw [aWr_s]
          exact a_iret dX12_feed_128 (by exact ⟨rfl, ⟨aWr_s _ _ _ _, fun i hi => by rw [aWr_n _ _ _ (by decide)]; exact h1 i hi⟩, F⟩)
        · exact absurd (Int32.le_refl _) c_27
      | succ g ih =>
        intro k hk y h1 h2 h3
        have ey : y.1 bM 1 = nI n := by rw [h2 _ (by decide)]; exact h0.1
        have T : ∀ w, w = fdW a b c e f k → aV l mX12_feed d D none 78 [(0, .ref bM), (1, .int a), (2, .int b), (3, .int c), (4, .int e), (5, .int f), (6, .int (nI k)), (7, .int w)] [] y (fun v y => v = some (.int (nI (n + 20))) ∧ rTm (n + 20) (fdB n B a b c e f) y ∧ mTp x y) := by
          intro w hw
          have ew : w >>> (nI (24 - 8 * (k % 4)) &&& 31) &&& 255 = nI (fdB n B a b c e f (n + k)) := by
            rw [(byt_ok w _).1]
            unfold fdB
            rw [if_neg (by omega), Nat.add_sub_cancel_left, hw]
          have ih2 := ih (k + 1) (by omega) (aWr y (bM + 1) (n + k) (nI (fdB n B a b c e f (n + k)))) (fun i hi => by
            by_cases e : i = n + k
            · subst e; rw [aWr_s]
            · rw [aWr_j _ _ _ e]; exact h1 i (by omega)) (fun m hm => by rw [aWr_n _ _ _ hm, h2 m hm]) h3
          refine a_aload_n (i := 0) dX12_feed_78 rfl rfl ?_
          refine gX12_7 rfl dX12_feed_79 (isM_0 hM) ?_
          refine a_aload_n (i := 0) dX12_feed_82 rfl rfl ?_
          refine gX12_178 rfl dX12_feed_83 (isM_0 hM) ?_
          rw [ey]
          refine a_iload (i := 6) dX12_feed_86 rfl ?_
          refine a_iadd dX12_feed_88 ?_
          rw [nI_add]
          refine a_iload (i := 7) dX12_feed_89 rfl ?_
          refine a_bipush (v := 24) dX12_feed_91 (by decide) ?_
          refine a_bipush (v := 8) dX12_feed_93 (by decide) ?_
          refine a_iload (i := 6) dX12_feed_95 rfl ?_
          refine a_iconst (v := 4) dX12_feed_97 (by decide) ?_
          refine a_irem dX12_feed_98 (by decide) ?_
          refine a_imul dX12_feed_99 ?_
          refine a_isub dX12_feed_100 ?_
          rw [fd_sh k (by omega)]
          refine a_ishr dX12_feed_101 ?_
          refine a_sipush (v := 255) dX12_feed_102 (by decide) ?_
          refine a_iand dX12_feed_105 ?_
          rw [ew]
          refine a_iastN dX12_feed_106 (isM_1 hM) (by first | with_reducible exact rfl | with_reducible exact ix8 _ _ | with_reducible exact ix12 _ _ | exact rfl) (by omega) (by decide) ?_
          refine a_iincK (i := 6) (u := 1) dX12_feed_107 rfl (by decide) (by decide) ?_
          refine a_goto (tg := 23) dX12_feed_110 (by decide) ?_
          rw [nI_1]; exact a_loc _ rfl ih2
        by_cases k4 : k < 4
        · refine a_iload (i := 6) dX12_feed_23 rfl ?_
          refine a_bipush (v := 20) dX12_feed_25 (by decide) ?_
          refine a_icmp_ge (tg := 113) dX12_feed_27 (by decide) (fun c_27 => ?_) (fun c_27 => ?_)
          · exact absurd c_27 (nI_ge (show k < 20 by omega) (by decide))
          · refine a_iload (i := 6) dX12_feed_30 rfl ?_
            refine a_iconst (v := 4) dX12_feed_32 (by decide) ?_
            refine a_icmp_ge (tg := 40) dX12_feed_33 (by decide) (fun c_33 => ?_) (fun c_33 => ?_)
            · exact absurd c_33 (nI_ge k4 (by decide))
            · refine a_iload_n (i := 1) dX12_feed_36 rfl rfl ?_
              refine a_goto (tg := 76) dX12_feed_37 (by decide) ?_
              refine a_istore (i := 7) dX12_feed_76 (by decide) ?_
              exact a_loc _ rfl (T a (if_pos k4).symm)
        · by_cases k8 : k < 8
          · refine a_iload (i := 6) dX12_feed_23 rfl ?_
            refine a_bipush (v := 20) dX12_feed_25 (by decide) ?_
            refine a_icmp_ge (tg := 113) dX12_feed_27 (by decide) (fun c_27 => ?_) (fun c_27 => ?_)
            · exact absurd c_27 (nI_ge (show k < 20 by omega) (by decide))
            · refine a_iload (i := 6) dX12_feed_30 rfl ?_
              refine a_iconst (v := 4) dX12_feed_32 (by decide) ?_
              refine a_icmp_ge (tg := 40) dX12_feed_33 (by decide) (fun c_33 => ?_) (fun c_33 => ?_)
              · refine a_iload (i := 6) dX12_feed_40 rfl ?_
                refine a_bipush (v := 8) dX12_feed_42 (by decide) ?_
                refine a_icmp_ge (tg := 51) dX12_feed_44 (by decide) (fun c_44 => ?_) (fun c_44 => ?_)
                · exact absurd c_44 (nI_ge k8 (by decide))
                · refine a_iload_n (i := 2) dX12_feed_47 rfl rfl ?_
                  refine a_goto (tg := 76) dX12_feed_48 (by decide) ?_
                  refine a_istore (i := 7) dX12_feed_76 (by decide) ?_
                  exact a_loc _ rfl (T b (by unfold fdW; rw [if_neg k4, if_pos k8]))
              · exact absurd (nI_le (show 4 ≤ k by omega) (by omega)) c_33
          · by_cases k12 : k < 12
            · refine a_iload (i := 6) dX12_feed_23 rfl ?_
              refine a_bipush (v := 20) dX12_feed_25 (by decide) ?_
              refine a_icmp_ge (tg := 113) dX12_feed_27 (by decide) (fun c_27 => ?_) (fun c_27 => ?_)
              · exact absurd c_27 (nI_ge (show k < 20 by omega) (by decide))
              · refine a_iload (i := 6) dX12_feed_30 rfl ?_
                refine a_iconst (v := 4) dX12_feed_32 (by decide) ?_
                refine a_icmp_ge (tg := 40) dX12_feed_33 (by decide) (fun c_33 => ?_) (fun c_33 => ?_)
                · refine a_iload (i := 6) dX12_feed_40 rfl ?_
                  refine a_bipush (v := 8) dX12_feed_42 (by decide) ?_
                  refine a_icmp_ge (tg := 51) dX12_feed_44 (by decide) (fun c_44 => ?_) (fun c_44 => ?_)
                  · refine a_iload (i := 6) dX12_feed_51 rfl ?_
                    refine a_bipush (v := 12) dX12_feed_53 (by decide) ?_
                    refine a_icmp_ge (tg := 62) dX12_feed_55 (by decide) (fun c_55 => ?_) (fun c_55 => ?_)
                    · exact absurd c_55 (nI_ge k12 (by decide))
                    · refine a_iload_n (i := 3) dX12_feed_58 rfl rfl ?_
                      refine a_goto (tg := 76) dX12_feed_59 (by decide) ?_
                      refine a_istore (i := 7) dX12_feed_76 (by decide) ?_
                      exact a_loc _ rfl (T c (by unfold fdW; rw [if_neg k4, if_neg k8, if_pos k12]))
                  · exact absurd (nI_le (show 8 ≤ k by omega) (by omega)) c_44
                · exact absurd (nI_le (show 4 ≤ k by omega) (by omega)) c_33
            · by_cases k16 : k < 16
              · refine a_iload (i := 6) dX12_feed_23 rfl ?_
                refine a_bipush (v := 20) dX12_feed_25 (by decide) ?_
                refine a_icmp_ge (tg := 113) dX12_feed_27 (by decide) (fun c_27 => ?_) (fun c_27 => ?_)
                · exact absurd c_27 (nI_ge (show k < 20 by omega) (by decide))
                · refine a_iload (i := 6) dX12_feed_30 rfl ?_
                  refine a_iconst (v := 4) dX12_feed_32 (by decide) ?_
                  refine a_icmp_ge (tg := 40) dX12_feed_33 (by decide) (fun c_33 => ?_) (fun c_33 => ?_)
                  · refine a_iload (i := 6) dX12_feed_40 rfl ?_
                    refine a_bipush (v := 8) dX12_feed_42 (by decide) ?_
                    refine a_icmp_ge (tg := 51) dX12_feed_44 (by decide) (fun c_44 => ?_) (fun c_44 => ?_)
                    · refine a_iload (i := 6) dX12_feed_51 rfl ?_
                      refine a_bipush (v := 12) dX12_feed_53 (by decide) ?_
                      refine a_icmp_ge (tg := 62) dX12_feed_55 (by decide) (fun c_55 => ?_) (fun c_55 => ?_)
                      · refine a_iload (i := 6) dX12_feed_62 rfl ?_
                        refine a_bipush (v := 16) dX12_feed_64 (by decide) ?_
                        refine a_icmp_ge (tg := 74) dX12_feed_66 (by decide) (fun c_66 => ?_) (fun c_66 => ?_)
                        · exact absurd c_66 (nI_ge k16 (by decide))
                        · refine a_iload (i := 4) dX12_feed_69 rfl ?_
                          refine a_goto (tg := 76) dX12_feed_71 (by decide) ?_
                          refine a_istore (i := 7) dX12_feed_76 (by decide) ?_
                          exact a_loc _ rfl (T e (by unfold fdW; rw [if_neg k4, if_neg k8, if_neg k12, if_pos k16]))
                      · exact absurd (nI_le (show 12 ≤ k by omega) (by omega)) c_55
                    · exact absurd (nI_le (show 8 ≤ k by omega) (by omega)) c_44
                  · exact absurd (nI_le (show 4 ≤ k by omega) (by omega)) c_33
              · refine a_iload (i := 6) dX12_feed_23 rfl ?_
                refine a_bipush (v := 20) dX12_feed_25 (by decide) ?_
                refine a_icmp_ge (tg := 113) dX12_feed_27 (by decide) (fun c_27 => ?_) (fun c_27 => ?_)
                · exact absurd c_27 (nI_ge (show k < 20 by omega) (by decide))
                · refine a_iload (i := 6) dX12_feed_30 rfl ?_
                  refine a_iconst (v := 4) dX12_feed_32 (by decide) ?_
                  refine a_icmp_ge (tg := 40) dX12_feed_33 (by decide) (fun c_33 => ?_) (fun c_33 => ?_)
                  · refine a_iload (i := 6) dX12_feed_40 rfl ?_
                    refine a_bipush (v := 8) dX12_feed_42 (by decide) ?_
                    refine a_icmp_ge (tg := 51) dX12_feed_44 (by decide) (fun c_44 => ?_) (fun c_44 => ?_)
                    · refine a_iload (i := 6) dX12_feed_51 rfl ?_
                      refine a_bipush (v := 12) dX12_feed_53 (by decide) ?_
                      refine a_icmp_ge (tg := 62) dX12_feed_55 (by decide) (fun c_55 => ?_) (fun c_55 => ?_)
                      · refine a_iload (i := 6) dX12_feed_62 rfl ?_
                        refine a_bipush (v := 16) dX12_feed_64 (by decide) ?_
                        refine a_icmp_ge (tg := 74) dX12_feed_66 (by decide) (fun c_66 => ?_) (fun c_66 => ?_)
                        · refine a_iload (i := 5) dX12_feed_74 rfl ?_
                          refine a_istore (i := 7) dX12_feed_76 (by decide) ?_
                          exact a_loc _ rfl (T f (by unfold fdW; rw [if_neg k4, if_neg k8, if_neg k12, if_neg k16]))
                        · exact absurd (nI_le (show 16 ≤ k by omega) (by omega)) c_66
                      · exact absurd (nI_le (show 12 ≤ k by omega) (by omega)) c_55
                    · exact absurd (nI_le (show 8 ≤ k by omega) (by omega)) c_44
                  · exact absurd (nI_le (show 4 ≤ k by omega) (by omega)) c_33
    have L0 := L 20 0 rfl X (fun i hi => by unfold fdB; rw [if_pos (by omega)]; exact h0.2 i (by omega)) (fun _ _ => rfl) rfl
    refine a_aload_n (i := 0) dX12_feed_5 rfl rfl ?_
    refine gX12_178 rfl dX12_feed_6 (isM_0 hM) ?_
    rw [h0.1]
    refine a_bipush (v := 20) dX12_feed_9 (by decide) ?_
    refine a_iadd dX12_feed_11 ?_
    rw [e20]
    refine a_sipush (v := 700) dX12_feed_12 (by decide) ?_
    refine a_icmp_le (tg := 20) dX12_feed_15 (by decide) (fun c_15 => ?_) (fun c_15 => ?_)
    · refine a_iconst (v := 0) dX12_feed_20 (by decide) ?_
      refine a_istore (i := 6) dX12_feed_21 (by decide) ?_
      exact a_loc _ rfl (a_wk L0 (fun v y g => ⟨fun c => absurd q c, fun _ => g⟩))
    · exact absurd (nI_le q (by decide)) c_15
  · refine a_aload_n (i := 0) dX12_feed_5 rfl rfl ?_
    refine gX12_178 rfl dX12_feed_6 (isM_0 hM) ?_
    rw [h0.1]
    refine a_bipush (v := 20) dX12_feed_9 (by decide) ?_
    refine a_iadd dX12_feed_11 ?_
    rw [e20]
    refine a_sipush (v := 700) dX12_feed_12 (by decide) ?_
    refine a_icmp_le (tg := 20) dX12_feed_15 (by decide) (fun c_15 => ?_) (fun c_15 => ?_)
    · exact absurd ((nI_leI (a := n + 20) (b := 700) (by omega) (by decide)).mp c_15) q
    · refine a_iconst (v := (-1)) dX12_feed_18 (by decide) ?_
      exact a_iret dX12_feed_19 (by exact ⟨fun _ => ⟨rfl, rfl⟩, fun g => absurd g q⟩)
end qAC
