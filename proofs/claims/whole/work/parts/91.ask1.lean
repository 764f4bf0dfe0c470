/-! ask: the class -/
section qZ
variable {l : Launch} {d : Nat} {D : Nat → Bool} {T : zT} {W : Nat → zL} {Z : zS} {t : Nat} {x : aS} {p : Nat × zG} {c : Nat → Bool} {K : Nat}
/-- how many corns one has behind n years, with that bump at first -/
def zCN (T : zT) (W : Nat → zL) (n m k : Nat) : Nat := ((zYears T W 5 n (zB0 T m k)).1 4 m).toNatClampNeg
theorem zCN_ok {n m k : Nat} (hm : m < T.1 1) : (zYears T W 5 n (zB0 T m k)).1 4 m = nI (zCN T W n m k) ∧ zCN T W n m k ≤ 999 := by
  obtain ⟨c, hc, e⟩ := zCo_years (T := T) (W := W) (way := 5) (n := n) (zCo_0 (m := m) (b := k)) m hm
  unfold zCN
  rw [e, nI_clamp (by omega)]
  exact ⟨rfl, hc⟩
theorem cF_rk {y : aS} {j : Nat} {v : Int32} (h : cF x y) : cF x (aWr y (bRk + 3) j v) := cF_t h (cF_w (Or.inr (Or.inr (by decide))))
set_option maxHeartbeats 4000000 in
set_option maxRecDepth 100000 in
theorem c_X11_countByCorns {m n : Nat} {B : Nat → Bool} (hD : aDC D) (h : cT T W x t) (hm : m < T.1 1) (hn : n ≤ 60) : aCt l mX11_countByCorns (d + 6) D [.ref bLH, .int (nI m), .int (nI n), .int (nI (bN B 21))] x (fun v y => v = some (.int (nI (cn B 21))) ∧ (∀ c, c < 61 → y.1 (bRk + 3) c = nI (cn (fun k => B k && decide (min (zCN T W n m k) 60 = c)) 21)) ∧ cF x y) := by
  have hh := h
  obtain ⟨ht, hp, tk, hT, hW⟩ := h
  have h6 := tk.1
  have h8 := tk.2.1
  have bl := bN_lt B 21
  have b31 : bN B 21 < 2 ^ 31 := Nat.lt_of_lt_of_le bl (by decide)
  have cTF : ∀ y, cF x y → cT T W y t := fun y hF => by
    have et : ∀ k, k < 256 → y.1 (t + k) = x.1 (t + k) := fun k hk => (hF _ (by rcases ht with rfl | rfl <;> omega) (by rcases ht with rfl | rfl <;> omega) (by rcases ht with rfl | rfl <;> omega)).1
    exact ⟨ht, by rw [(hF bLH (by decide) (by decide) (by decide)).1]; exact hp, tk, rT_same et tk hT, rW_same et hW⟩
  refine a_met (by decide) (Nat.le_of_ble_eq_true rfl) (fun v y q => Or.inl ⟨rfl, _, q.1⟩) ?_
  have L : ∀ (f k : Nat), k + f = 21 → ∀ y : aS, cF x y → (∀ c, c < 61 → y.1 (bRk + 3) c = nI (cn (fun k => B k && decide (min (zCN T W n m k) 60 = c)) k)) → aV l mX11_countByCorns (d + 6) D none 21 [(0, .ref bLH), (1, .int (nI m)), (2, .int (nI n)), (3, .int (nI (bN B 21))), (4, .ref (bRk + 3)), (5, .int (nI (cn B k))), (6, .int (nI k))] [] y (fun v y => v = some (.int (nI (cn B 21))) ∧ (∀ c, c < 61 → y.1 (bRk + 3) c = nI (cn (fun k => B k && decide (min (zCN T W n m k) 60 = c)) 21)) ∧ cF x y) := by
    intro f
    induction f with
    | zero =>
      intro k hk y hF hr
      rw [Nat.add_zero] at hk
      subst hk
      refine a_iload (i := 6) dX11_countByCorns_21 rfl ?_
      refine a_bipush (v := 20) dX11_countByCorns_23 (by decide) ?_
      refine a_icmp_gt (tg := 96) dX11_countByCorns_25 (by decide) (fun c_25 => ?_) (fun c_25 => ?_)
      · refine a_iload (i := 5) dX11_countByCorns_96 rfl ?_
        exact a_iret dX11_countByCorns_98 (by exact ⟨rfl, hr, hF⟩)
      · exact absurd (by decide) c_25
    | succ f ih =>
      intro k hk y hF hr
      have tb : (bN B 21).testBit k = B k := by rw [bN_tb, decide_eq_true (by omega)]; rfl
      have s1 := sh1_t (n := bN B 21) (k := k) b31 (by omega)
      rw [tb] at s1
      have ih2 := ih (k + 1) (by omega)
      cases hb : B k with
      | false =>
        have e1 : cn B (k + 1) = cn B k := by show cn B k + (if B k = true then 1 else 0) = _; rw [hb]; rfl
        rw [e1] at ih2
        have ih3 := ih2 y hF (fun c hc => by
          rw [hr c hc]
          show _ = nI (cn _ k + (if (B k && decide (min (zCN T W n m k) 60 = c)) = true then 1 else 0))
          rw [hb]; rfl)
        refine a_iload (i := 6) dX11_countByCorns_21 rfl ?_
        refine a_bipush (v := 20) dX11_countByCorns_23 (by decide) ?_
        refine a_icmp_gt (tg := 96) dX11_countByCorns_25 (by decide) (fun c_25 => ?_) (fun c_25 => ?_)
        · exact absurd c_25 (nI_nlt (show k ≤ 20 by omega) (by decide))
        · refine a_iload_n (i := 3) dX11_countByCorns_28 rfl rfl ?_
          refine a_iload (i := 6) dX11_countByCorns_29 rfl ?_
          refine a_ishr dX11_countByCorns_31 ?_
          refine a_iconst (v := 1) dX11_countByCorns_32 (by decide) ?_
          refine a_iand dX11_countByCorns_33 ?_
          refine a_iconst (v := 1) dX11_countByCorns_34 (by decide) ?_
          refine a_icmp_ne (tg := 90) dX11_countByCorns_35 (by decide) (fun c_35 => ?_) (fun c_35 => ?_)
          · refine a_iincK (i := 6) (u := 1) dX11_countByCorns_90 rfl (by decide) (by decide) ?_
            refine a_goto (tg := 21) dX11_countByCorns_93 (by decide) ?_
            rw [nI_1]; exact a_loc _ rfl ih3
          · exact absurd (s1.mp c_35) (by rw [hb]; decide)
      | true =>
        have e1 : cn B (k + 1) = cn B k + 1 := by show cn B k + (if B k = true then 1 else 0) = _; rw [hb]; rfl
        rw [e1] at ih2
        obtain ⟨_, hpy, _, hTy, hWy⟩ := cTF y hF
        obtain ⟨S0, F0⟩ := begin_b (m := m) (b := k) (cTF y hF)
        have hc := c_X11_runTrial (l := l) (d := d) (D := D) (n := n) (way := 5) hD (cT_y hbTr F0 (cTF y hF)) (zOk_0 tk) S0 (by decide) (by omega)
        obtain ⟨C1, C2⟩ := zCN_ok (T := T) (W := W) (n := n) (m := m) (k := k) hm
        have em : jmin (nI (zCN T W n m k)) (nI 60) = nI (min (zCN T W n m k) 60) := jmin_n (by omega) (by decide)
        unfold jmin at em
        have mlt : min (zCN T W n m k) 60 < 61 := by omega
        have G : ∀ z : aS, rS T (zYears T W 5 n (zB0 T m k)) z bTr → aFy bTr y z → aV l mX11_countByCorns (d + 6) D none 66 [(0, .ref bLH), (1, .int (nI m)), (2, .int (nI n)), (3, .int (nI (bN B 21))), (4, .ref (bRk + 3)), (5, .int (nI (cn B k))), (6, .int (nI k))] [] z (fun v y => v = some (.int (nI (cn B 21))) ∧ (∀ c, c < 61 → y.1 (bRk + 3) c = nI (cn (fun k => B k && decide (min (zCN T W n m k) 60 = c)) 21)) ∧ cF x y) := by
          intro z hSz hFz
          have ec := (hSz.2.2.2 m hm).2.2
          rw [C1] at ec
          have er : z.1 (bRk + 3) (min (zCN T W n m k) 60) = nI (cn (fun k' => B k' && decide (min (zCN T W n m k') 60 = min (zCN T W n m k) 60)) k) := by rw [(hFz _ (by decide) (by decide)).1]; exact hr _ mlt
          have ih3 := ih2 (aWr z (bRk + 3) (min (zCN T W n m k) 60) (nI (cn (fun k' => B k' && decide (min (zCN T W n m k') 60 = min (zCN T W n m k) 60)) k + 1))) (cF_rk (cF_t hF (cF_y hFz))) (fun c hc => by
            by_cases e : c = min (zCN T W n m k) 60
            · subst e
              rw [aWr_s]
              show _ = nI (cn _ k + (if (B k && decide (min (zCN T W n m k) 60 = min (zCN T W n m k) 60)) = true then 1 else 0))
              rw [hb, decide_eq_true rfl]; rfl
            · rw [aWr_j _ _ _ e, (hFz _ (by decide) (by decide)).1, hr c hc]
              show _ = nI (cn _ k + (if (B k && decide (min (zCN T W n m k) 60 = c)) = true then 1 else 0))
              rw [decide_eq_false (fun g => e g.symm), Bool.and_false]; rfl)
          have e5 : nI (cn B k) + 1 = nI (cn B k + 1) := nI_1 _
          refine a_aload (i := 4) dX11_countByCorns_66 rfl ?_
          refine a_aload_n (i := 0) dX11_countByCorns_68 rfl rfl ?_
          refine gX11_37 rfl dX11_countByCorns_69 (isLH_0 hD) ?_
          refine gX11_147 rfl dX11_countByCorns_72 (isS_0 hD hbTr) ?_
          refine a_iload_n (i := 1) dX11_countByCorns_75 rfl rfl ?_
          refine a_ialdN dX11_countByCorns_76 (isS_12 hD hbTr) (by first | with_reducible exact rfl | with_reducible exact ix8 _ _ | with_reducible exact ix12 _ _ | exact rfl) (by omega) (by decide) ?_
          rw [ec]
          refine a_bipush (v := 60) dX11_countByCorns_77 (by decide) ?_
          refine kX11_304 rfl dX11_countByCorns_79 (Nat.le_of_ble_eq_true rfl) ?_
          rw [show (60 : Int32) = nI 60 from rfl, em]
          refine a_dup2_11 dX11_countByCorns_82 rfl rfl ?_
          refine a_ialdN dX11_countByCorns_83 (isRk_3 hD) (by first | with_reducible exact rfl | with_reducible exact ix8 _ _ | with_reducible exact ix12 _ _ | exact rfl) (by omega) (by decide) ?_
          rw [er]
          refine a_iconst (v := 1) dX11_countByCorns_84 (by decide) ?_
          refine a_iadd dX11_countByCorns_85 ?_
          rw [nI_1]
          refine a_iastN dX11_countByCorns_86 (isRk_3 hD) (by first | with_reducible exact rfl | with_reducible exact ix8 _ _ | with_reducible exact ix12 _ _ | exact rfl) (by omega) (by decide) ?_
          refine a_iincK (i := 5) (u := 1) dX11_countByCorns_87 rfl (by decide) (by decide) ?_
          rw [e5]
          refine a_iincK (i := 6) (u := 1) dX11_countByCorns_90 rfl (by decide) (by decide) ?_
          refine a_goto (tg := 21) dX11_countByCorns_93 (by decide) ?_
          rw [nI_1 k]; exact a_loc _ rfl ih3
        refine a_iload (i := 6) dX11_countByCorns_21 rfl ?_
        refine a_bipush (v := 20) dX11_countByCorns_23 (by decide) ?_
        refine a_icmp_gt (tg := 96) dX11_countByCorns_25 (by decide) (fun c_25 => ?_) (fun c_25 => ?_)
        · exact absurd c_25 (nI_nlt (show k ≤ 20 by omega) (by decide))
        · refine a_iload_n (i := 3) dX11_countByCorns_28 rfl rfl ?_
          refine a_iload (i := 6) dX11_countByCorns_29 rfl ?_
          refine a_ishr dX11_countByCorns_31 ?_
          refine a_iconst (v := 1) dX11_countByCorns_32 (by decide) ?_
          refine a_iand dX11_countByCorns_33 ?_
          refine a_iconst (v := 1) dX11_countByCorns_34 (by decide) ?_
          refine a_icmp_ne (tg := 90) dX11_countByCorns_35 (by decide) (fun c_35 => ?_) (fun c_35 => ?_)
          · exact absurd (s1.mpr hb) c_35
          · refine a_aload_n (i := 0) dX11_countByCorns_38 rfl rfl ?_
            refine gX11_37 rfl dX11_countByCorns_39 (isLH_0 hD) ?_
            refine a_aload_n (i := 0) dX11_countByCorns_42 rfl rfl ?_
            refine gX11_23 rfl dX11_countByCorns_43 (isLH_0 hD) ?_
            rw [hpy]
            refine kX11_87 rfl dX11_countByCorns_46 (Nat.le_of_ble_eq_true rfl) (isS_0 hD hbTr) (c_X6_begin hD hbTr ht hTy.1 h6 hTy.2.1 h8) ?_
            refine a_aload_n (i := 0) dX11_countByCorns_49 rfl rfl ?_
            refine gX11_37 rfl dX11_countByCorns_50 (isLH_0 hD) ?_
            refine gX11_144 rfl dX11_countByCorns_53 (isS_0 hD hbTr) ?_
            refine a_iload_n (i := 1) dX11_countByCorns_56 rfl rfl ?_
            refine a_iload (i := 6) dX11_countByCorns_57 rfl ?_
            refine a_iastN dX11_countByCorns_59 (isS_11 hD hbTr) (by first | with_reducible exact rfl | with_reducible exact ix8 _ _ | with_reducible exact ix12 _ _ | exact rfl) (by omega) (by decide) ?_
            refine a_aload_n (i := 0) dX11_countByCorns_60 rfl rfl ?_
            refine a_iload_n (i := 2) dX11_countByCorns_61 rfl rfl ?_
            refine a_iconst (v := 5) dX11_countByCorns_62 (by decide) ?_
            refine kgX11_276 rfl dX11_countByCorns_63 (Nat.le_of_ble_eq_true rfl) (isLH_0 hD) (hc) ?_
            rintro v z ⟨rfl, hSz, hZz, hFz⟩
            exact a_loc _ rfl (G z hSz (aFy_t F0 hFz))
  refine a_aload_n (i := 0) dX11_countByCorns_0 rfl rfl ?_
  refine gX11_64 rfl dX11_countByCorns_1 (isLH_0 hD) ?_
  refine gX11_360 rfl dX11_countByCorns_4 (isRk_0 hD) ?_
  refine a_astore (i := 4) dX11_countByCorns_7 (by decide) ?_
  refine a_aload (i := 4) dX11_countByCorns_9 rfl ?_
  refine a_iconst (v := 0) dX11_countByCorns_11 (by decide) ?_
  refine kgX11_369 rfl dX11_countByCorns_12 (Nat.le_of_ble_eq_true rfl) (c_J7_fill (isRk_3 hD) (by decide)) ?_
  rintro v y ⟨rfl, y1, y2, y3⟩
  refine a_iconst (v := 0) dX11_countByCorns_15 (by decide) ?_
  refine a_istore (i := 5) dX11_countByCorns_16 (by decide) ?_
  refine a_iconst (v := 0) dX11_countByCorns_18 (by decide) ?_
  refine a_istore (i := 6) dX11_countByCorns_19 (by decide) ?_
  exact a_loc _ rfl (L 21 0 rfl y (fun n _ _ c => ⟨y2 n (fun e => c (by rw [e]; decide)), by rw [y3]⟩) (fun c hc => y1 c hc))
abbrev zAkC (T : zT) (a n w : Int32) : Prop := zIn (T.1 1) a ∧ (1 ≤ n ∧ n ≤ 60) ∧ (w = 0 ∨ w = 1)
def qAsks (T : zT) (W : Nat → zL) (p : Nat × zG) (K : Nat) (a n w : Int32) : Int32 := if zAkC T a n w then qAsk (zFit T W p (zCt p K) a.toNatClampNeg) (zCN T W n.toNatClampNeg a.toNatClampNeg) w else -1
theorem cFs_F {y : aS} (h : cF x y) : cFs x y := fun n a b c _ => h n a b c
set_option maxHeartbeats 4000000 in
set_option maxRecDepth 100000 in
theorem c_X11_ask {a n w k : Int32} (hD : aDC D) (h : cR T W Z x t) (ok : sgOk T p) (hg : rG p x) (hk : x.1 bSn 1 = k) (hK : (if k = -1 then nI p.1 else k) = nI K) (hKp : K ≤ p.1) : aCt l mX11_ask (d + 7) D [.ref bLH, .int a, .int n, .int w] x (fun v y => v = some (.int (qAsks T W p K a n w)) ∧ cFs x y) := by
  have hh := h
  obtain ⟨ht, hp, tk, hZ, hT, hW, hS⟩ := h
  have h8 := tk.2.1
  refine a_met (by decide) (Nat.le_of_ble_eq_true rfl) (fun v y q => Or.inl ⟨rfl, _, q.1⟩) ?_
  unfold qAsks
  by_cases q : zAkC T a n w
  · rw [if_pos q]
    obtain ⟨q1, q2, q3⟩ := q
    obtain ⟨A, hA, rfl⟩ := zIn_of (by omega) q1
    obtain ⟨N, hN, hN0, rfl⟩ := y60_of q2
    rw [nI_clamp (by omega), nI_clamp (by omega)]
    have w2 : 0 ≤ w ∧ w ≤ 1 := zIn2.mpr q3
    generalize hB : zFit T W p (zCt p K) A = B
    generalize hC : zCN T W N A = C
    have L : ∀ (y : aS), (∀ c, c < 61 → y.1 (bRk + 3) c = nI (cn (fun k => B k && decide (min (C k) 60 = c)) 21)) → cFs x y → ∀ (f u : Nat), u + f = 61 → 2 ≤ u → ∀ (fw : Int32) (s : Nat × Nat), (u < 61 → fw = nI (aOut B C u)) → s.2 ≤ 21 → aV l mX11_ask (d + 7) D none 68 [(3, .int w), (4, .ref (bRk + 3)), (5, .int (nI (cn B 21))), (6, .int (nI s.1)), (7, .int (nI s.2)), (8, .int fw), (9, .int (nI u))] [] y (fun v y => v = some (.int (if w = 0 then nI (lp (aGo B C) u f s).1 else nI (lp (aGo B C) u f s).2)) ∧ cFs x y) := by
      intro y hr hF f
      induction f with
      | zero =>
        intro u hu u2 fw s hf hs
        rw [Nat.add_zero] at hu
        subst hu
        show aV _ _ _ _ _ _ _ _ _ (fun v y => v = some (.int (if w = 0 then nI s.1 else nI s.2)) ∧ cFs x y)
        refine a_iload (i := 9) dX11_ask_68 rfl ?_
        refine a_bipush (v := 60) dX11_ask_70 (by decide) ?_
        refine a_icmp_gt (tg := 124) dX11_ask_72 (by decide) (fun c_72 => ?_) (fun c_72 => ?_)
        · refine a_iload_n (i := 3) dX11_ask_124 rfl rfl ?_
          refine a_if_ne (tg := 133) dX11_ask_125 (by decide) (fun c_125 => ?_) (fun c_125 => ?_)
          · rw [if_neg c_125]
            refine a_iload (i := 7) dX11_ask_133 rfl ?_
            exact a_iret dX11_ask_135 (by exact ⟨rfl, hF⟩)
          · rw [if_pos c_125]
            refine a_iload (i := 6) dX11_ask_128 rfl ?_
            refine a_goto (tg := 135) dX11_ask_130 (by decide) ?_
            exact a_iret dX11_ask_135 (by exact ⟨rfl, hF⟩)
        · exact absurd (by decide) c_72
      | succ f ih =>
        intro u hu u2 fw s hf hs
        have hfw := hf (by omega)
        subst hfw
        have ss := aSum B C u
        have al := cn_le B 21
        have es : nI (cn B 21) - nI (aOut B C u) = nI (aYes B C u) := by rw [pk_sub (by omega)]; congr 1; omega
        have em : jmax (nI (aOut B C u)) (nI (aYes B C u)) = nI (aWst B C u) := by rw [jmax_n (by omega) (by omega), Nat.max_comm]; rfl
        unfold jmax at em
        have wl : aWst B C u ≤ 21 := by unfold aWst; omega
        have er := hr u (by omega)
        have n1 : ¬ nI u = 1 := fun g => absurd ((nI_eq (a := u) (b := 1) (by omega) (by decide)).mp g) (by omega)
        have fx : u + 1 < 61 → nI (aOut B C u) + nI (cn (fun k => B k && decide (min (C k) 60 = u)) 21) = nI (aOut B C (u + 1)) := fun g => by rw [nI_add, ← aOut_s (by omega)]
        show aV _ _ _ _ _ _ _ _ _ (fun v y => v = some (.int (if w = 0 then nI (lp (aGo B C) (u + 1) f (aGo B C u s)).1 else nI (lp (aGo B C) (u + 1) f (aGo B C u s)).2)) ∧ cFs x y)
        by_cases g : aWst B C u < s.2
        · rw [show aGo B C u s = (u, aWst B C u) from if_pos g]
          have ih2 := ih (u + 1) (by omega) (by omega) _ (u, aWst B C u) fx wl
          refine a_iload (i := 9) dX11_ask_68 rfl ?_
          refine a_bipush (v := 60) dX11_ask_70 (by decide) ?_
          refine a_icmp_gt (tg := 124) dX11_ask_72 (by decide) (fun c_72 => ?_) (fun c_72 => ?_)
          · exact absurd c_72 (nI_nlt (show u ≤ 60 by omega) (by decide))
          · refine a_iload (i := 8) dX11_ask_75 rfl ?_
            refine a_iload (i := 5) dX11_ask_77 rfl ?_
            refine a_iload (i := 8) dX11_ask_79 rfl ?_
            refine a_isub dX11_ask_81 ?_
            rw [es]
            refine kX11_366 rfl dX11_ask_82 (Nat.le_of_ble_eq_true rfl) ?_
            rw [em]
            refine a_istore (i := 10) dX11_ask_85 (by decide) ?_
            refine a_iload (i := 9) dX11_ask_87 rfl ?_
            refine a_iconst (v := 1) dX11_ask_89 (by decide) ?_
            refine a_icmp_eq (tg := 100) dX11_ask_90 (by decide) (fun c_90 => ?_) (fun c_90 => ?_)
            · exact absurd c_90 n1
            · refine a_iload (i := 10) dX11_ask_93 rfl ?_
              refine a_iload (i := 7) dX11_ask_95 rfl ?_
              refine a_icmp_ge (tg := 108) dX11_ask_97 (by decide) (fun c_97 => ?_) (fun c_97 => ?_)
              · exact absurd c_97 (nI_ge g (by omega))
              · refine a_iload (i := 9) dX11_ask_100 rfl ?_
                refine a_istore (i := 6) dX11_ask_102 (by decide) ?_
                refine a_iload (i := 10) dX11_ask_104 rfl ?_
                refine a_istore (i := 7) dX11_ask_106 (by decide) ?_
                refine a_iload (i := 8) dX11_ask_108 rfl ?_
                refine a_aload (i := 4) dX11_ask_110 rfl ?_
                refine a_iload (i := 9) dX11_ask_112 rfl ?_
                refine a_ialdN dX11_ask_114 (isRk_3 hD) (by first | with_reducible exact rfl | with_reducible exact ix8 _ _ | with_reducible exact ix12 _ _ | exact rfl) (by omega) (by decide) ?_
                rw [er]
                refine a_iadd dX11_ask_115 ?_
                refine a_istore (i := 8) dX11_ask_116 (by decide) ?_
                refine a_iincK (i := 9) (u := 1) dX11_ask_118 rfl (by decide) (by decide) ?_
                refine a_goto (tg := 68) dX11_ask_121 (by decide) ?_
                rw [nI_1 u]; exact a_loc _ rfl ih2
        · rw [show aGo B C u s = s from if_neg g]
          have ih2 := ih (u + 1) (by omega) (by omega) _ s fx hs
          refine a_iload (i := 9) dX11_ask_68 rfl ?_
          refine a_bipush (v := 60) dX11_ask_70 (by decide) ?_
          refine a_icmp_gt (tg := 124) dX11_ask_72 (by decide) (fun c_72 => ?_) (fun c_72 => ?_)
          · exact absurd c_72 (nI_nlt (show u ≤ 60 by omega) (by decide))
          · refine a_iload (i := 8) dX11_ask_75 rfl ?_
            refine a_iload (i := 5) dX11_ask_77 rfl ?_
            refine a_iload (i := 8) dX11_ask_79 rfl ?_
            refine a_isub dX11_ask_81 ?_
            rw [es]
            refine kX11_366 rfl dX11_ask_82 (Nat.le_of_ble_eq_true rfl) ?_
            rw [em]
            refine a_istore (i := 10) dX11_ask_85 (by decide) ?_
            refine a_iload (i := 9) dX11_ask_87 rfl ?_
            refine a_iconst (v := 1) dX11_ask_89 (by decide) ?_
            refine a_icmp_eq (tg := 100) dX11_ask_90 (by decide) (fun c_90 => ?_) (fun c_90 => ?_)
            · exact absurd c_90 n1
            · refine a_iload (i := 10) dX11_ask_93 rfl ?_
              refine a_iload (i := 7) dX11_ask_95 rfl ?_
              refine a_icmp_ge (tg := 108) dX11_ask_97 (by decide) (fun c_97 => ?_) (fun c_97 => ?_)
              · refine a_iload (i := 8) dX11_ask_108 rfl ?_
                refine a_aload (i := 4) dX11_ask_110 rfl ?_
                refine a_iload (i := 9) dX11_ask_112 rfl ?_
                refine a_ialdN dX11_ask_114 (isRk_3 hD) (by first | with_reducible exact rfl | with_reducible exact ix8 _ _ | with_reducible exact ix12 _ _ | exact rfl) (by omega) (by decide) ?_
                rw [er]
                refine a_iadd dX11_ask_115 ?_
                refine a_istore (i := 8) dX11_ask_116 (by decide) ?_
                refine a_iincK (i := 9) (u := 1) dX11_ask_118 rfl (by decide) (by decide) ?_
                refine a_goto (tg := 68) dX11_ask_121 (by decide) ?_
                rw [nI_1 u]; exact a_loc _ rfl ih2
              · exact absurd (nI_le (show s.2 ≤ aWst B C u by omega) (by omega)) c_97
    have S1 : ∀ (y : aS), (∀ c, c < 61 → y.1 (bRk + 3) c = nI (cn (fun k => B k && decide (min (C k) 60 = c)) 21)) → cFs x y → aV l mX11_ask (d + 7) D none 52 [(0, .ref bLH), (3, .int w), (4, .ref (bRk + 3)), (5, .int (nI (cn B 21)))] [] y (fun v y => v = some (.int (qAsk B C w)) ∧ cFs x y) := by
      intro y hr hF
      have o0 : aOut B C 0 = 0 := by
        unfold aOut
        rw [cn_congr 21 (Q := fun _ => false) (fun k _ => by rw [decide_eq_false (by omega), Bool.and_false])]
        decide
      have o1 : cn (fun k => B k && decide (min (C k) 60 = 0)) 21 = aOut B C 1 := by rw [aOut_s (u := 0) (by omega), o0, Nat.zero_add]
      have r0 := hr 0 (by omega)
      rw [o1] at r0
      have ss := aSum B C 1
      have al := cn_le B 21
      have es : nI (cn B 21) - nI (aOut B C 1) = nI (aYes B C 1) := by rw [pk_sub (by omega)]; congr 1; omega
      have em : jmax (nI (aOut B C 1)) (nI (aYes B C 1)) = nI (aWst B C 1) := by rw [jmax_n (by omega) (by omega), Nat.max_comm]; rfl
      unfold jmax at em
      have wl : aWst B C 1 ≤ 21 := by unfold aWst; omega
      have er := hr 1 (by omega)
      have L0 := L y hr hF 59 2 rfl (by omega) _ (1, aWst B C 1) (fun _ => rfl) wl
      have fx : nI (aOut B C 1) + nI (cn (fun k => B k && decide (min (C k) 60 = 1)) 21) = nI (aOut B C 2) := by rw [nI_add, ← aOut_s (by omega)]
      unfold qAsk
      have P1 : aV l mX11_ask (d + 7) D none 68 [(3, .int w), (4, .ref (bRk + 3)), (5, .int (nI (cn B 21))), (6, .int 1), (7, .int (nI (cn B 21))), (8, .int (nI (aOut B C 1))), (9, .int (nI 1))] [] y (fun v y => v = some (.int (if w = 0 then nI (lp (aGo B C) 2 59 (1, aWst B C 1)).1 else nI (lp (aGo B C) 2 59 (1, aWst B C 1)).2)) ∧ cFs x y) := by
        refine a_iload (i := 9) dX11_ask_68 rfl ?_
        refine a_bipush (v := 60) dX11_ask_70 (by decide) ?_
        refine a_icmp_gt (tg := 124) dX11_ask_72 (by decide) (fun c_72 => ?_) (fun c_72 => ?_)
        · exact absurd c_72 (by decide)
        · refine a_iload (i := 8) dX11_ask_75 rfl ?_
          refine a_iload (i := 5) dX11_ask_77 rfl ?_
          refine a_iload (i := 8) dX11_ask_79 rfl ?_
          refine a_isub dX11_ask_81 ?_
          rw [es]
          refine kX11_366 rfl dX11_ask_82 (Nat.le_of_ble_eq_true rfl) ?_
          rw [em]
          refine a_istore (i := 10) dX11_ask_85 (by decide) ?_
          refine a_iload (i := 9) dX11_ask_87 rfl ?_
          refine a_iconst (v := 1) dX11_ask_89 (by decide) ?_
          refine a_icmp_eq (tg := 100) dX11_ask_90 (by decide) (fun c_90 => ?_) (fun c_90 => ?_)
          · refine a_iload (i := 9) dX11_ask_100 rfl ?_
            refine a_istore (i := 6) dX11_ask_102 (by decide) ?_
            refine a_iload (i := 10) dX11_ask_104 rfl ?_
            refine a_istore (i := 7) dX11_ask_106 (by decide) ?_
            refine a_iload (i := 8) dX11_ask_108 rfl ?_
            refine a_aload (i := 4) dX11_ask_110 rfl ?_
            refine a_iload (i := 9) dX11_ask_112 rfl ?_
            refine a_ialdN dX11_ask_114 (isRk_3 hD) (by first | with_reducible exact rfl | with_reducible exact ix8 _ _ | with_reducible exact ix12 _ _ | exact rfl) (by omega) (by decide) ?_
            rw [er]
            refine a_iadd dX11_ask_115 ?_
            rw [fx]
            refine a_istore (i := 8) dX11_ask_116 (by decide) ?_
            refine a_iincK (i := 9) (u := 1) dX11_ask_118 rfl (by decide) (by decide) ?_
            refine a_goto (tg := 68) dX11_ask_121 (by decide) ?_
            rw [nI_1 1]; exact a_loc _ rfl L0
          · exact absurd rfl c_90
      refine a_iconst (v := 1) dX11_ask_52 (by decide) ?_
      refine a_istore (i := 6) dX11_ask_53 (by decide) ?_
      refine a_iload (i := 5) dX11_ask_55 rfl ?_
      refine a_istore (i := 7) dX11_ask_57 (by decide) ?_
      refine a_aload (i := 4) dX11_ask_59 rfl ?_
      refine a_iconst (v := 0) dX11_ask_61 (by decide) ?_
      refine a_ialdN dX11_ask_62 (isRk_3 hD) (by first | exact (show (0 : Int32) = nI 0 from rfl) | with_reducible exact rfl | with_reducible exact ix8 _ _ | with_reducible exact ix12 _ _ | exact rfl) (by omega) (by decide) ?_
      rw [r0]
      refine a_istore (i := 8) dX11_ask_63 (by decide) ?_
      refine a_iconst (v := 1) dX11_ask_65 (by decide) ?_
      refine a_istore (i := 9) dX11_ask_66 (by decide) ?_
      exact a_loc _ rfl P1
    have hb := c_X11_possibleBumps (l := l) (d := d) (m := A) hD (cR_T hh) ok hg hk hK hKp hA
    rw [hB] at hb
    have cc : ∀ y, cFs x y → aCt l mX11_countByCorns (d + 6) D [.ref bLH, .int (nI A), .int (nI N), .int (nI (bN B 21))] y (fun v z => v = some (.int (nI (cn B 21))) ∧ (∀ c, c < 61 → z.1 (bRk + 3) c = nI (cn (fun k => B k && decide (min (C k) 60 = c)) 21)) ∧ cF y z) := fun y hF => by
      have := c_X11_countByCorns (l := l) (d := d) (m := A) (n := N) (B := B) hD (cR_T (cFs_R hF hh)) hA hN
      rw [← hC]
      exact this
    refine a_aload_n (i := 0) dX11_ask_0 rfl rfl ?_
    refine a_iload_n (i := 1) dX11_ask_1 rfl rfl ?_
    refine kX11_125 rfl dX11_ask_2 (Nat.le_of_ble_eq_true rfl) (isLH_0 hD) (c_X11_isMan hD ht hp hT) ?_
    refine a_if_eq (tg := 28) dX11_ask_5 (by decide) (fun c_5 => ?_) (fun c_5 => ?_)
    · exact absurd c_5 (bI_p.mpr q1)
    · refine a_iload_n (i := 2) dX11_ask_8 rfl rfl ?_
      refine a_iconst (v := 1) dX11_ask_9 (by decide) ?_
      refine a_icmp_lt (tg := 28) dX11_ask_10 (by decide) (fun c_10 => ?_) (fun c_10 => ?_)
      · exact absurd q2.1 (Int32.not_le.mpr c_10)
      · refine a_iload_n (i := 2) dX11_ask_13 rfl rfl ?_
        refine a_bipush (v := 60) dX11_ask_14 (by decide) ?_
        refine a_icmp_gt (tg := 28) dX11_ask_16 (by decide) (fun c_16 => ?_) (fun c_16 => ?_)
        · exact absurd q2.2 (Int32.not_le.mpr c_16)
        · refine a_iload_n (i := 3) dX11_ask_19 rfl rfl ?_
          refine a_if_lt (tg := 28) dX11_ask_20 (by decide) (fun c_20 => ?_) (fun c_20 => ?_)
          · exact absurd w2.1 (Int32.not_le.mpr c_20)
          · refine a_iload_n (i := 3) dX11_ask_23 rfl rfl ?_
            refine a_iconst (v := 1) dX11_ask_24 (by decide) ?_
            refine a_icmp_le (tg := 30) dX11_ask_25 (by decide) (fun c_25 => ?_) (fun c_25 => ?_)
            · refine a_aload_n (i := 0) dX11_ask_30 rfl rfl ?_
              refine gX11_64 rfl dX11_ask_31 (isLH_0 hD) ?_
              refine gX11_360 rfl dX11_ask_34 (isRk_0 hD) ?_
              refine a_astore (i := 4) dX11_ask_37 (by decide) ?_
              refine a_aload_n (i := 0) dX11_ask_39 rfl rfl ?_
              refine a_iload_n (i := 1) dX11_ask_40 rfl rfl ?_
              refine a_iload_n (i := 2) dX11_ask_41 rfl rfl ?_
              refine a_aload_n (i := 0) dX11_ask_42 rfl rfl ?_
              refine a_iload_n (i := 1) dX11_ask_43 rfl rfl ?_
              refine kgX11_344 rfl dX11_ask_44 (Nat.le_of_ble_eq_true rfl) (isLH_0 hD) (hb) ?_
              rintro v y ⟨rfl, hF⟩
              refine kgX11_363 rfl dX11_ask_47 (Nat.le_of_ble_eq_true rfl) (isLH_0 hD) (cc y hF) ?_
              rintro v z ⟨rfl, hr, hFz⟩
              refine a_istore (i := 5) dX11_ask_50 (by decide) ?_
              exact a_loc _ rfl (S1 z hr (cFs_t hF (cFs_F hFz)))
            · exact absurd w2.2 c_25
  · rw [if_neg q]
    refine a_aload_n (i := 0) dX11_ask_0 rfl rfl ?_
    refine a_iload_n (i := 1) dX11_ask_1 rfl rfl ?_
    refine kX11_125 rfl dX11_ask_2 (Nat.le_of_ble_eq_true rfl) (isLH_0 hD) (c_X11_isMan hD ht hp hT) ?_
    refine a_if_eq (tg := 28) dX11_ask_5 (by decide) (fun c_5 => ?_) (fun c_5 => ?_)
    · refine a_iconst (v := (-1)) dX11_ask_28 (by decide) ?_
      exact a_iret dX11_ask_29 (by exact ⟨rfl, cFs_r⟩)
    · refine a_iload_n (i := 2) dX11_ask_8 rfl rfl ?_
      refine a_iconst (v := 1) dX11_ask_9 (by decide) ?_
      refine a_icmp_lt (tg := 28) dX11_ask_10 (by decide) (fun c_10 => ?_) (fun c_10 => ?_)
      · refine a_iconst (v := (-1)) dX11_ask_28 (by decide) ?_
        exact a_iret dX11_ask_29 (by exact ⟨rfl, cFs_r⟩)
      · refine a_iload_n (i := 2) dX11_ask_13 rfl rfl ?_
        refine a_bipush (v := 60) dX11_ask_14 (by decide) ?_
        refine a_icmp_gt (tg := 28) dX11_ask_16 (by decide) (fun c_16 => ?_) (fun c_16 => ?_)
        · refine a_iconst (v := (-1)) dX11_ask_28 (by decide) ?_
          exact a_iret dX11_ask_29 (by exact ⟨rfl, cFs_r⟩)
        · refine a_iload_n (i := 3) dX11_ask_19 rfl rfl ?_
          refine a_if_lt (tg := 28) dX11_ask_20 (by decide) (fun c_20 => ?_) (fun c_20 => ?_)
          · refine a_iconst (v := (-1)) dX11_ask_28 (by decide) ?_
            exact a_iret dX11_ask_29 (by exact ⟨rfl, cFs_r⟩)
          · refine a_iload_n (i := 3) dX11_ask_23 rfl rfl ?_
            refine a_iconst (v := 1) dX11_ask_24 (by decide) ?_
            refine a_icmp_le (tg := 30) dX11_ask_25 (by decide) (fun c_25 => ?_) (fun c_25 => ?_)
            · exact absurd ⟨bI_p.mp c_5, ⟨Int32.not_lt.mp c_10, Int32.not_lt.mp c_16⟩, zIn2.mp ⟨Int32.not_lt.mp c_20, c_25⟩⟩ q
            · refine a_iconst (v := (-1)) dX11_ask_28 (by decide) ?_
              exact a_iret dX11_ask_29 (by exact ⟨rfl, cFs_r⟩)
end qZ
