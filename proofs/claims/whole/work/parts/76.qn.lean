/-! undo: the class; what the model keeps -/
section qN
variable {l : Launch} {d : Nat} {D : Nat → Bool} {T : zT} {W : Nat → zL} {Z : zS} {t : Nat} {x : aS} {u : zU}
theorem uInv_o {o : zO} : (∀ g, ¬ g = 2 → (uInv o Z).1 g = Z.1 g) ∧ (uInv o Z).2 0 = Z.2 0 := by
  unfold uInv
  split
  · exact ⟨fun g _ => rfl, by funext j; simp [zPop, zuk]⟩
  · split
    · refine ⟨fun g hg => ?_, ?_⟩ <;> funext j <;> simp [zPut, zuk, zui]
      intro e; exact absurd e hg
    · exact ⟨fun g _ => rfl, by funext j; simp [zHome, zuk]⟩
theorem rS_tk {A : zS} {o : zO} {b : Nat} (he : zEq T A (uInv o Z)) (h : rS T (uInv o Z) x b) : rS T (zTk Z A) x b := by
  obtain ⟨e1, e2⟩ := uInv_o (Z := Z) (o := o)
  refine rS_eq (X := uInv o Z) (fun i _ => ?_) (fun j => ?_) (fun j => ?_) (fun j => ?_) ?_ ?_ h
  · rw [e1 0 (by decide)]; simp [zTk]
  · rw [e1 1 (by decide)]; simp [zTk]
  · rw [e1 3 (by decide)]; simp [zTk]
  · rw [e1 4 (by decide)]; simp [zTk]
  · rw [e2]; simp [zTk]
  · unfold zEq at he ⊢
    simpa [zTk] using he
set_option maxHeartbeats 4000000 in
set_option maxRecDepth 100000 in
theorem c_X11_undo (hD : aDC D) (h : cR T W Z x t) (hu : rU u x) (hR : uR T Z u) : aCt l mX11_undo (d + 1) D [.ref bLH] x (fun r y => (u.1 = 0 → r = some (.int (-1)) ∧ y = x) ∧ (¬ u.1 = 0 → r = some (.int (nI (u.1 - 1))) ∧ cR T W (zTk Z (u.2.1 (u.1 - 1))) y t ∧ rU (uPop u) y ∧ cLy x y)) := by
  have hh := h
  obtain ⟨ht, hp, ok, hZ, hT, hW, hS⟩ := h
  have h6 := ok.1
  have h8 := ok.2.1
  refine a_met (by decide) (Nat.le_of_ble_eq_true rfl) (fun v' y q => Or.inl ⟨rfl, by by_cases g : u.1 = 0; exact ⟨_, (q.1 g).1⟩; exact ⟨_, (q.2 g).1⟩⟩) ?_
  have hu1 := hu.1
  by_cases q : u.1 = 0
  · rw [q] at hu1
    refine a_aload_n (i := 0) dX11_undo_0 rfl rfl ?_
    refine gX11_57 rfl dX11_undo_1 (isLH_0 hD) ?_
    refine gX11_94 rfl dX11_undo_4 (isDn_0 hD) ?_
    rw [hu1]
    refine a_iconst (v := 1) dX11_undo_7 (by decide) ?_
    refine a_icmp_ge (tg := 13) dX11_undo_8 (by decide) (fun c_8 => ?_) (fun c_8 => ?_)
    · exact absurd c_8 (by decide)
    · refine a_iconst (v := (-1)) dX11_undo_11 (by decide) ?_
      exact a_iret dX11_undo_12 (by exact ⟨fun _ => ⟨rfl, rfl⟩, fun g => absurd q g⟩)
  · obtain ⟨k, hk⟩ : ∃ k, u.1 = k + 1 := ⟨u.1 - 1, by omega⟩
    have h20 := hR.1
    obtain ⟨hA, ho, he⟩ := hR.2 k (by omega)
    rw [show uN u Z k = Z from if_pos hk.symm] at ho he
    obtain ⟨f1, f2, f3, f4⟩ := hu.2 k (by omega)
    rw [hk, Nat.add_sub_cancel]
    rw [hk] at hu1
    obtain ⟨X, hXe⟩ : ∃ X, X = aWr x bDn 0 (nI k) := ⟨_, rfl⟩
    have hX : ∀ n, n ≠ bDn → X.1 n = x.1 n := fun n hn => by rw [hXe]; exact aWr_n _ _ _ hn
    have hX0 : X.1 bDn 0 = nI k := by rw [hXe]; exact aWr_s _ _ _ _
    have hUX : rU (uPop u) X := by
      refine ⟨by rw [hX0]; show nI k = nI (u.1 - 1); rw [hk]; rfl, fun j hj => ?_⟩
      have hj2 : j < u.1 - 1 := hj
      rw [hX _ (by decide), hX _ (by decide), hX _ (by decide), hX _ (by decide)]
      exact hu.2 j (by omega)
    have hFX : cDn x X := by rw [hXe]; exact cDn_w (by decide)
    have RX := cR_D hFX hh
    have SX := RX.2.2.2.2.2.2
    have g1 : X.1 (bDn + 2) k = nI (u.2.2 k).1 := by rw [hX _ (by decide)]; exact f1
    have g2 : X.1 (bDn + 3) k = nI (u.2.2 k).2.1 := by rw [hX _ (by decide)]; exact f2
    have g3 : X.1 (bDn + 4) k = nI (u.2.2 k).2.2.1 := by rw [hX _ (by decide)]; exact f3
    have g4 : X.1 (bDn + 5) k = (u.2.2 k).2.2.2 := by rw [hX _ (by decide)]; exact f4
    have E : ∀ y : aS, (∀ n, n / 256 ≠ 5 → y.1 n = X.1 n ∧ y.2 n = X.2 n) → rS T (uInv (u.2.2 k) Z) y bNow → aV l mX11_undo (d + 1) D none 151 [(0, .ref bLH)] [] y (fun r y => (k + 1 = 0 → r = some (.int (-1)) ∧ y = x) ∧ (¬ k + 1 = 0 → r = some (.int (nI k)) ∧ cR T W (zTk Z (u.2.1 k)) y t ∧ rU (uPop u) y ∧ cLy x y)) := by
      intro y hF hSy
      have e10 : ∀ n, n / 256 = 10 → y.1 n = X.1 n := fun n hn => (hF n (by omega)).1
      have ey : y.1 bDn 0 = nI k := by rw [e10 _ (by decide)]; exact hX0
      have R3 := cR_n RX (fun n a _ => hF n a) (zOk_tk hZ hA) (rS_tk he hSy)
      have U3 : rU (uPop u) y := rU_o e10 hUX
      have e8 : cLy x y := fun n a b => ⟨(hF n a).1.trans (hFX n b).1, (hF n a).2.trans (hFX n b).2⟩
      refine a_aload_n (i := 0) dX11_undo_151 rfl rfl ?_
      refine gX11_57 rfl dX11_undo_152 (isLH_0 hD) ?_
      refine gX11_94 rfl dX11_undo_155 (isDn_0 hD) ?_
      rw [ey]
      exact a_iret dX11_undo_158 (by exact ⟨fun g => absurd g (by omega), fun _ => ⟨rfl, R3, U3, e8⟩⟩)
    have P : aV l mX11_undo (d + 1) D none 26 [(0, .ref bLH)] [] X (fun r y => (k + 1 = 0 → r = some (.int (-1)) ∧ y = x) ∧ (¬ k + 1 = 0 → r = some (.int (nI k)) ∧ cR T W (zTk Z (u.2.1 k)) y t ∧ rU (uPop u) y ∧ cLy x y)) := by
      have k20 : k < 20 := by omega
      rcases (show (u.2.2 k).1 = 0 ∨ (u.2.2 k).1 = 1 ∨ (u.2.2 k).1 = 2 by have := ho.1; omega) with h0 | h0 | h0
      · obtain ⟨a1, a2⟩ := ho.2.1 h0
        obtain ⟨c, hc⟩ : ∃ c, Z.2 1 (u.2.2 k).2.1 = c + 1 := ⟨Z.2 1 (u.2.2 k).2.1 - 1, by omega⟩
        have c12 := (hZ.2.1 _ a1).1
        have hz := (hZ.2.1 _ a1).2 c (by omega)
        have S3 := rS_pop SX hZ a1 hc
        have cA2 := (SX.2.2.1 _ a1).2.1
        rw [hc] at cA2
        have e1 : uInv (u.2.2 k) Z = zPop Z (u.2.2 k).2.1 := by rw [uInv, if_pos h0]
        rw [← e1] at S3
        rw [h0] at g1
        have F3 : ∀ n, n / 256 ≠ 5 → (sTake X bNow (u.2.2 k).2.1 c (Z.2 2 ((u.2.2 k).2.1 * 12 + c))).1 n = X.1 n ∧ (sTake X bNow (u.2.2 k).2.1 c (Z.2 2 ((u.2.2 k).2.1 * 12 + c))).2 n = X.2 n := fun n hn => ⟨by
          unfold sTake
          rw [aWr_n _ _ _ (fun e => hn (by rw [e]; decide)), aWr_n _ _ _ (fun e => hn (by rw [e]; decide))], rfl⟩
        refine a_aload_n (i := 0) dX11_undo_26 rfl rfl ?_
        refine gX11_57 rfl dX11_undo_27 (isLH_0 hD) ?_
        refine gX11_94 rfl dX11_undo_30 (isDn_0 hD) ?_
        rw [hX0]
        refine a_istore_n (i := 1) dX11_undo_33 rfl (by decide) ?_
        refine a_aload_n (i := 0) dX11_undo_34 rfl rfl ?_
        refine gX11_57 rfl dX11_undo_35 (isLH_0 hD) ?_
        refine gX11_256 rfl dX11_undo_38 (isDn_0 hD) ?_
        refine a_iload_n (i := 1) dX11_undo_41 rfl rfl ?_
        refine a_ialdN dX11_undo_42 (isDn_2 hD) (by first | with_reducible exact rfl | with_reducible exact ix8 _ _ | with_reducible exact ix12 _ _ | exact rfl) (by omega) (by decide) ?_
        rw [g1]
        refine sX11_undo_43 dX11_undo_43 (fun s_43 => ?_) (fun s_43 => ?_) (fun s_43_0 s_43_1 => ?_)
        · refine a_aload_n (i := 0) dX11_undo_68 rfl rfl ?_
          refine gX11_30 rfl dX11_undo_69 (isLH_0 hD) ?_
          refine a_aload_n (i := 0) dX11_undo_72 rfl rfl ?_
          refine gX11_57 rfl dX11_undo_73 (isLH_0 hD) ?_
          refine gX11_259 rfl dX11_undo_76 (isDn_0 hD) ?_
          refine a_iload_n (i := 1) dX11_undo_79 rfl rfl ?_
          refine a_ialdN dX11_undo_80 (isDn_3 hD) (by first | with_reducible exact rfl | with_reducible exact ix8 _ _ | with_reducible exact ix12 _ _ | exact rfl) (by omega) (by decide) ?_
          rw [g2]
          refine kX11_253 rfl dX11_undo_81 (Nat.le_of_ble_eq_true rfl) (isS_0 hD hbNow) (c_X6_takeOff hD hbNow (by omega) hz cA2 (by omega) ((SX.2.2.1 _ a1).2.2 c (by omega)).1) ?_
          refine a_goto (tg := 151) dX11_undo_84 (by decide) ?_
          exact a_loc _ rfl (E _ F3 S3)
        · exact absurd s_43 (by decide)
        · exact absurd rfl s_43_0
      · obtain ⟨a1, a2, a3⟩ := ho.2.2.1 h0
        have c12 := (hZ.2.1 _ a1).1
        have S3 := rS_put (u := (u.2.2 k).2.2.2) SX hZ a1 a2 a3
        have e1 : uInv (u.2.2 k) Z = zPut Z (u.2.2 k).2.1 (u.2.2 k).2.2.1 (u.2.2 k).2.2.2 := by rw [uInv, if_neg (by omega), if_pos h0]
        rw [← e1] at S3
        rw [h0] at g1
        have hc := c_X6_putOn (l := l) (d := d) (D := D) (u := (u.2.2 k).2.2.2) hD hbNow (show (u.2.2 k).2.1 < 6 by omega) a2 (SX.2.2.1 _ a1).2.1 c12
        rw [if_pos a3, if_pos a3] at hc
        refine a_aload_n (i := 0) dX11_undo_26 rfl rfl ?_
        refine gX11_57 rfl dX11_undo_27 (isLH_0 hD) ?_
        refine gX11_94 rfl dX11_undo_30 (isDn_0 hD) ?_
        rw [hX0]
        refine a_istore_n (i := 1) dX11_undo_33 rfl (by decide) ?_
        refine a_aload_n (i := 0) dX11_undo_34 rfl rfl ?_
        refine gX11_57 rfl dX11_undo_35 (isLH_0 hD) ?_
        refine gX11_256 rfl dX11_undo_38 (isDn_0 hD) ?_
        refine a_iload_n (i := 1) dX11_undo_41 rfl rfl ?_
        refine a_ialdN dX11_undo_42 (isDn_2 hD) (by first | with_reducible exact rfl | with_reducible exact ix8 _ _ | with_reducible exact ix12 _ _ | exact rfl) (by omega) (by decide) ?_
        rw [g1]
        refine sX11_undo_43 dX11_undo_43 (fun s_43 => ?_) (fun s_43 => ?_) (fun s_43_0 s_43_1 => ?_)
        · exact absurd s_43 (by decide)
        · refine a_aload_n (i := 0) dX11_undo_87 rfl rfl ?_
          refine gX11_30 rfl dX11_undo_88 (isLH_0 hD) ?_
          refine a_aload_n (i := 0) dX11_undo_91 rfl rfl ?_
          refine gX11_57 rfl dX11_undo_92 (isLH_0 hD) ?_
          refine gX11_259 rfl dX11_undo_95 (isDn_0 hD) ?_
          refine a_iload_n (i := 1) dX11_undo_98 rfl rfl ?_
          refine a_ialdN dX11_undo_99 (isDn_3 hD) (by first | with_reducible exact rfl | with_reducible exact ix8 _ _ | with_reducible exact ix12 _ _ | exact rfl) (by omega) (by decide) ?_
          rw [g2]
          refine a_aload_n (i := 0) dX11_undo_100 rfl rfl ?_
          refine gX11_57 rfl dX11_undo_101 (isLH_0 hD) ?_
          refine gX11_262 rfl dX11_undo_104 (isDn_0 hD) ?_
          refine a_iload_n (i := 1) dX11_undo_107 rfl rfl ?_
          refine a_ialdN dX11_undo_108 (isDn_4 hD) (by first | with_reducible exact rfl | with_reducible exact ix8 _ _ | with_reducible exact ix12 _ _ | exact rfl) (by omega) (by decide) ?_
          rw [g3]
          refine a_aload_n (i := 0) dX11_undo_109 rfl rfl ?_
          refine gX11_57 rfl dX11_undo_110 (isLH_0 hD) ?_
          refine gX11_265 rfl dX11_undo_113 (isDn_0 hD) ?_
          refine a_iload_n (i := 1) dX11_undo_116 rfl rfl ?_
          refine a_ialdN dX11_undo_117 (isDn_5 hD) (by first | with_reducible exact rfl | with_reducible exact ix8 _ _ | with_reducible exact ix12 _ _ | exact rfl) (by omega) (by decide) ?_
          rw [g4]
          refine kX11_245 rfl dX11_undo_118 (Nat.le_of_ble_eq_true rfl) (isS_0 hD hbNow) (hc) ?_
          refine a_pop dX11_undo_121 rfl ?_
          refine a_goto (tg := 151) dX11_undo_122 (by decide) ?_
          exact a_loc _ rfl (E _ sPut_f S3)
        · exact absurd rfl s_43_1
      · obtain ⟨a1, a2⟩ := ho.2.2.2 h0
        have S3 := rS_home (m := (u.2.2 k).2.1) (k := (u.2.2 k).2.2.1) SX
        have e1 : uInv (u.2.2 k) Z = zHome Z (u.2.2 k).2.1 (u.2.2 k).2.2.1 := by rw [uInv, if_neg (by omega), if_neg (by omega)]
        rw [← e1] at S3
        rw [h0] at g1
        have lt8 : (u.2.2 k).2.1 < 8 := by omega
        refine a_aload_n (i := 0) dX11_undo_26 rfl rfl ?_
        refine gX11_57 rfl dX11_undo_27 (isLH_0 hD) ?_
        refine gX11_94 rfl dX11_undo_30 (isDn_0 hD) ?_
        rw [hX0]
        refine a_istore_n (i := 1) dX11_undo_33 rfl (by decide) ?_
        refine a_aload_n (i := 0) dX11_undo_34 rfl rfl ?_
        refine gX11_57 rfl dX11_undo_35 (isLH_0 hD) ?_
        refine gX11_256 rfl dX11_undo_38 (isDn_0 hD) ?_
        refine a_iload_n (i := 1) dX11_undo_41 rfl rfl ?_
        refine a_ialdN dX11_undo_42 (isDn_2 hD) (by first | with_reducible exact rfl | with_reducible exact ix8 _ _ | with_reducible exact ix12 _ _ | exact rfl) (by omega) (by decide) ?_
        rw [g1]
        refine sX11_undo_43 dX11_undo_43 (fun s_43 => ?_) (fun s_43 => ?_) (fun s_43_0 s_43_1 => ?_)
        · exact absurd s_43 (by decide)
        · exact absurd s_43 (by decide)
        · refine a_aload_n (i := 0) dX11_undo_125 rfl rfl ?_
          refine gX11_30 rfl dX11_undo_126 (isLH_0 hD) ?_
          refine gX11_135 rfl dX11_undo_129 (isS_0 hD hbNow) ?_
          refine a_aload_n (i := 0) dX11_undo_132 rfl rfl ?_
          refine gX11_57 rfl dX11_undo_133 (isLH_0 hD) ?_
          refine gX11_259 rfl dX11_undo_136 (isDn_0 hD) ?_
          refine a_iload_n (i := 1) dX11_undo_139 rfl rfl ?_
          refine a_ialdN dX11_undo_140 (isDn_3 hD) (by first | with_reducible exact rfl | with_reducible exact ix8 _ _ | with_reducible exact ix12 _ _ | exact rfl) (by omega) (by decide) ?_
          rw [g2]
          refine a_aload_n (i := 0) dX11_undo_141 rfl rfl ?_
          refine gX11_57 rfl dX11_undo_142 (isLH_0 hD) ?_
          refine gX11_262 rfl dX11_undo_145 (isDn_0 hD) ?_
          refine a_iload_n (i := 1) dX11_undo_148 rfl rfl ?_
          refine a_ialdN dX11_undo_149 (isDn_4 hD) (by first | with_reducible exact rfl | with_reducible exact ix8 _ _ | with_reducible exact ix12 _ _ | exact rfl) (by omega) (by decide) ?_
          rw [g3]
          refine a_iastN dX11_undo_150 (isS_10 hD hbNow) (by first | with_reducible exact rfl | with_reducible exact ix8 _ _ | with_reducible exact ix12 _ _ | exact rfl) (by omega) (by decide) ?_
          exact a_loc _ rfl (E _ (fun n hn => ⟨aWr_n _ _ _ (fun e => hn (by rw [e]; decide)), rfl⟩) S3)
    refine a_aload_n (i := 0) dX11_undo_0 rfl rfl ?_
    refine gX11_57 rfl dX11_undo_1 (isLH_0 hD) ?_
    refine gX11_94 rfl dX11_undo_4 (isDn_0 hD) ?_
    rw [hu1]
    refine a_iconst (v := 1) dX11_undo_7 (by decide) ?_
    refine a_icmp_ge (tg := 13) dX11_undo_8 (by decide) (fun c_8 => ?_) (fun c_8 => ?_)
    · refine a_aload_n (i := 0) dX11_undo_13 rfl rfl ?_
      refine gX11_57 rfl dX11_undo_14 (isLH_0 hD) ?_
      refine a_dup dX11_undo_17 rfl ?_
      refine gX11_94 rfl dX11_undo_18 (isDn_0 hD) ?_
      rw [hu1]
      refine a_iconst (v := 1) dX11_undo_21 (by decide) ?_
      refine a_isub dX11_undo_22 ?_
      rw [nI_pred]
      refine pX11_94 rfl dX11_undo_23 (isDn_0 hD) ?_
      rw [← hXe]
      exact a_loc _ rfl P
    · exact absurd (nI_le (show 1 ≤ k + 1 by omega) (by omega)) c_8
end qN
