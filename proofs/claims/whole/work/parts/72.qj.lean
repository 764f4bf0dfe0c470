/-! rests, rest, game -/
section qJ
variable {l : Launch} {d : Nat} {D : Nat → Bool} {T : zT} {W : Nat → zL} {Z : zS} {t : Nat} {x : aS}
def zShare (like lay own oth : Int32) : Int32 := if own = 0 then (if oth = 0 then 20 - lay else like / 4) else (if oth = 0 then lay else like / 8)
def zIsRest (Z : zS) (h g : Nat) (a b : Int32) : Bool := decide (zShare (zDiffer Z h g) (nI (Z.2 1 h)) (1 - a) b ≤ zShare (zDiffer Z h g) (nI (Z.2 1 h)) a b ∧ zShare (zDiffer Z h g) (nI (Z.2 1 g)) (1 - b) a ≤ zShare (zDiffer Z h g) (nI (Z.2 1 g)) b a)
def zHf (i : Nat) : Int32 := nI i / 2
def zOd (i : Nat) : Int32 := nI i - nI i / 2 * 2
def zRst (Z : zS) (h g i : Nat) : Bool := zIsRest Z h g (zHf i) (zOd i)
def zRw (R : Nat → Bool) (w : Int32) : Nat → Nat → Int32 → Int32
  | _, 0, n => if w < 0 then n else -2
  | i, f + 1, n => if R i = true then (if n = w then 10 * zHf i + zOd i else zRw R w (i + 1) f (n + 1)) else zRw R w (i + 1) f n
theorem zRw_0 {R : Nat → Bool} {w n : Int32} {i : Nat} : zRw R w i 0 n = if w < 0 then n else -2 := rfl
theorem zRw_1 {R : Nat → Bool} {w n : Int32} {i f : Nat} : zRw R w i (f + 1) n = if R i = true then (if n = w then 10 * zHf i + zOd i else zRw R w (i + 1) f (n + 1)) else zRw R w (i + 1) f n := rfl
def qRests (T : zT) (Z : zS) (a c : Int32) : Int32 := if zTwo T a c then zRw (zRst Z a.toNatClampNeg c.toNatClampNeg) (-1) 0 4 0 else -1
def qRest (T : zT) (Z : zS) (a c k : Int32) : Int32 := if zTwo T a c ∧ 0 ≤ k then zRw (zRst Z a.toNatClampNeg c.toNatClampNeg) k 0 4 0 else -1
set_option maxHeartbeats 4000000 in
set_option maxRecDepth 100000 in
theorem c_X4_share {a b c e : Int32} : aDI l mX4_share d D [.int a, .int b, .int c, .int e] x (zShare a b c e) x := by
  refine a_metI (by decide) (Nat.le_of_ble_eq_true rfl) rfl ?_
  unfold zShare
  refine a_iload_n (i := 2) dX4_share_0 rfl rfl ?_
  refine a_if_ne (tg := 19) dX4_share_1 (by decide) (fun c_1 => ?_) (fun c_1 => ?_)
  · rw [if_neg c_1]
    refine a_iload_n (i := 3) dX4_share_19 rfl rfl ?_
    refine a_if_ne (tg := 27) dX4_share_20 (by decide) (fun c_20 => ?_) (fun c_20 => ?_)
    · rw [if_neg c_20]
      refine a_iload_n (i := 0) dX4_share_27 rfl rfl ?_
      refine a_bipush (v := 8) dX4_share_28 (by decide) ?_
      refine a_idiv dX4_share_30 (by decide) ?_
      exact a_iret dX4_share_31 (by exact ⟨rfl, rfl⟩)
    · rw [if_pos c_20]
      refine a_iload_n (i := 1) dX4_share_23 rfl rfl ?_
      refine a_goto (tg := 31) dX4_share_24 (by decide) ?_
      exact a_iret dX4_share_31 (by exact ⟨rfl, rfl⟩)
  · rw [if_pos c_1]
    refine a_iload_n (i := 3) dX4_share_4 rfl rfl ?_
    refine a_if_ne (tg := 15) dX4_share_5 (by decide) (fun c_5 => ?_) (fun c_5 => ?_)
    · rw [if_neg c_5]
      refine a_iload_n (i := 0) dX4_share_15 rfl rfl ?_
      refine a_iconst (v := 4) dX4_share_16 (by decide) ?_
      refine a_idiv dX4_share_17 (by decide) ?_
      exact a_iret dX4_share_18 (by exact ⟨rfl, rfl⟩)
    · rw [if_pos c_5]
      refine a_bipush (v := 20) dX4_share_8 (by decide) ?_
      refine a_iload_n (i := 1) dX4_share_10 rfl rfl ?_
      refine a_isub dX4_share_11 ?_
      refine a_goto (tg := 18) dX4_share_12 (by decide) ?_
      exact a_iret dX4_share_18 (by exact ⟨rfl, rfl⟩)
set_option maxHeartbeats 4000000 in
set_option maxRecDepth 100000 in
theorem c_X4_isRest {h g : Nat} {a b : Int32} (hD : aDC D) (ok : zTok T) (hS : rS T Z x bNow) (hh : h < T.1 0) (hg : g < T.1 0) : aDI l mX4_isRest (d + 2) D [.ref bRk, .ref bNow, .int (nI h), .int (nI g), .int a, .int b] x (bI (zIsRest Z h g a b)) x := by
  have h6 := ok.1
  have f1 : x.1 (bNow + 7) h = nI (Z.2 1 h) := (hS.2.2.1 h hh).2.1
  have f2 : x.1 (bNow + 7) g = nI (Z.2 1 g) := (hS.2.2.1 g hg).2.1
  refine a_metZ (by decide) (Nat.le_of_ble_eq_true rfl) rfl (bI_01 _) ?_
  refine a_aload_n (i := 1) dX4_isRest_0 rfl rfl ?_
  refine a_iload_n (i := 2) dX4_isRest_1 rfl rfl ?_
  refine a_iload_n (i := 3) dX4_isRest_2 rfl rfl ?_
  refine kX4_113 rfl dX4_isRest_3 (Nat.le_of_ble_eq_true rfl) (isS_0 hD hbNow) (cz_differ hD hbNow ok hS hh hg) ?_
  refine a_istore (i := 6) dX4_isRest_6 (by decide) ?_
  refine a_iload (i := 6) dX4_isRest_8 rfl ?_
  refine a_aload_n (i := 1) dX4_isRest_10 rfl rfl ?_
  refine gX4_39 rfl dX4_isRest_11 (isS_0 hD hbNow) ?_
  refine a_iload_n (i := 2) dX4_isRest_14 rfl rfl ?_
  refine a_ialdN dX4_isRest_15 (isS_7 hD hbNow) (by first | with_reducible exact rfl | with_reducible exact ix8 _ _ | with_reducible exact ix12 _ _ | exact rfl) (by omega) (by decide) ?_
  rw [f1]
  refine a_iload (i := 4) dX4_isRest_16 rfl ?_
  refine a_iload (i := 5) dX4_isRest_18 rfl ?_
  refine kX4_116 rfl dX4_isRest_20 (Nat.le_of_ble_eq_true rfl) (c_X4_share) ?_
  refine a_istore (i := 7) dX4_isRest_23 (by decide) ?_
  refine a_iload (i := 6) dX4_isRest_25 rfl ?_
  refine a_aload_n (i := 1) dX4_isRest_27 rfl rfl ?_
  refine gX4_39 rfl dX4_isRest_28 (isS_0 hD hbNow) ?_
  refine a_iload_n (i := 3) dX4_isRest_31 rfl rfl ?_
  refine a_ialdN dX4_isRest_32 (isS_7 hD hbNow) (by first | with_reducible exact rfl | with_reducible exact ix8 _ _ | with_reducible exact ix12 _ _ | exact rfl) (by omega) (by decide) ?_
  rw [f2]
  refine a_iload (i := 5) dX4_isRest_33 rfl ?_
  refine a_iload (i := 4) dX4_isRest_35 rfl ?_
  refine kX4_116 rfl dX4_isRest_37 (Nat.le_of_ble_eq_true rfl) (c_X4_share) ?_
  refine a_istore (i := 8) dX4_isRest_40 (by decide) ?_
  refine a_iload (i := 7) dX4_isRest_42 rfl ?_
  refine a_iload (i := 6) dX4_isRest_44 rfl ?_
  refine a_aload_n (i := 1) dX4_isRest_46 rfl rfl ?_
  refine gX4_39 rfl dX4_isRest_47 (isS_0 hD hbNow) ?_
  refine a_iload_n (i := 2) dX4_isRest_50 rfl rfl ?_
  refine a_ialdN dX4_isRest_51 (isS_7 hD hbNow) (by first | with_reducible exact rfl | with_reducible exact ix8 _ _ | with_reducible exact ix12 _ _ | exact rfl) (by omega) (by decide) ?_
  rw [f1]
  refine a_iconst (v := 1) dX4_isRest_52 (by decide) ?_
  refine a_iload (i := 4) dX4_isRest_53 rfl ?_
  refine a_isub dX4_isRest_55 ?_
  refine a_iload (i := 5) dX4_isRest_56 rfl ?_
  refine kX4_116 rfl dX4_isRest_58 (Nat.le_of_ble_eq_true rfl) (c_X4_share) ?_
  refine a_icmp_lt (tg := 90) dX4_isRest_61 (by decide) (fun c_61 => ?_) (fun c_61 => ?_)
  · have q : bI (zIsRest Z h g a b) = 0 := bI_f (fun k => absurd k.1 (Int32.not_le.mpr c_61))
    refine a_iconst (v := 0) dX4_isRest_90 (by decide) ?_
    exact a_iret dX4_isRest_91 (by rw [q]; exact ⟨rfl, rfl⟩)
  · refine a_iload (i := 8) dX4_isRest_64 rfl ?_
    refine a_iload (i := 6) dX4_isRest_66 rfl ?_
    refine a_aload_n (i := 1) dX4_isRest_68 rfl rfl ?_
    refine gX4_39 rfl dX4_isRest_69 (isS_0 hD hbNow) ?_
    refine a_iload_n (i := 3) dX4_isRest_72 rfl rfl ?_
    refine a_ialdN dX4_isRest_73 (isS_7 hD hbNow) (by first | with_reducible exact rfl | with_reducible exact ix8 _ _ | with_reducible exact ix12 _ _ | exact rfl) (by omega) (by decide) ?_
    rw [f2]
    refine a_iconst (v := 1) dX4_isRest_74 (by decide) ?_
    refine a_iload (i := 5) dX4_isRest_75 rfl ?_
    refine a_isub dX4_isRest_77 ?_
    refine a_iload (i := 4) dX4_isRest_78 rfl ?_
    refine kX4_116 rfl dX4_isRest_80 (Nat.le_of_ble_eq_true rfl) (c_X4_share) ?_
    refine a_icmp_lt (tg := 90) dX4_isRest_83 (by decide) (fun c_83 => ?_) (fun c_83 => ?_)
    · have q : bI (zIsRest Z h g a b) = 0 := bI_f (fun k => absurd k.2 (Int32.not_le.mpr c_83))
      refine a_iconst (v := 0) dX4_isRest_90 (by decide) ?_
      exact a_iret dX4_isRest_91 (by rw [q]; exact ⟨rfl, rfl⟩)
    · have q : bI (zIsRest Z h g a b) = 1 := bI_t ⟨Int32.not_lt.mp c_61, Int32.not_lt.mp c_83⟩
      refine a_iconst (v := 1) dX4_isRest_86 (by decide) ?_
      refine a_goto (tg := 91) dX4_isRest_87 (by decide) ?_
      exact a_iret dX4_isRest_91 (by rw [q]; exact ⟨rfl, rfl⟩)
set_option maxHeartbeats 4000000 in
set_option maxRecDepth 100000 in
theorem c_X11_rests {a c : Int32} (hD : aDC D) (h : cR T W Z x t) : aDI l mX11_rests (d + 3) D [.ref bLH, .int a, .int c] x (qRests T Z a c) x := by
  obtain ⟨ht, hp, ok, hZ, hT, hW, hS⟩ := h
  have h6 := ok.1
  refine a_metI (by decide) (Nat.le_of_ble_eq_true rfl) rfl ?_
  unfold qRests
  by_cases q : zTwo T a c
  · rw [if_pos q]
    obtain ⟨k, hk, rfl⟩ := zIn_of (by omega) q.1
    obtain ⟨g, hg, rfl⟩ := zIn_of (by omega) q.2.1
    rw [nI_clamp (by omega), nI_clamp (by omega)]
    have L : ∀ (f i : Nat), i + f = 4 → ∀ n : Nat, n + f < 100 → aV l mX11_rests (d + 3) D none 16 [(0, .ref bLH), (1, .int (nI k)), (2, .int (nI g)), (3, .int (nI n)), (4, .int (nI i))] [] x (fun v y => v = some (.int (zRw (zRst Z k g) (-1) i f (nI n))) ∧ y = x) := by
      intro f
      induction f with
      | zero =>
        intro i hi n hn
        rw [Nat.add_zero] at hi
        subst hi
        refine a_iload (i := 4) dX11_rests_16 rfl ?_
        refine a_iconst (v := 4) dX11_rests_18 (by decide) ?_
        refine a_icmp_ge (tg := 55) dX11_rests_19 (by decide) (fun c_19 => ?_) (fun c_19 => ?_)
        · refine a_iload_n (i := 3) dX11_rests_55 rfl rfl ?_
          exact a_iret dX11_rests_56 (by rw [zRw_0, if_pos (by decide)]; exact ⟨rfl, rfl⟩)
        · exact absurd (Int32.le_refl _) c_19
      | succ f ih =>
        intro i hi n hn
        have hne : ¬ nI n = -1 := fun g => absurd (show nI n < 0 by rw [g]; decide) (nI_pos (by omega))
        rw [zRw_1, if_neg hne]
        refine a_iload (i := 4) dX11_rests_16 rfl ?_
        refine a_iconst (v := 4) dX11_rests_18 (by decide) ?_
        refine a_icmp_ge (tg := 55) dX11_rests_19 (by decide) (fun c_19 => ?_) (fun c_19 => ?_)
        · exact absurd c_19 (nI_ge (show i < 4 by omega) (by decide))
        · refine a_aload_n (i := 0) dX11_rests_22 rfl rfl ?_
          refine gX11_64 rfl dX11_rests_23 (isLH_0 hD) ?_
          refine a_aload_n (i := 0) dX11_rests_26 rfl rfl ?_
          refine gX11_30 rfl dX11_rests_27 (isLH_0 hD) ?_
          refine a_iload_n (i := 1) dX11_rests_30 rfl rfl ?_
          refine a_iload_n (i := 2) dX11_rests_31 rfl rfl ?_
          refine a_iload (i := 4) dX11_rests_32 rfl ?_
          refine a_iconst (v := 2) dX11_rests_34 (by decide) ?_
          refine a_idiv dX11_rests_35 (by decide) ?_
          refine a_iload (i := 4) dX11_rests_36 rfl ?_
          refine a_iconst (v := 2) dX11_rests_38 (by decide) ?_
          refine a_irem dX11_rests_39 (by decide) ?_
          refine kX11_330 rfl dX11_rests_40 (Nat.le_of_ble_eq_true rfl) (isRk_0 hD) (c_X4_isRest hD ok hS hk hg) ?_
          refine a_if_eq (tg := 49) dX11_rests_43 (by decide) (fun c_43 => ?_) (fun c_43 => ?_)
          · rw [if_neg (by rw [show zRst Z k g i = false from (bI_z _).mp c_43]; decide)]
            have ih2 := ih (i + 1) (by omega) n (by omega)
            refine a_iincK (i := 4) (u := 1) dX11_rests_49 rfl (by decide) (by decide) ?_
            refine a_goto (tg := 16) dX11_rests_52 (by decide) ?_
            rw [nI_1 i]; exact a_loc _ rfl ih2
          · rw [if_pos (show zRst Z k g i = true from (Bool.not_eq_false _).mp (fun z => c_43 ((bI_z _).mpr z)))]
            have ih2 := ih (i + 1) (by omega) (n + 1) (by omega)
            rw [← nI_1 n] at ih2
            refine a_iincK (i := 3) (u := 1) dX11_rests_46 rfl (by decide) (by decide) ?_
            refine a_iincK (i := 4) (u := 1) dX11_rests_49 rfl (by decide) (by decide) ?_
            refine a_goto (tg := 16) dX11_rests_52 (by decide) ?_
            rw [nI_1 i]; exact a_loc _ rfl ih2
    refine a_aload_n (i := 0) dX11_rests_0 rfl rfl ?_
    refine a_iload_n (i := 1) dX11_rests_1 rfl rfl ?_
    refine a_iload_n (i := 2) dX11_rests_2 rfl rfl ?_
    refine kX11_210 rfl dX11_rests_3 (Nat.le_of_ble_eq_true rfl) (isLH_0 hD) (c_X11_areTwoHouses hD ht hp hT) ?_
    refine a_if_ne (tg := 11) dX11_rests_6 (by decide) (fun c_6 => ?_) (fun c_6 => ?_)
    · refine a_iconst (v := 0) dX11_rests_11 (by decide) ?_
      refine a_istore_n (i := 3) dX11_rests_12 rfl (by decide) ?_
      refine a_iconst (v := 0) dX11_rests_13 (by decide) ?_
      refine a_istore (i := 4) dX11_rests_14 (by decide) ?_
      exact a_loc _ rfl (L 4 0 rfl 0 (by decide))
    · exact absurd c_6 (bI_p.mpr q)
  · rw [if_neg q]
    refine a_aload_n (i := 0) dX11_rests_0 rfl rfl ?_
    refine a_iload_n (i := 1) dX11_rests_1 rfl rfl ?_
    refine a_iload_n (i := 2) dX11_rests_2 rfl rfl ?_
    refine kX11_210 rfl dX11_rests_3 (Nat.le_of_ble_eq_true rfl) (isLH_0 hD) (c_X11_areTwoHouses hD ht hp hT) ?_
    refine a_if_ne (tg := 11) dX11_rests_6 (by decide) (fun c_6 => ?_) (fun c_6 => ?_)
    · exact absurd (bI_p.mp c_6) q
    · refine a_iconst (v := (-1)) dX11_rests_9 (by decide) ?_
      exact a_iret dX11_rests_10 (by exact ⟨rfl, rfl⟩)
set_option maxHeartbeats 4000000 in
set_option maxRecDepth 100000 in
theorem c_X11_rest {a c w : Int32} (hD : aDC D) (h : cR T W Z x t) : aDI l mX11_rest (d + 3) D [.ref bLH, .int a, .int c, .int w] x (qRest T Z a c w) x := by
  obtain ⟨ht, hp, ok, hZ, hT, hW, hS⟩ := h
  have h6 := ok.1
  refine a_metI (by decide) (Nat.le_of_ble_eq_true rfl) rfl ?_
  unfold qRest
  by_cases q : zTwo T a c ∧ 0 ≤ w
  · rw [if_pos q]
    obtain ⟨q, qw⟩ := q
    obtain ⟨k, hk, rfl⟩ := zIn_of (by omega) q.1
    obtain ⟨g, hg, rfl⟩ := zIn_of (by omega) q.2.1
    rw [nI_clamp (by omega), nI_clamp (by omega)]
    have L : ∀ (f i : Nat), i + f = 4 → ∀ n : Int32, aV l mX11_rest (d + 3) D none 21 [(0, .ref bLH), (1, .int (nI k)), (2, .int (nI g)), (3, .int w), (4, .int n), (5, .int (nI i))] [] x (fun v y => v = some (.int (zRw (zRst Z k g) w i f n)) ∧ y = x) := by
      intro f
      induction f with
      | zero =>
        intro i hi n
        rw [Nat.add_zero] at hi
        subst hi
        refine a_iload (i := 5) dX11_rest_21 rfl ?_
        refine a_iconst (v := 4) dX11_rest_23 (by decide) ?_
        refine a_icmp_ge (tg := 79) dX11_rest_24 (by decide) (fun c_24 => ?_) (fun c_24 => ?_)
        · refine a_bipush (v := (-2)) dX11_rest_79 (by decide) ?_
          exact a_iret dX11_rest_81 (by rw [zRw_0, if_neg (Int32.not_lt.mpr qw)]; exact ⟨rfl, rfl⟩)
        · exact absurd (Int32.le_refl _) c_24
      | succ f ih =>
        intro i hi n
        rw [zRw_1]
        refine a_iload (i := 5) dX11_rest_21 rfl ?_
        refine a_iconst (v := 4) dX11_rest_23 (by decide) ?_
        refine a_icmp_ge (tg := 79) dX11_rest_24 (by decide) (fun c_24 => ?_) (fun c_24 => ?_)
        · exact absurd c_24 (nI_ge (show i < 4 by omega) (by decide))
        · refine a_aload_n (i := 0) dX11_rest_27 rfl rfl ?_
          refine gX11_64 rfl dX11_rest_28 (isLH_0 hD) ?_
          refine a_aload_n (i := 0) dX11_rest_31 rfl rfl ?_
          refine gX11_30 rfl dX11_rest_32 (isLH_0 hD) ?_
          refine a_iload_n (i := 1) dX11_rest_35 rfl rfl ?_
          refine a_iload_n (i := 2) dX11_rest_36 rfl rfl ?_
          refine a_iload (i := 5) dX11_rest_37 rfl ?_
          refine a_iconst (v := 2) dX11_rest_39 (by decide) ?_
          refine a_idiv dX11_rest_40 (by decide) ?_
          refine a_iload (i := 5) dX11_rest_41 rfl ?_
          refine a_iconst (v := 2) dX11_rest_43 (by decide) ?_
          refine a_irem dX11_rest_44 (by decide) ?_
          refine kX11_330 rfl dX11_rest_45 (Nat.le_of_ble_eq_true rfl) (isRk_0 hD) (c_X4_isRest hD ok hS hk hg) ?_
          refine a_if_eq (tg := 73) dX11_rest_48 (by decide) (fun c_48 => ?_) (fun c_48 => ?_)
          · rw [if_neg (by rw [show zRst Z k g i = false from (bI_z _).mp c_48]; decide)]
            refine a_iincK (i := 5) (u := 1) dX11_rest_73 rfl (by decide) (by decide) ?_
            refine a_goto (tg := 21) dX11_rest_76 (by decide) ?_
            rw [nI_1 i]; exact a_loc _ rfl (ih (i + 1) (by omega) _)
          · rw [if_pos (show zRst Z k g i = true from (Bool.not_eq_false _).mp (fun z => c_48 ((bI_z _).mpr z)))]
            refine a_iload (i := 4) dX11_rest_51 rfl ?_
            refine a_iload_n (i := 3) dX11_rest_53 rfl rfl ?_
            refine a_icmp_ne (tg := 70) dX11_rest_54 (by decide) (fun c_54 => ?_) (fun c_54 => ?_)
            · rw [if_neg c_54]
              refine a_iincK (i := 4) (u := 1) dX11_rest_70 rfl (by decide) (by decide) ?_
              refine a_iincK (i := 5) (u := 1) dX11_rest_73 rfl (by decide) (by decide) ?_
              refine a_goto (tg := 21) dX11_rest_76 (by decide) ?_
              rw [nI_1 i]; exact a_loc _ rfl (ih (i + 1) (by omega) _)
            · rw [if_pos c_54]
              refine a_bipush (v := 10) dX11_rest_57 (by decide) ?_
              refine a_iload (i := 5) dX11_rest_59 rfl ?_
              refine a_iconst (v := 2) dX11_rest_61 (by decide) ?_
              refine a_idiv dX11_rest_62 (by decide) ?_
              refine a_imul dX11_rest_63 ?_
              refine a_iload (i := 5) dX11_rest_64 rfl ?_
              refine a_iconst (v := 2) dX11_rest_66 (by decide) ?_
              refine a_irem dX11_rest_67 (by decide) ?_
              refine a_iadd dX11_rest_68 ?_
              exact a_iret dX11_rest_69 (by exact ⟨rfl, rfl⟩)
    refine a_aload_n (i := 0) dX11_rest_0 rfl rfl ?_
    refine a_iload_n (i := 1) dX11_rest_1 rfl rfl ?_
    refine a_iload_n (i := 2) dX11_rest_2 rfl rfl ?_
    refine kX11_210 rfl dX11_rest_3 (Nat.le_of_ble_eq_true rfl) (isLH_0 hD) (c_X11_areTwoHouses hD ht hp hT) ?_
    refine a_if_eq (tg := 13) dX11_rest_6 (by decide) (fun c_6 => ?_) (fun c_6 => ?_)
    · exact absurd c_6 (bI_p.mpr q)
    · refine a_iload_n (i := 3) dX11_rest_9 rfl rfl ?_
      refine a_if_ge (tg := 15) dX11_rest_10 (by decide) (fun c_10 => ?_) (fun c_10 => ?_)
      · refine a_iconst (v := 0) dX11_rest_15 (by decide) ?_
        refine a_istore (i := 4) dX11_rest_16 (by decide) ?_
        refine a_iconst (v := 0) dX11_rest_18 (by decide) ?_
        refine a_istore (i := 5) dX11_rest_19 (by decide) ?_
        exact a_loc _ rfl (L 4 0 rfl 0)
      · exact absurd qw c_10
  · rw [if_neg q]
    refine a_aload_n (i := 0) dX11_rest_0 rfl rfl ?_
    refine a_iload_n (i := 1) dX11_rest_1 rfl rfl ?_
    refine a_iload_n (i := 2) dX11_rest_2 rfl rfl ?_
    refine kX11_210 rfl dX11_rest_3 (Nat.le_of_ble_eq_true rfl) (isLH_0 hD) (c_X11_areTwoHouses hD ht hp hT) ?_
    refine a_if_eq (tg := 13) dX11_rest_6 (by decide) (fun c_6 => ?_) (fun c_6 => ?_)
    · refine a_iconst (v := (-1)) dX11_rest_13 (by decide) ?_
      exact a_iret dX11_rest_14 (by exact ⟨rfl, rfl⟩)
    · refine a_iload_n (i := 3) dX11_rest_9 rfl rfl ?_
      refine a_if_ge (tg := 15) dX11_rest_10 (by decide) (fun c_10 => ?_) (fun c_10 => ?_)
      · exact absurd ⟨bI_p.mp c_6, c_10⟩ q
      · refine a_iconst (v := (-1)) dX11_rest_13 (by decide) ?_
        exact a_iret dX11_rest_14 (by exact ⟨rfl, rfl⟩)
set_option maxHeartbeats 4000000 in
set_option maxRecDepth 100000 in
theorem c_X12_hasBy {h : Nat} {a c e : Int32} (hM : D 12 = true) (ok : zTok T) (hS : rM T Z x 0) (hh : h < T.1 0) : aDI l mX12_hasBy d D [.ref bM, .int (nI h), .int a, .int c, .int e] x (zShare a (nI (Z.2 1 h)) c e) x := by
  have h6 := ok.1
  have f1 : x.1 (bM + 63) h = nI (Z.2 1 h) := by have := (hS.2.2.1 h hh).2.1; rwa [Nat.mul_zero, Nat.zero_add] at this
  refine a_metI (by decide) (Nat.le_of_ble_eq_true rfl) rfl ?_
  unfold zShare
  refine a_iload_n (i := 3) dX12_hasBy_0 rfl rfl ?_
  refine a_if_ne (tg := 25) dX12_hasBy_1 (by decide) (fun c_1 => ?_) (fun c_1 => ?_)
  · rw [if_neg c_1]
    refine a_iload (i := 4) dX12_hasBy_25 rfl ?_
    refine a_if_ne (tg := 39) dX12_hasBy_27 (by decide) (fun c_27 => ?_) (fun c_27 => ?_)
    · rw [if_neg c_27]
      refine a_iload_n (i := 2) dX12_hasBy_39 rfl rfl ?_
      refine a_bipush (v := 8) dX12_hasBy_40 (by decide) ?_
      refine a_idiv dX12_hasBy_42 (by decide) ?_
      exact a_iret dX12_hasBy_43 (by exact ⟨rfl, rfl⟩)
    · rw [if_pos c_27]
      refine a_aload_n (i := 0) dX12_hasBy_30 rfl rfl ?_
      refine gX12_115 rfl dX12_hasBy_31 (isM_0 hM) ?_
      refine a_iload_n (i := 1) dX12_hasBy_34 rfl rfl ?_
      refine a_ialdN dX12_hasBy_35 (isM_63 hM) (by first | with_reducible exact rfl | with_reducible exact ix8 _ _ | with_reducible exact ix12 _ _ | exact rfl) (by omega) (by decide) ?_
      rw [f1]
      refine a_goto (tg := 43) dX12_hasBy_36 (by decide) ?_
      exact a_iret dX12_hasBy_43 (by exact ⟨rfl, rfl⟩)
  · rw [if_pos c_1]
    refine a_iload (i := 4) dX12_hasBy_4 rfl ?_
    refine a_if_ne (tg := 21) dX12_hasBy_6 (by decide) (fun c_6 => ?_) (fun c_6 => ?_)
    · rw [if_neg c_6]
      refine a_iload_n (i := 2) dX12_hasBy_21 rfl rfl ?_
      refine a_iconst (v := 4) dX12_hasBy_22 (by decide) ?_
      refine a_idiv dX12_hasBy_23 (by decide) ?_
      exact a_iret dX12_hasBy_24 (by exact ⟨rfl, rfl⟩)
    · rw [if_pos c_6]
      refine a_bipush (v := 20) dX12_hasBy_9 (by decide) ?_
      refine a_aload_n (i := 0) dX12_hasBy_11 rfl rfl ?_
      refine gX12_115 rfl dX12_hasBy_12 (isM_0 hM) ?_
      refine a_iload_n (i := 1) dX12_hasBy_15 rfl rfl ?_
      refine a_ialdN dX12_hasBy_16 (isM_63 hM) (by first | with_reducible exact rfl | with_reducible exact ix8 _ _ | with_reducible exact ix12 _ _ | exact rfl) (by omega) (by decide) ?_
      rw [f1]
      refine a_isub dX12_hasBy_17 ?_
      refine a_goto (tg := 24) dX12_hasBy_18 (by decide) ?_
      exact a_iret dX12_hasBy_24 (by exact ⟨rfl, rfl⟩)
set_option maxHeartbeats 4000000 in
set_option maxRecDepth 100000 in
theorem c_X12_restAt {k g : Nat} {w : Int32} (hM : D 12 = true) (ok : zTok T) (hZ : zOk T Z) (hS : rM T Z x 0) (hk : k < T.1 0) (hg : g < T.1 0) : aDI l mX12_restAt (d + 4) D [.ref bM, .int (nI k), .int (nI g), .int w] x (zRw (zRst Z k g) w 0 4 0) x := by
  refine a_metI (by decide) (Nat.le_of_ble_eq_true rfl) rfl ?_
  have L : ∀ (f i : Nat), i + f = 4 → ∀ n : Int32, aV l mX12_restAt (d + 4) D none 14 [(0, .ref bM), (1, .int (nI k)), (2, .int (nI g)), (3, .int w), (4, .int (zDiffer Z k g)), (5, .int n), (6, .int (nI i))] [] x (fun v y => v = some (.int (zRw (zRst Z k g) w i f n)) ∧ y = x) := by
    intro f
    induction f with
    | zero =>
      intro i hi n
      rw [Nat.add_zero] at hi
      subst hi
      rw [zRw_0]
      refine a_iload (i := 6) dX12_restAt_14 rfl ?_
      refine a_iconst (v := 4) dX12_restAt_16 (by decide) ?_
      refine a_icmp_ge (tg := 113) dX12_restAt_17 (by decide) (fun c_17 => ?_) (fun c_17 => ?_)
      · refine a_iload_n (i := 3) dX12_restAt_113 rfl rfl ?_
        refine a_if_ge (tg := 122) dX12_restAt_114 (by decide) (fun c_114 => ?_) (fun c_114 => ?_)
        · rw [if_neg (Int32.not_lt.mpr c_114)]
          refine a_bipush (v := (-2)) dX12_restAt_122 (by decide) ?_
          exact a_iret dX12_restAt_124 (by exact ⟨rfl, rfl⟩)
        · rw [if_pos (Int32.not_le.mp c_114)]
          refine a_iload (i := 5) dX12_restAt_117 rfl ?_
          refine a_goto (tg := 124) dX12_restAt_119 (by decide) ?_
          exact a_iret dX12_restAt_124 (by exact ⟨rfl, rfl⟩)
      · exact absurd (Int32.le_refl _) c_17
    | succ f ih =>
      intro i hi n
      rw [zRw_1]
      refine a_iload (i := 6) dX12_restAt_14 rfl ?_
      refine a_iconst (v := 4) dX12_restAt_16 (by decide) ?_
      refine a_icmp_ge (tg := 113) dX12_restAt_17 (by decide) (fun c_17 => ?_) (fun c_17 => ?_)
      · exact absurd c_17 (nI_ge (show i < 4 by omega) (by decide))
      · refine a_iload (i := 6) dX12_restAt_20 rfl ?_
        refine a_iconst (v := 2) dX12_restAt_22 (by decide) ?_
        refine a_idiv dX12_restAt_23 (by decide) ?_
        refine a_istore (i := 7) dX12_restAt_24 (by decide) ?_
        refine a_iload (i := 6) dX12_restAt_26 rfl ?_
        refine a_iconst (v := 2) dX12_restAt_28 (by decide) ?_
        refine a_irem dX12_restAt_29 (by decide) ?_
        refine a_istore (i := 8) dX12_restAt_30 (by decide) ?_
        refine a_aload_n (i := 0) dX12_restAt_32 rfl rfl ?_
        refine a_iload_n (i := 1) dX12_restAt_33 rfl rfl ?_
        refine a_iload (i := 4) dX12_restAt_34 rfl ?_
        refine a_iconst (v := 1) dX12_restAt_36 (by decide) ?_
        refine a_iload (i := 7) dX12_restAt_37 rfl ?_
        refine a_isub dX12_restAt_39 ?_
        refine a_iload (i := 8) dX12_restAt_40 rfl ?_
        refine kX12_543 rfl dX12_restAt_42 (Nat.le_of_ble_eq_true rfl) (isM_0 hM) (c_X12_hasBy hM ok hS hk) ?_
        refine a_aload_n (i := 0) dX12_restAt_45 rfl rfl ?_
        refine a_iload_n (i := 1) dX12_restAt_46 rfl rfl ?_
        refine a_iload (i := 4) dX12_restAt_47 rfl ?_
        refine a_iload (i := 7) dX12_restAt_49 rfl ?_
        refine a_iload (i := 8) dX12_restAt_51 rfl ?_
        refine kX12_543 rfl dX12_restAt_53 (Nat.le_of_ble_eq_true rfl) (isM_0 hM) (c_X12_hasBy hM ok hS hk) ?_
        refine a_icmp_gt (tg := 107) dX12_restAt_56 (by decide) (fun c_56 => ?_) (fun c_56 => ?_)
        · rw [if_neg (by rw [show zRst Z k g i = false from decide_eq_false (fun z => absurd z.1 (Int32.not_le.mpr c_56))]; decide)]
          refine a_iincK (i := 6) (u := 1) dX12_restAt_107 rfl (by decide) (by decide) ?_
          refine a_goto (tg := 14) dX12_restAt_110 (by decide) ?_
          rw [nI_1 i]; exact a_loc _ rfl (ih (i + 1) (by omega) _)
        · refine a_aload_n (i := 0) dX12_restAt_59 rfl rfl ?_
          refine a_iload_n (i := 2) dX12_restAt_60 rfl rfl ?_
          refine a_iload (i := 4) dX12_restAt_61 rfl ?_
          refine a_iconst (v := 1) dX12_restAt_63 (by decide) ?_
          refine a_iload (i := 8) dX12_restAt_64 rfl ?_
          refine a_isub dX12_restAt_66 ?_
          refine a_iload (i := 7) dX12_restAt_67 rfl ?_
          refine kX12_543 rfl dX12_restAt_69 (Nat.le_of_ble_eq_true rfl) (isM_0 hM) (c_X12_hasBy hM ok hS hg) ?_
          refine a_aload_n (i := 0) dX12_restAt_72 rfl rfl ?_
          refine a_iload_n (i := 2) dX12_restAt_73 rfl rfl ?_
          refine a_iload (i := 4) dX12_restAt_74 rfl ?_
          refine a_iload (i := 8) dX12_restAt_76 rfl ?_
          refine a_iload (i := 7) dX12_restAt_78 rfl ?_
          refine kX12_543 rfl dX12_restAt_80 (Nat.le_of_ble_eq_true rfl) (isM_0 hM) (c_X12_hasBy hM ok hS hg) ?_
          refine a_icmp_le (tg := 89) dX12_restAt_83 (by decide) (fun c_83 => ?_) (fun c_83 => ?_)
          · rw [if_pos (show zRst Z k g i = true from decide_eq_true ⟨Int32.not_lt.mp c_56, c_83⟩)]
            refine a_iload (i := 5) dX12_restAt_89 rfl ?_
            refine a_iload_n (i := 3) dX12_restAt_91 rfl rfl ?_
            refine a_icmp_ne (tg := 104) dX12_restAt_92 (by decide) (fun c_92 => ?_) (fun c_92 => ?_)
            · rw [if_neg c_92]
              refine a_iincK (i := 5) (u := 1) dX12_restAt_104 rfl (by decide) (by decide) ?_
              refine a_iincK (i := 6) (u := 1) dX12_restAt_107 rfl (by decide) (by decide) ?_
              refine a_goto (tg := 14) dX12_restAt_110 (by decide) ?_
              rw [nI_1 i]; exact a_loc _ rfl (ih (i + 1) (by omega) _)
            · rw [if_pos c_92]
              refine a_bipush (v := 10) dX12_restAt_95 (by decide) ?_
              refine a_iload (i := 7) dX12_restAt_97 rfl ?_
              refine a_imul dX12_restAt_99 ?_
              refine a_iload (i := 8) dX12_restAt_100 rfl ?_
              refine a_iadd dX12_restAt_102 ?_
              exact a_iret dX12_restAt_103 (by exact ⟨rfl, rfl⟩)
          · rw [if_neg (by rw [show zRst Z k g i = false from decide_eq_false (fun z => c_83 z.2)]; decide)]
            refine a_goto (tg := 107) dX12_restAt_86 (by decide) ?_
            refine a_iincK (i := 6) (u := 1) dX12_restAt_107 rfl (by decide) (by decide) ?_
            refine a_goto (tg := 14) dX12_restAt_110 (by decide) ?_
            rw [nI_1 i]; exact a_loc _ rfl (ih (i + 1) (by omega) _)
  refine a_aload_n (i := 0) dX12_restAt_0 rfl rfl ?_
  refine a_iload_n (i := 1) dX12_restAt_1 rfl rfl ?_
  refine a_iload_n (i := 2) dX12_restAt_2 rfl rfl ?_
  refine kX12_528 rfl dX12_restAt_3 (Nat.le_of_ble_eq_true rfl) (isM_0 hM) (mz_likeOf hM ok hZ hS hk hg) ?_
  refine a_istore (i := 4) dX12_restAt_6 (by decide) ?_
  refine a_iconst (v := 0) dX12_restAt_8 (by decide) ?_
  refine a_istore (i := 5) dX12_restAt_9 (by decide) ?_
  refine a_iconst (v := 0) dX12_restAt_11 (by decide) ?_
  refine a_istore (i := 6) dX12_restAt_12 (by decide) ?_
  exact a_loc _ rfl (L 4 0 rfl 0)
set_option maxHeartbeats 4000000 in
set_option maxRecDepth 100000 in
theorem c_X12_rests {a c : Int32} (hM : D 12 = true) (h : mR T W Z x) : aDI l mX12_rests (d + 5) D [.ref bM, .int a, .int c] x (qRests T Z a c) (aWr x bM 2 0) := by
  obtain ⟨ok, hZ, hT, hW, hS⟩ := mR_0 h
  refine a_metI (by decide) (Nat.le_of_ble_eq_true rfl) rfl ?_
  refine a_aload_n (i := 0) dX12_rests_0 rfl rfl ?_
  refine a_iconst (v := 0) dX12_rests_1 (by decide) ?_
  refine pX12_175 rfl dX12_rests_2 (isM_0 hM) ?_
  refine a_loc [(0, .ref bM), (1, .int a), (2, .int c)] rfl ?_
  generalize aWr x bM 2 0 = y at *
  have h6 := ok.1
  unfold qRests
  by_cases q : zTwo T a c
  · rw [if_pos q]
    obtain ⟨k, hk, rfl⟩ := zIn_of (by omega) q.1
    obtain ⟨g, hg, rfl⟩ := zIn_of (by omega) q.2.1
    rw [nI_clamp (by omega), nI_clamp (by omega)]
    refine a_aload_n (i := 0) dX12_rests_5 rfl rfl ?_
    refine a_iload_n (i := 1) dX12_rests_6 rfl rfl ?_
    refine a_iload_n (i := 2) dX12_rests_7 rfl rfl ?_
    refine kX12_525 rfl dX12_rests_8 (Nat.le_of_ble_eq_true rfl) (isM_0 hM) (c_X12_areTwo hM hT) ?_
    refine a_if_eq (tg := 24) dX12_rests_11 (by decide) (fun c_11 => ?_) (fun c_11 => ?_)
    · exact absurd c_11 (bI_p.mpr q)
    · refine a_aload_n (i := 0) dX12_rests_14 rfl rfl ?_
      refine a_iload_n (i := 1) dX12_rests_15 rfl rfl ?_
      refine a_iload_n (i := 2) dX12_rests_16 rfl rfl ?_
      refine a_iconst (v := (-1)) dX12_rests_17 (by decide) ?_
      refine kX12_546 rfl dX12_rests_18 (Nat.le_of_ble_eq_true rfl) (isM_0 hM) (c_X12_restAt hM ok hZ hS hk hg) ?_
      refine a_goto (tg := 25) dX12_rests_21 (by decide) ?_
      exact a_iret dX12_rests_25 (by exact ⟨rfl, rfl⟩)
  · rw [if_neg q]
    refine a_aload_n (i := 0) dX12_rests_5 rfl rfl ?_
    refine a_iload_n (i := 1) dX12_rests_6 rfl rfl ?_
    refine a_iload_n (i := 2) dX12_rests_7 rfl rfl ?_
    refine kX12_525 rfl dX12_rests_8 (Nat.le_of_ble_eq_true rfl) (isM_0 hM) (c_X12_areTwo hM hT) ?_
    refine a_if_eq (tg := 24) dX12_rests_11 (by decide) (fun c_11 => ?_) (fun c_11 => ?_)
    · refine a_iconst (v := (-1)) dX12_rests_24 (by decide) ?_
      exact a_iret dX12_rests_25 (by exact ⟨rfl, rfl⟩)
    · exact absurd (bI_p.mp c_11) q
set_option maxHeartbeats 4000000 in
set_option maxRecDepth 100000 in
theorem c_X12_rest {a c w : Int32} (hM : D 12 = true) (h : mR T W Z x) : aDI l mX12_rest (d + 5) D [.ref bM, .int a, .int c, .int w] x (qRest T Z a c w) (aWr x bM 2 0) := by
  obtain ⟨ok, hZ, hT, hW, hS⟩ := mR_0 h
  refine a_metI (by decide) (Nat.le_of_ble_eq_true rfl) rfl ?_
  refine a_aload_n (i := 0) dX12_rest_0 rfl rfl ?_
  refine a_iconst (v := 0) dX12_rest_1 (by decide) ?_
  refine pX12_175 rfl dX12_rest_2 (isM_0 hM) ?_
  refine a_loc [(0, .ref bM), (1, .int a), (2, .int c), (3, .int w)] rfl ?_
  generalize aWr x bM 2 0 = y at *
  have h6 := ok.1
  unfold qRest
  by_cases q : zTwo T a c ∧ 0 ≤ w
  · rw [if_pos q]
    obtain ⟨q, qw⟩ := q
    obtain ⟨k, hk, rfl⟩ := zIn_of (by omega) q.1
    obtain ⟨g, hg, rfl⟩ := zIn_of (by omega) q.2.1
    rw [nI_clamp (by omega), nI_clamp (by omega)]
    refine a_aload_n (i := 0) dX12_rest_5 rfl rfl ?_
    refine a_iload_n (i := 1) dX12_rest_6 rfl rfl ?_
    refine a_iload_n (i := 2) dX12_rest_7 rfl rfl ?_
    refine kX12_525 rfl dX12_rest_8 (Nat.le_of_ble_eq_true rfl) (isM_0 hM) (c_X12_areTwo hM hT) ?_
    refine a_if_eq (tg := 28) dX12_rest_11 (by decide) (fun c_11 => ?_) (fun c_11 => ?_)
    · exact absurd c_11 (bI_p.mpr q)
    · refine a_iload_n (i := 3) dX12_rest_14 rfl rfl ?_
      refine a_if_lt (tg := 28) dX12_rest_15 (by decide) (fun c_15 => ?_) (fun c_15 => ?_)
      · exact absurd qw (Int32.not_le.mpr c_15)
      · refine a_aload_n (i := 0) dX12_rest_18 rfl rfl ?_
        refine a_iload_n (i := 1) dX12_rest_19 rfl rfl ?_
        refine a_iload_n (i := 2) dX12_rest_20 rfl rfl ?_
        refine a_iload_n (i := 3) dX12_rest_21 rfl rfl ?_
        refine kX12_546 rfl dX12_rest_22 (Nat.le_of_ble_eq_true rfl) (isM_0 hM) (c_X12_restAt hM ok hZ hS hk hg) ?_
        refine a_goto (tg := 29) dX12_rest_25 (by decide) ?_
        exact a_iret dX12_rest_29 (by exact ⟨rfl, rfl⟩)
  · rw [if_neg q]
    refine a_aload_n (i := 0) dX12_rest_5 rfl rfl ?_
    refine a_iload_n (i := 1) dX12_rest_6 rfl rfl ?_
    refine a_iload_n (i := 2) dX12_rest_7 rfl rfl ?_
    refine kX12_525 rfl dX12_rest_8 (Nat.le_of_ble_eq_true rfl) (isM_0 hM) (c_X12_areTwo hM hT) ?_
    refine a_if_eq (tg := 28) dX12_rest_11 (by decide) (fun c_11 => ?_) (fun c_11 => ?_)
    · refine a_iconst (v := (-1)) dX12_rest_28 (by decide) ?_
      exact a_iret dX12_rest_29 (by exact ⟨rfl, rfl⟩)
    · refine a_iload_n (i := 3) dX12_rest_14 rfl rfl ?_
      refine a_if_lt (tg := 28) dX12_rest_15 (by decide) (fun c_15 => ?_) (fun c_15 => ?_)
      · refine a_iconst (v := (-1)) dX12_rest_28 (by decide) ?_
        exact a_iret dX12_rest_29 (by exact ⟨rfl, rfl⟩)
      · exact absurd ⟨bI_p.mp c_11, Int32.not_lt.mp c_15⟩ q
/-! game -/
def zr4 (c : Nat) : Int32 := nI c - nI c / 4 * 4
def zOdds (Z : zS) (N : Nat) : Int32 := lp (fun h a => a ^^^ zr4 (Z.2 1 h)) 0 N 0
/-- n layers off c leave nothing over -/
abbrev zMv (o : Int32) (c n : Nat) : Prop := nI n ≤ nI c ∧ (o ^^^ zr4 c) ^^^ ((nI c - nI n) - (nI c - nI n) / 4 * 4) = 0
def zIm (o : Int32) (c : Nat) : Nat → Nat → Option Nat
  | _, 0 => none
  | n, f + 1 => if zMv o c n then some n else zIm o c (n + 1) f
def zOm (o : Int32) (Z : zS) : Nat → Nat → Option (Nat × Nat)
  | _, 0 => none
  | h, f + 1 => match zIm o (Z.2 1 h) 1 3 with
    | some n => some (h, n)
    | none => zOm o Z (h + 1) f
def qGame (T : zT) (Z : zS) (a : Int32) : Int32 := if zIn 3 a then (if zOdds Z (T.1 0) = 0 then (if a = 0 then 1 else -2) else match zOm (zOdds Z (T.1 0)) Z 0 (T.1 0) with
    | none => -2
    | some q => if a = 0 then 0 else if a = 1 then nI q.1 else nI q.2) else -1
theorem zIm_none {o : Int32} {c : Nat} : ∀ (f n : Nat), c < n → n + f < 1000 → zIm o c n f = none := by
  intro f
  induction f with
  | zero => intro n _ _; rfl
  | succ f ih =>
    intro n h h2
    rw [zIm, if_neg (fun g => absurd g.1 (nI_ge h (by omega)))]
    exact ih (n + 1) (by omega) (by omega)
theorem zIm_lt {o : Int32} {c : Nat} : ∀ (f n k : Nat), zIm o c n f = some k → n ≤ k ∧ k < n + f ∧ zMv o c k := by
  intro f
  induction f with
  | zero => intro n k h; cases h
  | succ f ih =>
    intro n k h
    rw [zIm] at h
    by_cases g : zMv o c n
    · rw [if_pos g] at h
      cases h
      exact ⟨Nat.le_refl _, by omega, g⟩
    · rw [if_neg g] at h
      obtain ⟨a, b, e⟩ := ih (n + 1) k h
      exact ⟨by omega, by omega, e⟩
theorem zIm_no {o : Int32} {c : Nat} : ∀ (f n : Nat), zIm o c n f = none → ∀ k, n ≤ k → k < n + f → ¬ zMv o c k := by
  intro f
  induction f with
  | zero => intro n _ k h1 h2; omega
  | succ f ih =>
    intro n h k h1 h2
    rw [zIm] at h
    by_cases g : zMv o c n
    · rw [if_pos g] at h
      cases h
    · rw [if_neg g] at h
      by_cases e : k = n
      · subst e; exact g
      · exact ih (n + 1) h k (by omega) (by omega)
theorem zOm_no {o : Int32} {Z : zS} : ∀ (f h : Nat), zOm o Z h f = none → ∀ k, h ≤ k → k < h + f → zIm o (Z.2 1 k) 1 3 = none := by
  intro f
  induction f with
  | zero => intro h _ k h1 h2; omega
  | succ f ih =>
    intro h e k h1 h2
    rw [zOm] at e
    cases g : zIm o (Z.2 1 h) 1 3 with
    | some n => rw [g] at e; cases e
    | none =>
      rw [g] at e
      by_cases ek : k = h
      · subst ek; exact g
      · exact ih (h + 1) e k (by omega) (by omega)
theorem zOm_lt {o : Int32} {Z : zS} : ∀ (f h : Nat) (q : Nat × Nat), zOm o Z h f = some q → h ≤ q.1 ∧ q.1 < h + f ∧ 1 ≤ q.2 ∧ q.2 < 4 := by
  intro f
  induction f with
  | zero => intro h q e; cases e
  | succ f ih =>
    intro h q e
    rw [zOm] at e
    cases g : zIm o (Z.2 1 h) 1 3 with
    | some n =>
      rw [g] at e
      cases e
      obtain ⟨a, b, _⟩ := zIm_lt 3 1 n g
      exact ⟨Nat.le_refl _, by omega, a, b⟩
    | none =>
      rw [g] at e
      obtain ⟨a, b, c⟩ := ih (h + 1) q e
      exact ⟨by omega, by omega, c⟩
def nTop (k : Nat) : Nat := if k = 1 then 1 else 2
theorem nim1 : ∀ k, k < 4 → ∀ c, c < 13 → nI k ^^^ zr4 c = nI (k ^^^ c % 4) ∧ (k ^^^ c % 4) < 4 := by decide +kernel
theorem nim2 : ∀ k, k < 4 → k ≠ 0 → ∀ c, c < 13 → (∀ n, n < 3 → ¬ zMv (nI k) c (n + 1)) → (c % 4) &&& nTop k = 0 := by decide +kernel
theorem nim3 : ∀ a, a < 4 → ∀ r, r < 4 → ∀ k, k < 4 → a &&& nTop k = 0 → r &&& nTop k = 0 → (a ^^^ r) &&& nTop k = 0 := by decide +kernel
theorem nim4 : ∀ k, k < 4 → k ≠ 0 → ¬ k &&& nTop k = 0 := by decide +kernel
def kOdds (Z : zS) (i N : Nat) (a : Nat) : Nat := lp (fun h a => a ^^^ (Z.2 1 h % 4)) i N a
theorem kOdds_i {Z : zS} {M : Nat} (hc : ∀ h, h < M → Z.2 1 h < 13) : ∀ (N i a : Nat), i + N ≤ M → a < 4 → lp (fun h a => a ^^^ zr4 (Z.2 1 h)) i N (nI a) = nI (kOdds Z i N a) ∧ kOdds Z i N a < 4 := by
  intro N
  induction N with
  | zero => intro i a _ ha; exact ⟨rfl, ha⟩
  | succ N ih =>
    intro i a h ha
    obtain ⟨e1, e2⟩ := nim1 a ha (Z.2 1 i) (hc i (by omega))
    show lp (fun h a => a ^^^ zr4 (Z.2 1 h)) (i + 1) N (nI a ^^^ zr4 (Z.2 1 i)) = _ ∧ _
    rw [e1]
    exact ih (i + 1) _ (by omega) e2
theorem kOdds_t {Z : zS} {M k : Nat} (hk : k < 4) (hc : ∀ h, h < M → Z.2 1 h % 4 &&& nTop k = 0) : ∀ (N i a : Nat), i + N ≤ M → a < 4 → a &&& nTop k = 0 → kOdds Z i N a &&& nTop k = 0 := by
  intro N
  induction N with
  | zero => intro i a _ _ ha; exact ha
  | succ N ih =>
    intro i a h ha h0
    show kOdds Z (i + 1) N (a ^^^ (Z.2 1 i % 4)) &&& nTop k = 0
    have h4 : ∀ a, a < 4 → ∀ r, r < 4 → (a ^^^ r) < 4 := by decide
    exact ih (i + 1) _ (by omega) (h4 a ha _ (Nat.mod_lt _ (by decide))) (nim3 a ha _ (Nat.mod_lt _ (by decide)) k hk h0 (hc i (by omega)))
/-- who begins can win, if something is over -/
theorem nim {Z : zS} {N : Nat} (hc : ∀ h, h < N → Z.2 1 h ≤ 12) (ho : ¬ zOdds Z N = 0) : ¬ zOm (zOdds Z N) Z 0 N = none := by
  intro e
  obtain ⟨e1, e2⟩ := kOdds_i (Z := Z) (M := N) (fun h hh => by have := hc h hh; omega) N 0 0 (by omega) (by decide)
  have e3 : zOdds Z N = nI (kOdds Z 0 N 0) := e1
  rw [e3] at e ho
  have k0 : kOdds Z 0 N 0 ≠ 0 := fun g => ho (by rw [g]; rfl)
  refine nim4 _ e2 k0 (kOdds_t e2 (M := N) (fun h hh => ?_) N 0 0 (by omega) (by decide) (Nat.zero_and _))
  refine nim2 _ e2 k0 _ (by have := hc h hh; omega) (fun n hn => ?_)
  exact zIm_no 3 1 (zOm_no N 0 e h (by omega) (by omega)) (n + 1) (by omega) (by omega)
def zWin (Z : zS) (N : Nat) : Int32 := if zOdds Z N = 0 then -1 else match zOm (zOdds Z N) Z 0 N with
  | none => -1
  | some q => nI (q.1 * 4 + q.2)
theorem ix4 (h z : Nat) : nI h * 4 + nI z = nI (h * 4 + z) := by rw [show (4 : Int32) = nI 4 from rfl, pk_mul, nI_add]
set_option maxHeartbeats 4000000 in
set_option maxRecDepth 100000 in
theorem c_X4_winningMove (hD : aDC D) (ht : aTdB t) (ok : zTok T) (hZ : zOk T Z) (hT : rT T x t) (hS : rS T Z x bNow) : aDI l mX4_winningMove d D [.ref bRk, .ref t, .ref bNow] x (zWin Z (T.1 0)) x := by
  have h6 := ok.1
  have e0 : x.1 t 1 = nI (T.1 0) := hT.1
  have f1 : ∀ h, h < T.1 0 → x.1 (bNow + 7) h = nI (Z.2 1 h) := fun h hh => (hS.2.2.1 h hh).2.1
  refine a_metI (by decide) (Nat.le_of_ble_eq_true rfl) rfl ?_
  have zr : ∀ c, nI c - nI c / 4 * 4 = zr4 c := fun _ => rfl
  have P : aV l mX4_winningMove d D none 32 [(0, .ref bRk), (1, .ref t), (2, .ref bNow), (3, .int (zOdds Z (T.1 0)))] [] x (fun v y => v = some (.int (zWin Z (T.1 0))) ∧ y = x) := by
    unfold zWin
    generalize zOdds Z (T.1 0) = o
    by_cases q : o = 0
    · rw [if_pos q]
      refine a_iconst (v := 0) dX4_winningMove_32 (by decide) ?_
      refine a_istore (i := 4) dX4_winningMove_33 (by decide) ?_
      refine a_iload (i := 4) dX4_winningMove_35 rfl ?_
      refine a_aload_n (i := 1) dX4_winningMove_37 rfl rfl ?_
      refine gX4_75 rfl dX4_winningMove_38 (isT_0 hD ht) ?_
      refine a_icmp_ge (tg := 110) dX4_winningMove_41 (by decide) (fun c_41 => ?_) (fun c_41 => ?_)
      · refine a_iconst (v := (-1)) dX4_winningMove_110 (by decide) ?_
        exact a_iret dX4_winningMove_111 (by exact ⟨rfl, rfl⟩)
      · refine a_iload_n (i := 3) dX4_winningMove_44 rfl rfl ?_
        refine a_if_eq (tg := 110) dX4_winningMove_45 (by decide) (fun c_45 => ?_) (fun c_45 => ?_)
        · refine a_iconst (v := (-1)) dX4_winningMove_110 (by decide) ?_
          exact a_iret dX4_winningMove_111 (by exact ⟨rfl, rfl⟩)
        · exact absurd q c_45
    · rw [if_neg q]
      have L : ∀ (f h : Nat), h + f = T.1 0 → aV l mX4_winningMove d D none 35 [(0, .ref bRk), (1, .ref t), (2, .ref bNow), (3, .int o), (4, .int (nI h))] [] x (fun v y => v = some (.int (match zOm o Z h f with | none => -1 | some q => nI (q.1 * 4 + q.2))) ∧ y = x) := by
        intro f
        induction f with
        | zero =>
          intro h hh
          rw [Nat.add_zero] at hh
          subst hh
          refine a_iload (i := 4) dX4_winningMove_35 rfl ?_
          refine a_aload_n (i := 1) dX4_winningMove_37 rfl rfl ?_
          refine gX4_75 rfl dX4_winningMove_38 (isT_0 hD ht) ?_
          rw [e0]
          refine a_icmp_ge (tg := 110) dX4_winningMove_41 (by decide) (fun c_41 => ?_) (fun c_41 => ?_)
          · refine a_iconst (v := (-1)) dX4_winningMove_110 (by decide) ?_
            exact a_iret dX4_winningMove_111 (by exact ⟨rfl, rfl⟩)
          · exact absurd (Int32.le_refl _) c_41
        | succ f ih =>
          intro h hh
          have c12 := (hZ.2.1 h (by omega)).1
          have ih2 := ih (h + 1) (by omega)
          have I : ∀ (g n : Nat), n + g = 4 → 1 ≤ n → aV l mX4_winningMove d D none 60 [(0, .ref bRk), (1, .ref t), (2, .ref bNow), (3, .int o), (4, .int (nI h)), (5, .int (nI (Z.2 1 h))), (6, .int (nI n))] [] x (fun v y => v = some (.int (match (match zIm o (Z.2 1 h) n g with | some n => some (h, n) | none => zOm o Z (h + 1) f) with | none => -1 | some q => nI (q.1 * 4 + q.2))) ∧ y = x) := by
            intro g
            induction g with
            | zero =>
              intro n hn _
              rw [Nat.add_zero] at hn
              subst hn
              rw [zIm]
              refine a_iload (i := 6) dX4_winningMove_60 rfl ?_
              refine a_iconst (v := 3) dX4_winningMove_62 (by decide) ?_
              refine a_icmp_gt (tg := 104) dX4_winningMove_63 (by decide) (fun c_63 => ?_) (fun c_63 => ?_)
              · refine a_iincK (i := 4) (u := 1) dX4_winningMove_104 rfl (by decide) (by decide) ?_
                refine a_goto (tg := 35) dX4_winningMove_107 (by decide) ?_
                rw [nI_1]; exact a_loc _ rfl ih2
              · exact absurd (by decide) c_63
            | succ g ih3 =>
              intro n hn n1
              by_cases c1 : Z.2 1 h < n
              · rw [zIm_none (g + 1) n c1 (by omega)]
                refine a_iload (i := 6) dX4_winningMove_60 rfl ?_
                refine a_iconst (v := 3) dX4_winningMove_62 (by decide) ?_
                refine a_icmp_gt (tg := 104) dX4_winningMove_63 (by decide) (fun c_63 => ?_) (fun c_63 => ?_)
                · exact absurd (nI_le (show n ≤ 3 by omega) (by decide)) (Int32.not_le.mpr c_63)
                · refine a_iload (i := 6) dX4_winningMove_66 rfl ?_
                  refine a_iload (i := 5) dX4_winningMove_68 rfl ?_
                  refine a_icmp_gt (tg := 104) dX4_winningMove_70 (by decide) (fun c_70 => ?_) (fun c_70 => ?_)
                  · refine a_iincK (i := 4) (u := 1) dX4_winningMove_104 rfl (by decide) (by decide) ?_
                    refine a_goto (tg := 35) dX4_winningMove_107 (by decide) ?_
                    rw [nI_1]; exact a_loc _ rfl ih2
                  · exact absurd (nI_lt c1 (by omega)) c_70
              · have le : nI n ≤ nI (Z.2 1 h) := nI_le (by omega) (by omega)
                rw [zIm]
                refine a_iload (i := 6) dX4_winningMove_60 rfl ?_
                refine a_iconst (v := 3) dX4_winningMove_62 (by decide) ?_
                refine a_icmp_gt (tg := 104) dX4_winningMove_63 (by decide) (fun c_63 => ?_) (fun c_63 => ?_)
                · exact absurd (nI_le (show n ≤ 3 by omega) (by decide)) (Int32.not_le.mpr c_63)
                · refine a_iload (i := 6) dX4_winningMove_66 rfl ?_
                  refine a_iload (i := 5) dX4_winningMove_68 rfl ?_
                  refine a_icmp_gt (tg := 104) dX4_winningMove_70 (by decide) (fun c_70 => ?_) (fun c_70 => ?_)
                  · exact absurd le (Int32.not_le.mpr c_70)
                  · refine a_iload_n (i := 3) dX4_winningMove_73 rfl rfl ?_
                    refine a_iload (i := 5) dX4_winningMove_74 rfl ?_
                    refine a_iconst (v := 4) dX4_winningMove_76 (by decide) ?_
                    refine a_irem dX4_winningMove_77 (by decide) ?_
                    refine a_ixor dX4_winningMove_78 ?_
                    refine a_iload (i := 5) dX4_winningMove_79 rfl ?_
                    refine a_iload (i := 6) dX4_winningMove_81 rfl ?_
                    refine a_isub dX4_winningMove_83 ?_
                    refine a_iconst (v := 4) dX4_winningMove_84 (by decide) ?_
                    refine a_irem dX4_winningMove_85 (by decide) ?_
                    refine a_ixor dX4_winningMove_86 ?_
                    refine a_if_ne (tg := 98) dX4_winningMove_87 (by decide) (fun c_87 => ?_) (fun c_87 => ?_)
                    · rw [if_neg (fun z => c_87 z.2)]
                      refine a_iincK (i := 6) (u := 1) dX4_winningMove_98 rfl (by decide) (by decide) ?_
                      refine a_goto (tg := 60) dX4_winningMove_101 (by decide) ?_
                      rw [nI_1]; exact a_loc _ rfl (ih3 (n + 1) (by omega) (by omega))
                    · rw [if_pos ⟨le, c_87⟩]
                      refine a_iload (i := 4) dX4_winningMove_90 rfl ?_
                      refine a_iconst (v := 4) dX4_winningMove_92 (by decide) ?_
                      refine a_imul dX4_winningMove_93 ?_
                      refine a_iload (i := 6) dX4_winningMove_94 rfl ?_
                      refine a_iadd dX4_winningMove_96 ?_
                      exact a_iret dX4_winningMove_97 (by exact ⟨by rw [ix4], rfl⟩)
          have I0 := I 3 1 rfl (by decide)
          rw [zOm]
          refine a_iload (i := 4) dX4_winningMove_35 rfl ?_
          refine a_aload_n (i := 1) dX4_winningMove_37 rfl rfl ?_
          refine gX4_75 rfl dX4_winningMove_38 (isT_0 hD ht) ?_
          rw [e0]
          refine a_icmp_ge (tg := 110) dX4_winningMove_41 (by decide) (fun c_41 => ?_) (fun c_41 => ?_)
          · exact absurd c_41 (nI_ge (show h < T.1 0 by omega) (by omega))
          · refine a_iload_n (i := 3) dX4_winningMove_44 rfl rfl ?_
            refine a_if_eq (tg := 110) dX4_winningMove_45 (by decide) (fun c_45 => ?_) (fun c_45 => ?_)
            · exact absurd c_45 q
            · refine a_aload_n (i := 2) dX4_winningMove_48 rfl rfl ?_
              refine gX4_39 rfl dX4_winningMove_49 (isS_0 hD hbNow) ?_
              refine a_iload (i := 4) dX4_winningMove_52 rfl ?_
              refine a_ialdN dX4_winningMove_54 (isS_7 hD hbNow) (by first | with_reducible exact rfl | with_reducible exact ix8 _ _ | with_reducible exact ix12 _ _ | exact rfl) (by omega) (by decide) ?_
              rw [f1 h (by omega)]
              refine a_istore (i := 5) dX4_winningMove_55 (by decide) ?_
              refine a_iconst (v := 1) dX4_winningMove_57 (by decide) ?_
              refine a_istore (i := 6) dX4_winningMove_58 (by decide) ?_
              exact a_loc _ rfl I0
      refine a_iconst (v := 0) dX4_winningMove_32 (by decide) ?_
      refine a_istore (i := 4) dX4_winningMove_33 (by decide) ?_
      exact a_loc _ rfl (L (T.1 0) 0 (Nat.zero_add _))
  refine a_iconst (v := 0) dX4_winningMove_0 (by decide) ?_
  refine a_istore_n (i := 3) dX4_winningMove_1 rfl (by decide) ?_
  refine a_iconst (v := 0) dX4_winningMove_2 (by decide) ?_
  refine a_istore (i := 4) dX4_winningMove_3 (by decide) ?_
  refine a_loc [(0, .ref bRk), (1, .ref t), (2, .ref bNow), (3, .int 0), (4, .int (nI 0))] rfl ?_
  refine lp_rule (P := fun h a => aV l mX4_winningMove d D none 5 [(0, .ref bRk), (1, .ref t), (2, .ref bNow), (3, .int a), (4, .int (nI h))] [] x _) (fun h a => a ^^^ zr4 (Z.2 1 h)) ?_ (T.1 0) 0 0 (Nat.zero_add _) ?_
  · intro h a hh ih
    refine a_iload (i := 4) dX4_winningMove_5 rfl ?_
    refine a_aload_n (i := 1) dX4_winningMove_7 rfl rfl ?_
    refine gX4_75 rfl dX4_winningMove_8 (isT_0 hD ht) ?_
    rw [e0]
    refine a_icmp_ge (tg := 32) dX4_winningMove_11 (by decide) (fun c_11 => ?_) (fun c_11 => ?_)
    · exact absurd c_11 (nI_ge hh (by omega))
    · refine a_iload_n (i := 3) dX4_winningMove_14 rfl rfl ?_
      refine a_aload_n (i := 2) dX4_winningMove_15 rfl rfl ?_
      refine gX4_39 rfl dX4_winningMove_16 (isS_0 hD hbNow) ?_
      refine a_iload (i := 4) dX4_winningMove_19 rfl ?_
      refine a_ialdN dX4_winningMove_21 (isS_7 hD hbNow) (by first | with_reducible exact rfl | with_reducible exact ix8 _ _ | with_reducible exact ix12 _ _ | exact rfl) (by omega) (by decide) ?_
      rw [f1 h hh]
      refine a_iconst (v := 4) dX4_winningMove_22 (by decide) ?_
      refine a_irem dX4_winningMove_23 (by decide) ?_
      rw [zr]
      refine a_ixor dX4_winningMove_24 ?_
      refine a_istore_n (i := 3) dX4_winningMove_25 rfl (by decide) ?_
      refine a_iincK (i := 4) (u := 1) dX4_winningMove_26 rfl (by decide) (by decide) ?_
      refine a_goto (tg := 5) dX4_winningMove_29 (by decide) ?_
      rw [nI_1]; exact a_loc _ rfl ih
  · refine a_iload (i := 4) dX4_winningMove_5 rfl ?_
    refine a_aload_n (i := 1) dX4_winningMove_7 rfl rfl ?_
    refine gX4_75 rfl dX4_winningMove_8 (isT_0 hD ht) ?_
    rw [e0]
    refine a_icmp_ge (tg := 32) dX4_winningMove_11 (by decide) (fun c_11 => ?_) (fun c_11 => ?_)
    · exact a_loc _ rfl P
    · exact absurd (Int32.le_refl _) c_11
theorem win_dm : ∀ h, h < 6 → ∀ n, n < 4 → ¬ nI (h * 4 + n) = -1 ∧ nI (h * 4 + n) / 4 = nI h ∧ nI (h * 4 + n) - nI (h * 4 + n) / 4 * 4 = nI n := by decide +kernel
set_option maxHeartbeats 4000000 in
set_option maxRecDepth 100000 in
theorem c_X11_game {a : Int32} (hD : aDC D) (h : cR T W Z x t) : aDI l mX11_game (d + 1) D [.ref bLH, .int a] x (qGame T Z a) x := by
  obtain ⟨ht, hp, ok, hZ, hT, hW, hS⟩ := h
  have h6 := ok.1
  refine a_metI (by decide) (Nat.le_of_ble_eq_true rfl) rfl ?_
  unfold qGame
  by_cases qa : zIn 3 a
  · rw [if_pos qa]
    have q3 := zIn3.mpr qa
    by_cases q : zOdds Z (T.1 0) = 0
    · rw [if_pos q]
      have ew : zWin Z (T.1 0) = -1 := by rw [zWin, if_pos q]
      refine a_iload_n (i := 1) dX11_game_0 rfl rfl ?_
      refine a_if_lt (tg := 9) dX11_game_1 (by decide) (fun c_1 => ?_) (fun c_1 => ?_)
      · exact absurd q3.1 (Int32.not_le.mpr c_1)
      · refine a_iload_n (i := 1) dX11_game_4 rfl rfl ?_
        refine a_iconst (v := 2) dX11_game_5 (by decide) ?_
        refine a_icmp_le (tg := 11) dX11_game_6 (by decide) (fun c_6 => ?_) (fun c_6 => ?_)
        · refine a_aload_n (i := 0) dX11_game_11 rfl rfl ?_
          refine gX11_64 rfl dX11_game_12 (isLH_0 hD) ?_
          refine a_aload_n (i := 0) dX11_game_15 rfl rfl ?_
          refine gX11_23 rfl dX11_game_16 (isLH_0 hD) ?_
          rw [hp]
          refine a_aload_n (i := 0) dX11_game_19 rfl rfl ?_
          refine gX11_30 rfl dX11_game_20 (isLH_0 hD) ?_
          refine kX11_327 rfl dX11_game_23 (Nat.le_of_ble_eq_true rfl) (isRk_0 hD) (c_X4_winningMove hD ht ok hZ hT hS) ?_
          rw [ew]
          refine a_istore_n (i := 2) dX11_game_26 rfl (by decide) ?_
          refine a_iload_n (i := 1) dX11_game_27 rfl rfl ?_
          refine a_if_ne (tg := 42) dX11_game_28 (by decide) (fun c_28 => ?_) (fun c_28 => ?_)
          · rw [if_neg c_28]
            refine a_iload_n (i := 2) dX11_game_42 rfl rfl ?_
            refine a_iconst (v := (-1)) dX11_game_43 (by decide) ?_
            refine a_icmp_ne (tg := 50) dX11_game_44 (by decide) (fun c_44 => ?_) (fun c_44 => ?_)
            · exact absurd rfl c_44
            · refine a_bipush (v := (-2)) dX11_game_47 (by decide) ?_
              exact a_iret dX11_game_49 (by exact ⟨rfl, rfl⟩)
          · rw [if_pos c_28]
            refine a_iload_n (i := 2) dX11_game_31 rfl rfl ?_
            refine a_iconst (v := (-1)) dX11_game_32 (by decide) ?_
            refine a_icmp_ne (tg := 40) dX11_game_33 (by decide) (fun c_33 => ?_) (fun c_33 => ?_)
            · exact absurd rfl c_33
            · refine a_iconst (v := 1) dX11_game_36 (by decide) ?_
              refine a_goto (tg := 41) dX11_game_37 (by decide) ?_
              exact a_iret dX11_game_41 (by exact ⟨rfl, rfl⟩)
        · exact absurd q3.2 c_6
    · rw [if_neg q]
      have hn := nim (fun h hh => (hZ.2.1 h hh).1) q
      cases e : zOm (zOdds Z (T.1 0)) Z 0 (T.1 0) with
      | none => exact absurd e hn
      | some w =>
        obtain ⟨b1, b2, b3, b4⟩ := zOm_lt _ _ _ e
        obtain ⟨w1, w2, w3⟩ := win_dm w.1 (by omega) w.2 b4
        have ew : zWin Z (T.1 0) = nI (w.1 * 4 + w.2) := by rw [zWin, if_neg q, e]
        show aV _ _ _ _ _ _ _ _ _ (fun v y => v = some (.int (if a = 0 then 0 else if a = 1 then nI w.1 else nI w.2)) ∧ y = x)
        refine a_iload_n (i := 1) dX11_game_0 rfl rfl ?_
        refine a_if_lt (tg := 9) dX11_game_1 (by decide) (fun c_1 => ?_) (fun c_1 => ?_)
        · exact absurd q3.1 (Int32.not_le.mpr c_1)
        · refine a_iload_n (i := 1) dX11_game_4 rfl rfl ?_
          refine a_iconst (v := 2) dX11_game_5 (by decide) ?_
          refine a_icmp_le (tg := 11) dX11_game_6 (by decide) (fun c_6 => ?_) (fun c_6 => ?_)
          · refine a_aload_n (i := 0) dX11_game_11 rfl rfl ?_
            refine gX11_64 rfl dX11_game_12 (isLH_0 hD) ?_
            refine a_aload_n (i := 0) dX11_game_15 rfl rfl ?_
            refine gX11_23 rfl dX11_game_16 (isLH_0 hD) ?_
            rw [hp]
            refine a_aload_n (i := 0) dX11_game_19 rfl rfl ?_
            refine gX11_30 rfl dX11_game_20 (isLH_0 hD) ?_
            refine kX11_327 rfl dX11_game_23 (Nat.le_of_ble_eq_true rfl) (isRk_0 hD) (c_X4_winningMove hD ht ok hZ hT hS) ?_
            rw [ew]
            refine a_istore_n (i := 2) dX11_game_26 rfl (by decide) ?_
            refine a_iload_n (i := 1) dX11_game_27 rfl rfl ?_
            refine a_if_ne (tg := 42) dX11_game_28 (by decide) (fun c_28 => ?_) (fun c_28 => ?_)
            · rw [if_neg c_28]
              refine a_iload_n (i := 2) dX11_game_42 rfl rfl ?_
              refine a_iconst (v := (-1)) dX11_game_43 (by decide) ?_
              refine a_icmp_ne (tg := 50) dX11_game_44 (by decide) (fun c_44 => ?_) (fun c_44 => ?_)
              · refine a_iload_n (i := 1) dX11_game_50 rfl rfl ?_
                refine a_iconst (v := 1) dX11_game_51 (by decide) ?_
                refine a_icmp_ne (tg := 61) dX11_game_52 (by decide) (fun c_52 => ?_) (fun c_52 => ?_)
                · rw [if_neg c_52]
                  refine a_iload_n (i := 2) dX11_game_61 rfl rfl ?_
                  refine a_iconst (v := 4) dX11_game_62 (by decide) ?_
                  refine a_irem dX11_game_63 (by decide) ?_
                  rw [w3]
                  exact a_iret dX11_game_64 (by exact ⟨rfl, rfl⟩)
                · rw [if_pos c_52]
                  refine a_iload_n (i := 2) dX11_game_55 rfl rfl ?_
                  refine a_iconst (v := 4) dX11_game_56 (by decide) ?_
                  refine a_idiv dX11_game_57 (by decide) ?_
                  rw [w2]
                  refine a_goto (tg := 64) dX11_game_58 (by decide) ?_
                  exact a_iret dX11_game_64 (by exact ⟨rfl, rfl⟩)
              · exact absurd c_44 w1
            · rw [if_pos c_28]
              refine a_iload_n (i := 2) dX11_game_31 rfl rfl ?_
              refine a_iconst (v := (-1)) dX11_game_32 (by decide) ?_
              refine a_icmp_ne (tg := 40) dX11_game_33 (by decide) (fun c_33 => ?_) (fun c_33 => ?_)
              · refine a_iconst (v := 0) dX11_game_40 (by decide) ?_
                exact a_iret dX11_game_41 (by exact ⟨rfl, rfl⟩)
              · exact absurd c_33 w1
          · exact absurd q3.2 c_6
  · rw [if_neg qa]
    refine a_iload_n (i := 1) dX11_game_0 rfl rfl ?_
    refine a_if_lt (tg := 9) dX11_game_1 (by decide) (fun c_1 => ?_) (fun c_1 => ?_)
    · refine a_iconst (v := (-1)) dX11_game_9 (by decide) ?_
      exact a_iret dX11_game_10 (by exact ⟨rfl, rfl⟩)
    · refine a_iload_n (i := 1) dX11_game_4 rfl rfl ?_
      refine a_iconst (v := 2) dX11_game_5 (by decide) ?_
      refine a_icmp_le (tg := 11) dX11_game_6 (by decide) (fun c_6 => ?_) (fun c_6 => ?_)
      · exact absurd (zIn3.mp ⟨Int32.not_lt.mp c_1, c_6⟩) qa
      · refine a_iconst (v := (-1)) dX11_game_9 (by decide) ?_
        exact a_iret dX11_game_10 (by exact ⟨rfl, rfl⟩)
set_option maxHeartbeats 4000000 in
set_option maxRecDepth 100000 in
theorem c_X12_game {a : Int32} (hM : D 12 = true) (h : mR T W Z x) : aDI l mX12_game (d + 1) D [.ref bM, .int a] x (qGame T Z a) (aWr x bM 2 0) := by
  obtain ⟨ok, hZ, hT, hW, hS⟩ := mR_0 h
  refine a_metI (by decide) (Nat.le_of_ble_eq_true rfl) rfl ?_
  refine a_aload_n (i := 0) dX12_game_0 rfl rfl ?_
  refine a_iconst (v := 0) dX12_game_1 (by decide) ?_
  refine pX12_175 rfl dX12_game_2 (isM_0 hM) ?_
  refine a_loc [(0, .ref bM), (1, .int a)] rfl ?_
  generalize aWr x bM 2 0 = y at *
  have h6 := ok.1
  have e0 : y.1 bM 12 = nI (T.1 0) := hT.1
  have f1 : ∀ h, h < T.1 0 → y.1 (bM + 63) h = nI (Z.2 1 h) := fun h hh => by have := (hS.2.2.1 h hh).2.1; rwa [Nat.mul_zero, Nat.zero_add] at this
  have zr : ∀ c, nI c - nI c / 4 * 4 = zr4 c := fun _ => rfl
  unfold qGame
  by_cases qa : zIn 3 a
  · rw [if_pos qa]
    have P : aV l mX12_game (d + 1) D none 45 [(0, .ref bM), (1, .int a), (2, .int (zOdds Z (T.1 0)))] [] y (fun v w => v = some (.int (if zOdds Z (T.1 0) = 0 then (if a = 0 then 1 else -2) else match zOm (zOdds Z (T.1 0)) Z 0 (T.1 0) with | none => -2 | some q => if a = 0 then 0 else if a = 1 then nI q.1 else nI q.2)) ∧ w = y) := by
      generalize zOdds Z (T.1 0) = o
      by_cases q : o = 0
      · rw [if_pos q]
        refine a_iload_n (i := 2) dX12_game_45 rfl rfl ?_
        refine a_if_ne (tg := 60) dX12_game_46 (by decide) (fun c_46 => ?_) (fun c_46 => ?_)
        · exact absurd q c_46
        · refine a_iload_n (i := 1) dX12_game_49 rfl rfl ?_
          refine a_if_ne (tg := 57) dX12_game_50 (by decide) (fun c_50 => ?_) (fun c_50 => ?_)
          · rw [if_neg c_50]
            refine a_bipush (v := (-2)) dX12_game_57 (by decide) ?_
            exact a_iret dX12_game_59 (by exact ⟨rfl, rfl⟩)
          · rw [if_pos c_50]
            refine a_iconst (v := 1) dX12_game_53 (by decide) ?_
            refine a_goto (tg := 59) dX12_game_54 (by decide) ?_
            exact a_iret dX12_game_59 (by exact ⟨rfl, rfl⟩)
      · rw [if_neg q]
        have L : ∀ (f h : Nat), h + f = T.1 0 → aV l mX12_game (d + 1) D none 62 [(0, .ref bM), (1, .int a), (2, .int o), (3, .int (nI h))] [] y (fun v w => v = some (.int (match zOm o Z h f with | none => -2 | some q => if a = 0 then 0 else if a = 1 then nI q.1 else nI q.2)) ∧ w = y) := by
          intro f
          induction f with
          | zero =>
            intro h hh
            rw [Nat.add_zero] at hh
            subst hh
            refine a_iload_n (i := 3) dX12_game_62 rfl rfl ?_
            refine a_aload_n (i := 0) dX12_game_63 rfl rfl ?_
            refine gX12_258 rfl dX12_game_64 (isM_0 hM) ?_
            rw [e0]
            refine a_icmp_ge (tg := 150) dX12_game_67 (by decide) (fun c_67 => ?_) (fun c_67 => ?_)
            · refine a_bipush (v := (-2)) dX12_game_150 (by decide) ?_
              exact a_iret dX12_game_152 (by exact ⟨rfl, rfl⟩)
            · exact absurd (Int32.le_refl _) c_67
          | succ f ih =>
            intro h hh
            have c12 := (hZ.2.1 h (by omega)).1
            have ih2 := ih (h + 1) (by omega)
            have f2 := f1 h (by omega)
            have I : ∀ (g n : Nat), n + g = 4 → 1 ≤ n → aV l mX12_game (d + 1) D none 73 [(0, .ref bM), (1, .int a), (2, .int o), (3, .int (nI h)), (4, .int (nI n))] [] y (fun v w => v = some (.int (match (match zIm o (Z.2 1 h) n g with | some n => some (h, n) | none => zOm o Z (h + 1) f) with | none => -2 | some q => if a = 0 then 0 else if a = 1 then nI q.1 else nI q.2)) ∧ w = y) := by
              intro g
              induction g with
              | zero =>
                intro n hn _
                rw [Nat.add_zero] at hn
                subst hn
                rw [zIm]
                refine a_iload (i := 4) dX12_game_73 rfl ?_
                refine a_iconst (v := 3) dX12_game_75 (by decide) ?_
                refine a_icmp_gt (tg := 144) dX12_game_76 (by decide) (fun c_76 => ?_) (fun c_76 => ?_)
                · refine a_iincK (i := 3) (u := 1) dX12_game_144 rfl (by decide) (by decide) ?_
                  refine a_goto (tg := 62) dX12_game_147 (by decide) ?_
                  rw [nI_1]; exact a_loc _ rfl ih2
                · exact absurd (by decide) c_76
              | succ g ih3 =>
                intro n hn n1
                rw [zIm]
                have ih4 := ih3 (n + 1) (by omega) (by omega)
                refine a_iload (i := 4) dX12_game_73 rfl ?_
                refine a_iconst (v := 3) dX12_game_75 (by decide) ?_
                refine a_icmp_gt (tg := 144) dX12_game_76 (by decide) (fun c_76 => ?_) (fun c_76 => ?_)
                · exact absurd (nI_le (show n ≤ 3 by omega) (by decide)) (Int32.not_le.mpr c_76)
                · refine a_iload (i := 4) dX12_game_79 rfl ?_
                  refine a_aload_n (i := 0) dX12_game_81 rfl rfl ?_
                  refine gX12_115 rfl dX12_game_82 (isM_0 hM) ?_
                  refine a_iload_n (i := 3) dX12_game_85 rfl rfl ?_
                  refine a_ialdN dX12_game_86 (isM_63 hM) (by first | with_reducible exact rfl | with_reducible exact ix8 _ _ | with_reducible exact ix12 _ _ | exact rfl) (by omega) (by decide) ?_
                  rw [f2]
                  refine a_icmp_gt (tg := 138) dX12_game_87 (by decide) (fun c_87 => ?_) (fun c_87 => ?_)
                  · rw [if_neg (fun z => absurd z.1 (Int32.not_le.mpr c_87))]
                    refine a_iincK (i := 4) (u := 1) dX12_game_138 rfl (by decide) (by decide) ?_
                    refine a_goto (tg := 73) dX12_game_141 (by decide) ?_
                    rw [nI_1]; exact a_loc _ rfl ih4
                  · refine a_iload_n (i := 2) dX12_game_90 rfl rfl ?_
                    refine a_aload_n (i := 0) dX12_game_91 rfl rfl ?_
                    refine gX12_115 rfl dX12_game_92 (isM_0 hM) ?_
                    refine a_iload_n (i := 3) dX12_game_95 rfl rfl ?_
                    refine a_ialdN dX12_game_96 (isM_63 hM) (by first | with_reducible exact rfl | with_reducible exact ix8 _ _ | with_reducible exact ix12 _ _ | exact rfl) (by omega) (by decide) ?_
                    rw [f2]
                    refine a_iconst (v := 4) dX12_game_97 (by decide) ?_
                    refine a_irem dX12_game_98 (by decide) ?_
                    refine a_ixor dX12_game_99 ?_
                    refine a_aload_n (i := 0) dX12_game_100 rfl rfl ?_
                    refine gX12_115 rfl dX12_game_101 (isM_0 hM) ?_
                    refine a_iload_n (i := 3) dX12_game_104 rfl rfl ?_
                    refine a_ialdN dX12_game_105 (isM_63 hM) (by first | with_reducible exact rfl | with_reducible exact ix8 _ _ | with_reducible exact ix12 _ _ | exact rfl) (by omega) (by decide) ?_
                    rw [f2]
                    refine a_iload (i := 4) dX12_game_106 rfl ?_
                    refine a_isub dX12_game_108 ?_
                    refine a_iconst (v := 4) dX12_game_109 (by decide) ?_
                    refine a_irem dX12_game_110 (by decide) ?_
                    refine a_ixor dX12_game_111 ?_
                    refine a_if_eq (tg := 118) dX12_game_112 (by decide) (fun c_112 => ?_) (fun c_112 => ?_)
                    · rw [if_pos ⟨Int32.not_lt.mp c_87, c_112⟩]
                      show aV _ _ _ _ _ _ _ _ _ (fun v w => v = some (.int (if a = 0 then 0 else if a = 1 then nI h else nI n)) ∧ w = y)
                      refine a_iload_n (i := 1) dX12_game_118 rfl rfl ?_
                      refine a_if_ne (tg := 126) dX12_game_119 (by decide) (fun c_119 => ?_) (fun c_119 => ?_)
                      · rw [if_neg c_119]
                        refine a_iload_n (i := 1) dX12_game_126 rfl rfl ?_
                        refine a_iconst (v := 1) dX12_game_127 (by decide) ?_
                        refine a_icmp_ne (tg := 135) dX12_game_128 (by decide) (fun c_128 => ?_) (fun c_128 => ?_)
                        · rw [if_neg c_128]
                          refine a_iload (i := 4) dX12_game_135 rfl ?_
                          exact a_iret dX12_game_137 (by exact ⟨rfl, rfl⟩)
                        · rw [if_pos c_128]
                          refine a_iload_n (i := 3) dX12_game_131 rfl rfl ?_
                          refine a_goto (tg := 137) dX12_game_132 (by decide) ?_
                          exact a_iret dX12_game_137 (by exact ⟨rfl, rfl⟩)
                      · rw [if_pos c_119]
                        refine a_iconst (v := 0) dX12_game_122 (by decide) ?_
                        refine a_goto (tg := 137) dX12_game_123 (by decide) ?_
                        exact a_iret dX12_game_137 (by exact ⟨rfl, rfl⟩)
                    · rw [if_neg (fun z => c_112 z.2)]
                      refine a_goto (tg := 138) dX12_game_115 (by decide) ?_
                      refine a_iincK (i := 4) (u := 1) dX12_game_138 rfl (by decide) (by decide) ?_
                      refine a_goto (tg := 73) dX12_game_141 (by decide) ?_
                      rw [nI_1]; exact a_loc _ rfl ih4
            have I0 := I 3 1 rfl (by decide)
            rw [zOm]
            refine a_iload_n (i := 3) dX12_game_62 rfl rfl ?_
            refine a_aload_n (i := 0) dX12_game_63 rfl rfl ?_
            refine gX12_258 rfl dX12_game_64 (isM_0 hM) ?_
            rw [e0]
            refine a_icmp_ge (tg := 150) dX12_game_67 (by decide) (fun c_67 => ?_) (fun c_67 => ?_)
            · exact absurd c_67 (nI_ge (show h < T.1 0 by omega) (by omega))
            · refine a_iconst (v := 1) dX12_game_70 (by decide) ?_
              refine a_istore (i := 4) dX12_game_71 (by decide) ?_
              exact a_loc _ rfl I0
        refine a_iload_n (i := 2) dX12_game_45 rfl rfl ?_
        refine a_if_ne (tg := 60) dX12_game_46 (by decide) (fun c_46 => ?_) (fun c_46 => ?_)
        · refine a_iconst (v := 0) dX12_game_60 (by decide) ?_
          refine a_istore_n (i := 3) dX12_game_61 rfl (by decide) ?_
          exact a_loc _ rfl (L (T.1 0) 0 (Nat.zero_add _))
        · exact absurd c_46 q
    have K : aV l mX12_game (d + 1) D none 20 [(0, .ref bM), (1, .int a), (2, .int 0), (3, .int (nI 0))] [] y (fun v w => v = some (.int (if zOdds Z (T.1 0) = 0 then (if a = 0 then 1 else -2) else match zOm (zOdds Z (T.1 0)) Z 0 (T.1 0) with | none => -2 | some q => if a = 0 then 0 else if a = 1 then nI q.1 else nI q.2)) ∧ w = y) := by
      refine lp_rule (P := fun h w => aV l mX12_game (d + 1) D none 20 [(0, .ref bM), (1, .int a), (2, .int w), (3, .int (nI h))] [] y _) (fun h a => a ^^^ zr4 (Z.2 1 h)) ?_ (T.1 0) 0 0 (Nat.zero_add _) ?_
      · intro h w hh ih
        refine a_iload_n (i := 3) dX12_game_20 rfl rfl ?_
        refine a_aload_n (i := 0) dX12_game_21 rfl rfl ?_
        refine gX12_258 rfl dX12_game_22 (isM_0 hM) ?_
        rw [e0]
        refine a_icmp_ge (tg := 45) dX12_game_25 (by decide) (fun c_25 => ?_) (fun c_25 => ?_)
        · exact absurd c_25 (nI_ge hh (by omega))
        · refine a_iload_n (i := 2) dX12_game_28 rfl rfl ?_
          refine a_aload_n (i := 0) dX12_game_29 rfl rfl ?_
          refine gX12_115 rfl dX12_game_30 (isM_0 hM) ?_
          refine a_iload_n (i := 3) dX12_game_33 rfl rfl ?_
          refine a_ialdN dX12_game_34 (isM_63 hM) (by first | with_reducible exact rfl | with_reducible exact ix8 _ _ | with_reducible exact ix12 _ _ | exact rfl) (by omega) (by decide) ?_
          rw [f1 h hh]
          refine a_iconst (v := 4) dX12_game_35 (by decide) ?_
          refine a_irem dX12_game_36 (by decide) ?_
          rw [zr]
          refine a_ixor dX12_game_37 ?_
          refine a_istore_n (i := 2) dX12_game_38 rfl (by decide) ?_
          refine a_iincK (i := 3) (u := 1) dX12_game_39 rfl (by decide) (by decide) ?_
          refine a_goto (tg := 20) dX12_game_42 (by decide) ?_
          rw [nI_1]; exact a_loc _ rfl ih
      · refine a_iload_n (i := 3) dX12_game_20 rfl rfl ?_
        refine a_aload_n (i := 0) dX12_game_21 rfl rfl ?_
        refine gX12_258 rfl dX12_game_22 (isM_0 hM) ?_
        rw [e0]
        refine a_icmp_ge (tg := 45) dX12_game_25 (by decide) (fun c_25 => ?_) (fun c_25 => ?_)
        · exact a_loc _ rfl P
        · exact absurd (Int32.le_refl _) c_25
    refine a_iload_n (i := 1) dX12_game_5 rfl rfl ?_
    refine a_iconst (v := 0) dX12_game_6 (by decide) ?_
    refine a_iconst (v := 2) dX12_game_7 (by decide) ?_
    refine kX12_220 rfl dX12_game_8 (Nat.le_of_ble_eq_true rfl) (c_X12_isIn) ?_
    refine a_if_ne (tg := 16) dX12_game_11 (by decide) (fun c_11 => ?_) (fun c_11 => ?_)
    · refine a_iconst (v := 0) dX12_game_16 (by decide) ?_
      refine a_istore_n (i := 2) dX12_game_17 rfl (by decide) ?_
      refine a_iconst (v := 0) dX12_game_18 (by decide) ?_
      refine a_istore_n (i := 3) dX12_game_19 rfl (by decide) ?_
      exact a_loc _ rfl K
    · exact absurd c_11 (bI_p.mpr (zIn3.mpr qa))
  · rw [if_neg qa]
    refine a_iload_n (i := 1) dX12_game_5 rfl rfl ?_
    refine a_iconst (v := 0) dX12_game_6 (by decide) ?_
    refine a_iconst (v := 2) dX12_game_7 (by decide) ?_
    refine kX12_220 rfl dX12_game_8 (Nat.le_of_ble_eq_true rfl) (c_X12_isIn) ?_
    refine a_if_ne (tg := 16) dX12_game_11 (by decide) (fun c_11 => ?_) (fun c_11 => ?_)
    · exact absurd (zIn3.mp (bI_p.mp c_11)) qa
    · refine a_iconst (v := (-1)) dX12_game_14 (by decide) ?_
      exact a_iret dX12_game_15 (by exact ⟨rfl, rfl⟩)
end qJ
