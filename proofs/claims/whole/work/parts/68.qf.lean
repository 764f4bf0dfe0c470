/-! ahead, firstCorn, tried, chance -/
section qF
variable {l : Launch} {d : Nat} {D : Nat → Bool} {T : zT} {W : Nat → zL} {Z : zS} {t : Nat} {x : aS}
theorem zIn5 {a : Int32} : (0 ≤ a ∧ a ≤ 4) ↔ zIn 5 a := zIn_le (n := 4) rfl (by decide)
theorem zIn201 {a : Int32} : (0 ≤ a ∧ a ≤ 200) ↔ zIn 201 a := zIn_le (n := 200) rfl (by decide)
abbrev zAh (T : zT) (w i : Int32) : Prop := zIn 5 w ∧ (w = 1 → zIn (T.1 1) i) ∧ (w = 2 → zIn (T.1 0) i)
def zAhv (T : zT) (Z Y : zS) (w i : Int32) : Int32 := if w = 0 then zCorns T Y - zCorns T Z else if w = 1 then Y.1 4 i.toNatClampNeg else if w = 2 then zSum Y i.toNatClampNeg else if w = 3 then zWeds0 T Y else Y.1 0 1 - Z.1 0 1
def qAhead (T : zT) (W : Nat → zL) (Z : zS) (n w i : Int32) : Int32 := if zAh T w i ∧ zIn 201 n then zAhv T Z (zYears T W 5 n.toNatClampNeg Z) w i else -2147483648
theorem rS_y {y : aS} (hF : aFy bTr x y) (h : rS T Z x bNow) : rS T Z y bNow := rS_same (fun k hk => (hF (bNow + k) (by unfold bNow bTr; omega) (by unfold bNow; omega)).1) h
theorem cR_y {y : aS} (hF : aFy bTr x y) (h : cR T W Z x t) : cR T W Z y t := cR_F (cF_y hF) h
set_option maxHeartbeats 4000000 in
set_option maxRecDepth 100000 in
theorem c_X11_ahead {n w i : Int32} (hD : aDC D) (h : cR T W Z x t) (hB : zB T Z) : aCt l mX11_ahead (d + 6) D [.ref bLH, .int n, .int w, .int i] x (fun v y => v = some (.int (qAhead T W Z n w i)) ∧ cF x y) := by
  obtain ⟨ht, hp, ok, hZ, hT, hW, hS⟩ := h
  have h8 := ok.2.1
  have h6 := ok.1
  refine a_met (by decide) (Nat.le_of_ble_eq_true rfl) (fun v y q => Or.inl ⟨rfl, _, q.1⟩) ?_
  unfold qAhead
  by_cases q : zAh T w i
  · by_cases qn : zIn 201 n
    · rw [if_pos ⟨q, qn⟩]
      obtain ⟨k, hk, rfl⟩ := zIn_of (by decide) qn
      rw [nI_clamp (by omega)]
      have P61 : aV l mX11_ahead (d + 6) D none 61 [(0, .ref bLH), (1, .int (nI k)), (2, .int w), (3, .int i)] [] x (fun v y => v = some (.int (zAhv T Z (zYears T W 5 k Z) w i)) ∧ cF x y) := by
        have F1 := aFy_copy (x := x) hbTr hbNow (show bNow ≠ bTr by decide)
        have hc := c_X11_runTrial (l := l) (d := d) (D := D) (n := k) (way := 5) (x := sCopy x bTr bNow) hD (cT_y hbTr F1 (cR_T ⟨ht, hp, ok, hZ, hT, hW, hS⟩)) hZ (rS_copy hbTr hbNow (by decide) ok hZ hS) (by decide) (by omega)
        have P78 : ∀ y, rS T (zYears T W 5 k Z) y bTr → zOk T (zYears T W 5 k Z) → aFy bTr x y → aV l mX11_ahead (d + 6) D none 78 [(0, .ref bLH), (2, .int w), (3, .int i)] [] y (fun v y => v = some (.int (zAhv T Z (zYears T W 5 k Z) w i)) ∧ cF x y) := by
          intro y hSy hZy hFy
          obtain ⟨_, hpy, _, _, hTy, hWy, hNy⟩ := cR_y hFy ⟨ht, hp, ok, hZ, hT, hW, hS⟩
          have jb := jbc_z (Z := zYears T W 5 k Z) ok (zYears_ok (zB T) (fun _ => zB_year ok) hB)
          have er : y.1 bTr 1 = (zYears T W 5 k Z).1 0 1 := hSy.1 1 (by decide)
          have en : y.1 bNow 1 = Z.1 0 1 := hNy.1 1 (by decide)
          have ew : y.1 bTr 3 = nI ((zYears T W 5 k Z).2 0 0) := hSy.2.1
          by_cases w1 : w = 1
          · subst w1
            obtain ⟨m, hm, rfl⟩ := zIn_of (by omega) (q.2.1 rfl)
            have ec := (hSy.2.2.2 m hm).2.2
            refine a_iload_n (i := 2) dX11_ahead_78 rfl rfl ?_
            refine sX11_ahead_79 dX11_ahead_79 (fun s_79 => ?_) (fun s_79 => ?_) (fun s_79 => ?_) (fun s_79 => ?_) (fun s_79_0 s_79_1 s_79_2 s_79_3 => ?_)
            · exact absurd s_79 (by decide)
            · refine a_aload_n (i := 0) dX11_ahead_132 rfl rfl ?_
              refine gX11_37 rfl dX11_ahead_133 (isLH_0 hD) ?_
              refine gX11_147 rfl dX11_ahead_136 (isS_0 hD hbTr) ?_
              refine a_iload_n (i := 3) dX11_ahead_139 rfl rfl ?_
              refine a_ialdN dX11_ahead_140 (isS_12 hD hbTr) (by first | with_reducible exact rfl | with_reducible exact ix8 _ _ | with_reducible exact ix12 _ _ | exact rfl) (by omega) (by decide) ?_
              rw [ec]
              exact a_iret dX11_ahead_141 (by rw [zAhv, if_neg (by decide), if_pos rfl, nI_clamp (by omega)]; exact ⟨rfl, cF_y hFy⟩)
            · exact absurd s_79 (by decide)
            · exact absurd s_79 (by decide)
            · exact absurd rfl s_79_1
          · by_cases w2 : w = 2
            · subst w2
              obtain ⟨m, hm, rfl⟩ := zIn_of (by omega) (q.2.2 rfl)
              refine a_iload_n (i := 2) dX11_ahead_78 rfl rfl ?_
              refine sX11_ahead_79 dX11_ahead_79 (fun s_79 => ?_) (fun s_79 => ?_) (fun s_79 => ?_) (fun s_79 => ?_) (fun s_79_0 s_79_1 s_79_2 s_79_3 => ?_)
              · exact absurd s_79 (by decide)
              · exact absurd s_79 (by decide)
              · refine a_aload_n (i := 0) dX11_ahead_142 rfl rfl ?_
                refine gX11_37 rfl dX11_ahead_143 (isLH_0 hD) ?_
                refine a_iload_n (i := 3) dX11_ahead_146 rfl rfl ?_
                refine kX11_206 rfl dX11_ahead_147 (Nat.le_of_ble_eq_true rfl) (isS_0 hD hbTr) (cz_sumOf hD hbTr ok hSy hm) ?_
                exact a_iret dX11_ahead_150 (by rw [zAhv, if_neg (by decide), if_neg (by decide), if_pos rfl, nI_clamp (by omega)]; exact ⟨rfl, cF_y hFy⟩)
              · exact absurd s_79 (by decide)
              · exact absurd rfl s_79_2
            · refine a_iload_n (i := 2) dX11_ahead_78 rfl rfl ?_
              refine sX11_ahead_79 dX11_ahead_79 (fun s_79 => ?_) (fun s_79 => ?_) (fun s_79 => ?_) (fun s_79 => ?_) (fun s_79_0 s_79_1 s_79_2 s_79_3 => ?_)
              · refine a_aload_n (i := 0) dX11_ahead_108 rfl rfl ?_
                refine gX11_37 rfl dX11_ahead_109 (isLH_0 hD) ?_
                refine a_aload_n (i := 0) dX11_ahead_112 rfl rfl ?_
                refine gX11_23 rfl dX11_ahead_113 (isLH_0 hD) ?_
                rw [hpy]
                refine kX11_224 rfl dX11_ahead_116 (Nat.le_of_ble_eq_true rfl) (isS_0 hD hbTr) (cz_cornsOfAll hD hbTr ht ok hTy hSy) ?_
                refine a_aload_n (i := 0) dX11_ahead_119 rfl rfl ?_
                refine gX11_30 rfl dX11_ahead_120 (isLH_0 hD) ?_
                refine a_aload_n (i := 0) dX11_ahead_123 rfl rfl ?_
                refine gX11_23 rfl dX11_ahead_124 (isLH_0 hD) ?_
                rw [hpy]
                refine kX11_224 rfl dX11_ahead_127 (Nat.le_of_ble_eq_true rfl) (isS_0 hD hbNow) (cz_cornsOfAll hD hbNow ht ok hTy hNy) ?_
                refine a_isub dX11_ahead_130 ?_
                exact a_iret dX11_ahead_131 (by rw [zAhv, if_pos s_79]; exact ⟨rfl, cF_y hFy⟩)
              · exact absurd s_79 w1
              · exact absurd s_79 w2
              · refine a_aload_n (i := 0) dX11_ahead_151 rfl rfl ?_
                refine gX11_37 rfl dX11_ahead_152 (isLH_0 hD) ?_
                refine gX11_150 rfl dX11_ahead_155 (isS_0 hD hbTr) ?_
                rw [ew]
                refine kX11_231 rfl dX11_ahead_158 (Nat.le_of_ble_eq_true rfl) (c_J6_bitCount) ?_
                rw [jb]
                exact a_iret dX11_ahead_161 (by rw [zAhv, if_neg (by rw [s_79]; decide), if_neg w1, if_neg w2, if_pos s_79]; exact ⟨rfl, cF_y hFy⟩)
              · refine a_aload_n (i := 0) dX11_ahead_162 rfl rfl ?_
                refine gX11_37 rfl dX11_ahead_163 (isLH_0 hD) ?_
                refine gX11_234 rfl dX11_ahead_166 (isS_0 hD hbTr) ?_
                rw [er]
                refine a_aload_n (i := 0) dX11_ahead_169 rfl rfl ?_
                refine gX11_30 rfl dX11_ahead_170 (isLH_0 hD) ?_
                refine gX11_234 rfl dX11_ahead_173 (isS_0 hD hbNow) ?_
                rw [en]
                refine a_isub dX11_ahead_176 ?_
                exact a_iret dX11_ahead_177 (by rw [zAhv, if_neg s_79_0, if_neg w1, if_neg w2, if_neg s_79_3]; exact ⟨rfl, cF_y hFy⟩)
        refine a_aload_n (i := 0) dX11_ahead_61 rfl rfl ?_
        refine gX11_37 rfl dX11_ahead_62 (isLH_0 hD) ?_
        refine a_aload_n (i := 0) dX11_ahead_65 rfl rfl ?_
        refine gX11_30 rfl dX11_ahead_66 (isLH_0 hD) ?_
        refine kX11_268 rfl dX11_ahead_69 (Nat.le_of_ble_eq_true rfl) (isS_0 hD hbTr) (c_X6_copyFrom hD hbTr hbNow (by decide)) ?_
        refine a_aload_n (i := 0) dX11_ahead_72 rfl rfl ?_
        refine a_iload_n (i := 1) dX11_ahead_73 rfl rfl ?_
        refine a_iconst (v := 5) dX11_ahead_74 (by decide) ?_
        refine kgX11_276 rfl dX11_ahead_75 (Nat.le_of_ble_eq_true rfl) (isLH_0 hD) (hc) ?_
        rintro v y ⟨rfl, hSy, hZy, hFy⟩
        exact a_loc _ rfl (P78 y hSy hZy (aFy_t F1 hFy))
      have P35 : aV l mX11_ahead (d + 6) D none 35 [(0, .ref bLH), (1, .int (nI k)), (2, .int w), (3, .int i)] [] x (fun v y => v = some (.int (zAhv T Z (zYears T W 5 k Z) w i)) ∧ cF x y) := by
        refine a_iconst (v := 1) dX11_ahead_35 (by decide) ?_
        refine a_goto (tg := 40) dX11_ahead_36 (by decide) ?_
        refine a_istore (i := 4) dX11_ahead_40 (by decide) ?_
        refine a_iload (i := 4) dX11_ahead_42 rfl ?_
        refine a_if_eq (tg := 58) dX11_ahead_44 (by decide) (fun c_44 => ?_) (fun c_44 => ?_)
        · exact absurd c_44 (by decide)
        · refine a_iload_n (i := 1) dX11_ahead_47 rfl rfl ?_
          refine a_if_lt (tg := 58) dX11_ahead_48 (by decide) (fun c_48 => ?_) (fun c_48 => ?_)
          · exact absurd qn.1 (Int32.not_le.mpr c_48)
          · refine a_iload_n (i := 1) dX11_ahead_51 rfl rfl ?_
            refine a_sipush (v := 200) dX11_ahead_52 (by decide) ?_
            refine a_icmp_le (tg := 61) dX11_ahead_55 (by decide) (fun c_55 => ?_) (fun c_55 => ?_)
            · exact a_loc _ rfl P61
            · exact absurd (zIn201.mpr qn).2 c_55
      refine a_iload_n (i := 2) dX11_ahead_0 rfl rfl ?_
      refine a_if_lt (tg := 39) dX11_ahead_1 (by decide) (fun c_1 => ?_) (fun c_1 => ?_)
      · exact absurd q.1.1 (Int32.not_le.mpr c_1)
      · refine a_iload_n (i := 2) dX11_ahead_4 rfl rfl ?_
        refine a_iconst (v := 4) dX11_ahead_5 (by decide) ?_
        refine a_icmp_gt (tg := 39) dX11_ahead_6 (by decide) (fun c_6 => ?_) (fun c_6 => ?_)
        · exact absurd (zIn5.mpr q.1).2 (Int32.not_le.mpr c_6)
        · refine a_iload_n (i := 2) dX11_ahead_9 rfl rfl ?_
          refine a_iconst (v := 1) dX11_ahead_10 (by decide) ?_
          refine a_icmp_ne (tg := 22) dX11_ahead_11 (by decide) (fun c_11 => ?_) (fun c_11 => ?_)
          · refine a_iload_n (i := 2) dX11_ahead_22 rfl rfl ?_
            refine a_iconst (v := 2) dX11_ahead_23 (by decide) ?_
            refine a_icmp_ne (tg := 35) dX11_ahead_24 (by decide) (fun c_24 => ?_) (fun c_24 => ?_)
            · exact a_loc _ rfl P35
            · refine a_aload_n (i := 0) dX11_ahead_27 rfl rfl ?_
              refine a_iload_n (i := 3) dX11_ahead_28 rfl rfl ?_
              refine kX11_162 rfl dX11_ahead_29 (Nat.le_of_ble_eq_true rfl) (isLH_0 hD) (c_X11_isHouse hD ht hp hT) ?_
              refine a_if_eq (tg := 39) dX11_ahead_32 (by decide) (fun c_32 => ?_) (fun c_32 => ?_)
              · exact absurd c_32 (bI_p.mpr (q.2.2 c_24))
              · exact a_loc _ rfl P35
          · refine a_aload_n (i := 0) dX11_ahead_14 rfl rfl ?_
            refine a_iload_n (i := 3) dX11_ahead_15 rfl rfl ?_
            refine kX11_125 rfl dX11_ahead_16 (Nat.le_of_ble_eq_true rfl) (isLH_0 hD) (c_X11_isMan hD ht hp hT) ?_
            refine a_if_eq (tg := 39) dX11_ahead_19 (by decide) (fun c_19 => ?_) (fun c_19 => ?_)
            · exact absurd c_19 (bI_p.mpr (q.2.1 c_11))
            · refine a_iload_n (i := 2) dX11_ahead_22 rfl rfl ?_
              refine a_iconst (v := 2) dX11_ahead_23 (by decide) ?_
              refine a_icmp_ne (tg := 35) dX11_ahead_24 (by decide) (fun c_24 => ?_) (fun c_24 => ?_)
              · exact a_loc _ rfl P35
              · refine a_aload_n (i := 0) dX11_ahead_27 rfl rfl ?_
                refine a_iload_n (i := 3) dX11_ahead_28 rfl rfl ?_
                refine kX11_162 rfl dX11_ahead_29 (Nat.le_of_ble_eq_true rfl) (isLH_0 hD) (c_X11_isHouse hD ht hp hT) ?_
                refine a_if_eq (tg := 39) dX11_ahead_32 (by decide) (fun c_32 => ?_) (fun c_32 => ?_)
                · exact absurd c_32 (bI_p.mpr (q.2.2 c_24))
                · exact a_loc _ rfl P35
    · rw [if_neg (fun g => qn g.2)]
      have P35 : aV l mX11_ahead (d + 6) D none 35 [(0, .ref bLH), (1, .int n), (2, .int w), (3, .int i)] [] x (fun v y => v = some (.int (-2147483648)) ∧ cF x y) := by
        refine a_iconst (v := 1) dX11_ahead_35 (by decide) ?_
        refine a_goto (tg := 40) dX11_ahead_36 (by decide) ?_
        refine a_istore (i := 4) dX11_ahead_40 (by decide) ?_
        refine a_iload (i := 4) dX11_ahead_42 rfl ?_
        refine a_if_eq (tg := 58) dX11_ahead_44 (by decide) (fun c_44 => ?_) (fun c_44 => ?_)
        · refine a_ldc (v := (-2147483648)) dX11_ahead_58 (oX11_168 rfl) ?_
          exact a_iret dX11_ahead_60 (by exact ⟨rfl, cF_r⟩)
        · refine a_iload_n (i := 1) dX11_ahead_47 rfl rfl ?_
          refine a_if_lt (tg := 58) dX11_ahead_48 (by decide) (fun c_48 => ?_) (fun c_48 => ?_)
          · refine a_ldc (v := (-2147483648)) dX11_ahead_58 (oX11_168 rfl) ?_
            exact a_iret dX11_ahead_60 (by exact ⟨rfl, cF_r⟩)
          · refine a_iload_n (i := 1) dX11_ahead_51 rfl rfl ?_
            refine a_sipush (v := 200) dX11_ahead_52 (by decide) ?_
            refine a_icmp_le (tg := 61) dX11_ahead_55 (by decide) (fun c_55 => ?_) (fun c_55 => ?_)
            · exact absurd (zIn201.mp ⟨Int32.not_lt.mp c_48, c_55⟩) qn
            · refine a_ldc (v := (-2147483648)) dX11_ahead_58 (oX11_168 rfl) ?_
              exact a_iret dX11_ahead_60 (by exact ⟨rfl, cF_r⟩)
      refine a_iload_n (i := 2) dX11_ahead_0 rfl rfl ?_
      refine a_if_lt (tg := 39) dX11_ahead_1 (by decide) (fun c_1 => ?_) (fun c_1 => ?_)
      · exact absurd q.1.1 (Int32.not_le.mpr c_1)
      · refine a_iload_n (i := 2) dX11_ahead_4 rfl rfl ?_
        refine a_iconst (v := 4) dX11_ahead_5 (by decide) ?_
        refine a_icmp_gt (tg := 39) dX11_ahead_6 (by decide) (fun c_6 => ?_) (fun c_6 => ?_)
        · exact absurd (zIn5.mpr q.1).2 (Int32.not_le.mpr c_6)
        · refine a_iload_n (i := 2) dX11_ahead_9 rfl rfl ?_
          refine a_iconst (v := 1) dX11_ahead_10 (by decide) ?_
          refine a_icmp_ne (tg := 22) dX11_ahead_11 (by decide) (fun c_11 => ?_) (fun c_11 => ?_)
          · refine a_iload_n (i := 2) dX11_ahead_22 rfl rfl ?_
            refine a_iconst (v := 2) dX11_ahead_23 (by decide) ?_
            refine a_icmp_ne (tg := 35) dX11_ahead_24 (by decide) (fun c_24 => ?_) (fun c_24 => ?_)
            · exact a_loc _ rfl P35
            · refine a_aload_n (i := 0) dX11_ahead_27 rfl rfl ?_
              refine a_iload_n (i := 3) dX11_ahead_28 rfl rfl ?_
              refine kX11_162 rfl dX11_ahead_29 (Nat.le_of_ble_eq_true rfl) (isLH_0 hD) (c_X11_isHouse hD ht hp hT) ?_
              refine a_if_eq (tg := 39) dX11_ahead_32 (by decide) (fun c_32 => ?_) (fun c_32 => ?_)
              · exact absurd c_32 (bI_p.mpr (q.2.2 c_24))
              · exact a_loc _ rfl P35
          · refine a_aload_n (i := 0) dX11_ahead_14 rfl rfl ?_
            refine a_iload_n (i := 3) dX11_ahead_15 rfl rfl ?_
            refine kX11_125 rfl dX11_ahead_16 (Nat.le_of_ble_eq_true rfl) (isLH_0 hD) (c_X11_isMan hD ht hp hT) ?_
            refine a_if_eq (tg := 39) dX11_ahead_19 (by decide) (fun c_19 => ?_) (fun c_19 => ?_)
            · exact absurd c_19 (bI_p.mpr (q.2.1 c_11))
            · refine a_iload_n (i := 2) dX11_ahead_22 rfl rfl ?_
              refine a_iconst (v := 2) dX11_ahead_23 (by decide) ?_
              refine a_icmp_ne (tg := 35) dX11_ahead_24 (by decide) (fun c_24 => ?_) (fun c_24 => ?_)
              · exact a_loc _ rfl P35
              · refine a_aload_n (i := 0) dX11_ahead_27 rfl rfl ?_
                refine a_iload_n (i := 3) dX11_ahead_28 rfl rfl ?_
                refine kX11_162 rfl dX11_ahead_29 (Nat.le_of_ble_eq_true rfl) (isLH_0 hD) (c_X11_isHouse hD ht hp hT) ?_
                refine a_if_eq (tg := 39) dX11_ahead_32 (by decide) (fun c_32 => ?_) (fun c_32 => ?_)
                · exact absurd c_32 (bI_p.mpr (q.2.2 c_24))
                · exact a_loc _ rfl P35
  · rw [if_neg (fun g => q g.1)]
    have P39 : aV l mX11_ahead (d + 6) D none 39 [(0, .ref bLH), (1, .int n), (2, .int w), (3, .int i)] [] x (fun v y => v = some (.int (-2147483648)) ∧ cF x y) := by
      refine a_iconst (v := 0) dX11_ahead_39 (by decide) ?_
      refine a_istore (i := 4) dX11_ahead_40 (by decide) ?_
      refine a_iload (i := 4) dX11_ahead_42 rfl ?_
      refine a_if_eq (tg := 58) dX11_ahead_44 (by decide) (fun c_44 => ?_) (fun c_44 => ?_)
      · refine a_ldc (v := (-2147483648)) dX11_ahead_58 (oX11_168 rfl) ?_
        exact a_iret dX11_ahead_60 (by exact ⟨rfl, cF_r⟩)
      · exact absurd rfl c_44
    refine a_iload_n (i := 2) dX11_ahead_0 rfl rfl ?_
    refine a_if_lt (tg := 39) dX11_ahead_1 (by decide) (fun c_1 => ?_) (fun c_1 => ?_)
    · exact a_loc _ rfl P39
    · refine a_iload_n (i := 2) dX11_ahead_4 rfl rfl ?_
      refine a_iconst (v := 4) dX11_ahead_5 (by decide) ?_
      refine a_icmp_gt (tg := 39) dX11_ahead_6 (by decide) (fun c_6 => ?_) (fun c_6 => ?_)
      · exact a_loc _ rfl P39
      · refine a_iload_n (i := 2) dX11_ahead_9 rfl rfl ?_
        refine a_iconst (v := 1) dX11_ahead_10 (by decide) ?_
        refine a_icmp_ne (tg := 22) dX11_ahead_11 (by decide) (fun c_11 => ?_) (fun c_11 => ?_)
        · refine a_iload_n (i := 2) dX11_ahead_22 rfl rfl ?_
          refine a_iconst (v := 2) dX11_ahead_23 (by decide) ?_
          refine a_icmp_ne (tg := 35) dX11_ahead_24 (by decide) (fun c_24 => ?_) (fun c_24 => ?_)
          · exact absurd ⟨zIn5.mp ⟨Int32.not_lt.mp c_1, Int32.not_lt.mp c_6⟩, fun g => by first | exact bI_p.mp c_19 | exact absurd g c_11, fun g => by first | exact bI_p.mp c_32 | exact absurd g c_24⟩ q
          · refine a_aload_n (i := 0) dX11_ahead_27 rfl rfl ?_
            refine a_iload_n (i := 3) dX11_ahead_28 rfl rfl ?_
            refine kX11_162 rfl dX11_ahead_29 (Nat.le_of_ble_eq_true rfl) (isLH_0 hD) (c_X11_isHouse hD ht hp hT) ?_
            refine a_if_eq (tg := 39) dX11_ahead_32 (by decide) (fun c_32 => ?_) (fun c_32 => ?_)
            · exact a_loc _ rfl P39
            · exact absurd ⟨zIn5.mp ⟨Int32.not_lt.mp c_1, Int32.not_lt.mp c_6⟩, fun g => by first | exact bI_p.mp c_19 | exact absurd g c_11, fun g => by first | exact bI_p.mp c_32 | exact absurd g c_24⟩ q
        · refine a_aload_n (i := 0) dX11_ahead_14 rfl rfl ?_
          refine a_iload_n (i := 3) dX11_ahead_15 rfl rfl ?_
          refine kX11_125 rfl dX11_ahead_16 (Nat.le_of_ble_eq_true rfl) (isLH_0 hD) (c_X11_isMan hD ht hp hT) ?_
          refine a_if_eq (tg := 39) dX11_ahead_19 (by decide) (fun c_19 => ?_) (fun c_19 => ?_)
          · exact a_loc _ rfl P39
          · refine a_iload_n (i := 2) dX11_ahead_22 rfl rfl ?_
            refine a_iconst (v := 2) dX11_ahead_23 (by decide) ?_
            refine a_icmp_ne (tg := 35) dX11_ahead_24 (by decide) (fun c_24 => ?_) (fun c_24 => ?_)
            · exact absurd ⟨zIn5.mp ⟨Int32.not_lt.mp c_1, Int32.not_lt.mp c_6⟩, fun g => by first | exact bI_p.mp c_19 | exact absurd g c_11, fun g => by first | exact bI_p.mp c_32 | exact absurd g c_24⟩ q
            · refine a_aload_n (i := 0) dX11_ahead_27 rfl rfl ?_
              refine a_iload_n (i := 3) dX11_ahead_28 rfl rfl ?_
              refine kX11_162 rfl dX11_ahead_29 (Nat.le_of_ble_eq_true rfl) (isLH_0 hD) (c_X11_isHouse hD ht hp hT) ?_
              refine a_if_eq (tg := 39) dX11_ahead_32 (by decide) (fun c_32 => ?_) (fun c_32 => ?_)
              · exact a_loc _ rfl P39
              · exact absurd ⟨zIn5.mp ⟨Int32.not_lt.mp c_1, Int32.not_lt.mp c_6⟩, fun g => by first | exact bI_p.mp c_19 | exact absurd g c_11, fun g => by first | exact bI_p.mp c_32 | exact absurd g c_24⟩ q
set_option maxHeartbeats 4000000 in
set_option maxRecDepth 100000 in
theorem c_X12_ahead {n w i : Int32} (hM : D 12 = true) (h : mQ T W Z x) : aCt l mX12_ahead (d + 8) D [.ref bM, .int n, .int w, .int i] x (fun v y => v = some (.int (qAhead T W Z n w i)) ∧ mF x y) := by
  have hF0 : mF x (aWr x bM 2 0) := mF_0
  have hq : mQ T W Z (aWr x bM 2 0) := ⟨mR_0 h.1, h.2.1, h.2.2.1, by
    obtain ⟨f0, f1, f2, f3, f4⟩ := h.2.2.2
    exact ⟨by rw [aWr_j _ _ _ (by decide)]; exact f0, by rw [aWr_j _ _ _ (by decide)]; exact f1, by rw [aWr_j _ _ _ (by decide)]; exact f2, by rw [aWr_j _ _ _ (by decide)]; exact f3, by rw [aWr_j _ _ _ (by decide)]; exact f4⟩⟩
  refine a_met (by decide) (Nat.le_of_ble_eq_true rfl) (fun v y q => Or.inl ⟨rfl, _, q.1⟩) ?_
  refine a_aload_n (i := 0) dX12_ahead_0 rfl rfl ?_
  refine a_iconst (v := 0) dX12_ahead_1 (by decide) ?_
  refine pX12_175 rfl dX12_ahead_2 (isM_0 hM) ?_
  refine a_loc [(0, .ref bM), (1, .int n), (2, .int w), (3, .int i)] rfl ?_
  generalize aWr x bM 2 0 = y at *
  obtain ⟨⟨ok, hZ, hT, hW, hS⟩, hB, hN, hf⟩ := hq
  have h8 := ok.2.1
  have h6 := ok.1
  unfold qAhead
  by_cases q : zAh T w i ∧ zIn 201 n
  · rw [if_pos q]
    obtain ⟨q, qn⟩ := q
    obtain ⟨k, hk, rfl⟩ := zIn_of (by decide) qn
    rw [nI_clamp (by omega)]
    have P64 : ∀ z, yJ T 5 1 z (zYears T W 5 k Z) z → mR T W Z z → mF x z → aV l mX12_ahead (d + 8) D none 64 [(0, .ref bM), (2, .int w), (3, .int i)] [] z (fun v y => v = some (.int (zAhv T Z (zYears T W 5 k Z) w i)) ∧ mF x y) := by
      intro z hJ hR hFz
      obtain ⟨_, _, hTz, _, hSz⟩ := hR
      obtain ⟨hZ1, hS1, _, _⟩ := hJ
      by_cases w1 : w = 1
      · subst w1
        obtain ⟨m, hm, rfl⟩ := zIn_of (by omega) (q.2.1 rfl)
        have ec := (hS1.2.2.2 m hm).2.2.1
        rw [Nat.mul_one] at ec
        refine a_iload_n (i := 2) dX12_ahead_64 rfl rfl ?_
        refine sX12_ahead_65 dX12_ahead_65 (fun s_65 => ?_) (fun s_65 => ?_) (fun s_65 => ?_) (fun s_65 => ?_) (fun s_65_0 s_65_1 s_65_2 s_65_3 => ?_)
        · exact absurd s_65 (by decide)
        · refine a_aload_n (i := 0) dX12_ahead_108 rfl rfl ?_
          refine gX12_124 rfl dX12_ahead_109 (isM_0 hM) ?_
          refine a_bipush (v := 8) dX12_ahead_112 (by decide) ?_
          refine a_iload_n (i := 3) dX12_ahead_114 rfl rfl ?_
          refine a_iadd dX12_ahead_115 ?_
          refine a_ialdN dX12_ahead_116 (isM_66 hM) (by first | exact nI_add 8 _ | with_reducible exact rfl | with_reducible exact ix8 _ _ | with_reducible exact ix12 _ _ | exact rfl) (by omega) (by decide) ?_
          rw [ec]
          exact a_iret dX12_ahead_117 (by rw [zAhv, if_neg (by decide), if_pos rfl, nI_clamp (by omega)]; exact ⟨rfl, hFz⟩)
        · exact absurd s_65 (by decide)
        · exact absurd s_65 (by decide)
        · exact absurd rfl s_65_1
      · by_cases w2 : w = 2
        · subst w2
          obtain ⟨m, hm, rfl⟩ := zIn_of (by omega) (q.2.2 rfl)
          refine a_iload_n (i := 2) dX12_ahead_64 rfl rfl ?_
          refine sX12_ahead_65 dX12_ahead_65 (fun s_65 => ?_) (fun s_65 => ?_) (fun s_65 => ?_) (fun s_65 => ?_) (fun s_65_0 s_65_1 s_65_2 s_65_3 => ?_)
          · exact absurd s_65 (by decide)
          · exact absurd s_65 (by decide)
          · refine a_aload_n (i := 0) dX12_ahead_118 rfl rfl ?_
            refine a_iconst (v := 1) dX12_ahead_119 (by decide) ?_
            refine a_iload_n (i := 3) dX12_ahead_120 rfl rfl ?_
            refine kX12_519 rfl dX12_ahead_121 (Nat.le_of_ble_eq_true rfl) (isM_0 hM) (mz_sumOf (i := 1) hM (by decide) ok hZ1 hS1 hm) ?_
            exact a_iret dX12_ahead_124 (by rw [zAhv, if_neg (by decide), if_neg (by decide), if_pos rfl, nI_clamp (by omega)]; exact ⟨rfl, hFz⟩)
          · exact absurd s_65 (by decide)
          · exact absurd rfl s_65_2
        · refine a_iload_n (i := 2) dX12_ahead_64 rfl rfl ?_
          refine sX12_ahead_65 dX12_ahead_65 (fun s_65 => ?_) (fun s_65 => ?_) (fun s_65 => ?_) (fun s_65 => ?_) (fun s_65_0 s_65_1 s_65_2 s_65_3 => ?_)
          · refine a_aload_n (i := 0) dX12_ahead_96 rfl rfl ?_
            refine a_iconst (v := 1) dX12_ahead_97 (by decide) ?_
            refine kX12_516 rfl dX12_ahead_98 (Nat.le_of_ble_eq_true rfl) (isM_0 hM) (mz_cornsAll (i := 1) hM (by decide) ok hTz hS1) ?_
            refine a_aload_n (i := 0) dX12_ahead_101 rfl rfl ?_
            refine a_iconst (v := 0) dX12_ahead_102 (by decide) ?_
            refine kX12_516 rfl dX12_ahead_103 (Nat.le_of_ble_eq_true rfl) (isM_0 hM) (mz_cornsAll (i := 0) hM (by decide) ok hTz hSz) ?_
            refine a_isub dX12_ahead_106 ?_
            exact a_iret dX12_ahead_107 (by rw [zAhv, if_pos s_65]; exact ⟨rfl, hFz⟩)
          · exact absurd s_65 w1
          · exact absurd s_65 w2
          · refine a_aload_n (i := 0) dX12_ahead_125 rfl rfl ?_
            refine a_iconst (v := 1) dX12_ahead_126 (by decide) ?_
            refine kX12_522 rfl dX12_ahead_127 (Nat.le_of_ble_eq_true rfl) (isM_0 hM) (mz_wedMany (i := 1) hM (by decide) ok hTz hS1) ?_
            exact a_iret dX12_ahead_130 (by rw [zAhv, if_neg (by rw [s_65]; decide), if_neg w1, if_neg w2, if_pos s_65]; exact ⟨rfl, hFz⟩)
          · refine a_aload_n (i := 0) dX12_ahead_131 rfl rfl ?_
            refine gX12_130 rfl dX12_ahead_132 (isM_0 hM) ?_
            refine a_iconst (v := 1) dX12_ahead_135 (by decide) ?_
            refine a_ialdN dX12_ahead_136 (isM_68 hM) (by first | exact (show (1 : Int32) = nI 1 from rfl) | with_reducible exact rfl | with_reducible exact ix8 _ _ | with_reducible exact ix12 _ _ | exact rfl) (by omega) (by decide) ?_
            rw [hS1.2.1]
            refine a_aload_n (i := 0) dX12_ahead_137 rfl rfl ?_
            refine gX12_130 rfl dX12_ahead_138 (isM_0 hM) ?_
            refine a_iconst (v := 0) dX12_ahead_141 (by decide) ?_
            refine a_ialdN dX12_ahead_142 (isM_68 hM) (by first | exact (show (0 : Int32) = nI 0 from rfl) | with_reducible exact rfl | with_reducible exact ix8 _ _ | with_reducible exact ix12 _ _ | exact rfl) (by omega) (by decide) ?_
            rw [hSz.2.1]
            refine a_isub dX12_ahead_143 ?_
            exact a_iret dX12_ahead_144 (by rw [zAhv, if_neg s_65_0, if_neg w1, if_neg w2, if_neg s_65_3]; exact ⟨rfl, hFz⟩)
    have P55 : aV l mX12_ahead (d + 8) D none 55 [(0, .ref bM), (1, .int (nI k)), (2, .int w), (3, .int i)] [] y (fun v y => v = some (.int (zAhv T Z (zYears T W 5 k Z) w i)) ∧ mF x y) := by
      refine a_aload_n (i := 0) dX12_ahead_55 rfl rfl ?_
      refine kgX12_510 rfl dX12_ahead_56 (Nat.le_of_ble_eq_true rfl) (by exact isM_0 hM) (c_X12_layTried hM) ?_
      rintro v y1 ⟨rfl, w1, hw1, rfl⟩
      obtain ⟨hY, hF1, hs1⟩ := mz_tr ⟨⟨ok, hZ, hT, hW, hS⟩, hB, hN, hf⟩ hw1
      refine a_aload_n (i := 0) dX12_ahead_59 rfl rfl ?_
      refine a_iload_n (i := 1) dX12_ahead_60 rfl rfl ?_
      refine kgX12_513 rfl dX12_ahead_61 (Nat.le_of_ble_eq_true rfl) (isM_0 hM) (c_X12_goMany hM hY (show k < 1000 by omega)) ?_
      rintro v y2 ⟨rfl, hJ2⟩
      have hF2 := mF_i hJ2.2.2.2.1 (hJ2.2.2.2.2.2 (by decide))
      exact a_loc _ rfl (P64 y2 (yJ_self hJ2) (mR_F (mF_t hF1 hF2) ⟨ok, hZ, hT, hW, hS⟩) (mF_t hF0 (mF_t hF1 hF2)))
    refine a_iload_n (i := 1) dX12_ahead_5 rfl rfl ?_
    refine a_iconst (v := 0) dX12_ahead_6 (by decide) ?_
    refine a_sipush (v := 200) dX12_ahead_7 (by decide) ?_
    refine kX12_220 rfl dX12_ahead_10 (Nat.le_of_ble_eq_true rfl) (c_X12_isIn) ?_
    refine a_if_eq (tg := 51) dX12_ahead_13 (by decide) (fun c_13 => ?_) (fun c_13 => ?_)
    · exact absurd c_13 (bI_p.mpr (zIn201.mpr qn))
    · refine a_iload_n (i := 2) dX12_ahead_16 rfl rfl ?_
      refine a_iconst (v := 0) dX12_ahead_17 (by decide) ?_
      refine a_iconst (v := 4) dX12_ahead_18 (by decide) ?_
      refine kX12_220 rfl dX12_ahead_19 (Nat.le_of_ble_eq_true rfl) (c_X12_isIn) ?_
      refine a_if_eq (tg := 51) dX12_ahead_22 (by decide) (fun c_22 => ?_) (fun c_22 => ?_)
      · exact absurd c_22 (bI_p.mpr (zIn5.mpr q.1))
      · refine a_iload_n (i := 2) dX12_ahead_25 rfl rfl ?_
        refine a_iconst (v := 1) dX12_ahead_26 (by decide) ?_
        refine a_icmp_ne (tg := 38) dX12_ahead_27 (by decide) (fun c_27 => ?_) (fun c_27 => ?_)
        · refine a_iload_n (i := 2) dX12_ahead_38 rfl rfl ?_
          refine a_iconst (v := 2) dX12_ahead_39 (by decide) ?_
          refine a_icmp_ne (tg := 55) dX12_ahead_40 (by decide) (fun c_40 => ?_) (fun c_40 => ?_)
          · exact a_loc _ rfl P55
          · refine a_aload_n (i := 0) dX12_ahead_43 rfl rfl ?_
            refine a_iload_n (i := 3) dX12_ahead_44 rfl rfl ?_
            refine kX12_498 rfl dX12_ahead_45 (Nat.le_of_ble_eq_true rfl) (isM_0 hM) (c_X12_isHouse hM hT) ?_
            refine a_if_ne (tg := 55) dX12_ahead_48 (by decide) (fun c_48 => ?_) (fun c_48 => ?_)
            · exact a_loc _ rfl P55
            · exact absurd c_48 (bI_p.mpr (q.2.2 c_40))
        · refine a_aload_n (i := 0) dX12_ahead_30 rfl rfl ?_
          refine a_iload_n (i := 3) dX12_ahead_31 rfl rfl ?_
          refine kX12_492 rfl dX12_ahead_32 (Nat.le_of_ble_eq_true rfl) (isM_0 hM) (c_X12_isMan hM hT) ?_
          refine a_if_eq (tg := 51) dX12_ahead_35 (by decide) (fun c_35 => ?_) (fun c_35 => ?_)
          · exact absurd c_35 (bI_p.mpr (q.2.1 c_27))
          · refine a_iload_n (i := 2) dX12_ahead_38 rfl rfl ?_
            refine a_iconst (v := 2) dX12_ahead_39 (by decide) ?_
            refine a_icmp_ne (tg := 55) dX12_ahead_40 (by decide) (fun c_40 => ?_) (fun c_40 => ?_)
            · exact a_loc _ rfl P55
            · refine a_aload_n (i := 0) dX12_ahead_43 rfl rfl ?_
              refine a_iload_n (i := 3) dX12_ahead_44 rfl rfl ?_
              refine kX12_498 rfl dX12_ahead_45 (Nat.le_of_ble_eq_true rfl) (isM_0 hM) (c_X12_isHouse hM hT) ?_
              refine a_if_ne (tg := 55) dX12_ahead_48 (by decide) (fun c_48 => ?_) (fun c_48 => ?_)
              · exact a_loc _ rfl P55
              · exact absurd c_48 (bI_p.mpr (q.2.2 c_40))
  · rw [if_neg q]
    refine a_iload_n (i := 1) dX12_ahead_5 rfl rfl ?_
    refine a_iconst (v := 0) dX12_ahead_6 (by decide) ?_
    refine a_sipush (v := 200) dX12_ahead_7 (by decide) ?_
    refine kX12_220 rfl dX12_ahead_10 (Nat.le_of_ble_eq_true rfl) (c_X12_isIn) ?_
    refine a_if_eq (tg := 51) dX12_ahead_13 (by decide) (fun c_13 => ?_) (fun c_13 => ?_)
    · refine a_ldcw (v := (-2147483648)) dX12_ahead_51 (oX12_501 rfl) ?_
      exact a_iret dX12_ahead_54 (by exact ⟨rfl, hF0⟩)
    · refine a_iload_n (i := 2) dX12_ahead_16 rfl rfl ?_
      refine a_iconst (v := 0) dX12_ahead_17 (by decide) ?_
      refine a_iconst (v := 4) dX12_ahead_18 (by decide) ?_
      refine kX12_220 rfl dX12_ahead_19 (Nat.le_of_ble_eq_true rfl) (c_X12_isIn) ?_
      refine a_if_eq (tg := 51) dX12_ahead_22 (by decide) (fun c_22 => ?_) (fun c_22 => ?_)
      · refine a_ldcw (v := (-2147483648)) dX12_ahead_51 (oX12_501 rfl) ?_
        exact a_iret dX12_ahead_54 (by exact ⟨rfl, hF0⟩)
      · refine a_iload_n (i := 2) dX12_ahead_25 rfl rfl ?_
        refine a_iconst (v := 1) dX12_ahead_26 (by decide) ?_
        refine a_icmp_ne (tg := 38) dX12_ahead_27 (by decide) (fun c_27 => ?_) (fun c_27 => ?_)
        · refine a_iload_n (i := 2) dX12_ahead_38 rfl rfl ?_
          refine a_iconst (v := 2) dX12_ahead_39 (by decide) ?_
          refine a_icmp_ne (tg := 55) dX12_ahead_40 (by decide) (fun c_40 => ?_) (fun c_40 => ?_)
          · exact absurd ⟨⟨zIn5.mp (bI_p.mp c_22), fun g => by first | exact bI_p.mp c_35 | exact absurd g c_27, fun g => by first | exact bI_p.mp c_48 | exact absurd g c_40⟩, zIn201.mp (bI_p.mp c_13)⟩ q
          · refine a_aload_n (i := 0) dX12_ahead_43 rfl rfl ?_
            refine a_iload_n (i := 3) dX12_ahead_44 rfl rfl ?_
            refine kX12_498 rfl dX12_ahead_45 (Nat.le_of_ble_eq_true rfl) (isM_0 hM) (c_X12_isHouse hM hT) ?_
            refine a_if_ne (tg := 55) dX12_ahead_48 (by decide) (fun c_48 => ?_) (fun c_48 => ?_)
            · exact absurd ⟨⟨zIn5.mp (bI_p.mp c_22), fun g => by first | exact bI_p.mp c_35 | exact absurd g c_27, fun g => by first | exact bI_p.mp c_48 | exact absurd g c_40⟩, zIn201.mp (bI_p.mp c_13)⟩ q
            · refine a_ldcw (v := (-2147483648)) dX12_ahead_51 (oX12_501 rfl) ?_
              exact a_iret dX12_ahead_54 (by exact ⟨rfl, hF0⟩)
        · refine a_aload_n (i := 0) dX12_ahead_30 rfl rfl ?_
          refine a_iload_n (i := 3) dX12_ahead_31 rfl rfl ?_
          refine kX12_492 rfl dX12_ahead_32 (Nat.le_of_ble_eq_true rfl) (isM_0 hM) (c_X12_isMan hM hT) ?_
          refine a_if_eq (tg := 51) dX12_ahead_35 (by decide) (fun c_35 => ?_) (fun c_35 => ?_)
          · refine a_ldcw (v := (-2147483648)) dX12_ahead_51 (oX12_501 rfl) ?_
            exact a_iret dX12_ahead_54 (by exact ⟨rfl, hF0⟩)
          · refine a_iload_n (i := 2) dX12_ahead_38 rfl rfl ?_
            refine a_iconst (v := 2) dX12_ahead_39 (by decide) ?_
            refine a_icmp_ne (tg := 55) dX12_ahead_40 (by decide) (fun c_40 => ?_) (fun c_40 => ?_)
            · exact absurd ⟨⟨zIn5.mp (bI_p.mp c_22), fun g => by first | exact bI_p.mp c_35 | exact absurd g c_27, fun g => by first | exact bI_p.mp c_48 | exact absurd g c_40⟩, zIn201.mp (bI_p.mp c_13)⟩ q
            · refine a_aload_n (i := 0) dX12_ahead_43 rfl rfl ?_
              refine a_iload_n (i := 3) dX12_ahead_44 rfl rfl ?_
              refine kX12_498 rfl dX12_ahead_45 (Nat.le_of_ble_eq_true rfl) (isM_0 hM) (c_X12_isHouse hM hT) ?_
              refine a_if_ne (tg := 55) dX12_ahead_48 (by decide) (fun c_48 => ?_) (fun c_48 => ?_)
              · exact absurd ⟨⟨zIn5.mp (bI_p.mp c_22), fun g => by first | exact bI_p.mp c_35 | exact absurd g c_27, fun g => by first | exact bI_p.mp c_48 | exact absurd g c_40⟩, zIn201.mp (bI_p.mp c_13)⟩ q
              · refine a_ldcw (v := (-2147483648)) dX12_ahead_51 (oX12_501 rfl) ?_
                exact a_iret dX12_ahead_54 (by exact ⟨rfl, hF0⟩)
end qF
