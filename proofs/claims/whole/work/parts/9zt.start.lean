/-! THE START: the first memory -/
def x1st (y : aS) : aS := (fun n => if n < 3072 then x00.1 n else y.1 n, fun n => if n < 3072 then x00.2 n else if n = 3329 then (fun _ => 0) else y.2 n)
theorem x1_lo {y : aS} {n : Nat} (h : n < 3072) : (x1st y).1 n = x00.1 n := by unfold x1st; simp [h]
theorem x1_hi {y : aS} {n : Nat} (h : 3072 ≤ n) : (x1st y).1 n = y.1 n := by
  have : ¬ n < 3072 := by omega
  unfold x1st
  simp [this]
theorem x1_hi2 {y : aS} {n : Nat} (h : 3072 ≤ n) (g : n ≠ 3329) : (x1st y).2 n = y.2 n := by
  have : ¬ n < 3072 := by omega
  unfold x1st
  simp [this, g]
theorem gM_up {T : zT} {W : Nat → zL} {Z Y : zS} {p : Nat × zG} {k : Int32} {u : zU} {im : Bool} {f7 f8 : Int32} {N : Nat} {B : Nat → Nat} {x y : aS} (h : gM T W Z Y p k u im f7 f8 N B x) (e : ∀ m, 3072 ≤ m → y.1 m = x.1 m) (e2 : y.2 bM = x.2 bM) : gM T W Z Y p k u im f7 f8 N B y := by
  have e0 : y.1 bM = x.1 bM := e _ (by decide)
  have e1 : ∀ c, y.1 (bM + c) = x.1 (bM + c) := fun c => e _ (by rw [show bM = 3072 from by decide]; omega)
  simp only [gM, mQ, mR, rTM, rWM, rLM, mNok, mNd, rM, rNum, rFl, mT0, rTm, mSe, rGM, rUM, snap, mI0, rIM, e0, e1, e2] at h ⊢
  exact h
theorem gJ_1st {y : aS} (h : mBn y) : gJ (x1st y) := by
  obtain ⟨h1, h2, h3, ⟨h4, h5, h6, h7⟩, h8, h9, h10, h11⟩ := h
  have no : ∀ {P : Nat → Prop} (m : Nat), m < 0 → P m := fun m hm => absurd hm (Nat.not_lt_zero m)
  have lo : ∀ n j, n < 3072 → (x1st y).1 n j = x00.1 n j := fun n j hn => by rw [x1_lo hn]
  refine ⟨pS0.1, pS0.2.1, zFirst pS0.1, zFirst pS0.1, (0, fun _ => (0, 0, 0, false)), -1, (0, fun _ => zFirst pS0.1, fun _ => (0, 0, 0, 0)), false, 0, -1, 1024, 768, 0, fun _ => 0, ?_, ?_, ?_⟩
  · refine ⟨⟨Or.inr rfl, ?_, tG_0.1, ⟨by decide, fun m hm => absurd hm (Nat.not_lt_zero m), fun m hm => absurd hm (Nat.not_lt_zero m)⟩, ?_, ?_, ?_⟩, ⟨⟨Or.inl rfl, by decide, ?_⟩, ⟨?_, fun m hm => absurd hm (Nat.not_lt_zero m)⟩, ?_, ?_⟩, ⟨⟨?_, fun m hm => absurd hm (Nat.not_lt_zero m)⟩, ?_⟩, ⟨?_, fun m hm => absurd hm (Nat.not_lt_zero m)⟩, ⟨?_, fun e => absurd e Bool.false_ne_true⟩⟩
    · rw [lo bLH 1 (by decide)]; decide +kernel
    · refine ⟨lo 1024 1 (by decide), lo 1024 4 (by decide), lo 1024 10 (by decide), lo 1024 12 (by decide), lo 1024 14 (by decide), lo 1024 16 (by decide), lo 1024 17 (by decide), lo 1024 18 (by decide), lo 1024 0 (by decide), fun m hm => absurd hm (Nat.not_lt_zero m), fun m hm => absurd hm (Nat.not_lt_zero m), fun m hm => absurd hm (Nat.not_lt_zero m), fun m hm => absurd hm (Nat.not_lt_zero m), fun m hm => absurd hm (Nat.not_lt_zero m)⟩
    · intro q hq
      refine ⟨?_, Nat.zero_le _, fun m hm => absurd hm (Nat.not_lt_zero m)⟩
      rcases (by omega : q = 0 ∨ q = 1 ∨ q = 2) with rfl | rfl | rfl
      · exact lo 1154 1 (by decide)
      · exact lo 1155 1 (by decide)
      · exact lo 1156 1 (by decide)
    · refine ⟨fun i hi => ?_, lo bNow 3 (by decide), fun m hm => absurd hm (Nat.not_lt_zero m), fun m hm => absurd hm (Nat.not_lt_zero m)⟩
      rcases (by omega : i = 0 ∨ i = 1 ∨ i = 2) with rfl | rfl | rfl
      · exact lo bNow 0 (by decide)
      · exact lo bNow 1 (by decide)
      · exact lo bNow 2 (by decide)
    · rw [lo bRd 1 (by decide)]; decide +kernel
    · exact lo bTp 0 (by decide)
    · exact lo bRd 7 (by decide)
    · exact lo bRd 8 (by decide)
    · exact lo bSn 0 (by decide)
    · exact lo bSn 1 (by decide)
    · exact lo bDn 0 (by decide)
    · exact lo bLH 5 (by decide)
  · refine gM_up (x := y) ?_ (fun m hm => x1_hi hm) (x1_hi2 (by decide) (by decide))
    exact ⟨⟨h1, ⟨by decide, fun m hm => absurd hm (Nat.not_lt_zero m)⟩, h2, h3⟩, ⟨⟨h9, fun m hm => absurd hm (Nat.not_lt_zero m)⟩, h8, h10, h11⟩, ⟨⟨h4, fun m hm => absurd hm (Nat.not_lt_zero m)⟩, h5⟩, ⟨h6, fun m hm => absurd hm (Nat.not_lt_zero m)⟩, ⟨h7, fun e => absurd e Bool.false_ne_true⟩⟩
  · exact ⟨⟨fun m hm => absurd hm (Nat.not_lt_zero m), fun m hm => absurd hm (Nat.not_lt_zero m), fun m hm => absurd hm (Nat.not_lt_zero m)⟩, fun m hm => absurd hm (Nat.not_lt_zero m), tG_0.2, ⟨Nat.zero_le _, fun m hm => absurd hm (Nat.not_lt_zero m)⟩, Or.inl rfl, ⟨Nat.zero_le _, fun m hm => absurd hm (Nat.not_lt_zero m)⟩, fun m hm => absurd hm (Nat.not_lt_zero m), fun e => absurd e Bool.false_ne_true, Nat.zero_le _, fun m hm => absurd hm (Nat.not_lt_zero m)⟩
/-! THE START: the tables -/
theorem lt_1_1 (i : Nat) {w : Cond} (h : tables_1_1[i]? = some w) : w ∈ lw_tbl := List.mem_append_right _ (List.mem_append_left _ (List.mem_of_getElem? h))
theorem lt_1_2 (i : Nat) {w : Cond} (h : tables_1_2[i]? = some w) : w ∈ lw_tbl := List.mem_append_right _ (List.mem_append_right _ (List.mem_append_left _ (List.mem_of_getElem? h)))
theorem lt_1_3 (i : Nat) {w : Cond} (h : tables_1_3[i]? = some w) : w ∈ lw_tbl := List.mem_append_right _ (List.mem_append_right _ (List.mem_append_right _ (List.mem_append_left _ (List.mem_of_getElem? h))))
theorem aTb_lw {args : Array Value} {s : State} (htl : ∀ w ∈ lw_tbl, w.before args s = true) : ∀ w ∈ aTb, w.before args s = true := fun w hw => htl w (List.mem_filter.mp hw).1
theorem bk_arr {args : Array Value} {s : State} {ty : FieldType} (hob : ∀ C, ty ≠ .object C) (h : (Cond.arrayClass ty).before args s = true) : ∃ cA : ClassId, ArrOfT s cA ty ∧ va_RA s cA ty := by
  obtain ⟨cA, kA, comp, h1, h2, h3⟩ := Cond.arrayClass_spec h
  refine ⟨cA, fun n z => ⟨fun k h => (by cases h), kA, h2, comp, h3⟩, ?_⟩
  cases ty with
  | object C => exact absurd rfl (hob C)
  | _ => exact h1
theorem bk_obj {args : Array Value} {s : State} {C : String} (h : (Cond.arrayOver (.object C)).before args s = true) : ∃ cA : ClassId, ArrOfT s cA (.object C) ∧ va_RA s cA (.object C) := by
  obtain ⟨comp, cA, kA, h1, -, h3, h4, h5⟩ := Cond.arrayOver_spec h
  exact ⟨cA, fun n z => ⟨fun k h => (by cases h), kA, h3, comp, h4⟩, kA, comp, h3, h4, h1, h5⟩
set_option maxRecDepth 100000 in
theorem bk_K {args : Array Value} {s : State} (htl : ∀ w ∈ lw_tbl, w.before args s = true) : ∃ (dC : Nat → ClassId) (dI : Nat → Nat → Nat) (cy : Nat → ClassId), va_K (dC, dI) vwCl (aTy cy) s := by
  have hts := aTb_lw htl
  obtain ⟨c0, i0, h0⟩ := u_known (C := RX0) (T := TX0) (N := 5) (n := 5) hts iwX0 (hts _ wi_X0.2.2.2)
  obtain ⟨c1, i1, h1⟩ := u_known (C := RX1) (T := TX1) (N := 5) (n := 5) hts iwX1 (hts _ wi_X1.2.2.2)
  obtain ⟨c2, i2, h2⟩ := u_known (C := RX2) (T := TX2) (N := 4) (n := 4) hts iwX2 (hts _ wi_X2.2.2.2)
  obtain ⟨c3, i3, h3⟩ := u_known (C := RX3) (T := TX3) (N := 9) (n := 9) hts iwX3 (hts _ wi_X3.2.2.2)
  obtain ⟨c4, i4, h4⟩ := u_known (C := RX4) (T := TX4) (N := 8) (n := 8) hts iwX4 (hts _ wi_X4.2.2.2)
  obtain ⟨c5, i5, h5⟩ := u_known (C := RX5) (T := TX5) (N := 8) (n := 8) hts iwX5 (hts _ wi_X5.2.2.2)
  obtain ⟨c6, i6, h6⟩ := u_known (C := RX6) (T := TX6) (N := 12) (n := 12) hts iwX6 (hts _ wi_X6.2.2.2)
  obtain ⟨c7, i7, h7⟩ := u_known (C := RX7) (T := TX7) (N := 7) (n := 7) hts iwX7 (hts _ wi_X7.2.2.2)
  obtain ⟨c8, i8, h8⟩ := u_known (C := RX8) (T := TX8) (N := 22) (n := 22) hts iwX8 (hts _ wi_X8.2.2.2)
  obtain ⟨c9, i9, h9⟩ := u_known (C := RX9) (T := TX9) (N := 3) (n := 3) hts iwX9 (hts _ wi_X9.2.2.2)
  obtain ⟨c10, i10, h10⟩ := u_known (C := RX10) (T := TX10) (N := 2) (n := 2) hts iwX10 (hts _ wi_X10.2.2.2)
  obtain ⟨c11, i11, h11⟩ := u_known (C := RX11) (T := TX11) (N := 10) (n := 10) hts iwX11 (hts _ wi_X11.2.2.2)
  obtain ⟨c12, i12, h12⟩ := u_known (C := RX12) (T := TX12) (N := 90) (n := 90) hts iwX12 (hts _ wi_X12.2.2.2)
  obtain ⟨a13, b13⟩ := bk_arr (fun _ h => by cases h) (hts (.arrayClass .byte) (aTb_tables_1_1 73 rfl rfl))
  obtain ⟨a14, b14⟩ := bk_arr (fun _ h => by cases h) (hts (.arrayClass .int) (aTb_tables_1_1 104 rfl rfl))
  obtain ⟨a15, b15⟩ := bk_arr (fun _ h => by cases h) (hts (.arrayClass .long) (aTb_tables_1_2 140 rfl rfl))
  obtain ⟨a16, b16⟩ := bk_arr (fun _ h => by cases h) (hts (.arrayClass .boolean) (aTb_tables_1_2 174 rfl rfl))
  obtain ⟨a17, b17⟩ := bk_obj (htl (.arrayOver (.object "LastHouse$Deed")) (lt_1_1 81 rfl))
  obtain ⟨a18, b18⟩ := bk_obj (htl (.arrayOver (.object "LastHouse$Wedding")) (lt_1_1 83 rfl))
  refine ⟨fun k => if k = 0 then c0 else if k = 1 then c1 else if k = 2 then c2 else if k = 3 then c3 else if k = 4 then c4 else if k = 5 then c5 else if k = 6 then c6 else if k = 7 then c7 else if k = 8 then c8 else if k = 9 then c9 else if k = 10 then c10 else if k = 11 then c11 else c12, fun k => if k = 0 then i0 else if k = 1 then i1 else if k = 2 then i2 else if k = 3 then i3 else if k = 4 then i4 else if k = 5 then i5 else if k = 6 then i6 else if k = 7 then i7 else if k = 8 then i8 else if k = 9 then i9 else if k = 10 then i10 else if k = 11 then i11 else i12, fun k => if k = 13 then a13 else if k = 14 then a14 else if k = 15 then a15 else if k = 16 then a16 else if k = 17 then a17 else a18, fun k q hq => ?_, fun k q hq => ?_⟩
  · match k, hq with
    | 0, hq => cases hq; exact h0
    | 1, hq => cases hq; exact h1
    | 2, hq => cases hq; exact h2
    | 3, hq => cases hq; exact h3
    | 4, hq => cases hq; exact h4
    | 5, hq => cases hq; exact h5
    | 6, hq => cases hq; exact h6
    | 7, hq => cases hq; exact h7
    | 8, hq => cases hq; exact h8
    | 9, hq => cases hq; exact h9
    | 10, hq => cases hq; exact h10
    | 11, hq => cases hq; exact h11
    | 12, hq => cases hq; exact h12
    | k + 13, hq => simp [vwCl] at hq
  · match k, hq with
    | 0, hq => cases hq; exact b13
    | 1, hq => cases hq; exact b14
    | 2, hq => cases hq; exact b15
    | 3, hq => cases hq; exact b16
    | 4, hq => cases hq; exact b17
    | 5, hq => cases hq; exact b18
    | k + 6, hq => simp [aTy] at hq
theorem bk_AO {args : Array Value} {s : State} (htl : ∀ w ∈ lw_tbl, w.before args s = true) : bAO s := by
  refine ⟨⟨va_AO.of (htl (.arrayOver (.object "LastHouse$Deed")) (lt_1_1 81 rfl)), va_AO.of (htl (.arrayOver (.object "LastHouse$Wedding")) (lt_1_1 83 rfl))⟩, ?_⟩
  have h1 := va_Nw.of rfl (htl (.methodLinkNest RX11 13 yX3_init "LastHouse") (lt_1_1 37 rfl))
  have h2 := va_Nw.of rfl (htl (.methodLinkNest RX11 29 yX6_init "LastHouse") (lt_1_2 64 rfl))
  have h3 := va_Nw.of rfl (htl (.methodLinkNest RX11 42 yX10_init "LastHouse") (lt_1_2 129 rfl))
  have h4 := va_Nw.of rfl (htl (.methodLinkNest RX11 49 yX5_init "LastHouse") (lt_1_2 143 rfl))
  have h5 := va_Nw.of rfl (htl (.methodLinkNest RX11 56 yX1_init "LastHouse") (lt_1_2 177 rfl))
  have h6 := va_Nw.of rfl (htl (.methodLinkNest RX11 63 yX4_init "LastHouse") (lt_1_2 204 rfl))
  have h7 := va_Nw.of rfl (htl (.methodLinkNest RX3 11 yX7_init "LastHouse") (lt_1_1 43 rfl))
  have h8 := va_Nw.of rfl (htl (.methodLinkNest RX8 50 yX2_init "LastHouse") (lt_1_1 86 rfl))
  have h9 := va_Nw.of rfl (htl (.methodLinkNest RX8 61 yX0_init "LastHouse") (lt_1_1 106 rfl))
  have h10 := va_Nw.of rfl (htl (.methodLinkNest RX8 62 yX9_init "LastHouse") (lt_1_1 132 rfl))
  unfold bNst
  exact List.forall_mem_cons.mpr ⟨h1, List.forall_mem_cons.mpr ⟨h2, List.forall_mem_cons.mpr ⟨h3, List.forall_mem_cons.mpr ⟨h4, List.forall_mem_cons.mpr ⟨h5, List.forall_mem_cons.mpr ⟨h6, List.forall_mem_cons.mpr ⟨h7, List.forall_mem_cons.mpr ⟨h8, List.forall_mem_cons.mpr ⟨h9, List.forall_mem_cons.mpr ⟨h10, fun _ h => absurd h List.not_mem_nil⟩⟩⟩⟩⟩⟩⟩⟩⟩⟩
/-! THE START: the words' text -/
abbrev bxT : Term := .string RX7 66
abbrev bxV : Term := .field bxT "java/lang/String" "value" "[B"
set_option maxRecDepth 100000 in
theorem bx_el : ∀ j, j < 108 → Cond.eq (.elem bxV (.int (Int32.ofNat j))) (.int (wdB.getD j 0)) ∈ flatC (Jvm.Cond.and given_1 narrow_1) := by decide +kernel
set_option maxRecDepth 100000 in
theorem bx_start {args : Array Value} {s : State} {A : Nat → Prop} (hA : ∀ a, a < s.heap.size → ¬ A a) (hg : (Jvm.Cond.and given_1 narrow_1).before args s = true) (hts : ∀ w ∈ lw_tbl, w.before args s = true) : ∃ a1 a2 a3 : Nat, ∀ ad : Nat → Nat, ad 9001 = a1 → ad 9002 = a2 → ad 9003 = a3 → aXt ad A s s.heap := by
  have hs := flat_of_before _ hg
  have htb := aTb_lw hts
  have n1 : (Cond.exactly bxT "java/lang/String").before args s = true := hs _ (by decide +kernel)
  have n2 : (Cond.eq (.field bxT "java/lang/String" "coder" "B") (.int 0)).before args s = true := hs _ (by decide +kernel)
  have n3 : (Cond.arrayOf bxV .byte).before args s = true := hs _ (by decide +kernel)
  have n4 : (Cond.eq (.length bxV) (.int 108)).before args s = true := hs _ (by decide +kernel)
  have n5 : (Cond.eq (.static "java/lang/String" "COMPACT_STRINGS" "Z") (.int 1)).before args s = true := hs _ (by decide +kernel)
  have n6 : (Cond.isRef (.static "jdk/internal/util/Preconditions" "SIOOBE_FORMATTER" "Ljava/util/function/BiFunction;")).before args s = true := hs _ (by decide +kernel)
  obtain ⟨adK, adV, hS, hE⟩ := vk_Sof (N := 1) (tm := fun _ => bxT) (len := [108]) (byt := [wdB]) (A := A) (fun i hi => by
      obtain rfl : i = 0 := by omega
      decide) (fun i hi => n1) (fun i hi => n2) (fun i hi => n3) (fun i hi => by
      obtain rfl : i = 0 := by omega
      exact n4) (fun i hi j hj => by
      obtain rfl : i = 0 := by omega
      exact hs _ (bx_el j hj)) (fun i j hi hj h => absurd (show i = j by omega) h) hA
  have hq := va_Zqof (hts (.laysStatic "jdk/internal/util/Preconditions" "SIOOBE_FORMATTER" "Ljava/util/function/BiFunction;") (lt_1_3 98 rfl)) (htb (.initialized "jdk/internal/util/Preconditions") (aTb_tables_1_1 17 rfl rfl)) n6 hA
  have hc := va_Zof (hts (.laysStatic "java/lang/String" "COMPACT_STRINGS" "Z") (lt_1_3 82 rfl)) (htb (.initialized "java/lang/String") (aTb_tables_1_1 15 rfl rfl)) (va_eqt n5) hA
  have hR : vk_R RX7 66 wdT (adK 0) s := vk_R.of (hts (.stringRef RX7 66 wdT) (lt_1_3 72 rfl)) (hE 0 (by decide))
  have hS1 : vk_S 1 [108] [wdB] (fun _ => adK 0) (fun _ => adV 0) A s s.heap := ⟨fun i hi => by
      obtain rfl : i = 0 := by omega
      exact hS.1 0 (by decide), fun i j hi hj _ => by omega⟩
  rcases hq with hq | ⟨t, hq⟩
  · exact ⟨adK 0, adV 0, 0, fun ad e1 e2 e3 => by
      unfold aXt
      rw [e1, e2, e3]
      exact ⟨hS1, hR, hc, Or.inl hq⟩⟩
  · exact ⟨adK 0, adV 0, t, fun ad e1 e2 e3 => by
      unfold aXt
      rw [e1, e2, e3]
      exact ⟨hS1, hR, hc, Or.inr hq⟩⟩
