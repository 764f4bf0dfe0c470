/-! BIRTH: the Model's constructor -/
def D12 : Nat → Bool := fun k => k == 12
def n12js : List aN := [(3073, 14, 700), (3076, 14, 108), (3097, 16, 2), (3098, 14, 4), (3099, 14, 12), (3100, 14, 12), (3101, 14, 16), (3102, 14, 16), (3103, 14, 16), (3104, 14, 16), (3105, 14, 16), (3106, 14, 28), (3107, 14, 28), (3108, 14, 28), (3109, 14, 28), (3110, 14, 28), (3111, 14, 12), (3112, 14, 12), (3113, 14, 12), (3114, 14, 8), (3115, 16, 6), (3116, 14, 6), (3117, 14, 6), (3118, 14, 128), (3119, 14, 128), (3120, 14, 128), (3121, 14, 96), (3122, 14, 96), (3129, 15, 7), (3130, 15, 64), (3132, 14, 96), (3133, 14, 144), (3134, 14, 144), (3135, 14, 12), (3136, 14, 16), (3137, 14, 16), (3138, 14, 16), (3139, 16, 16), (3140, 14, 2), (3141, 14, 2), (3148, 14, 1792), (3149, 14, 1792), (3150, 14, 48), (3153, 14, 96), (3154, 16, 24), (3155, 14, 21), (3157, 14, 3160), (3159, 14, 158), (3160, 14, 66), (3161, 16, 8)]
set_option maxRecDepth 100000 in
theorem aL12 : aL D12 = (3072, 12, 0) :: n12js := by decide +kernel
abbrev x12 (F : Nat → Int32) : aS := aWr (aWr (aWw (fun _ _ => 0, fun _ _ => 0) 3076 F) 3072 5 (-1)) 3072 79 (-1)
set_option maxRecDepth 100000 in
theorem n12l_fin {b : Nat} {ad : Nat → Nat} {cy : Nat → ClassId} {x : aS} (hb : ad 3072 = b) : n12l b 89 n12js ad cy x = aW D12 ad cy x := by
  unfold aW
  rw [aL12, List.map_cons]
  have h90 : aNs 12 = 90 := by decide +kernel
  have e : n12o 89 ad x = (aFs x 3072 12).map (aT ad) := by
    unfold aFs n12o
    rw [List.map_map, h90]
    refine List.map_congr_left (fun k hk => ?_)
    have hk := List.mem_range.mp hk
    unfold n12f
    rw [if_pos ((by decide +kernel : ∀ k, k < 90 → aK 12 k < 100 ∨ k < 89) k hk)]
    rfl
  show n12l b 89 n12js ad cy x = (ad 3072, aE ad cy x (3072, 12, 0)) :: _
  rw [aE_obj (by decide), hb]
  unfold n12l
  rw [e]
section b12x
variable {p : Program} {l : Launch} {e : Env} {R : Room} {s : State} {mid : MethodId} {args : Array Value} {below : List Frame} {meth : Method} {c : Code} {Qs : State → Prop} {dC : Nat → ClassId} {dI : Nat → Nat → Nat} {cy : Nat → ClassId} {A : Nat → Prop}
set_option maxHeartbeats 4000000 in
set_option maxRecDepth 100000 in
theorem m12_go {b : Nat} {ls : Array Slot} {H : Heap} {ad0 : Nat → Nat} (C : bC mX12_init p s mid args c dC dI cy A) (hin : meth.name = "<init>") (hl : lv_has ls 1 [(0, .ref b)]) (hfr : 1 ≤ R.frames) (hlo : 20 ≤ R.locals) (hce : 50 ≤ R.cells) (hsl : 9396 ≤ R.slots) (hb : ad0 3072 = b) (hH : bH s dC dI A [(b, .inr (12, dfl 12))] H [])
    (K : ∀ (ad : Nat → Nat) (F : Nat → Int32) (H : Heap) (locs : List Loc), n12A ad0 ad → (∀ j, j < 108 → F j = nI (wd j)) → bH s dC dI A (aW D12 ad cy (x12 F)) H locs → W p l e R s mid args below meth c H locs 50 9396 Qs (F0 mid 1062 ls [])) : W p l e R s mid args below meth c H [] 0 0 Qs (F0 mid 0 ls []) := by
  refine m12_a (ad0 := ad0) C hin hl hfr hlo hce hsl hH (fun ad F H locs hA hF hJ hH => ?_)
  have hZ : n12Z (aWw (fun _ _ => 0, fun _ _ => 0) 3076 F) := fun m hm => ⟨by
    have : ¬ m = 3076 := by omega
    simp [aWw, this], rfl⟩
  refine m12_b C hin hl hce hsl hA hJ hZ hH (fun ad H locs hA hJ hH => ?_)
  replace hZ := n12Z_w (j := 5) (v := -1) hZ
  refine m12_c C hin hl hce hsl hA hJ hZ hH (fun ad H locs hA hJ hH => ?_)
  refine m12_d C hin hl hce hsl hA hJ hZ hH (fun ad H locs hA hJ hH => ?_)
  refine m12_e C hin hl hce hsl hA hJ hZ hH (fun ad H locs hA hJ hH => ?_)
  refine m12_f C hin hl hce hsl hA hJ hZ hH (fun ad H locs hA hJ hH => ?_)
  refine m12_g C hin hl hce hsl hA hJ hZ hH (fun ad H locs hA hJ hH => ?_)
  replace hZ := n12Z_w (j := 79) (v := -1) hZ
  refine m12_h C hin hl hce hsl hA hJ hZ hH (fun ad H locs hA hJ hH => ?_)
  have hH2 : bH s dC dI A (n12l b 89 n12js ad cy (x12 F)) H locs := hH
  exact K ad F H locs hA hF (bH_eq hH2 (n12l_fin ((hA 3072 (Or.inl (Nat.le_refl _))).trans hb)))
end b12x
/-- the Model behind its constructor -/
def mBn (y : aS) : Prop := mR pS0.1 pS0.2.1 (zFirst pS0.1) y ∧ rNum (zFirst pS0.1) y ∧ rFl 5 y ∧ (y.1 bM 78 = 0 ∧ y.1 bM 79 = -1 ∧ y.1 bM 83 = 0 ∧ y.1 bM 85 = 0) ∧ (∀ j, j < 108 → y.1 (bM + 4) j = nI (wd j)) ∧ y.1 bM 1 = 0 ∧ y.1 bM 4 = 0 ∧ y.1 bM 5 = -1
theorem mK_0 {x w : aS} (a1 : ∀ j, (18 ≤ j ∧ j ≤ 23) ∨ j = 53 → w.1 bM j = 0) (a2 : ∀ k, k < 2 → w.1 (bM + 25) k = 0 ∧ w.1 (bM + 26) (2 + k) = 0) (a3 : ∀ q, q < 3 → w.1 (bM + 43) (3 + q) = 0) (ww : ∀ j, j < 108 → w.1 (bM + 4) j = nI (wd j)) (w0 : ∀ j, j ≤ 11 → ¬ j = 5 → w.1 bM j = 0) (w5 : w.1 bM 5 = -1) : mK 0 (fun _ => 0) pS0 w := by
  have ht : tok (fun _ => 0) 0 0 = (37, 0, 0, 0, 0) := by decide +kernel
  have c0 : ∀ j, j < 6 → (shr w).1 bM (12 + j) = nI 0 := fun j hj => by rw [shr_0, a1 _ (by omega)]; rfl
  refine ⟨⟨w0 6 (by decide) (by decide), Nat.zero_le _, fun i hi => absurd hi (Nat.not_lt_zero i), ww⟩, ⟨fun _ => ⟨Nat.zero_le _, ?_, w0 4 (by decide) (by decide), w5⟩, fun e => absurd rfl e⟩, ⟨Nat.zero_le _, Nat.zero_le _, Nat.zero_le _, Nat.zero_le _, Nat.zero_le _⟩, fun _ => ⟨Nat.zero_le _, fun q _ => ⟨Nat.zero_le _, fun _ => rfl⟩⟩, fun _ => ⟨⟨c0 0 (by decide), c0 1 (by decide), c0 2 (by decide), c0 3 (by decide), c0 4 (by decide), c0 5 (by decide), ?_, ?_, fun h hh => absurd hh (Nat.not_lt_zero h), fun h hh => absurd hh (Nat.not_lt_zero h), fun h hh => absurd hh (Nat.not_lt_zero h), fun h hh => absurd hh (Nat.not_lt_zero h), fun h hh => absurd hh (Nat.not_lt_zero h)⟩, ?_, ?_, ?_, fun q hq => ⟨?_, fun e => absurd e Bool.false_ne_true⟩⟩⟩
  · show rKM (tok (fun _ => 0) 0 0) w
    rw [ht]
    exact ⟨w0 7 (by decide) (by decide), w0 10 (by decide) (by decide), Or.inr (Or.inr (Or.inr (Or.inr (Or.inl ⟨rfl, w0 8 (by decide) (by decide)⟩))))⟩
  · rw [shr_r _ (by decide) (show hlf 26 = 2 from rfl), (a2 0 (by decide)).2]; rfl
  · rw [shr_r _ (by decide) (show hlf 26 = 2 from rfl), (a2 1 (by decide)).2]; rfl
  · rw [(a2 0 (by decide)).1]; rfl
  · rw [(a2 1 (by decide)).1]; rfl
  · rw [a1 _ (by omega)]; rfl
  · rw [a3 q hq]; rfl
set_option maxRecDepth 100000 in
theorem m12_tail {l : Launch} {d : Nat} {x : aS} (hw : ∀ j, j < 108 → x.1 (bM + 4) j = nI (wd j)) (h0 : ∀ j, j ≤ 11 → ¬ j = 5 → x.1 bM j = 0) (h5 : x.1 bM 5 = -1) : aV l mX12_init (d + 4) D12 none 1062 [(0, .ref bM)] [] x (fun v y => v = none ∧ mBn y) := by
  refine a_aload_n (i := 0) dX12_init_1062 rfl rfl ?_
  refine kgX12_169 rfl dX12_init_1063 (Nat.le_of_ble_eq_true rfl) (isM_0 rfl) (c_X12_plain rfl) ?_
  rintro v w ⟨rfl, a1, a2, a3, Pw⟩
  have w0 : ∀ j, j ≤ 11 → ¬ j = 5 → w.1 bM j = 0 := fun j g1 g2 => by rw [pl_4 Pw (by omega)]; exact h0 j g1 g2
  have w5 : w.1 bM 5 = -1 := by rw [pl_4 Pw (by decide)]; exact h5
  have ww : ∀ j, j < 108 → w.1 (bM + 4) j = nI (wd j) := fun j hj => by rw [Pw.1 _ _ (fun e => by unfold rC at e; omega)]; exact hw j hj
  refine a_aload_n (i := 0) dX12_init_1066 rfl rfl ?_
  refine kgX12_172 rfl dX12_init_1067 (Nat.le_of_ble_eq_true rfl) (isM_0 rfl) (c_X12_keepText (d := d) rfl (mK_0 (x := x) a1 a2 a3 ww w0 w5) rfl tG_0) ?_
  rintro v y ⟨rfl, b1, b2, b3, b4, b5, b6, b7, b8, b9⟩
  exact a_vret dX12_init_1070 ⟨rfl, b1, b2, b3, ⟨b4, b5, b6, b7⟩, fun j hj => by rw [b8 _ _ (Or.inr (Or.inr rfl))]; exact ww j hj, by rw [b8 _ _ (Or.inl ⟨rfl, by decide⟩)]; exact w0 1 (by decide) (by decide), by rw [b8 _ _ (Or.inl ⟨rfl, by decide⟩)]; exact w0 4 (by decide) (by decide), by rw [b8 _ _ (Or.inl ⟨rfl, by decide⟩)]; exact w5⟩
theorem aXt_ad {ad ad' : Nat → Nat} {A : Nat → Prop} {U : State} {H : Heap} (h1 : ad' 9001 = ad 9001) (h2 : ad' 9002 = ad 9002) (h3 : ad' 9003 = ad 9003) (h : aXt ad A U H) : aXt ad' A U H := by
  unfold aXt at h ⊢
  rw [h1, h2, h3]
  exact h
def bPcX (dC : Nat → ClassId) (dI : Nat → Nat → Nat) (cy : Nat → ClassId) (ad : Nat → Nat) (b sz : Nat) : Array Value → State → Prop := va_Pc [.ref b] (fun U => U.heap.size = sz ∧ va_P (dC, dI) vwCl [(b, .inr (12, dfl 12))] U.heap ∧ va_K (dC, dI) vwCl (aTy cy) U ∧ va_Nw aNk U ∧ aXt ad (va_A [(b, .inr (12, dfl 12))] sz) U U.heap)
theorem bPcX_blind {dC : Nat → ClassId} {dI : Nat → Nat → Nat} {cy : Nat → ClassId} {ad : Nat → Nat} {b sz : Nat} : FrameBlind (bPcX dC dI cy ad b sz) := by
  intro a U g mk q
  obtain ⟨q0, q1, qP, qK, qN, qX⟩ := q
  exact ⟨q0, q1, qP, va_K.moved (u := U) (U := U.calling g mk a) (Vm.Alike.refl U.vm) qK, va_Nw.same rfl (u := U) (U := U.calling g mk a) rfl qN, aXt_same (u := U) (U := U.calling g mk a) rfl qX⟩
def bP_X12 (cy : Nat → ClassId) (ad0 : Nat → Nat) (ws : va_W) : Prop := ∃ (ad : Nat → Nat) (y : aS), n12A ad0 ad ∧ ws = aW D12 ad cy y ∧ mBn y
set_option maxHeartbeats 4000000 in
set_option maxRecDepth 100000 in
theorem i_X12 {l : Launch} {d : Nat} (dC : Nat → ClassId) (dI : Nat → Nat → Nat) (cy : Nat → ClassId) (ad : Nat → Nat) (b sz : Nat) (hab : ad 3072 = b) : Met l mX12_init.1 (aWd mX12_init) (bRm (d + 3) 50 9396) (bPcX dC dI cy ad b sz) (bQc dC dI (va_A [(b, .inr (12, dfl 12))] sz) (bP_X12 cy ad)) 50 9396 (va_A [(b, .inr (12, dfl 12))] sz) := by
  refine Met.ofW (cc := mX12_init.2.1) (maxL := mX12_init.2.2.1) (ret := mX12_init.2.2.2) (by decide) rfl ?_
  intro p e s mid args' below meth c s₁ B hml hv
  obtain ⟨rfl, hsz, hP, hK, hNw, hXt⟩ := hv
  have hx := B.exec
  have hb := B.bytes
  have hr := B.returns
  have hts : ∀ w ∈ aTb, w.before (([.ref b] : List Value)).toArray s = true := fun w hw => atoms_spec (ws := aWd mX12_init) B.pre w (List.mem_cons_of_mem _ hw)
  have hown : s.vm.findClass mX12_init.1.cls = some mid.cls := findClass_of_methodNamed B.named
  have hlocks := B.notSynchronized
  have hin : meth.name = "<init>" := ((name_of_methodNamed B.named B.method).1).trans rfl
  subst hsz
  have hD : va_D (va_A [(b, .inr (12, dfl 12))] s.heap.size) [(b, .inr (12, dfl 12))] := by
    refine va_D.self (A := fun _ => True) ⟨fun i j p q hi hj _ => ?_, fun _ _ _ => trivial⟩
    have h1 : i < 1 := (List.getElem?_eq_some_iff.mp hi).1
    have h2 : j < 1 := (List.getElem?_eq_some_iff.mp hj).1
    omega
  generalize hAe : va_A [(b, .inr (12, dfl 12))] s.heap.size = A at hD hXt ⊢
  have hA : ∀ q : Nat, s.heap.size ≤ q → A q := fun q h => by rw [← hAe]; exact Or.inr h
  have hl := lv_entry ([.ref b] : List Value) (n := mX12_init.2.2.1) (Nat.le_refl 1)
  rw [lg_entry_eq]
  generalize (lg_sl ([.ref b] : List Value) ++ List.replicate (mX12_init.2.2.1 - (lg_sl ([.ref b] : List Value)).length) Slot.unset).toArray = ls at hl ⊢
  refine m12_go (R := bRm (d + 3) 50 9396) (ad0 := ad) ⟨hx, hb, hml, hown, hts, hK, hA⟩ hin hl (by show 1 ≤ d + 3 + 1; omega) (by show 20 ≤ 40 * (d + 3 + 1); omega) (Nat.le_refl _) (Nat.le_refl _) hab ⟨hP, hD, va_S.rf⟩ (fun ad' F H locs hAg hF hH => ?_)
  have hw : ∀ j, j < 108 → (x12 F).1 (bM + 4) j = nI (wd j) := fun j hj => hF j hj
  have h0 : ∀ j, j ≤ 11 → ¬ j = 5 → (x12 F).1 bM j = 0 := fun j h1 h2 => by
    have g1 : ¬ j = 79 := by omega
    have g2 : bM = 3072 := by decide
    simp [x12, aWr, aWw, g1, h2, g2]
  have h5 : (x12 F).1 bM 5 = -1 := rfl
  have X := m12_tail (l := l) (d := d) (x := x12 F) hw h0 h5
  have e9 : ∀ m, 9000 ≤ m → ad' m = ad m := fun m hm => hAg m (Or.inr (by omega))
  have e3 : ad' bM = b := (hAg 3072 (Or.inl (Nat.le_refl _))).trans hab
  refine X p e (bRm (d + 3) 50 9396) s mid _ below meth c 50 9396 _ dC dI cy ad' A ⟨hx, hb, hml, hown, hts, hK, hA, Nat.le_refl _, Nat.le_refl _, Nat.le_refl _, Nat.le_refl _, (fun q h => by cases h), hNw, aXt_ad (e9 _ (by decide)) (e9 _ (by decide)) (e9 _ (by decide)) hXt⟩ ?_ H locs ls hH ?_
  · intro cells' slots' hcs _ _ pcR v y H locs ls' hrt hq hH
    obtain ⟨rfl, rfl⟩ := hcs rfl
    obtain ⟨rfl, hmb⟩ := hq
    rcases hrt with ⟨-, k, h⟩ | ⟨-, k, h⟩ | ⟨hdg, -⟩
    · cases h
    · cases h
    · exact W.vret hx hb (by rw [hr]) (fun t ht hW => ⟨⟨rfl, _, ⟨ad', y, hAg, rfl, hmb⟩, by rw [ht]; exact hH.1, hH.2.1⟩, hH.2.2.F ht⟩) hH.2.2.2.2 hdg
  · show lv_has ls 1 [(0, Value.ref (ad' bM))]
    rw [e3]
    exact hl
