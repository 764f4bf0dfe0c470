/-! BIRTH: the Model, array by array; its world by names -/
/-- slot k of the Model, where the arrays of the slots below c are there -/
def n12f (c : Nat) (ad : Nat → Nat) (x : aS) (k : Nat) : Value := if aK 12 k < 100 ∨ k < c then aT ad (aF x 3072 12 k) else .null
def n12o (c : Nat) (ad : Nat → Nat) (x : aS) : List Value := (List.range 90).map (n12f c ad x)
def n12l (b c : Nat) (js : List aN) (ad : Nat → Nat) (cy : Nat → ClassId) (x : aS) : va_W := (b, .inr (12, n12o c ad x)) :: js.map (fun q => (ad q.1, aE ad cy x q))
def n12J (c : Nat) (js : List aN) : Prop := ∀ q ∈ js, 3072 < q.1 ∧ q.1 < 3073 + c ∧ 13 ≤ q.2.1 ∧ q.2.1 ≤ 16
def n12A (ad0 ad : Nat → Nat) : Prop := ∀ m, m ≤ 3072 ∨ 3163 ≤ m → ad m = ad0 m
def n12Z (x : aS) : Prop := ∀ m, 3076 < m → x.1 m = (fun _ => 0) ∧ x.2 m = (fun _ => 0)
set_option maxRecDepth 100000 in
theorem n12k : ∀ k, k < 90 → aK 12 k = 0 ∨ aK 12 k = 2 ∨ aK 12 k = 101 + k := by decide +kernel
theorem n12i {x : aS} {k : Nat} (h : aK 12 k = 0) : aF x 3072 12 k = .int (x.1 3072 k) := by unfold aF; rw [if_pos h]
theorem n12j {x : aS} {k : Nat} (h : aK 12 k = 2) : aF x 3072 12 k = .long (x.2 3072 k) := by unfold aF; rw [if_neg (by omega), if_pos h]
theorem n12r {x : aS} {k : Nat} (hk : k < 90) (h : aK 12 k = 101 + k) : aF x 3072 12 k = .ref (3073 + k) := by
  unfold aF
  rw [if_neg (by omega), if_neg (by omega), if_neg (by omega), if_pos (by omega), h, show 3072 + (101 + k - 100) = 3073 + k by omega]
theorem n12f_up {c j q k : Nat} {ad : Nat → Nat} {x y : aS} (hk : k < 90) (hkj : k ≠ j) (hc : c ≤ j) (hcj : ∀ i, i < j → c ≤ i → aK 12 i < 100) (e1 : y.1 3072 = x.1 3072) (e2 : y.2 3072 = x.2 3072) : n12f c ad x k = n12f (j + 1) (va_up ad (3073 + j) q) y k := by
  unfold n12f
  rcases n12k k hk with h | h | h
  · rw [if_pos (Or.inl (by omega)), if_pos (Or.inl (by omega)), n12i h, n12i h, e1]
    rfl
  · rw [if_pos (Or.inl (by omega)), if_pos (Or.inl (by omega)), n12j h, n12j h, e2]
    rfl
  · by_cases g : k < c
    · rw [if_pos (Or.inr g), if_pos (Or.inr (by omega)), n12r hk h, n12r hk h]
      show Value.ref (ad (3073 + k)) = Value.ref (va_up ad (3073 + j) q (3073 + k))
      rw [va_up_ne _ _ (by omega)]
    · have g2 : ¬ k < j := fun z => by
        have := hcj k z (by omega)
        omega
      rw [if_neg (by omega), if_neg (by omega)]
theorem n12o_len {c : Nat} {ad : Nat → Nat} {x : aS} : (n12o c ad x).length = 90 := by unfold n12o; rw [List.length_map, List.length_range]
theorem n12o_up {c j q : Nat} {ad : Nat → Nat} {x y : aS} (hj : j < 90) (hr : aK 12 j = 101 + j) (hc : c ≤ j) (hcj : ∀ i, i < j → c ≤ i → aK 12 i < 100) (e1 : y.1 3072 = x.1 3072) (e2 : y.2 3072 = x.2 3072) : (n12o c ad x).set j (.ref q) = n12o (j + 1) (va_up ad (3073 + j) q) y := by
  apply List.ext_getElem?
  intro k
  unfold n12o
  rw [List.getElem?_set, List.getElem?_map, List.getElem?_map, List.length_map, List.length_range]
  by_cases g : j = k
  · subst g
    rw [if_pos rfl, if_pos hj, List.getElem?_range hj]
    show some (Value.ref q) = some (n12f (j + 1) (va_up ad (3073 + j) q) y j)
    unfold n12f
    rw [if_pos (Or.inr (by omega)), n12r hj hr]
    show some (Value.ref q) = some (Value.ref (va_up ad (3073 + j) q (3073 + j)))
    rw [va_up_self]
  · rw [if_neg g]
    by_cases hk : k < 90
    · rw [List.getElem?_range hk]
      show some (n12f c ad x k) = some (n12f (j + 1) (va_up ad (3073 + j) q) y k)
      rw [n12f_up (q := q) hk (fun z => g z.symm) hc hcj e1 e2]
    · rw [List.getElem?_eq_none (by rw [List.length_range]; omega)]
      simp only [Option.map_none]
theorem n12o_int {c j : Nat} {v : Int32} {ad : Nat → Nat} {x : aS} (hj : j < 90) (hr : aK 12 j = 0) : (n12o c ad x).set j (.int v) = n12o c ad (aWr x 3072 j v) := by
  apply List.ext_getElem?
  intro k
  unfold n12o
  rw [List.getElem?_set, List.getElem?_map, List.getElem?_map, List.length_map, List.length_range]
  by_cases g : j = k
  · subst g
    rw [if_pos rfl, if_pos hj, List.getElem?_range hj]
    show some (Value.int v) = some (n12f c ad (aWr x 3072 j v) j)
    unfold n12f
    rw [if_pos (Or.inl (by omega)), n12i hr]
    simp [aWr, aT]
  · rw [if_neg g]
    by_cases hk : k < 90
    · rw [List.getElem?_range hk]
      show some (n12f c ad x k) = some (n12f c ad (aWr x 3072 j v) k)
      unfold n12f
      have g2 : ¬ k = j := fun z => g z.symm
      rcases n12k k hk with h | h | h
      · rw [n12i h, n12i h]
        simp [aWr, g2]
      · rw [n12j h, n12j h]
        rfl
      · rw [n12r hk h, n12r hk h]
    · rw [List.getElem?_eq_none (by rw [List.length_range]; omega)]
      simp only [Option.map_none]
theorem n12_js {j q c : Nat} {js : List aN} {ad : Nat → Nat} {cy : Nat → ClassId} {x y : aS} (hJ : n12J c js) (hc : c ≤ j) (ey : ∀ m, 3072 < m → m < 3073 + j → y.1 m = x.1 m ∧ y.2 m = x.2 m) : js.map (fun n => (ad n.1, aE ad cy x n)) = js.map (fun n => (va_up ad (3073 + j) q n.1, aE (va_up ad (3073 + j) q) cy y n)) := List.map_congr_left (fun n hn => by
  obtain ⟨h1, h2, h3, h4⟩ := hJ n hn
  obtain ⟨n1, k1, len1⟩ := n
  have h1 : 3072 < n1 := h1
  have h2 : n1 < 3073 + c := h2
  have h3 : 13 ≤ k1 := h3
  have h4 : k1 ≤ 16 := h4
  obtain ⟨f1, f2⟩ := ey n1 h1 (by omega)
  show (ad n1, aE ad cy x (n1, k1, len1)) = (va_up ad (3073 + j) q n1, aE (va_up ad (3073 + j) q) cy y (n1, k1, len1))
  rw [va_up_ne _ _ (show n1 ≠ 3073 + j by omega)]
  by_cases g : k1 = 15
  · subst g
    rw [aE_longs, aE_longs, f2]
  · rw [aE_ints (by omega), aE_ints (by omega), f1])
theorem n12l_up {b c j q kk len : Nat} {js : List aN} {ad : Nat → Nat} {cy : Nat → ClassId} {x y : aS} {z : vp_A} (hJ : n12J c js) (hj : j < 90) (hr : aK 12 j = 101 + j) (hc : c ≤ j) (hcj : ∀ i, i < j → c ≤ i → aK 12 i < 100) (ey : ∀ m, 3072 ≤ m → m < 3073 + j → y.1 m = x.1 m ∧ y.2 m = x.2 m) (hz : aE (va_up ad (3073 + j) q) cy y (3073 + j, kk, len) = .inl (cy kk, z)) :
    ((b, .inr (12, (n12o c ad x).set j (.ref q))) :: (js.map (fun n => (ad n.1, aE ad cy x n)) ++ [(q, .inl (cy kk, z))]) : va_W) = n12l b (j + 1) (js ++ [(3073 + j, kk, len)]) (va_up ad (3073 + j) q) cy y := by
  unfold n12l
  rw [n12o_up (q := q) hj hr hc hcj (ey 3072 (Nat.le_refl _) (by omega)).1 (ey 3072 (Nat.le_refl _) (by omega)).2, List.map_append, n12_js (q := q) hJ hc (fun m h1 h2 => ey m (by omega) h2)]
  show _ = _ :: (_ ++ [(va_up ad (3073 + j) q (3073 + j), aE (va_up ad (3073 + j) q) cy y (3073 + j, kk, len))])
  rw [va_up_self, hz]
theorem n12l_int {b c j : Nat} {v : Int32} {js : List aN} {ad : Nat → Nat} {cy : Nat → ClassId} {x : aS} (hJ : n12J c js) (hj : j < 90) (hr : aK 12 j = 0) : ((b, .inr (12, (n12o c ad x).set j (.int v))) :: js.map (fun n => (ad n.1, aE ad cy x n)) : va_W) = n12l b c js ad cy (aWr x 3072 j v) := by
  unfold n12l
  rw [n12o_int hj hr]
  refine congrArg _ (List.map_congr_left (fun n hn => ?_))
  obtain ⟨h1, h2, h3, h4⟩ := hJ n hn
  have e1 : (aWr x 3072 j v).1 n.1 = x.1 n.1 := by
    have : ¬ n.1 = 3072 := by omega
    simp [aWr, this]
  rw [aE_ext (x := x) (y := aWr x 3072 j v) e1 rfl]
theorem n12J_up {c j kk len : Nat} {js : List aN} (hJ : n12J c js) (hc : c ≤ j) (h1 : 13 ≤ kk) (h2 : kk ≤ 16) : n12J (j + 1) (js ++ [(3073 + j, kk, len)]) := by
  intro q hq
  rcases List.mem_append.mp hq with h | h
  · obtain ⟨a1, a2, a3, a4⟩ := hJ q h
    exact ⟨a1, by omega, a3, a4⟩
  · rw [List.mem_singleton] at h
    subst h
    exact ⟨by show 3072 < 3073 + j; omega, by show 3073 + j < 3073 + (j + 1); omega, h1, h2⟩
theorem n12A_up {ad0 ad : Nat → Nat} {j q : Nat} (h : n12A ad0 ad) (hj : j < 90) : n12A ad0 (va_up ad (3073 + j) q) := fun m hm => by
  rw [va_up_ne _ _ (by omega)]
  exact h m hm
theorem n12z_i {ad : Nat → Nat} {cy : Nat → ClassId} {x : aS} {n k len : Nat} (h : n12Z x) (hn : 3076 < n) (hk : k = 13 ∨ k = 14 ∨ k = 16) : aE ad cy x (n, k, len) = .inl (cy k, len, .inl (fun _ => 0)) := by rw [aE_ints hk, (h n hn).1]
theorem n12z_j {ad : Nat → Nat} {cy : Nat → ClassId} {x : aS} {n len : Nat} (h : n12Z x) (hn : 3076 < n) : aE ad cy x (n, 15, len) = .inl (cy 15, len, .inr (.inl (fun _ => 0))) := by rw [aE_longs, (h n hn).2]
theorem n12Z_w {x : aS} {j : Nat} {v : Int32} (h : n12Z x) : n12Z (aWr x 3072 j v) := fun m hm => by
  have : ¬ m = 3072 := by omega
  exact ⟨by rw [← (h m hm).1]; simp [aWr, this], (h m hm).2⟩
theorem bH_eq {s : State} {dC : Nat → ClassId} {dI : Nat → Nat → Nat} {A : Nat → Prop} {ws ws' : va_W} {H : Heap} {locs : List Loc} (h : bH s dC dI A ws H locs) (e : ws = ws') : bH s dC dI A ws' H locs := e ▸ h
section b12
variable {p : Program} {l : Launch} {e : Env} {R : Room} {s : State} {mid : MethodId} {args : Array Value} {below : List Frame} {meth : Method} {c : Code} {Qs : State → Prop} {dC : Nat → ClassId} {dI : Nat → Nat → Nat} {cy : Nat → ClassId} {A : Nat → Prop}
theorem b_arrM {H : Heap} {locs : List Loc} {cells slots cells1 slots1 pc b : Nat} {ls : Array Slot} {st : List Value} {atype : ArrayType} {ty ty9 : FieldType} {kk ti idx j cc N9 : Nat} {n : Int32} {a0 : vp_A} {js : List aN} {ad0 ad : Nat → Nat} {x : aS} (C : bC mX12_init p s mid args c dC dI cy A) (hH : bH s dC dI A (n12l b cc js ad cy x) H locs) (hJ : n12J cc js) (hA : n12A ad0 ad) (hw0 : Cond.arrayClass (newarray.typeOf atype) ∈ aTb) (hty0 : newarray.typeOf atype = ty) (hti : (aTy cy)[ti]? = some (cy kk, ty)) (hob : ∀ C, ty ≠ .object C)
    (ha : ∀ cA : ClassId, vp_cell cA a0 = arrV cA N9 (fun _ => defaultValue ty)) (hn : ¬ n < 0) (hN : n.toNatClampNeg = N9) (hbytes : N9 * componentBytes ty ≤ 536870912) (hc1 : cells + 1 = cells1) (hs1 : slots + N9 = slots1) (hcells : cells1 ≤ R.cells) (hslots : slots1 ≤ R.slots) (hd0 : decode cX12_init pc = .ok (.newarray atype, 2)) (hd : decode cX12_init (pc + 2) = .ok (.putfield idx, 3)) (hj : j < 90) (hw : Cond.fieldLink RX12 idx (TX12 j).1 (TX12 j).2.1 (TX12 j).2.2.1 ∈ aTb)
    (hfin : (TX12 j).2.2.2 = false ∨ ((TX12 j).2.2.2 = true ∧ meth.name = "<init>" ∧ (TX12 j).1 = RX12)) (hp : parseFieldDescriptor (TX12 j).2.2.1 = some ty9) (hna : ∀ q : Nat, narrow ty9 (.ref q) = .ref q) (hfi : ∀ q : Nat, fits ty9 (.ref q) = true) (hr : aK 12 j = 101 + j) (hcj : cc ≤ j) (hci : ∀ i, i < j → cc ≤ i → aK 12 i < 100) (hk : 13 ≤ kk ∧ kk ≤ 16) (hz : ∀ ad' : Nat → Nat, aE ad' cy x (3073 + j, kk, N9) = .inl (cy kk, a0))
    (k : ∀ (ad' : Nat → Nat) (H1 : Heap) (locs1 : List Loc), n12A ad0 ad' → n12J (j + 1) (js ++ [(3073 + j, kk, N9)]) → bH s dC dI A (n12l b (j + 1) (js ++ [(3073 + j, kk, N9)]) ad' cy x) H1 locs1 → W p l e R s mid args below meth c H1 locs1 cells1 slots1 Qs (F0 mid (pc + 5) ls st)) : W p l e R s mid args below meth c H locs cells slots Qs (F0 mid pc ls (.int n :: .ref b :: st)) := by
  refine b_arr (m := mX12_init) (ci := 12) (N := 90) (j := j) (fs := n12o cc ad x) C hH hw0 hty0 hti hob ha hn hN hbytes (by rw [hc1]; exact hcells) (by rw [hs1]; exact hslots) hd0 hd rfl iwX12 hj hw tyX12 tyX12_ok nmX12 hfin hp hna hfi n12o_len (fun q H1 locs1 _ h1 => ?_)
  rw [hc1, hs1]
  exact k (va_up ad (3073 + j) q) H1 locs1 (n12A_up hA hj) (n12J_up hJ hcj hk.1 hk.2) (bH_eq h1 (n12l_up hJ hj hr hcj hci (fun m _ _ => ⟨rfl, rfl⟩) (hz _)))
theorem b_wd {m : aM} {H : Heap} {locs : List Loc} {cells slots pc q i : Nat} {ls : Array Slot} {st : List Value} {x0 x1 : Nat × va_E} {F : Nat → Int32} {v iv : Int32} (C : bC m p s mid args c dC dI cy A) (hH : bH s dC dI A [x0, x1, (q, .inl (cy 14, 108, .inl F))] H locs) (hF : ∀ j, j < i → F j = nI (wd j)) (hi : i < 108) (hix : iv = nI i) (hv : v = nI (wd i)) (hd : decode m.2.1 pc = .ok (.iastore, 1))
    (k : ∀ (F' : Nat → Int32) (H1 : Heap) (locs1 : List Loc), (∀ j, j < i + 1 → F' j = nI (wd j)) → bH s dC dI A [x0, x1, (q, .inl (cy 14, 108, .inl F'))] H1 locs1 → W p l e R s mid args below meth c H1 locs1 cells slots Qs (F0 mid (pc + 1) ls st)) : W p l e R s mid args below meth c H locs cells slots Qs (F0 mid pc ls (.int v :: .int iv :: .ref q :: st)) := by
  subst hix
  refine va_iast (D := (dC, dI)) C.1 C.2.1 C.2.2.2.2.2.1 hH.1 hH.2.1 hH.2.2 2 1 rfl aTy_i.1 (vp_in_nI hi (by decide)) hd (fun H1 locs1 h1 h2 h3 => ?_)
  refine k _ H1 locs1 (fun j hj => ?_) ⟨h1, h2, h3⟩
  rw [nI_clamp (by omega)]
  by_cases hji : j = i
  · subst hji; simp [hv, upd]
  · have : j < i := by omega
    simp [hji, hF j this, upd]
set_option maxHeartbeats 8000000 in
set_option maxRecDepth 100000 in
theorem m12_a {b : Nat} {ls : Array Slot} {H : Heap} {ad0 : Nat → Nat} (C : bC mX12_init p s mid args c dC dI cy A) (hin : meth.name = "<init>") (hl : lv_has ls 1 [(0, .ref b)]) (hfr : 1 ≤ R.frames) (hlo : 20 ≤ R.locals) (hce : 50 ≤ R.cells) (hsl : 9396 ≤ R.slots) (hH : bH s dC dI A [(b, .inr (12, dfl 12))] H [])
    (K : ∀ (ad : Nat → Nat) (F : Nat → Int32) (H : Heap) (locs : List Loc), n12A ad0 ad → (∀ j, j < 108 → F j = nI (wd j)) → n12J 4 [(3073, 14, 700), (3076, 14, 108)] → bH s dC dI A (n12l b 4 [(3073, 14, 700), (3076, 14, 108)] ad cy (aWw (fun _ _ => 0, fun _ _ => 0) 3076 F)) H locs → W p l e R s mid args below meth c H locs 2 808 Qs (F0 mid 663 ls [])) : W p l e R s mid args below meth c H [] 0 0 Qs (F0 mid 0 ls []) := by
  have hd12 : ∀ k, k < 90 → (aK 12 k = 0 ∧ defaultValue (bTyOf 12 k) = .int 0) ∨ (aK 12 k = 2 ∧ defaultValue (bTyOf 12 k) = .long 0) ∨ (aK 12 k = 101 + k ∧ defaultValue (bTyOf 12 k) = .null) := by decide +kernel
  have h0 : dfl 12 = n12o 0 ad0 (fun _ _ => 0, fun _ _ => 0) := by
    show (List.range 90).map (fun k => defaultValue (bTyOf 12 k)) = (List.range 90).map (n12f 0 ad0 (fun _ _ => 0, fun _ _ => 0))
    refine List.map_congr_left (fun k hk => ?_)
    unfold n12f
    rcases hd12 k (List.mem_range.mp hk) with ⟨h, g⟩ | ⟨h, g⟩ | ⟨h, g⟩
    · rw [g, if_pos (Or.inl (by omega)), n12i h]; rfl
    · rw [g, if_pos (Or.inl (by omega)), n12j h]; rfl
    · rw [g, if_neg (by omega)]
  have hA : n12A ad0 ad0 := fun _ _ => rfl
  have hJ : n12J 0 [] := fun _ h => absurd h List.not_mem_nil
  replace hH : bH s dC dI A (n12l b 0 [] ad0 cy (fun _ _ => 0, fun _ _ => 0)) H [] := by rw [h0] at hH; exact hH
  refine lv_aload_n C.1 C.2.1 dX12_init_0 rfl (lv_at hl 0 rfl) ?_
  refine b_obj (m := mX12_init) C dX12_init_1 (aTb_tables_1_6 61 rfl rfl) hl.1 hfr hlo (Nat.zero_le _) ?_
  refine lv_aload_n C.1 C.2.1 dX12_init_4 rfl (lv_at hl 0 rfl) ?_
  refine lv_sipush C.1 C.2.1 dX12_init_5 (v := 700) (by decide) ?_
  refine b_arrM (atype := .int) (N9 := 700) (a0 := (700, .inl (fun _ => 0))) (ty := .int) (kk := 14) (j := 0) (cells1 := 1) (slots1 := 700) C hH hJ hA b_aw.1 rfl aTy_i.1 (fun _ h => by cases h) (fun _ => rfl) (by decide) (by decide) (by decide) rfl rfl (Nat.le_trans (Nat.le_of_ble_eq_true rfl) hce) (Nat.le_trans (Nat.le_of_ble_eq_true rfl) hsl) dX12_init_8 dX12_init_10 (by decide) (aTb_tables_1_6 89 rfl rfl) (Or.inr ⟨rfl, hin, rfl⟩) (ty9 := tyX12 0) (by decide +kernel) (fun _ => rfl) (fun _ => rfl) (by decide +kernel) (by decide) (by decide +kernel) (by decide) (fun _ => rfl) (fun ad H locs hA hJ hH => ?_)
  refine lv_aload_n C.1 C.2.1 dX12_init_13 rfl (lv_at hl 0 rfl) ?_
  refine lv_bipush C.1 C.2.1 dX12_init_14 (v := 108) (by decide) ?_
  refine b_newa (m := mX12_init) (atype := .int) (N := 108) (a0 := (108, .inl (fun _ => 0))) (ty := .int) C hH b_aw.1 rfl aTy_i.1 (fun cA e1 e2 => b_ra (fun _ h => by cases h) e1 e2) (fun _ => rfl) (by decide) (by decide) (by decide) (Nat.le_trans (Nat.le_of_ble_eq_true rfl) hce) (Nat.le_trans (Nat.le_of_ble_eq_true rfl) hsl) dX12_init_16 (fun q3 H hH => ?_)
  replace hH : bH s dC dI A [(b, .inr (12, n12o 1 ad (fun _ _ => 0, fun _ _ => 0))), (ad 3073, aE ad cy (fun _ _ => 0, fun _ _ => 0) (3073, 14, 700)), (q3, .inl (cy 14, 108, .inl (fun _ => 0)))] H locs := hH
  generalize hy1 : (ad 3073, aE ad cy (fun _ _ => 0, fun _ _ => 0) (3073, 14, 700)) = y1 at hH
  generalize hy0 : n12o 1 ad (fun _ _ => 0, fun _ _ => 0) = y0 at hH
  have hF : ∀ j, j < 0 → (fun _ => 0 : Nat → Int32) j = nI (wd j) := fun j hj => absurd hj (Nat.not_lt_zero j)
  refine lv_dup C.1 C.2.1 dX12_init_18 rfl ?_
  refine lv_iconst C.1 C.2.1 dX12_init_19 (v := 0) (by decide) ?_
  refine lv_bipush C.1 C.2.1 dX12_init_20 (v := 104) (by decide) ?_
  refine b_wd (i := 0) C hH hF (by decide) (by decide +kernel) (by decide +kernel) dX12_init_22 (fun F H locs hF hH => ?_)
  refine lv_dup C.1 C.2.1 dX12_init_23 rfl ?_
  refine lv_iconst C.1 C.2.1 dX12_init_24 (v := 1) (by decide) ?_
  refine lv_bipush C.1 C.2.1 dX12_init_25 (v := 111) (by decide) ?_
  refine b_wd (i := 1) C hH hF (by decide) (by decide +kernel) (by decide +kernel) dX12_init_27 (fun F H locs hF hH => ?_)
  refine lv_dup C.1 C.2.1 dX12_init_28 rfl ?_
  refine lv_iconst C.1 C.2.1 dX12_init_29 (v := 2) (by decide) ?_
  refine lv_bipush C.1 C.2.1 dX12_init_30 (v := 117) (by decide) ?_
  refine b_wd (i := 2) C hH hF (by decide) (by decide +kernel) (by decide +kernel) dX12_init_32 (fun F H locs hF hH => ?_)
  refine lv_dup C.1 C.2.1 dX12_init_33 rfl ?_
  refine lv_iconst C.1 C.2.1 dX12_init_34 (v := 3) (by decide) ?_
  refine lv_bipush C.1 C.2.1 dX12_init_35 (v := 115) (by decide) ?_
  refine b_wd (i := 3) C hH hF (by decide) (by decide +kernel) (by decide +kernel) dX12_init_37 (fun F H locs hF hH => ?_)
  refine lv_dup C.1 C.2.1 dX12_init_38 rfl ?_
  refine lv_iconst C.1 C.2.1 dX12_init_39 (v := 4) (by decide) ?_
  refine lv_bipush C.1 C.2.1 dX12_init_40 (v := 101) (by decide) ?_
  refine b_wd (i := 4) C hH hF (by decide) (by decide +kernel) (by decide +kernel) dX12_init_42 (fun F H locs hF hH => ?_)
  refine lv_dup C.1 C.2.1 dX12_init_43 rfl ?_
  refine lv_iconst C.1 C.2.1 dX12_init_44 (v := 5) (by decide) ?_
  refine lv_bipush C.1 C.2.1 dX12_init_45 (v := 32) (by decide) ?_
  refine b_wd (i := 5) C hH hF (by decide) (by decide +kernel) (by decide +kernel) dX12_init_47 (fun F H locs hF hH => ?_)
  refine lv_dup C.1 C.2.1 dX12_init_48 rfl ?_
  refine lv_bipush C.1 C.2.1 dX12_init_49 (v := 6) (by decide) ?_
  refine lv_bipush C.1 C.2.1 dX12_init_51 (v := 109) (by decide) ?_
  refine b_wd (i := 6) C hH hF (by decide) (by decide +kernel) (by decide +kernel) dX12_init_53 (fun F H locs hF hH => ?_)
  refine lv_dup C.1 C.2.1 dX12_init_54 rfl ?_
  refine lv_bipush C.1 C.2.1 dX12_init_55 (v := 7) (by decide) ?_
  refine lv_bipush C.1 C.2.1 dX12_init_57 (v := 97) (by decide) ?_
  refine b_wd (i := 7) C hH hF (by decide) (by decide +kernel) (by decide +kernel) dX12_init_59 (fun F H locs hF hH => ?_)
  refine lv_dup C.1 C.2.1 dX12_init_60 rfl ?_
  refine lv_bipush C.1 C.2.1 dX12_init_61 (v := 8) (by decide) ?_
  refine lv_bipush C.1 C.2.1 dX12_init_63 (v := 110) (by decide) ?_
  refine b_wd (i := 8) C hH hF (by decide) (by decide +kernel) (by decide +kernel) dX12_init_65 (fun F H locs hF hH => ?_)
  refine lv_dup C.1 C.2.1 dX12_init_66 rfl ?_
  refine lv_bipush C.1 C.2.1 dX12_init_67 (v := 9) (by decide) ?_
  refine lv_bipush C.1 C.2.1 dX12_init_69 (v := 32) (by decide) ?_
  refine b_wd (i := 9) C hH hF (by decide) (by decide +kernel) (by decide +kernel) dX12_init_71 (fun F H locs hF hH => ?_)
  refine lv_dup C.1 C.2.1 dX12_init_72 rfl ?_
  refine lv_bipush C.1 C.2.1 dX12_init_73 (v := 10) (by decide) ?_
  refine lv_bipush C.1 C.2.1 dX12_init_75 (v := 97) (by decide) ?_
  refine b_wd (i := 10) C hH hF (by decide) (by decide +kernel) (by decide +kernel) dX12_init_77 (fun F H locs hF hH => ?_)
  refine lv_dup C.1 C.2.1 dX12_init_78 rfl ?_
  refine lv_bipush C.1 C.2.1 dX12_init_79 (v := 11) (by decide) ?_
  refine lv_bipush C.1 C.2.1 dX12_init_81 (v := 100) (by decide) ?_
  refine b_wd (i := 11) C hH hF (by decide) (by decide +kernel) (by decide +kernel) dX12_init_83 (fun F H locs hF hH => ?_)
  refine lv_dup C.1 C.2.1 dX12_init_84 rfl ?_
  refine lv_bipush C.1 C.2.1 dX12_init_85 (v := 12) (by decide) ?_
  refine lv_bipush C.1 C.2.1 dX12_init_87 (v := 100) (by decide) ?_
  refine b_wd (i := 12) C hH hF (by decide) (by decide +kernel) (by decide +kernel) dX12_init_89 (fun F H locs hF hH => ?_)
  refine lv_dup C.1 C.2.1 dX12_init_90 rfl ?_
  refine lv_bipush C.1 C.2.1 dX12_init_91 (v := 13) (by decide) ?_
  refine lv_bipush C.1 C.2.1 dX12_init_93 (v := 32) (by decide) ?_
  refine b_wd (i := 13) C hH hF (by decide) (by decide +kernel) (by decide +kernel) dX12_init_95 (fun F H locs hF hH => ?_)
  refine lv_dup C.1 C.2.1 dX12_init_96 rfl ?_
  refine lv_bipush C.1 C.2.1 dX12_init_97 (v := 14) (by decide) ?_
  refine lv_bipush C.1 C.2.1 dX12_init_99 (v := 115) (by decide) ?_
  refine b_wd (i := 14) C hH hF (by decide) (by decide +kernel) (by decide +kernel) dX12_init_101 (fun F H locs hF hH => ?_)
  refine lv_dup C.1 C.2.1 dX12_init_102 rfl ?_
  refine lv_bipush C.1 C.2.1 dX12_init_103 (v := 15) (by decide) ?_
  refine lv_bipush C.1 C.2.1 dX12_init_105 (v := 108) (by decide) ?_
  refine b_wd (i := 15) C hH hF (by decide) (by decide +kernel) (by decide +kernel) dX12_init_107 (fun F H locs hF hH => ?_)
  refine lv_dup C.1 C.2.1 dX12_init_108 rfl ?_
  refine lv_bipush C.1 C.2.1 dX12_init_109 (v := 16) (by decide) ?_
  refine lv_bipush C.1 C.2.1 dX12_init_111 (v := 105) (by decide) ?_
  refine b_wd (i := 16) C hH hF (by decide) (by decide +kernel) (by decide +kernel) dX12_init_113 (fun F H locs hF hH => ?_)
  refine lv_dup C.1 C.2.1 dX12_init_114 rfl ?_
  refine lv_bipush C.1 C.2.1 dX12_init_115 (v := 17) (by decide) ?_
  refine lv_bipush C.1 C.2.1 dX12_init_117 (v := 99) (by decide) ?_
  refine b_wd (i := 17) C hH hF (by decide) (by decide +kernel) (by decide +kernel) dX12_init_119 (fun F H locs hF hH => ?_)
  refine lv_dup C.1 C.2.1 dX12_init_120 rfl ?_
  refine lv_bipush C.1 C.2.1 dX12_init_121 (v := 18) (by decide) ?_
  refine lv_bipush C.1 C.2.1 dX12_init_123 (v := 101) (by decide) ?_
  refine b_wd (i := 18) C hH hF (by decide) (by decide +kernel) (by decide +kernel) dX12_init_125 (fun F H locs hF hH => ?_)
  refine lv_dup C.1 C.2.1 dX12_init_126 rfl ?_
  refine lv_bipush C.1 C.2.1 dX12_init_127 (v := 19) (by decide) ?_
  refine lv_bipush C.1 C.2.1 dX12_init_129 (v := 32) (by decide) ?_
  refine b_wd (i := 19) C hH hF (by decide) (by decide +kernel) (by decide +kernel) dX12_init_131 (fun F H locs hF hH => ?_)
  refine lv_dup C.1 C.2.1 dX12_init_132 rfl ?_
  refine lv_bipush C.1 C.2.1 dX12_init_133 (v := 20) (by decide) ?_
  refine lv_bipush C.1 C.2.1 dX12_init_135 (v := 119) (by decide) ?_
  refine b_wd (i := 20) C hH hF (by decide) (by decide +kernel) (by decide +kernel) dX12_init_137 (fun F H locs hF hH => ?_)
  refine lv_dup C.1 C.2.1 dX12_init_138 rfl ?_
  refine lv_bipush C.1 C.2.1 dX12_init_139 (v := 21) (by decide) ?_
  refine lv_bipush C.1 C.2.1 dX12_init_141 (v := 101) (by decide) ?_
  refine b_wd (i := 21) C hH hF (by decide) (by decide +kernel) (by decide +kernel) dX12_init_143 (fun F H locs hF hH => ?_)
  refine lv_dup C.1 C.2.1 dX12_init_144 rfl ?_
  refine lv_bipush C.1 C.2.1 dX12_init_145 (v := 22) (by decide) ?_
  refine lv_bipush C.1 C.2.1 dX12_init_147 (v := 100) (by decide) ?_
  refine b_wd (i := 22) C hH hF (by decide) (by decide +kernel) (by decide +kernel) dX12_init_149 (fun F H locs hF hH => ?_)
  refine lv_dup C.1 C.2.1 dX12_init_150 rfl ?_
  refine lv_bipush C.1 C.2.1 dX12_init_151 (v := 23) (by decide) ?_
  refine lv_bipush C.1 C.2.1 dX12_init_153 (v := 32) (by decide) ?_
  refine b_wd (i := 23) C hH hF (by decide) (by decide +kernel) (by decide +kernel) dX12_init_155 (fun F H locs hF hH => ?_)
  refine lv_dup C.1 C.2.1 dX12_init_156 rfl ?_
  refine lv_bipush C.1 C.2.1 dX12_init_157 (v := 24) (by decide) ?_
  refine lv_bipush C.1 C.2.1 dX12_init_159 (v := 115) (by decide) ?_
  refine b_wd (i := 24) C hH hF (by decide) (by decide +kernel) (by decide +kernel) dX12_init_161 (fun F H locs hF hH => ?_)
  refine lv_dup C.1 C.2.1 dX12_init_162 rfl ?_
  refine lv_bipush C.1 C.2.1 dX12_init_163 (v := 25) (by decide) ?_
  refine lv_bipush C.1 C.2.1 dX12_init_165 (v := 116) (by decide) ?_
  refine b_wd (i := 25) C hH hF (by decide) (by decide +kernel) (by decide +kernel) dX12_init_167 (fun F H locs hF hH => ?_)
  refine lv_dup C.1 C.2.1 dX12_init_168 rfl ?_
  refine lv_bipush C.1 C.2.1 dX12_init_169 (v := 26) (by decide) ?_
  refine lv_bipush C.1 C.2.1 dX12_init_171 (v := 114) (by decide) ?_
  refine b_wd (i := 26) C hH hF (by decide) (by decide +kernel) (by decide +kernel) dX12_init_173 (fun F H locs hF hH => ?_)
  refine lv_dup C.1 C.2.1 dX12_init_174 rfl ?_
  refine lv_bipush C.1 C.2.1 dX12_init_175 (v := 27) (by decide) ?_
  refine lv_bipush C.1 C.2.1 dX12_init_177 (v := 105) (by decide) ?_
  refine b_wd (i := 27) C hH hF (by decide) (by decide +kernel) (by decide +kernel) dX12_init_179 (fun F H locs hF hH => ?_)
  refine lv_dup C.1 C.2.1 dX12_init_180 rfl ?_
  refine lv_bipush C.1 C.2.1 dX12_init_181 (v := 28) (by decide) ?_
  refine lv_bipush C.1 C.2.1 dX12_init_183 (v := 112) (by decide) ?_
  refine b_wd (i := 28) C hH hF (by decide) (by decide +kernel) (by decide +kernel) dX12_init_185 (fun F H locs hF hH => ?_)
  refine lv_dup C.1 C.2.1 dX12_init_186 rfl ?_
  refine lv_bipush C.1 C.2.1 dX12_init_187 (v := 29) (by decide) ?_
  refine lv_bipush C.1 C.2.1 dX12_init_189 (v := 32) (by decide) ?_
  refine b_wd (i := 29) C hH hF (by decide) (by decide +kernel) (by decide +kernel) dX12_init_191 (fun F H locs hF hH => ?_)
  refine lv_dup C.1 C.2.1 dX12_init_192 rfl ?_
  refine lv_bipush C.1 C.2.1 dX12_init_193 (v := 30) (by decide) ?_
  refine lv_bipush C.1 C.2.1 dX12_init_195 (v := 100) (by decide) ?_
  refine b_wd (i := 30) C hH hF (by decide) (by decide +kernel) (by decide +kernel) dX12_init_197 (fun F H locs hF hH => ?_)
  refine lv_dup C.1 C.2.1 dX12_init_198 rfl ?_
  refine lv_bipush C.1 C.2.1 dX12_init_199 (v := 31) (by decide) ?_
  refine lv_bipush C.1 C.2.1 dX12_init_201 (v := 97) (by decide) ?_
  refine b_wd (i := 31) C hH hF (by decide) (by decide +kernel) (by decide +kernel) dX12_init_203 (fun F H locs hF hH => ?_)
  refine lv_dup C.1 C.2.1 dX12_init_204 rfl ?_
  refine lv_bipush C.1 C.2.1 dX12_init_205 (v := 32) (by decide) ?_
  refine lv_bipush C.1 C.2.1 dX12_init_207 (v := 109) (by decide) ?_
  refine b_wd (i := 32) C hH hF (by decide) (by decide +kernel) (by decide +kernel) dX12_init_209 (fun F H locs hF hH => ?_)
  refine lv_dup C.1 C.2.1 dX12_init_210 rfl ?_
  refine lv_bipush C.1 C.2.1 dX12_init_211 (v := 33) (by decide) ?_
  refine lv_bipush C.1 C.2.1 dX12_init_213 (v := 112) (by decide) ?_
  refine b_wd (i := 33) C hH hF (by decide) (by decide +kernel) (by decide +kernel) dX12_init_215 (fun F H locs hF hH => ?_)
  refine lv_dup C.1 C.2.1 dX12_init_216 rfl ?_
  refine lv_bipush C.1 C.2.1 dX12_init_217 (v := 34) (by decide) ?_
  refine lv_bipush C.1 C.2.1 dX12_init_219 (v := 32) (by decide) ?_
  refine b_wd (i := 34) C hH hF (by decide) (by decide +kernel) (by decide +kernel) dX12_init_221 (fun F H locs hF hH => ?_)
  refine lv_dup C.1 C.2.1 dX12_init_222 rfl ?_
  refine lv_bipush C.1 C.2.1 dX12_init_223 (v := 35) (by decide) ?_
  refine lv_bipush C.1 C.2.1 dX12_init_225 (v := 115) (by decide) ?_
  refine b_wd (i := 35) C hH hF (by decide) (by decide +kernel) (by decide +kernel) dX12_init_227 (fun F H locs hF hH => ?_)
  refine lv_dup C.1 C.2.1 dX12_init_228 rfl ?_
  refine lv_bipush C.1 C.2.1 dX12_init_229 (v := 36) (by decide) ?_
  refine lv_bipush C.1 C.2.1 dX12_init_231 (v := 101) (by decide) ?_
  refine b_wd (i := 36) C hH hF (by decide) (by decide +kernel) (by decide +kernel) dX12_init_233 (fun F H locs hF hH => ?_)
  refine lv_dup C.1 C.2.1 dX12_init_234 rfl ?_
  refine lv_bipush C.1 C.2.1 dX12_init_235 (v := 37) (by decide) ?_
  refine lv_bipush C.1 C.2.1 dX12_init_237 (v := 101) (by decide) ?_
  refine b_wd (i := 37) C hH hF (by decide) (by decide +kernel) (by decide +kernel) dX12_init_239 (fun F H locs hF hH => ?_)
  refine lv_dup C.1 C.2.1 dX12_init_240 rfl ?_
  refine lv_bipush C.1 C.2.1 dX12_init_241 (v := 38) (by decide) ?_
  refine lv_bipush C.1 C.2.1 dX12_init_243 (v := 100) (by decide) ?_
  refine b_wd (i := 38) C hH hF (by decide) (by decide +kernel) (by decide +kernel) dX12_init_245 (fun F H locs hF hH => ?_)
  refine lv_dup C.1 C.2.1 dX12_init_246 rfl ?_
  refine lv_bipush C.1 C.2.1 dX12_init_247 (v := 39) (by decide) ?_
  refine lv_bipush C.1 C.2.1 dX12_init_249 (v := 32) (by decide) ?_
  refine b_wd (i := 39) C hH hF (by decide) (by decide +kernel) (by decide +kernel) dX12_init_251 (fun F H locs hF hH => ?_)
  refine lv_dup C.1 C.2.1 dX12_init_252 rfl ?_
  refine lv_bipush C.1 C.2.1 dX12_init_253 (v := 40) (by decide) ?_
  refine lv_bipush C.1 C.2.1 dX12_init_255 (v := 108) (by decide) ?_
  refine b_wd (i := 40) C hH hF (by decide) (by decide +kernel) (by decide +kernel) dX12_init_257 (fun F H locs hF hH => ?_)
  refine lv_dup C.1 C.2.1 dX12_init_258 rfl ?_
  refine lv_bipush C.1 C.2.1 dX12_init_259 (v := 41) (by decide) ?_
  refine lv_bipush C.1 C.2.1 dX12_init_261 (v := 97) (by decide) ?_
  refine b_wd (i := 41) C hH hF (by decide) (by decide +kernel) (by decide +kernel) dX12_init_263 (fun F H locs hF hH => ?_)
  refine lv_dup C.1 C.2.1 dX12_init_264 rfl ?_
  refine lv_bipush C.1 C.2.1 dX12_init_265 (v := 42) (by decide) ?_
  refine lv_bipush C.1 C.2.1 dX12_init_267 (v := 119) (by decide) ?_
  refine b_wd (i := 42) C hH hF (by decide) (by decide +kernel) (by decide +kernel) dX12_init_269 (fun F H locs hF hH => ?_)
  refine lv_dup C.1 C.2.1 dX12_init_270 rfl ?_
  refine lv_bipush C.1 C.2.1 dX12_init_271 (v := 43) (by decide) ?_
  refine lv_bipush C.1 C.2.1 dX12_init_273 (v := 32) (by decide) ?_
  refine b_wd (i := 43) C hH hF (by decide) (by decide +kernel) (by decide +kernel) dX12_init_275 (fun F H locs hF hH => ?_)
  refine lv_dup C.1 C.2.1 dX12_init_276 rfl ?_
  refine lv_bipush C.1 C.2.1 dX12_init_277 (v := 44) (by decide) ?_
  refine lv_bipush C.1 C.2.1 dX12_init_279 (v := 116) (by decide) ?_
  refine b_wd (i := 44) C hH hF (by decide) (by decide +kernel) (by decide +kernel) dX12_init_281 (fun F H locs hF hH => ?_)
  refine lv_dup C.1 C.2.1 dX12_init_282 rfl ?_
  refine lv_bipush C.1 C.2.1 dX12_init_283 (v := 45) (by decide) ?_
  refine lv_bipush C.1 C.2.1 dX12_init_285 (v := 104) (by decide) ?_
  refine b_wd (i := 45) C hH hF (by decide) (by decide +kernel) (by decide +kernel) dX12_init_287 (fun F H locs hF hH => ?_)
  refine lv_dup C.1 C.2.1 dX12_init_288 rfl ?_
  refine lv_bipush C.1 C.2.1 dX12_init_289 (v := 46) (by decide) ?_
  refine lv_bipush C.1 C.2.1 dX12_init_291 (v := 105) (by decide) ?_
  refine b_wd (i := 46) C hH hF (by decide) (by decide +kernel) (by decide +kernel) dX12_init_293 (fun F H locs hF hH => ?_)
  refine lv_dup C.1 C.2.1 dX12_init_294 rfl ?_
  refine lv_bipush C.1 C.2.1 dX12_init_295 (v := 47) (by decide) ?_
  refine lv_bipush C.1 C.2.1 dX12_init_297 (v := 99) (by decide) ?_
  refine b_wd (i := 47) C hH hF (by decide) (by decide +kernel) (by decide +kernel) dX12_init_299 (fun F H locs hF hH => ?_)
  refine lv_dup C.1 C.2.1 dX12_init_300 rfl ?_
  refine lv_bipush C.1 C.2.1 dX12_init_301 (v := 48) (by decide) ?_
  refine lv_bipush C.1 C.2.1 dX12_init_303 (v := 107) (by decide) ?_
  refine b_wd (i := 48) C hH hF (by decide) (by decide +kernel) (by decide +kernel) dX12_init_305 (fun F H locs hF hH => ?_)
  refine lv_dup C.1 C.2.1 dX12_init_306 rfl ?_
  refine lv_bipush C.1 C.2.1 dX12_init_307 (v := 49) (by decide) ?_
  refine lv_bipush C.1 C.2.1 dX12_init_309 (v := 32) (by decide) ?_
  refine b_wd (i := 49) C hH hF (by decide) (by decide +kernel) (by decide +kernel) dX12_init_311 (fun F H locs hF hH => ?_)
  refine lv_dup C.1 C.2.1 dX12_init_312 rfl ?_
  refine lv_bipush C.1 C.2.1 dX12_init_313 (v := 50) (by decide) ?_
  refine lv_bipush C.1 C.2.1 dX12_init_315 (v := 98) (by decide) ?_
  refine b_wd (i := 50) C hH hF (by decide) (by decide +kernel) (by decide +kernel) dX12_init_317 (fun F H locs hF hH => ?_)
  refine lv_dup C.1 C.2.1 dX12_init_318 rfl ?_
  refine lv_bipush C.1 C.2.1 dX12_init_319 (v := 51) (by decide) ?_
  refine lv_bipush C.1 C.2.1 dX12_init_321 (v := 101) (by decide) ?_
  refine b_wd (i := 51) C hH hF (by decide) (by decide +kernel) (by decide +kernel) dX12_init_323 (fun F H locs hF hH => ?_)
  refine lv_dup C.1 C.2.1 dX12_init_324 rfl ?_
  refine lv_bipush C.1 C.2.1 dX12_init_325 (v := 52) (by decide) ?_
  refine lv_bipush C.1 C.2.1 dX12_init_327 (v := 97) (by decide) ?_
  refine b_wd (i := 52) C hH hF (by decide) (by decide +kernel) (by decide +kernel) dX12_init_329 (fun F H locs hF hH => ?_)
  refine lv_dup C.1 C.2.1 dX12_init_330 rfl ?_
  refine lv_bipush C.1 C.2.1 dX12_init_331 (v := 53) (by decide) ?_
  refine lv_bipush C.1 C.2.1 dX12_init_333 (v := 114) (by decide) ?_
  refine b_wd (i := 53) C hH hF (by decide) (by decide +kernel) (by decide +kernel) dX12_init_335 (fun F H locs hF hH => ?_)
  refine lv_dup C.1 C.2.1 dX12_init_336 rfl ?_
  refine lv_bipush C.1 C.2.1 dX12_init_337 (v := 54) (by decide) ?_
  refine lv_bipush C.1 C.2.1 dX12_init_339 (v := 32) (by decide) ?_
  refine b_wd (i := 54) C hH hF (by decide) (by decide +kernel) (by decide +kernel) dX12_init_341 (fun F H locs hF hH => ?_)
  refine lv_dup C.1 C.2.1 dX12_init_342 rfl ?_
  refine lv_bipush C.1 C.2.1 dX12_init_343 (v := 55) (by decide) ?_
  refine lv_bipush C.1 C.2.1 dX12_init_345 (v := 99) (by decide) ?_
  refine b_wd (i := 55) C hH hF (by decide) (by decide +kernel) (by decide +kernel) dX12_init_347 (fun F H locs hF hH => ?_)
  refine lv_dup C.1 C.2.1 dX12_init_348 rfl ?_
  refine lv_bipush C.1 C.2.1 dX12_init_349 (v := 56) (by decide) ?_
  refine lv_bipush C.1 C.2.1 dX12_init_351 (v := 111) (by decide) ?_
  refine b_wd (i := 56) C hH hF (by decide) (by decide +kernel) (by decide +kernel) dX12_init_353 (fun F H locs hF hH => ?_)
  refine lv_dup C.1 C.2.1 dX12_init_354 rfl ?_
  refine lv_bipush C.1 C.2.1 dX12_init_355 (v := 57) (by decide) ?_
  refine lv_bipush C.1 C.2.1 dX12_init_357 (v := 114) (by decide) ?_
  refine b_wd (i := 57) C hH hF (by decide) (by decide +kernel) (by decide +kernel) dX12_init_359 (fun F H locs hF hH => ?_)
  refine lv_dup C.1 C.2.1 dX12_init_360 rfl ?_
  refine lv_bipush C.1 C.2.1 dX12_init_361 (v := 58) (by decide) ?_
  refine lv_bipush C.1 C.2.1 dX12_init_363 (v := 110) (by decide) ?_
  refine b_wd (i := 58) C hH hF (by decide) (by decide +kernel) (by decide +kernel) dX12_init_365 (fun F H locs hF hH => ?_)
  refine lv_dup C.1 C.2.1 dX12_init_366 rfl ?_
  refine lv_bipush C.1 C.2.1 dX12_init_367 (v := 59) (by decide) ?_
  refine lv_bipush C.1 C.2.1 dX12_init_369 (v := 32) (by decide) ?_
  refine b_wd (i := 59) C hH hF (by decide) (by decide +kernel) (by decide +kernel) dX12_init_371 (fun F H locs hF hH => ?_)
  refine lv_dup C.1 C.2.1 dX12_init_372 rfl ?_
  refine lv_bipush C.1 C.2.1 dX12_init_373 (v := 60) (by decide) ?_
  refine lv_bipush C.1 C.2.1 dX12_init_375 (v := 97) (by decide) ?_
  refine b_wd (i := 60) C hH hF (by decide) (by decide +kernel) (by decide +kernel) dX12_init_377 (fun F H locs hF hH => ?_)
  refine lv_dup C.1 C.2.1 dX12_init_378 rfl ?_
  refine lv_bipush C.1 C.2.1 dX12_init_379 (v := 61) (by decide) ?_
  refine lv_bipush C.1 C.2.1 dX12_init_381 (v := 110) (by decide) ?_
  refine b_wd (i := 61) C hH hF (by decide) (by decide +kernel) (by decide +kernel) dX12_init_383 (fun F H locs hF hH => ?_)
  refine lv_dup C.1 C.2.1 dX12_init_384 rfl ?_
  refine lv_bipush C.1 C.2.1 dX12_init_385 (v := 62) (by decide) ?_
  refine lv_bipush C.1 C.2.1 dX12_init_387 (v := 100) (by decide) ?_
  refine b_wd (i := 62) C hH hF (by decide) (by decide +kernel) (by decide +kernel) dX12_init_389 (fun F H locs hF hH => ?_)
  refine lv_dup C.1 C.2.1 dX12_init_390 rfl ?_
  refine lv_bipush C.1 C.2.1 dX12_init_391 (v := 63) (by decide) ?_
  refine lv_bipush C.1 C.2.1 dX12_init_393 (v := 32) (by decide) ?_
  refine b_wd (i := 63) C hH hF (by decide) (by decide +kernel) (by decide +kernel) dX12_init_395 (fun F H locs hF hH => ?_)
  refine lv_dup C.1 C.2.1 dX12_init_396 rfl ?_
  refine lv_bipush C.1 C.2.1 dX12_init_397 (v := 64) (by decide) ?_
  refine lv_bipush C.1 C.2.1 dX12_init_399 (v := 111) (by decide) ?_
  refine b_wd (i := 64) C hH hF (by decide) (by decide +kernel) (by decide +kernel) dX12_init_401 (fun F H locs hF hH => ?_)
  refine lv_dup C.1 C.2.1 dX12_init_402 rfl ?_
  refine lv_bipush C.1 C.2.1 dX12_init_403 (v := 65) (by decide) ?_
  refine lv_bipush C.1 C.2.1 dX12_init_405 (v := 114) (by decide) ?_
  refine b_wd (i := 65) C hH hF (by decide) (by decide +kernel) (by decide +kernel) dX12_init_407 (fun F H locs hF hH => ?_)
  refine lv_dup C.1 C.2.1 dX12_init_408 rfl ?_
  refine lv_bipush C.1 C.2.1 dX12_init_409 (v := 66) (by decide) ?_
  refine lv_bipush C.1 C.2.1 dX12_init_411 (v := 32) (by decide) ?_
  refine b_wd (i := 66) C hH hF (by decide) (by decide +kernel) (by decide +kernel) dX12_init_413 (fun F H locs hF hH => ?_)
  refine lv_dup C.1 C.2.1 dX12_init_414 rfl ?_
  refine lv_bipush C.1 C.2.1 dX12_init_415 (v := 67) (by decide) ?_
  refine lv_bipush C.1 C.2.1 dX12_init_417 (v := 110) (by decide) ?_
  refine b_wd (i := 67) C hH hF (by decide) (by decide +kernel) (by decide +kernel) dX12_init_419 (fun F H locs hF hH => ?_)
  refine lv_dup C.1 C.2.1 dX12_init_420 rfl ?_
  refine lv_bipush C.1 C.2.1 dX12_init_421 (v := 68) (by decide) ?_
  refine lv_bipush C.1 C.2.1 dX12_init_423 (v := 111) (by decide) ?_
  refine b_wd (i := 68) C hH hF (by decide) (by decide +kernel) (by decide +kernel) dX12_init_425 (fun F H locs hF hH => ?_)
  refine lv_dup C.1 C.2.1 dX12_init_426 rfl ?_
  refine lv_bipush C.1 C.2.1 dX12_init_427 (v := 69) (by decide) ?_
  refine lv_bipush C.1 C.2.1 dX12_init_429 (v := 116) (by decide) ?_
  refine b_wd (i := 69) C hH hF (by decide) (by decide +kernel) (by decide +kernel) dX12_init_431 (fun F H locs hF hH => ?_)
  refine lv_dup C.1 C.2.1 dX12_init_432 rfl ?_
  refine lv_bipush C.1 C.2.1 dX12_init_433 (v := 70) (by decide) ?_
  refine lv_bipush C.1 C.2.1 dX12_init_435 (v := 32) (by decide) ?_
  refine b_wd (i := 70) C hH hF (by decide) (by decide +kernel) (by decide +kernel) dX12_init_437 (fun F H locs hF hH => ?_)
  refine lv_dup C.1 C.2.1 dX12_init_438 rfl ?_
  refine lv_bipush C.1 C.2.1 dX12_init_439 (v := 71) (by decide) ?_
  refine lv_bipush C.1 C.2.1 dX12_init_441 (v := 98) (by decide) ?_
  refine b_wd (i := 71) C hH hF (by decide) (by decide +kernel) (by decide +kernel) dX12_init_443 (fun F H locs hF hH => ?_)
  refine lv_dup C.1 C.2.1 dX12_init_444 rfl ?_
  refine lv_bipush C.1 C.2.1 dX12_init_445 (v := 72) (by decide) ?_
  refine lv_bipush C.1 C.2.1 dX12_init_447 (v := 121) (by decide) ?_
  refine b_wd (i := 72) C hH hF (by decide) (by decide +kernel) (by decide +kernel) dX12_init_449 (fun F H locs hF hH => ?_)
  refine lv_dup C.1 C.2.1 dX12_init_450 rfl ?_
  refine lv_bipush C.1 C.2.1 dX12_init_451 (v := 73) (by decide) ?_
  refine lv_bipush C.1 C.2.1 dX12_init_453 (v := 32) (by decide) ?_
  refine b_wd (i := 73) C hH hF (by decide) (by decide +kernel) (by decide +kernel) dX12_init_455 (fun F H locs hF hH => ?_)
  refine lv_dup C.1 C.2.1 dX12_init_456 rfl ?_
  refine lv_bipush C.1 C.2.1 dX12_init_457 (v := 74) (by decide) ?_
  refine lv_bipush C.1 C.2.1 dX12_init_459 (v := 122) (by decide) ?_
  refine b_wd (i := 74) C hH hF (by decide) (by decide +kernel) (by decide +kernel) dX12_init_461 (fun F H locs hF hH => ?_)
  refine lv_dup C.1 C.2.1 dX12_init_462 rfl ?_
  refine lv_bipush C.1 C.2.1 dX12_init_463 (v := 75) (by decide) ?_
  refine lv_bipush C.1 C.2.1 dX12_init_465 (v := 111) (by decide) ?_
  refine b_wd (i := 75) C hH hF (by decide) (by decide +kernel) (by decide +kernel) dX12_init_467 (fun F H locs hF hH => ?_)
  refine lv_dup C.1 C.2.1 dX12_init_468 rfl ?_
  refine lv_bipush C.1 C.2.1 dX12_init_469 (v := 76) (by decide) ?_
  refine lv_bipush C.1 C.2.1 dX12_init_471 (v := 110) (by decide) ?_
  refine b_wd (i := 76) C hH hF (by decide) (by decide +kernel) (by decide +kernel) dX12_init_473 (fun F H locs hF hH => ?_)
  refine lv_dup C.1 C.2.1 dX12_init_474 rfl ?_
  refine lv_bipush C.1 C.2.1 dX12_init_475 (v := 77) (by decide) ?_
  refine lv_bipush C.1 C.2.1 dX12_init_477 (v := 101) (by decide) ?_
  refine b_wd (i := 77) C hH hF (by decide) (by decide +kernel) (by decide +kernel) dX12_init_479 (fun F H locs hF hH => ?_)
  refine lv_dup C.1 C.2.1 dX12_init_480 rfl ?_
  refine lv_bipush C.1 C.2.1 dX12_init_481 (v := 78) (by decide) ?_
  refine lv_bipush C.1 C.2.1 dX12_init_483 (v := 32) (by decide) ?_
  refine b_wd (i := 78) C hH hF (by decide) (by decide +kernel) (by decide +kernel) dX12_init_485 (fun F H locs hF hH => ?_)
  refine lv_dup C.1 C.2.1 dX12_init_486 rfl ?_
  refine lv_bipush C.1 C.2.1 dX12_init_487 (v := 79) (by decide) ?_
  refine lv_bipush C.1 C.2.1 dX12_init_489 (v := 109) (by decide) ?_
  refine b_wd (i := 79) C hH hF (by decide) (by decide +kernel) (by decide +kernel) dX12_init_491 (fun F H locs hF hH => ?_)
  refine lv_dup C.1 C.2.1 dX12_init_492 rfl ?_
  refine lv_bipush C.1 C.2.1 dX12_init_493 (v := 80) (by decide) ?_
  refine lv_bipush C.1 C.2.1 dX12_init_495 (v := 117) (by decide) ?_
  refine b_wd (i := 80) C hH hF (by decide) (by decide +kernel) (by decide +kernel) dX12_init_497 (fun F H locs hF hH => ?_)
  refine lv_dup C.1 C.2.1 dX12_init_498 rfl ?_
  refine lv_bipush C.1 C.2.1 dX12_init_499 (v := 81) (by decide) ?_
  refine lv_bipush C.1 C.2.1 dX12_init_501 (v := 99) (by decide) ?_
  refine b_wd (i := 81) C hH hF (by decide) (by decide +kernel) (by decide +kernel) dX12_init_503 (fun F H locs hF hH => ?_)
  refine lv_dup C.1 C.2.1 dX12_init_504 rfl ?_
  refine lv_bipush C.1 C.2.1 dX12_init_505 (v := 82) (by decide) ?_
  refine lv_bipush C.1 C.2.1 dX12_init_507 (v := 104) (by decide) ?_
  refine b_wd (i := 82) C hH hF (by decide) (by decide +kernel) (by decide +kernel) dX12_init_509 (fun F H locs hF hH => ?_)
  refine lv_dup C.1 C.2.1 dX12_init_510 rfl ?_
  refine lv_bipush C.1 C.2.1 dX12_init_511 (v := 83) (by decide) ?_
  refine lv_bipush C.1 C.2.1 dX12_init_513 (v := 32) (by decide) ?_
  refine b_wd (i := 83) C hH hF (by decide) (by decide +kernel) (by decide +kernel) dX12_init_515 (fun F H locs hF hH => ?_)
  refine lv_dup C.1 C.2.1 dX12_init_516 rfl ?_
  refine lv_bipush C.1 C.2.1 dX12_init_517 (v := 84) (by decide) ?_
  refine lv_bipush C.1 C.2.1 dX12_init_519 (v := 112) (by decide) ?_
  refine b_wd (i := 84) C hH hF (by decide) (by decide +kernel) (by decide +kernel) dX12_init_521 (fun F H locs hF hH => ?_)
  refine lv_dup C.1 C.2.1 dX12_init_522 rfl ?_
  refine lv_bipush C.1 C.2.1 dX12_init_523 (v := 85) (by decide) ?_
  refine lv_bipush C.1 C.2.1 dX12_init_525 (v := 105) (by decide) ?_
  refine b_wd (i := 85) C hH hF (by decide) (by decide +kernel) (by decide +kernel) dX12_init_527 (fun F H locs hF hH => ?_)
  refine lv_dup C.1 C.2.1 dX12_init_528 rfl ?_
  refine lv_bipush C.1 C.2.1 dX12_init_529 (v := 86) (by decide) ?_
  refine lv_bipush C.1 C.2.1 dX12_init_531 (v := 110) (by decide) ?_
  refine b_wd (i := 86) C hH hF (by decide) (by decide +kernel) (by decide +kernel) dX12_init_533 (fun F H locs hF hH => ?_)
  refine lv_dup C.1 C.2.1 dX12_init_534 rfl ?_
  refine lv_bipush C.1 C.2.1 dX12_init_535 (v := 87) (by decide) ?_
  refine lv_bipush C.1 C.2.1 dX12_init_537 (v := 99) (by decide) ?_
  refine b_wd (i := 87) C hH hF (by decide) (by decide +kernel) (by decide +kernel) dX12_init_539 (fun F H locs hF hH => ?_)
  refine lv_dup C.1 C.2.1 dX12_init_540 rfl ?_
  refine lv_bipush C.1 C.2.1 dX12_init_541 (v := 88) (by decide) ?_
  refine lv_bipush C.1 C.2.1 dX12_init_543 (v := 104) (by decide) ?_
  refine b_wd (i := 88) C hH hF (by decide) (by decide +kernel) (by decide +kernel) dX12_init_545 (fun F H locs hF hH => ?_)
  refine lv_dup C.1 C.2.1 dX12_init_546 rfl ?_
  refine lv_bipush C.1 C.2.1 dX12_init_547 (v := 89) (by decide) ?_
  refine lv_bipush C.1 C.2.1 dX12_init_549 (v := 32) (by decide) ?_
  refine b_wd (i := 89) C hH hF (by decide) (by decide +kernel) (by decide +kernel) dX12_init_551 (fun F H locs hF hH => ?_)
  refine lv_dup C.1 C.2.1 dX12_init_552 rfl ?_
  refine lv_bipush C.1 C.2.1 dX12_init_553 (v := 90) (by decide) ?_
  refine lv_bipush C.1 C.2.1 dX12_init_555 (v := 99) (by decide) ?_
  refine b_wd (i := 90) C hH hF (by decide) (by decide +kernel) (by decide +kernel) dX12_init_557 (fun F H locs hF hH => ?_)
  refine lv_dup C.1 C.2.1 dX12_init_558 rfl ?_
  refine lv_bipush C.1 C.2.1 dX12_init_559 (v := 91) (by decide) ?_
  refine lv_bipush C.1 C.2.1 dX12_init_561 (v := 111) (by decide) ?_
  refine b_wd (i := 91) C hH hF (by decide) (by decide +kernel) (by decide +kernel) dX12_init_563 (fun F H locs hF hH => ?_)
  refine lv_dup C.1 C.2.1 dX12_init_564 rfl ?_
  refine lv_bipush C.1 C.2.1 dX12_init_565 (v := 92) (by decide) ?_
  refine lv_bipush C.1 C.2.1 dX12_init_567 (v := 114) (by decide) ?_
  refine b_wd (i := 92) C hH hF (by decide) (by decide +kernel) (by decide +kernel) dX12_init_569 (fun F H locs hF hH => ?_)
  refine lv_dup C.1 C.2.1 dX12_init_570 rfl ?_
  refine lv_bipush C.1 C.2.1 dX12_init_571 (v := 93) (by decide) ?_
  refine lv_bipush C.1 C.2.1 dX12_init_573 (v := 110) (by decide) ?_
  refine b_wd (i := 93) C hH hF (by decide) (by decide +kernel) (by decide +kernel) dX12_init_575 (fun F H locs hF hH => ?_)
  refine lv_dup C.1 C.2.1 dX12_init_576 rfl ?_
  refine lv_bipush C.1 C.2.1 dX12_init_577 (v := 94) (by decide) ?_
  refine lv_bipush C.1 C.2.1 dX12_init_579 (v := 115) (by decide) ?_
  refine b_wd (i := 94) C hH hF (by decide) (by decide +kernel) (by decide +kernel) dX12_init_581 (fun F H locs hF hH => ?_)
  refine lv_dup C.1 C.2.1 dX12_init_582 rfl ?_
  refine lv_bipush C.1 C.2.1 dX12_init_583 (v := 95) (by decide) ?_
  refine lv_bipush C.1 C.2.1 dX12_init_585 (v := 32) (by decide) ?_
  refine b_wd (i := 95) C hH hF (by decide) (by decide +kernel) (by decide +kernel) dX12_init_587 (fun F H locs hF hH => ?_)
  refine lv_dup C.1 C.2.1 dX12_init_588 rfl ?_
  refine lv_bipush C.1 C.2.1 dX12_init_589 (v := 96) (by decide) ?_
  refine lv_bipush C.1 C.2.1 dX12_init_591 (v := 108) (by decide) ?_
  refine b_wd (i := 96) C hH hF (by decide) (by decide +kernel) (by decide +kernel) dX12_init_593 (fun F H locs hF hH => ?_)
  refine lv_dup C.1 C.2.1 dX12_init_594 rfl ?_
  refine lv_bipush C.1 C.2.1 dX12_init_595 (v := 97) (by decide) ?_
  refine lv_bipush C.1 C.2.1 dX12_init_597 (v := 97) (by decide) ?_
  refine b_wd (i := 97) C hH hF (by decide) (by decide +kernel) (by decide +kernel) dX12_init_599 (fun F H locs hF hH => ?_)
  refine lv_dup C.1 C.2.1 dX12_init_600 rfl ?_
  refine lv_bipush C.1 C.2.1 dX12_init_601 (v := 98) (by decide) ?_
  refine lv_bipush C.1 C.2.1 dX12_init_603 (v := 121) (by decide) ?_
  refine b_wd (i := 98) C hH hF (by decide) (by decide +kernel) (by decide +kernel) dX12_init_605 (fun F H locs hF hH => ?_)
  refine lv_dup C.1 C.2.1 dX12_init_606 rfl ?_
  refine lv_bipush C.1 C.2.1 dX12_init_607 (v := 99) (by decide) ?_
  refine lv_bipush C.1 C.2.1 dX12_init_609 (v := 101) (by decide) ?_
  refine b_wd (i := 99) C hH hF (by decide) (by decide +kernel) (by decide +kernel) dX12_init_611 (fun F H locs hF hH => ?_)
  refine lv_dup C.1 C.2.1 dX12_init_612 rfl ?_
  refine lv_bipush C.1 C.2.1 dX12_init_613 (v := 100) (by decide) ?_
  refine lv_bipush C.1 C.2.1 dX12_init_615 (v := 114) (by decide) ?_
  refine b_wd (i := 100) C hH hF (by decide) (by decide +kernel) (by decide +kernel) dX12_init_617 (fun F H locs hF hH => ?_)
  refine lv_dup C.1 C.2.1 dX12_init_618 rfl ?_
  refine lv_bipush C.1 C.2.1 dX12_init_619 (v := 101) (by decide) ?_
  refine lv_bipush C.1 C.2.1 dX12_init_621 (v := 115) (by decide) ?_
  refine b_wd (i := 101) C hH hF (by decide) (by decide +kernel) (by decide +kernel) dX12_init_623 (fun F H locs hF hH => ?_)
  refine lv_dup C.1 C.2.1 dX12_init_624 rfl ?_
  refine lv_bipush C.1 C.2.1 dX12_init_625 (v := 102) (by decide) ?_
  refine lv_bipush C.1 C.2.1 dX12_init_627 (v := 32) (by decide) ?_
  refine b_wd (i := 102) C hH hF (by decide) (by decide +kernel) (by decide +kernel) dX12_init_629 (fun F H locs hF hH => ?_)
  refine lv_dup C.1 C.2.1 dX12_init_630 rfl ?_
  refine lv_bipush C.1 C.2.1 dX12_init_631 (v := 103) (by decide) ?_
  refine lv_bipush C.1 C.2.1 dX12_init_633 (v := 121) (by decide) ?_
  refine b_wd (i := 103) C hH hF (by decide) (by decide +kernel) (by decide +kernel) dX12_init_635 (fun F H locs hF hH => ?_)
  refine lv_dup C.1 C.2.1 dX12_init_636 rfl ?_
  refine lv_bipush C.1 C.2.1 dX12_init_637 (v := 104) (by decide) ?_
  refine lv_bipush C.1 C.2.1 dX12_init_639 (v := 101) (by decide) ?_
  refine b_wd (i := 104) C hH hF (by decide) (by decide +kernel) (by decide +kernel) dX12_init_641 (fun F H locs hF hH => ?_)
  refine lv_dup C.1 C.2.1 dX12_init_642 rfl ?_
  refine lv_bipush C.1 C.2.1 dX12_init_643 (v := 105) (by decide) ?_
  refine lv_bipush C.1 C.2.1 dX12_init_645 (v := 97) (by decide) ?_
  refine b_wd (i := 105) C hH hF (by decide) (by decide +kernel) (by decide +kernel) dX12_init_647 (fun F H locs hF hH => ?_)
  refine lv_dup C.1 C.2.1 dX12_init_648 rfl ?_
  refine lv_bipush C.1 C.2.1 dX12_init_649 (v := 106) (by decide) ?_
  refine lv_bipush C.1 C.2.1 dX12_init_651 (v := 114) (by decide) ?_
  refine b_wd (i := 106) C hH hF (by decide) (by decide +kernel) (by decide +kernel) dX12_init_653 (fun F H locs hF hH => ?_)
  refine lv_dup C.1 C.2.1 dX12_init_654 rfl ?_
  refine lv_bipush C.1 C.2.1 dX12_init_655 (v := 107) (by decide) ?_
  refine lv_bipush C.1 C.2.1 dX12_init_657 (v := 32) (by decide) ?_
  refine b_wd (i := 107) C hH hF (by decide) (by decide +kernel) (by decide +kernel) dX12_init_659 (fun F H locs hF hH => ?_)
  refine b_put (m := mX12_init) (q0 := 0) (ci := 12) (j := 3) (fs := y0) C hH dX12_init_660 rfl iwX12 (by decide) (aTb_tables_1_6 92 rfl rfl) tyX12 tyX12_ok nmX12 (Or.inr ⟨rfl, hin, rfl⟩) (ty := tyX12 3) (by decide +kernel) rfl rfl rfl (by rw [← hy0]; exact n12o_len) (fun H locs hH => ?_)
  subst hy0
  subst hy1
  refine K (va_up ad 3076 q3) F H locs (n12A_up (j := 3) hA (by decide)) hF (n12J_up (j := 3) (c := 1) hJ (by decide) (by decide) (by decide)) ?_
  exact bH_eq hH (n12l_up (j := 3) (kk := 14) (len := 108) (z := (108, .inl F)) (y := aWw (fun _ _ => 0, fun _ _ => 0) 3076 F) hJ (by decide) (by decide +kernel) (by decide) (by decide +kernel) (fun m h1 h2 => ⟨by
    have : ¬ m = 3076 := by omega
    simp [aWw, this], rfl⟩) rfl)
set_option maxHeartbeats 8000000 in
set_option maxRecDepth 100000 in
theorem m12_b {b : Nat} {ls : Array Slot} {H : Heap} {locs : List Loc} {ad0 ad : Nat → Nat} {js : List aN} {x : aS} (C : bC mX12_init p s mid args c dC dI cy A) (hin : meth.name = "<init>") (hl : lv_has ls 1 [(0, .ref b)]) (hce : 50 ≤ R.cells) (hsl : 9396 ≤ R.slots) (hA : n12A ad0 ad) (hJ : n12J 4 js) (hZ : n12Z x) (hH : bH s dC dI A (n12l b 4 js ad cy x) H locs)
    (K : ∀ (ad : Nat → Nat) (H : Heap) (locs : List Loc), n12A ad0 ad → n12J 33 (((((((((js ++ [(3097, 16, 2)]) ++ [(3098, 14, 4)]) ++ [(3099, 14, 12)]) ++ [(3100, 14, 12)]) ++ [(3101, 14, 16)]) ++ [(3102, 14, 16)]) ++ [(3103, 14, 16)]) ++ [(3104, 14, 16)]) ++ [(3105, 14, 16)]) → bH s dC dI A (n12l b 33 (((((((((js ++ [(3097, 16, 2)]) ++ [(3098, 14, 4)]) ++ [(3099, 14, 12)]) ++ [(3100, 14, 12)]) ++ [(3101, 14, 16)]) ++ [(3102, 14, 16)]) ++ [(3103, 14, 16)]) ++ [(3104, 14, 16)]) ++ [(3105, 14, 16)]) ad cy (aWr x 3072 5 (-1))) H locs → W p l e R s mid args below meth c H locs 11 918 Qs (F0 mid 738 ls [])) : W p l e R s mid args below meth c H locs 2 808 Qs (F0 mid 663 ls []) := by
  refine lv_aload_n C.1 C.2.1 dX12_init_663 rfl (lv_at hl 0 rfl) ?_
  refine lv_iconst C.1 C.2.1 dX12_init_664 (v := (-1)) (by decide) ?_
  refine b_put (m := mX12_init) (q0 := 0) (ci := 12) (j := 5) (fs := n12o _ _ _) C hH dX12_init_665 rfl iwX12 (by decide) (aTb_tables_1_6 94 rfl rfl) tyX12 tyX12_ok nmX12 (Or.inl rfl) (ty := tyX12 5) (by decide +kernel) rfl rfl rfl n12o_len (fun H locs hH => ?_)
  replace hH := bH_eq hH (n12l_int (v := (-1)) (j := 5) hJ (by decide) (by decide +kernel))
  replace hZ : n12Z (aWr x 3072 5 (-1)) := n12Z_w hZ
  refine lv_aload_n C.1 C.2.1 dX12_init_668 rfl (lv_at hl 0 rfl) ?_
  refine lv_iconst C.1 C.2.1 dX12_init_669 (v := 2) (by decide) ?_
  refine b_arrM (atype := .boolean) (N9 := 2) (a0 := (2, .inl (fun _ => 0))) (ty := .boolean) (kk := 16) (j := 24) (cells1 := 3) (slots1 := 810) C hH hJ hA b_aw.2.2.1 rfl aTy_i.2.2.1 (fun _ h => by cases h) (fun _ => rfl) (by decide) (by decide) (by decide) rfl rfl (Nat.le_trans (Nat.le_of_ble_eq_true rfl) hce) (Nat.le_trans (Nat.le_of_ble_eq_true rfl) hsl) dX12_init_670 dX12_init_672 (by decide) (aTb_tables_1_6 113 rfl rfl) (Or.inr ⟨rfl, hin, rfl⟩) (ty9 := tyX12 24) (by decide +kernel) (fun _ => rfl) (fun _ => rfl) (by decide +kernel) (by decide) (by decide +kernel) (by decide) (fun _ => n12z_i hZ (by decide) (by decide)) (fun ad H locs hA hJ hH => ?_)
  refine lv_aload_n C.1 C.2.1 dX12_init_675 rfl (lv_at hl 0 rfl) ?_
  refine lv_iconst C.1 C.2.1 dX12_init_676 (v := 4) (by decide) ?_
  refine b_arrM (atype := .int) (N9 := 4) (a0 := (4, .inl (fun _ => 0))) (ty := .int) (kk := 14) (j := 25) (cells1 := 4) (slots1 := 814) C hH hJ hA b_aw.1 rfl aTy_i.1 (fun _ h => by cases h) (fun _ => rfl) (by decide) (by decide) (by decide) rfl rfl (Nat.le_trans (Nat.le_of_ble_eq_true rfl) hce) (Nat.le_trans (Nat.le_of_ble_eq_true rfl) hsl) dX12_init_677 dX12_init_679 (by decide) (aTb_tables_1_6 114 rfl rfl) (Or.inr ⟨rfl, hin, rfl⟩) (ty9 := tyX12 25) (by decide +kernel) (fun _ => rfl) (fun _ => rfl) (by decide +kernel) (by decide) (by decide +kernel) (by decide) (fun _ => n12z_i hZ (by decide) (by decide)) (fun ad H locs hA hJ hH => ?_)
  refine lv_aload_n C.1 C.2.1 dX12_init_682 rfl (lv_at hl 0 rfl) ?_
  refine lv_bipush C.1 C.2.1 dX12_init_683 (v := 12) (by decide) ?_
  refine b_arrM (atype := .int) (N9 := 12) (a0 := (12, .inl (fun _ => 0))) (ty := .int) (kk := 14) (j := 26) (cells1 := 5) (slots1 := 826) C hH hJ hA b_aw.1 rfl aTy_i.1 (fun _ h => by cases h) (fun _ => rfl) (by decide) (by decide) (by decide) rfl rfl (Nat.le_trans (Nat.le_of_ble_eq_true rfl) hce) (Nat.le_trans (Nat.le_of_ble_eq_true rfl) hsl) dX12_init_685 dX12_init_687 (by decide) (aTb_tables_1_6 115 rfl rfl) (Or.inr ⟨rfl, hin, rfl⟩) (ty9 := tyX12 26) (by decide +kernel) (fun _ => rfl) (fun _ => rfl) (by decide +kernel) (by decide) (by decide +kernel) (by decide) (fun _ => n12z_i hZ (by decide) (by decide)) (fun ad H locs hA hJ hH => ?_)
  refine lv_aload_n C.1 C.2.1 dX12_init_690 rfl (lv_at hl 0 rfl) ?_
  refine lv_bipush C.1 C.2.1 dX12_init_691 (v := 12) (by decide) ?_
  refine b_arrM (atype := .int) (N9 := 12) (a0 := (12, .inl (fun _ => 0))) (ty := .int) (kk := 14) (j := 27) (cells1 := 6) (slots1 := 838) C hH hJ hA b_aw.1 rfl aTy_i.1 (fun _ h => by cases h) (fun _ => rfl) (by decide) (by decide) (by decide) rfl rfl (Nat.le_trans (Nat.le_of_ble_eq_true rfl) hce) (Nat.le_trans (Nat.le_of_ble_eq_true rfl) hsl) dX12_init_693 dX12_init_695 (by decide) (aTb_tables_1_6 116 rfl rfl) (Or.inr ⟨rfl, hin, rfl⟩) (ty9 := tyX12 27) (by decide +kernel) (fun _ => rfl) (fun _ => rfl) (by decide +kernel) (by decide) (by decide +kernel) (by decide) (fun _ => n12z_i hZ (by decide) (by decide)) (fun ad H locs hA hJ hH => ?_)
  refine lv_aload_n C.1 C.2.1 dX12_init_698 rfl (lv_at hl 0 rfl) ?_
  refine lv_bipush C.1 C.2.1 dX12_init_699 (v := 16) (by decide) ?_
  refine b_arrM (atype := .int) (N9 := 16) (a0 := (16, .inl (fun _ => 0))) (ty := .int) (kk := 14) (j := 28) (cells1 := 7) (slots1 := 854) C hH hJ hA b_aw.1 rfl aTy_i.1 (fun _ h => by cases h) (fun _ => rfl) (by decide) (by decide) (by decide) rfl rfl (Nat.le_trans (Nat.le_of_ble_eq_true rfl) hce) (Nat.le_trans (Nat.le_of_ble_eq_true rfl) hsl) dX12_init_701 dX12_init_703 (by decide) (aTb_tables_1_6 117 rfl rfl) (Or.inr ⟨rfl, hin, rfl⟩) (ty9 := tyX12 28) (by decide +kernel) (fun _ => rfl) (fun _ => rfl) (by decide +kernel) (by decide) (by decide +kernel) (by decide) (fun _ => n12z_i hZ (by decide) (by decide)) (fun ad H locs hA hJ hH => ?_)
  refine lv_aload_n C.1 C.2.1 dX12_init_706 rfl (lv_at hl 0 rfl) ?_
  refine lv_bipush C.1 C.2.1 dX12_init_707 (v := 16) (by decide) ?_
  refine b_arrM (atype := .int) (N9 := 16) (a0 := (16, .inl (fun _ => 0))) (ty := .int) (kk := 14) (j := 29) (cells1 := 8) (slots1 := 870) C hH hJ hA b_aw.1 rfl aTy_i.1 (fun _ h => by cases h) (fun _ => rfl) (by decide) (by decide) (by decide) rfl rfl (Nat.le_trans (Nat.le_of_ble_eq_true rfl) hce) (Nat.le_trans (Nat.le_of_ble_eq_true rfl) hsl) dX12_init_709 dX12_init_711 (by decide) (aTb_tables_1_6 118 rfl rfl) (Or.inr ⟨rfl, hin, rfl⟩) (ty9 := tyX12 29) (by decide +kernel) (fun _ => rfl) (fun _ => rfl) (by decide +kernel) (by decide) (by decide +kernel) (by decide) (fun _ => n12z_i hZ (by decide) (by decide)) (fun ad H locs hA hJ hH => ?_)
  refine lv_aload_n C.1 C.2.1 dX12_init_714 rfl (lv_at hl 0 rfl) ?_
  refine lv_bipush C.1 C.2.1 dX12_init_715 (v := 16) (by decide) ?_
  refine b_arrM (atype := .int) (N9 := 16) (a0 := (16, .inl (fun _ => 0))) (ty := .int) (kk := 14) (j := 30) (cells1 := 9) (slots1 := 886) C hH hJ hA b_aw.1 rfl aTy_i.1 (fun _ h => by cases h) (fun _ => rfl) (by decide) (by decide) (by decide) rfl rfl (Nat.le_trans (Nat.le_of_ble_eq_true rfl) hce) (Nat.le_trans (Nat.le_of_ble_eq_true rfl) hsl) dX12_init_717 dX12_init_719 (by decide) (aTb_tables_1_6 119 rfl rfl) (Or.inr ⟨rfl, hin, rfl⟩) (ty9 := tyX12 30) (by decide +kernel) (fun _ => rfl) (fun _ => rfl) (by decide +kernel) (by decide) (by decide +kernel) (by decide) (fun _ => n12z_i hZ (by decide) (by decide)) (fun ad H locs hA hJ hH => ?_)
  refine lv_aload_n C.1 C.2.1 dX12_init_722 rfl (lv_at hl 0 rfl) ?_
  refine lv_bipush C.1 C.2.1 dX12_init_723 (v := 16) (by decide) ?_
  refine b_arrM (atype := .int) (N9 := 16) (a0 := (16, .inl (fun _ => 0))) (ty := .int) (kk := 14) (j := 31) (cells1 := 10) (slots1 := 902) C hH hJ hA b_aw.1 rfl aTy_i.1 (fun _ h => by cases h) (fun _ => rfl) (by decide) (by decide) (by decide) rfl rfl (Nat.le_trans (Nat.le_of_ble_eq_true rfl) hce) (Nat.le_trans (Nat.le_of_ble_eq_true rfl) hsl) dX12_init_725 dX12_init_727 (by decide) (aTb_tables_1_6 120 rfl rfl) (Or.inr ⟨rfl, hin, rfl⟩) (ty9 := tyX12 31) (by decide +kernel) (fun _ => rfl) (fun _ => rfl) (by decide +kernel) (by decide) (by decide +kernel) (by decide) (fun _ => n12z_i hZ (by decide) (by decide)) (fun ad H locs hA hJ hH => ?_)
  refine lv_aload_n C.1 C.2.1 dX12_init_730 rfl (lv_at hl 0 rfl) ?_
  refine lv_bipush C.1 C.2.1 dX12_init_731 (v := 16) (by decide) ?_
  refine b_arrM (atype := .int) (N9 := 16) (a0 := (16, .inl (fun _ => 0))) (ty := .int) (kk := 14) (j := 32) (cells1 := 11) (slots1 := 918) C hH hJ hA b_aw.1 rfl aTy_i.1 (fun _ h => by cases h) (fun _ => rfl) (by decide) (by decide) (by decide) rfl rfl (Nat.le_trans (Nat.le_of_ble_eq_true rfl) hce) (Nat.le_trans (Nat.le_of_ble_eq_true rfl) hsl) dX12_init_733 dX12_init_735 (by decide) (aTb_tables_1_6 121 rfl rfl) (Or.inr ⟨rfl, hin, rfl⟩) (ty9 := tyX12 32) (by decide +kernel) (fun _ => rfl) (fun _ => rfl) (by decide +kernel) (by decide) (by decide +kernel) (by decide) (fun _ => n12z_i hZ (by decide) (by decide)) (fun ad H locs hA hJ hH => ?_)
  exact K ad H locs hA hJ hH
set_option maxHeartbeats 8000000 in
set_option maxRecDepth 100000 in
theorem m12_c {b : Nat} {ls : Array Slot} {H : Heap} {locs : List Loc} {ad0 ad : Nat → Nat} {js : List aN} {x : aS} (C : bC mX12_init p s mid args c dC dI cy A) (hin : meth.name = "<init>") (hl : lv_has ls 1 [(0, .ref b)]) (hce : 50 ≤ R.cells) (hsl : 9396 ≤ R.slots) (hA : n12A ad0 ad) (hJ : n12J 33 js) (hZ : n12Z x) (hH : bH s dC dI A (n12l b 33 js ad cy x) H locs)
    (K : ∀ (ad : Nat → Nat) (H : Heap) (locs : List Loc), n12A ad0 ad → n12J 42 (((((((((js ++ [(3106, 14, 28)]) ++ [(3107, 14, 28)]) ++ [(3108, 14, 28)]) ++ [(3109, 14, 28)]) ++ [(3110, 14, 28)]) ++ [(3111, 14, 12)]) ++ [(3112, 14, 12)]) ++ [(3113, 14, 12)]) ++ [(3114, 14, 8)]) → bH s dC dI A (n12l b 42 (((((((((js ++ [(3106, 14, 28)]) ++ [(3107, 14, 28)]) ++ [(3108, 14, 28)]) ++ [(3109, 14, 28)]) ++ [(3110, 14, 28)]) ++ [(3111, 14, 12)]) ++ [(3112, 14, 12)]) ++ [(3113, 14, 12)]) ++ [(3114, 14, 8)]) ad cy x) H locs → W p l e R s mid args below meth c H locs 20 1102 Qs (F0 mid 810 ls [])) : W p l e R s mid args below meth c H locs 11 918 Qs (F0 mid 738 ls []) := by
  refine lv_aload_n C.1 C.2.1 dX12_init_738 rfl (lv_at hl 0 rfl) ?_
  refine lv_bipush C.1 C.2.1 dX12_init_739 (v := 28) (by decide) ?_
  refine b_arrM (atype := .int) (N9 := 28) (a0 := (28, .inl (fun _ => 0))) (ty := .int) (kk := 14) (j := 33) (cells1 := 12) (slots1 := 946) C hH hJ hA b_aw.1 rfl aTy_i.1 (fun _ h => by cases h) (fun _ => rfl) (by decide) (by decide) (by decide) rfl rfl (Nat.le_trans (Nat.le_of_ble_eq_true rfl) hce) (Nat.le_trans (Nat.le_of_ble_eq_true rfl) hsl) dX12_init_741 dX12_init_743 (by decide) (aTb_tables_1_6 122 rfl rfl) (Or.inr ⟨rfl, hin, rfl⟩) (ty9 := tyX12 33) (by decide +kernel) (fun _ => rfl) (fun _ => rfl) (by decide +kernel) (by decide) (by decide +kernel) (by decide) (fun _ => n12z_i hZ (by decide) (by decide)) (fun ad H locs hA hJ hH => ?_)
  refine lv_aload_n C.1 C.2.1 dX12_init_746 rfl (lv_at hl 0 rfl) ?_
  refine lv_bipush C.1 C.2.1 dX12_init_747 (v := 28) (by decide) ?_
  refine b_arrM (atype := .int) (N9 := 28) (a0 := (28, .inl (fun _ => 0))) (ty := .int) (kk := 14) (j := 34) (cells1 := 13) (slots1 := 974) C hH hJ hA b_aw.1 rfl aTy_i.1 (fun _ h => by cases h) (fun _ => rfl) (by decide) (by decide) (by decide) rfl rfl (Nat.le_trans (Nat.le_of_ble_eq_true rfl) hce) (Nat.le_trans (Nat.le_of_ble_eq_true rfl) hsl) dX12_init_749 dX12_init_751 (by decide) (aTb_tables_1_6 123 rfl rfl) (Or.inr ⟨rfl, hin, rfl⟩) (ty9 := tyX12 34) (by decide +kernel) (fun _ => rfl) (fun _ => rfl) (by decide +kernel) (by decide) (by decide +kernel) (by decide) (fun _ => n12z_i hZ (by decide) (by decide)) (fun ad H locs hA hJ hH => ?_)
  refine lv_aload_n C.1 C.2.1 dX12_init_754 rfl (lv_at hl 0 rfl) ?_
  refine lv_bipush C.1 C.2.1 dX12_init_755 (v := 28) (by decide) ?_
  refine b_arrM (atype := .int) (N9 := 28) (a0 := (28, .inl (fun _ => 0))) (ty := .int) (kk := 14) (j := 35) (cells1 := 14) (slots1 := 1002) C hH hJ hA b_aw.1 rfl aTy_i.1 (fun _ h => by cases h) (fun _ => rfl) (by decide) (by decide) (by decide) rfl rfl (Nat.le_trans (Nat.le_of_ble_eq_true rfl) hce) (Nat.le_trans (Nat.le_of_ble_eq_true rfl) hsl) dX12_init_757 dX12_init_759 (by decide) (aTb_tables_1_6 124 rfl rfl) (Or.inr ⟨rfl, hin, rfl⟩) (ty9 := tyX12 35) (by decide +kernel) (fun _ => rfl) (fun _ => rfl) (by decide +kernel) (by decide) (by decide +kernel) (by decide) (fun _ => n12z_i hZ (by decide) (by decide)) (fun ad H locs hA hJ hH => ?_)
  refine lv_aload_n C.1 C.2.1 dX12_init_762 rfl (lv_at hl 0 rfl) ?_
  refine lv_bipush C.1 C.2.1 dX12_init_763 (v := 28) (by decide) ?_
  refine b_arrM (atype := .int) (N9 := 28) (a0 := (28, .inl (fun _ => 0))) (ty := .int) (kk := 14) (j := 36) (cells1 := 15) (slots1 := 1030) C hH hJ hA b_aw.1 rfl aTy_i.1 (fun _ h => by cases h) (fun _ => rfl) (by decide) (by decide) (by decide) rfl rfl (Nat.le_trans (Nat.le_of_ble_eq_true rfl) hce) (Nat.le_trans (Nat.le_of_ble_eq_true rfl) hsl) dX12_init_765 dX12_init_767 (by decide) (aTb_tables_1_6 125 rfl rfl) (Or.inr ⟨rfl, hin, rfl⟩) (ty9 := tyX12 36) (by decide +kernel) (fun _ => rfl) (fun _ => rfl) (by decide +kernel) (by decide) (by decide +kernel) (by decide) (fun _ => n12z_i hZ (by decide) (by decide)) (fun ad H locs hA hJ hH => ?_)
  refine lv_aload_n C.1 C.2.1 dX12_init_770 rfl (lv_at hl 0 rfl) ?_
  refine lv_bipush C.1 C.2.1 dX12_init_771 (v := 28) (by decide) ?_
  refine b_arrM (atype := .int) (N9 := 28) (a0 := (28, .inl (fun _ => 0))) (ty := .int) (kk := 14) (j := 37) (cells1 := 16) (slots1 := 1058) C hH hJ hA b_aw.1 rfl aTy_i.1 (fun _ h => by cases h) (fun _ => rfl) (by decide) (by decide) (by decide) rfl rfl (Nat.le_trans (Nat.le_of_ble_eq_true rfl) hce) (Nat.le_trans (Nat.le_of_ble_eq_true rfl) hsl) dX12_init_773 dX12_init_775 (by decide) (aTb_tables_1_6 126 rfl rfl) (Or.inr ⟨rfl, hin, rfl⟩) (ty9 := tyX12 37) (by decide +kernel) (fun _ => rfl) (fun _ => rfl) (by decide +kernel) (by decide) (by decide +kernel) (by decide) (fun _ => n12z_i hZ (by decide) (by decide)) (fun ad H locs hA hJ hH => ?_)
  refine lv_aload_n C.1 C.2.1 dX12_init_778 rfl (lv_at hl 0 rfl) ?_
  refine lv_bipush C.1 C.2.1 dX12_init_779 (v := 12) (by decide) ?_
  refine b_arrM (atype := .int) (N9 := 12) (a0 := (12, .inl (fun _ => 0))) (ty := .int) (kk := 14) (j := 38) (cells1 := 17) (slots1 := 1070) C hH hJ hA b_aw.1 rfl aTy_i.1 (fun _ h => by cases h) (fun _ => rfl) (by decide) (by decide) (by decide) rfl rfl (Nat.le_trans (Nat.le_of_ble_eq_true rfl) hce) (Nat.le_trans (Nat.le_of_ble_eq_true rfl) hsl) dX12_init_781 dX12_init_783 (by decide) (aTb_tables_1_6 127 rfl rfl) (Or.inr ⟨rfl, hin, rfl⟩) (ty9 := tyX12 38) (by decide +kernel) (fun _ => rfl) (fun _ => rfl) (by decide +kernel) (by decide) (by decide +kernel) (by decide) (fun _ => n12z_i hZ (by decide) (by decide)) (fun ad H locs hA hJ hH => ?_)
  refine lv_aload_n C.1 C.2.1 dX12_init_786 rfl (lv_at hl 0 rfl) ?_
  refine lv_bipush C.1 C.2.1 dX12_init_787 (v := 12) (by decide) ?_
  refine b_arrM (atype := .int) (N9 := 12) (a0 := (12, .inl (fun _ => 0))) (ty := .int) (kk := 14) (j := 39) (cells1 := 18) (slots1 := 1082) C hH hJ hA b_aw.1 rfl aTy_i.1 (fun _ h => by cases h) (fun _ => rfl) (by decide) (by decide) (by decide) rfl rfl (Nat.le_trans (Nat.le_of_ble_eq_true rfl) hce) (Nat.le_trans (Nat.le_of_ble_eq_true rfl) hsl) dX12_init_789 dX12_init_791 (by decide) (aTb_tables_1_6 128 rfl rfl) (Or.inr ⟨rfl, hin, rfl⟩) (ty9 := tyX12 39) (by decide +kernel) (fun _ => rfl) (fun _ => rfl) (by decide +kernel) (by decide) (by decide +kernel) (by decide) (fun _ => n12z_i hZ (by decide) (by decide)) (fun ad H locs hA hJ hH => ?_)
  refine lv_aload_n C.1 C.2.1 dX12_init_794 rfl (lv_at hl 0 rfl) ?_
  refine lv_bipush C.1 C.2.1 dX12_init_795 (v := 12) (by decide) ?_
  refine b_arrM (atype := .int) (N9 := 12) (a0 := (12, .inl (fun _ => 0))) (ty := .int) (kk := 14) (j := 40) (cells1 := 19) (slots1 := 1094) C hH hJ hA b_aw.1 rfl aTy_i.1 (fun _ h => by cases h) (fun _ => rfl) (by decide) (by decide) (by decide) rfl rfl (Nat.le_trans (Nat.le_of_ble_eq_true rfl) hce) (Nat.le_trans (Nat.le_of_ble_eq_true rfl) hsl) dX12_init_797 dX12_init_799 (by decide) (aTb_tables_1_6 129 rfl rfl) (Or.inr ⟨rfl, hin, rfl⟩) (ty9 := tyX12 40) (by decide +kernel) (fun _ => rfl) (fun _ => rfl) (by decide +kernel) (by decide) (by decide +kernel) (by decide) (fun _ => n12z_i hZ (by decide) (by decide)) (fun ad H locs hA hJ hH => ?_)
  refine lv_aload_n C.1 C.2.1 dX12_init_802 rfl (lv_at hl 0 rfl) ?_
  refine lv_bipush C.1 C.2.1 dX12_init_803 (v := 8) (by decide) ?_
  refine b_arrM (atype := .int) (N9 := 8) (a0 := (8, .inl (fun _ => 0))) (ty := .int) (kk := 14) (j := 41) (cells1 := 20) (slots1 := 1102) C hH hJ hA b_aw.1 rfl aTy_i.1 (fun _ h => by cases h) (fun _ => rfl) (by decide) (by decide) (by decide) rfl rfl (Nat.le_trans (Nat.le_of_ble_eq_true rfl) hce) (Nat.le_trans (Nat.le_of_ble_eq_true rfl) hsl) dX12_init_805 dX12_init_807 (by decide) (aTb_tables_1_6 130 rfl rfl) (Or.inr ⟨rfl, hin, rfl⟩) (ty9 := tyX12 41) (by decide +kernel) (fun _ => rfl) (fun _ => rfl) (by decide +kernel) (by decide) (by decide +kernel) (by decide) (fun _ => n12z_i hZ (by decide) (by decide)) (fun ad H locs hA hJ hH => ?_)
  exact K ad H locs hA hJ hH
set_option maxHeartbeats 8000000 in
set_option maxRecDepth 100000 in
theorem m12_d {b : Nat} {ls : Array Slot} {H : Heap} {locs : List Loc} {ad0 ad : Nat → Nat} {js : List aN} {x : aS} (C : bC mX12_init p s mid args c dC dI cy A) (hin : meth.name = "<init>") (hl : lv_has ls 1 [(0, .ref b)]) (hce : 50 ≤ R.cells) (hsl : 9396 ≤ R.slots) (hA : n12A ad0 ad) (hJ : n12J 42 js) (hZ : n12Z x) (hH : bH s dC dI A (n12l b 42 js ad cy x) H locs)
    (K : ∀ (ad : Nat → Nat) (H : Heap) (locs : List Loc), n12A ad0 ad → n12J 49 (((((((js ++ [(3115, 16, 6)]) ++ [(3116, 14, 6)]) ++ [(3117, 14, 6)]) ++ [(3118, 14, 128)]) ++ [(3119, 14, 128)]) ++ [(3120, 14, 128)]) ++ [(3121, 14, 96)]) → bH s dC dI A (n12l b 49 (((((((js ++ [(3115, 16, 6)]) ++ [(3116, 14, 6)]) ++ [(3117, 14, 6)]) ++ [(3118, 14, 128)]) ++ [(3119, 14, 128)]) ++ [(3120, 14, 128)]) ++ [(3121, 14, 96)]) ad cy x) H locs → W p l e R s mid args below meth c H locs 27 1600 Qs (F0 mid 869 ls [])) : W p l e R s mid args below meth c H locs 20 1102 Qs (F0 mid 810 ls []) := by
  refine lv_aload_n C.1 C.2.1 dX12_init_810 rfl (lv_at hl 0 rfl) ?_
  refine lv_bipush C.1 C.2.1 dX12_init_811 (v := 6) (by decide) ?_
  refine b_arrM (atype := .boolean) (N9 := 6) (a0 := (6, .inl (fun _ => 0))) (ty := .boolean) (kk := 16) (j := 42) (cells1 := 21) (slots1 := 1108) C hH hJ hA b_aw.2.2.1 rfl aTy_i.2.2.1 (fun _ h => by cases h) (fun _ => rfl) (by decide) (by decide) (by decide) rfl rfl (Nat.le_trans (Nat.le_of_ble_eq_true rfl) hce) (Nat.le_trans (Nat.le_of_ble_eq_true rfl) hsl) dX12_init_813 dX12_init_815 (by decide) (aTb_tables_1_6 131 rfl rfl) (Or.inr ⟨rfl, hin, rfl⟩) (ty9 := tyX12 42) (by decide +kernel) (fun _ => rfl) (fun _ => rfl) (by decide +kernel) (by decide) (by decide +kernel) (by decide) (fun _ => n12z_i hZ (by decide) (by decide)) (fun ad H locs hA hJ hH => ?_)
  refine lv_aload_n C.1 C.2.1 dX12_init_818 rfl (lv_at hl 0 rfl) ?_
  refine lv_bipush C.1 C.2.1 dX12_init_819 (v := 6) (by decide) ?_
  refine b_arrM (atype := .int) (N9 := 6) (a0 := (6, .inl (fun _ => 0))) (ty := .int) (kk := 14) (j := 43) (cells1 := 22) (slots1 := 1114) C hH hJ hA b_aw.1 rfl aTy_i.1 (fun _ h => by cases h) (fun _ => rfl) (by decide) (by decide) (by decide) rfl rfl (Nat.le_trans (Nat.le_of_ble_eq_true rfl) hce) (Nat.le_trans (Nat.le_of_ble_eq_true rfl) hsl) dX12_init_821 dX12_init_823 (by decide) (aTb_tables_1_6 132 rfl rfl) (Or.inr ⟨rfl, hin, rfl⟩) (ty9 := tyX12 43) (by decide +kernel) (fun _ => rfl) (fun _ => rfl) (by decide +kernel) (by decide) (by decide +kernel) (by decide) (fun _ => n12z_i hZ (by decide) (by decide)) (fun ad H locs hA hJ hH => ?_)
  refine lv_aload_n C.1 C.2.1 dX12_init_826 rfl (lv_at hl 0 rfl) ?_
  refine lv_bipush C.1 C.2.1 dX12_init_827 (v := 6) (by decide) ?_
  refine b_arrM (atype := .int) (N9 := 6) (a0 := (6, .inl (fun _ => 0))) (ty := .int) (kk := 14) (j := 44) (cells1 := 23) (slots1 := 1120) C hH hJ hA b_aw.1 rfl aTy_i.1 (fun _ h => by cases h) (fun _ => rfl) (by decide) (by decide) (by decide) rfl rfl (Nat.le_trans (Nat.le_of_ble_eq_true rfl) hce) (Nat.le_trans (Nat.le_of_ble_eq_true rfl) hsl) dX12_init_829 dX12_init_831 (by decide) (aTb_tables_1_6 133 rfl rfl) (Or.inr ⟨rfl, hin, rfl⟩) (ty9 := tyX12 44) (by decide +kernel) (fun _ => rfl) (fun _ => rfl) (by decide +kernel) (by decide) (by decide +kernel) (by decide) (fun _ => n12z_i hZ (by decide) (by decide)) (fun ad H locs hA hJ hH => ?_)
  refine lv_aload_n C.1 C.2.1 dX12_init_834 rfl (lv_at hl 0 rfl) ?_
  refine lv_sipush C.1 C.2.1 dX12_init_835 (v := 128) (by decide) ?_
  refine b_arrM (atype := .int) (N9 := 128) (a0 := (128, .inl (fun _ => 0))) (ty := .int) (kk := 14) (j := 45) (cells1 := 24) (slots1 := 1248) C hH hJ hA b_aw.1 rfl aTy_i.1 (fun _ h => by cases h) (fun _ => rfl) (by decide) (by decide) (by decide) rfl rfl (Nat.le_trans (Nat.le_of_ble_eq_true rfl) hce) (Nat.le_trans (Nat.le_of_ble_eq_true rfl) hsl) dX12_init_838 dX12_init_840 (by decide) (aTb_tables_1_6 134 rfl rfl) (Or.inr ⟨rfl, hin, rfl⟩) (ty9 := tyX12 45) (by decide +kernel) (fun _ => rfl) (fun _ => rfl) (by decide +kernel) (by decide) (by decide +kernel) (by decide) (fun _ => n12z_i hZ (by decide) (by decide)) (fun ad H locs hA hJ hH => ?_)
  refine lv_aload_n C.1 C.2.1 dX12_init_843 rfl (lv_at hl 0 rfl) ?_
  refine lv_sipush C.1 C.2.1 dX12_init_844 (v := 128) (by decide) ?_
  refine b_arrM (atype := .int) (N9 := 128) (a0 := (128, .inl (fun _ => 0))) (ty := .int) (kk := 14) (j := 46) (cells1 := 25) (slots1 := 1376) C hH hJ hA b_aw.1 rfl aTy_i.1 (fun _ h => by cases h) (fun _ => rfl) (by decide) (by decide) (by decide) rfl rfl (Nat.le_trans (Nat.le_of_ble_eq_true rfl) hce) (Nat.le_trans (Nat.le_of_ble_eq_true rfl) hsl) dX12_init_847 dX12_init_849 (by decide) (aTb_tables_1_6 135 rfl rfl) (Or.inr ⟨rfl, hin, rfl⟩) (ty9 := tyX12 46) (by decide +kernel) (fun _ => rfl) (fun _ => rfl) (by decide +kernel) (by decide) (by decide +kernel) (by decide) (fun _ => n12z_i hZ (by decide) (by decide)) (fun ad H locs hA hJ hH => ?_)
  refine lv_aload_n C.1 C.2.1 dX12_init_852 rfl (lv_at hl 0 rfl) ?_
  refine lv_sipush C.1 C.2.1 dX12_init_853 (v := 128) (by decide) ?_
  refine b_arrM (atype := .int) (N9 := 128) (a0 := (128, .inl (fun _ => 0))) (ty := .int) (kk := 14) (j := 47) (cells1 := 26) (slots1 := 1504) C hH hJ hA b_aw.1 rfl aTy_i.1 (fun _ h => by cases h) (fun _ => rfl) (by decide) (by decide) (by decide) rfl rfl (Nat.le_trans (Nat.le_of_ble_eq_true rfl) hce) (Nat.le_trans (Nat.le_of_ble_eq_true rfl) hsl) dX12_init_856 dX12_init_858 (by decide) (aTb_tables_1_6 136 rfl rfl) (Or.inr ⟨rfl, hin, rfl⟩) (ty9 := tyX12 47) (by decide +kernel) (fun _ => rfl) (fun _ => rfl) (by decide +kernel) (by decide) (by decide +kernel) (by decide) (fun _ => n12z_i hZ (by decide) (by decide)) (fun ad H locs hA hJ hH => ?_)
  refine lv_aload_n C.1 C.2.1 dX12_init_861 rfl (lv_at hl 0 rfl) ?_
  refine lv_bipush C.1 C.2.1 dX12_init_862 (v := 96) (by decide) ?_
  refine b_arrM (atype := .int) (N9 := 96) (a0 := (96, .inl (fun _ => 0))) (ty := .int) (kk := 14) (j := 48) (cells1 := 27) (slots1 := 1600) C hH hJ hA b_aw.1 rfl aTy_i.1 (fun _ h => by cases h) (fun _ => rfl) (by decide) (by decide) (by decide) rfl rfl (Nat.le_trans (Nat.le_of_ble_eq_true rfl) hce) (Nat.le_trans (Nat.le_of_ble_eq_true rfl) hsl) dX12_init_864 dX12_init_866 (by decide) (aTb_tables_1_6 137 rfl rfl) (Or.inr ⟨rfl, hin, rfl⟩) (ty9 := tyX12 48) (by decide +kernel) (fun _ => rfl) (fun _ => rfl) (by decide +kernel) (by decide) (by decide +kernel) (by decide) (fun _ => n12z_i hZ (by decide) (by decide)) (fun ad H locs hA hJ hH => ?_)
  exact K ad H locs hA hJ hH
set_option maxHeartbeats 8000000 in
set_option maxRecDepth 100000 in
theorem m12_e {b : Nat} {ls : Array Slot} {H : Heap} {locs : List Loc} {ad0 ad : Nat → Nat} {js : List aN} {x : aS} (C : bC mX12_init p s mid args c dC dI cy A) (hin : meth.name = "<init>") (hl : lv_has ls 1 [(0, .ref b)]) (hce : 50 ≤ R.cells) (hsl : 9396 ≤ R.slots) (hA : n12A ad0 ad) (hJ : n12J 49 js) (hZ : n12Z x) (hH : bH s dC dI A (n12l b 49 js ad cy x) H locs)
    (K : ∀ (ad : Nat → Nat) (H : Heap) (locs : List Loc), n12A ad0 ad → n12J 63 (((((((js ++ [(3122, 14, 96)]) ++ [(3129, 15, 7)]) ++ [(3130, 15, 64)]) ++ [(3132, 14, 96)]) ++ [(3133, 14, 144)]) ++ [(3134, 14, 144)]) ++ [(3135, 14, 12)]) → bH s dC dI A (n12l b 63 (((((((js ++ [(3122, 14, 96)]) ++ [(3129, 15, 7)]) ++ [(3130, 15, 64)]) ++ [(3132, 14, 96)]) ++ [(3133, 14, 144)]) ++ [(3134, 14, 144)]) ++ [(3135, 14, 12)]) ad cy x) H locs → W p l e R s mid args below meth c H locs 34 2163 Qs (F0 mid 927 ls [])) : W p l e R s mid args below meth c H locs 27 1600 Qs (F0 mid 869 ls []) := by
  refine lv_aload_n C.1 C.2.1 dX12_init_869 rfl (lv_at hl 0 rfl) ?_
  refine lv_bipush C.1 C.2.1 dX12_init_870 (v := 96) (by decide) ?_
  refine b_arrM (atype := .int) (N9 := 96) (a0 := (96, .inl (fun _ => 0))) (ty := .int) (kk := 14) (j := 49) (cells1 := 28) (slots1 := 1696) C hH hJ hA b_aw.1 rfl aTy_i.1 (fun _ h => by cases h) (fun _ => rfl) (by decide) (by decide) (by decide) rfl rfl (Nat.le_trans (Nat.le_of_ble_eq_true rfl) hce) (Nat.le_trans (Nat.le_of_ble_eq_true rfl) hsl) dX12_init_872 dX12_init_874 (by decide) (aTb_tables_1_6 138 rfl rfl) (Or.inr ⟨rfl, hin, rfl⟩) (ty9 := tyX12 49) (by decide +kernel) (fun _ => rfl) (fun _ => rfl) (by decide +kernel) (by decide) (by decide +kernel) (by decide) (fun _ => n12z_i hZ (by decide) (by decide)) (fun ad H locs hA hJ hH => ?_)
  refine lv_aload_n C.1 C.2.1 dX12_init_877 rfl (lv_at hl 0 rfl) ?_
  refine lv_bipush C.1 C.2.1 dX12_init_878 (v := 7) (by decide) ?_
  refine b_arrM (atype := .long) (N9 := 7) (a0 := (7, .inr (.inl (fun _ => 0)))) (ty := .long) (kk := 15) (j := 56) (cells1 := 29) (slots1 := 1703) C hH hJ hA b_aw.2.1 rfl aTy_i.2.1 (fun _ h => by cases h) (fun _ => rfl) (by decide) (by decide) (by decide) rfl rfl (Nat.le_trans (Nat.le_of_ble_eq_true rfl) hce) (Nat.le_trans (Nat.le_of_ble_eq_true rfl) hsl) dX12_init_880 dX12_init_882 (by decide) (aTb_tables_1_6 145 rfl rfl) (Or.inr ⟨rfl, hin, rfl⟩) (ty9 := tyX12 56) (by decide +kernel) (fun _ => rfl) (fun _ => rfl) (by decide +kernel) (by decide) (by decide +kernel) (by decide) (fun _ => n12z_j hZ (by decide)) (fun ad H locs hA hJ hH => ?_)
  refine lv_aload_n C.1 C.2.1 dX12_init_885 rfl (lv_at hl 0 rfl) ?_
  refine lv_bipush C.1 C.2.1 dX12_init_886 (v := 64) (by decide) ?_
  refine b_arrM (atype := .long) (N9 := 64) (a0 := (64, .inr (.inl (fun _ => 0)))) (ty := .long) (kk := 15) (j := 57) (cells1 := 30) (slots1 := 1767) C hH hJ hA b_aw.2.1 rfl aTy_i.2.1 (fun _ h => by cases h) (fun _ => rfl) (by decide) (by decide) (by decide) rfl rfl (Nat.le_trans (Nat.le_of_ble_eq_true rfl) hce) (Nat.le_trans (Nat.le_of_ble_eq_true rfl) hsl) dX12_init_888 dX12_init_890 (by decide) (aTb_tables_1_6 146 rfl rfl) (Or.inr ⟨rfl, hin, rfl⟩) (ty9 := tyX12 57) (by decide +kernel) (fun _ => rfl) (fun _ => rfl) (by decide +kernel) (by decide) (by decide +kernel) (by decide) (fun _ => n12z_j hZ (by decide)) (fun ad H locs hA hJ hH => ?_)
  refine lv_aload_n C.1 C.2.1 dX12_init_893 rfl (lv_at hl 0 rfl) ?_
  refine lv_bipush C.1 C.2.1 dX12_init_894 (v := 96) (by decide) ?_
  refine b_arrM (atype := .int) (N9 := 96) (a0 := (96, .inl (fun _ => 0))) (ty := .int) (kk := 14) (j := 59) (cells1 := 31) (slots1 := 1863) C hH hJ hA b_aw.1 rfl aTy_i.1 (fun _ h => by cases h) (fun _ => rfl) (by decide) (by decide) (by decide) rfl rfl (Nat.le_trans (Nat.le_of_ble_eq_true rfl) hce) (Nat.le_trans (Nat.le_of_ble_eq_true rfl) hsl) dX12_init_896 dX12_init_898 (by decide) (aTb_tables_1_6 148 rfl rfl) (Or.inr ⟨rfl, hin, rfl⟩) (ty9 := tyX12 59) (by decide +kernel) (fun _ => rfl) (fun _ => rfl) (by decide +kernel) (by decide) (by decide +kernel) (by decide) (fun _ => n12z_i hZ (by decide) (by decide)) (fun ad H locs hA hJ hH => ?_)
  refine lv_aload_n C.1 C.2.1 dX12_init_901 rfl (lv_at hl 0 rfl) ?_
  refine lv_sipush C.1 C.2.1 dX12_init_902 (v := 144) (by decide) ?_
  refine b_arrM (atype := .int) (N9 := 144) (a0 := (144, .inl (fun _ => 0))) (ty := .int) (kk := 14) (j := 60) (cells1 := 32) (slots1 := 2007) C hH hJ hA b_aw.1 rfl aTy_i.1 (fun _ h => by cases h) (fun _ => rfl) (by decide) (by decide) (by decide) rfl rfl (Nat.le_trans (Nat.le_of_ble_eq_true rfl) hce) (Nat.le_trans (Nat.le_of_ble_eq_true rfl) hsl) dX12_init_905 dX12_init_907 (by decide) (aTb_tables_1_6 149 rfl rfl) (Or.inr ⟨rfl, hin, rfl⟩) (ty9 := tyX12 60) (by decide +kernel) (fun _ => rfl) (fun _ => rfl) (by decide +kernel) (by decide) (by decide +kernel) (by decide) (fun _ => n12z_i hZ (by decide) (by decide)) (fun ad H locs hA hJ hH => ?_)
  refine lv_aload_n C.1 C.2.1 dX12_init_910 rfl (lv_at hl 0 rfl) ?_
  refine lv_sipush C.1 C.2.1 dX12_init_911 (v := 144) (by decide) ?_
  refine b_arrM (atype := .int) (N9 := 144) (a0 := (144, .inl (fun _ => 0))) (ty := .int) (kk := 14) (j := 61) (cells1 := 33) (slots1 := 2151) C hH hJ hA b_aw.1 rfl aTy_i.1 (fun _ h => by cases h) (fun _ => rfl) (by decide) (by decide) (by decide) rfl rfl (Nat.le_trans (Nat.le_of_ble_eq_true rfl) hce) (Nat.le_trans (Nat.le_of_ble_eq_true rfl) hsl) dX12_init_914 dX12_init_916 (by decide) (aTb_tables_1_6 150 rfl rfl) (Or.inr ⟨rfl, hin, rfl⟩) (ty9 := tyX12 61) (by decide +kernel) (fun _ => rfl) (fun _ => rfl) (by decide +kernel) (by decide) (by decide +kernel) (by decide) (fun _ => n12z_i hZ (by decide) (by decide)) (fun ad H locs hA hJ hH => ?_)
  refine lv_aload_n C.1 C.2.1 dX12_init_919 rfl (lv_at hl 0 rfl) ?_
  refine lv_bipush C.1 C.2.1 dX12_init_920 (v := 12) (by decide) ?_
  refine b_arrM (atype := .int) (N9 := 12) (a0 := (12, .inl (fun _ => 0))) (ty := .int) (kk := 14) (j := 62) (cells1 := 34) (slots1 := 2163) C hH hJ hA b_aw.1 rfl aTy_i.1 (fun _ h => by cases h) (fun _ => rfl) (by decide) (by decide) (by decide) rfl rfl (Nat.le_trans (Nat.le_of_ble_eq_true rfl) hce) (Nat.le_trans (Nat.le_of_ble_eq_true rfl) hsl) dX12_init_922 dX12_init_924 (by decide) (aTb_tables_1_6 151 rfl rfl) (Or.inr ⟨rfl, hin, rfl⟩) (ty9 := tyX12 62) (by decide +kernel) (fun _ => rfl) (fun _ => rfl) (by decide +kernel) (by decide) (by decide +kernel) (by decide) (fun _ => n12z_i hZ (by decide) (by decide)) (fun ad H locs hA hJ hH => ?_)
  exact K ad H locs hA hJ hH
set_option maxHeartbeats 8000000 in
set_option maxRecDepth 100000 in
theorem m12_f {b : Nat} {ls : Array Slot} {H : Heap} {locs : List Loc} {ad0 ad : Nat → Nat} {js : List aN} {x : aS} (C : bC mX12_init p s mid args c dC dI cy A) (hin : meth.name = "<init>") (hl : lv_has ls 1 [(0, .ref b)]) (hce : 50 ≤ R.cells) (hsl : 9396 ≤ R.slots) (hA : n12A ad0 ad) (hJ : n12J 63 js) (hZ : n12Z x) (hH : bH s dC dI A (n12l b 63 js ad cy x) H locs)
    (K : ∀ (ad : Nat → Nat) (H : Heap) (locs : List Loc), n12A ad0 ad → n12J 69 ((((((js ++ [(3136, 14, 16)]) ++ [(3137, 14, 16)]) ++ [(3138, 14, 16)]) ++ [(3139, 16, 16)]) ++ [(3140, 14, 2)]) ++ [(3141, 14, 2)]) → bH s dC dI A (n12l b 69 ((((((js ++ [(3136, 14, 16)]) ++ [(3137, 14, 16)]) ++ [(3138, 14, 16)]) ++ [(3139, 16, 16)]) ++ [(3140, 14, 2)]) ++ [(3141, 14, 2)]) ad cy x) H locs → W p l e R s mid args below meth c H locs 40 2231 Qs (F0 mid 973 ls [])) : W p l e R s mid args below meth c H locs 34 2163 Qs (F0 mid 927 ls []) := by
  refine lv_aload_n C.1 C.2.1 dX12_init_927 rfl (lv_at hl 0 rfl) ?_
  refine lv_bipush C.1 C.2.1 dX12_init_928 (v := 16) (by decide) ?_
  refine b_arrM (atype := .int) (N9 := 16) (a0 := (16, .inl (fun _ => 0))) (ty := .int) (kk := 14) (j := 63) (cells1 := 35) (slots1 := 2179) C hH hJ hA b_aw.1 rfl aTy_i.1 (fun _ h => by cases h) (fun _ => rfl) (by decide) (by decide) (by decide) rfl rfl (Nat.le_trans (Nat.le_of_ble_eq_true rfl) hce) (Nat.le_trans (Nat.le_of_ble_eq_true rfl) hsl) dX12_init_930 dX12_init_932 (by decide) (aTb_tables_1_6 152 rfl rfl) (Or.inr ⟨rfl, hin, rfl⟩) (ty9 := tyX12 63) (by decide +kernel) (fun _ => rfl) (fun _ => rfl) (by decide +kernel) (by decide) (by decide +kernel) (by decide) (fun _ => n12z_i hZ (by decide) (by decide)) (fun ad H locs hA hJ hH => ?_)
  refine lv_aload_n C.1 C.2.1 dX12_init_935 rfl (lv_at hl 0 rfl) ?_
  refine lv_bipush C.1 C.2.1 dX12_init_936 (v := 16) (by decide) ?_
  refine b_arrM (atype := .int) (N9 := 16) (a0 := (16, .inl (fun _ => 0))) (ty := .int) (kk := 14) (j := 64) (cells1 := 36) (slots1 := 2195) C hH hJ hA b_aw.1 rfl aTy_i.1 (fun _ h => by cases h) (fun _ => rfl) (by decide) (by decide) (by decide) rfl rfl (Nat.le_trans (Nat.le_of_ble_eq_true rfl) hce) (Nat.le_trans (Nat.le_of_ble_eq_true rfl) hsl) dX12_init_938 dX12_init_940 (by decide) (aTb_tables_1_6 153 rfl rfl) (Or.inr ⟨rfl, hin, rfl⟩) (ty9 := tyX12 64) (by decide +kernel) (fun _ => rfl) (fun _ => rfl) (by decide +kernel) (by decide) (by decide +kernel) (by decide) (fun _ => n12z_i hZ (by decide) (by decide)) (fun ad H locs hA hJ hH => ?_)
  refine lv_aload_n C.1 C.2.1 dX12_init_943 rfl (lv_at hl 0 rfl) ?_
  refine lv_bipush C.1 C.2.1 dX12_init_944 (v := 16) (by decide) ?_
  refine b_arrM (atype := .int) (N9 := 16) (a0 := (16, .inl (fun _ => 0))) (ty := .int) (kk := 14) (j := 65) (cells1 := 37) (slots1 := 2211) C hH hJ hA b_aw.1 rfl aTy_i.1 (fun _ h => by cases h) (fun _ => rfl) (by decide) (by decide) (by decide) rfl rfl (Nat.le_trans (Nat.le_of_ble_eq_true rfl) hce) (Nat.le_trans (Nat.le_of_ble_eq_true rfl) hsl) dX12_init_946 dX12_init_948 (by decide) (aTb_tables_1_6 154 rfl rfl) (Or.inr ⟨rfl, hin, rfl⟩) (ty9 := tyX12 65) (by decide +kernel) (fun _ => rfl) (fun _ => rfl) (by decide +kernel) (by decide) (by decide +kernel) (by decide) (fun _ => n12z_i hZ (by decide) (by decide)) (fun ad H locs hA hJ hH => ?_)
  refine lv_aload_n C.1 C.2.1 dX12_init_951 rfl (lv_at hl 0 rfl) ?_
  refine lv_bipush C.1 C.2.1 dX12_init_952 (v := 16) (by decide) ?_
  refine b_arrM (atype := .boolean) (N9 := 16) (a0 := (16, .inl (fun _ => 0))) (ty := .boolean) (kk := 16) (j := 66) (cells1 := 38) (slots1 := 2227) C hH hJ hA b_aw.2.2.1 rfl aTy_i.2.2.1 (fun _ h => by cases h) (fun _ => rfl) (by decide) (by decide) (by decide) rfl rfl (Nat.le_trans (Nat.le_of_ble_eq_true rfl) hce) (Nat.le_trans (Nat.le_of_ble_eq_true rfl) hsl) dX12_init_954 dX12_init_956 (by decide) (aTb_tables_1_6 155 rfl rfl) (Or.inr ⟨rfl, hin, rfl⟩) (ty9 := tyX12 66) (by decide +kernel) (fun _ => rfl) (fun _ => rfl) (by decide +kernel) (by decide) (by decide +kernel) (by decide) (fun _ => n12z_i hZ (by decide) (by decide)) (fun ad H locs hA hJ hH => ?_)
  refine lv_aload_n C.1 C.2.1 dX12_init_959 rfl (lv_at hl 0 rfl) ?_
  refine lv_iconst C.1 C.2.1 dX12_init_960 (v := 2) (by decide) ?_
  refine b_arrM (atype := .int) (N9 := 2) (a0 := (2, .inl (fun _ => 0))) (ty := .int) (kk := 14) (j := 67) (cells1 := 39) (slots1 := 2229) C hH hJ hA b_aw.1 rfl aTy_i.1 (fun _ h => by cases h) (fun _ => rfl) (by decide) (by decide) (by decide) rfl rfl (Nat.le_trans (Nat.le_of_ble_eq_true rfl) hce) (Nat.le_trans (Nat.le_of_ble_eq_true rfl) hsl) dX12_init_961 dX12_init_963 (by decide) (aTb_tables_1_6 156 rfl rfl) (Or.inr ⟨rfl, hin, rfl⟩) (ty9 := tyX12 67) (by decide +kernel) (fun _ => rfl) (fun _ => rfl) (by decide +kernel) (by decide) (by decide +kernel) (by decide) (fun _ => n12z_i hZ (by decide) (by decide)) (fun ad H locs hA hJ hH => ?_)
  refine lv_aload_n C.1 C.2.1 dX12_init_966 rfl (lv_at hl 0 rfl) ?_
  refine lv_iconst C.1 C.2.1 dX12_init_967 (v := 2) (by decide) ?_
  refine b_arrM (atype := .int) (N9 := 2) (a0 := (2, .inl (fun _ => 0))) (ty := .int) (kk := 14) (j := 68) (cells1 := 40) (slots1 := 2231) C hH hJ hA b_aw.1 rfl aTy_i.1 (fun _ h => by cases h) (fun _ => rfl) (by decide) (by decide) (by decide) rfl rfl (Nat.le_trans (Nat.le_of_ble_eq_true rfl) hce) (Nat.le_trans (Nat.le_of_ble_eq_true rfl) hsl) dX12_init_968 dX12_init_970 (by decide) (aTb_tables_1_6 157 rfl rfl) (Or.inr ⟨rfl, hin, rfl⟩) (ty9 := tyX12 68) (by decide +kernel) (fun _ => rfl) (fun _ => rfl) (by decide +kernel) (by decide) (by decide +kernel) (by decide) (fun _ => n12z_i hZ (by decide) (by decide)) (fun ad H locs hA hJ hH => ?_)
  exact K ad H locs hA hJ hH
set_option maxHeartbeats 8000000 in
set_option maxRecDepth 100000 in
theorem m12_g {b : Nat} {ls : Array Slot} {H : Heap} {locs : List Loc} {ad0 ad : Nat → Nat} {js : List aN} {x : aS} (C : bC mX12_init p s mid args c dC dI cy A) (hin : meth.name = "<init>") (hl : lv_has ls 1 [(0, .ref b)]) (hce : 50 ≤ R.cells) (hsl : 9396 ≤ R.slots) (hA : n12A ad0 ad) (hJ : n12J 69 js) (hZ : n12Z x) (hH : bH s dC dI A (n12l b 69 js ad cy x) H locs)
    (K : ∀ (ad : Nat → Nat) (H : Heap) (locs : List Loc), n12A ad0 ad → n12J 81 ((((js ++ [(3148, 14, 1792)]) ++ [(3149, 14, 1792)]) ++ [(3150, 14, 48)]) ++ [(3153, 14, 96)]) → bH s dC dI A (n12l b 81 ((((js ++ [(3148, 14, 1792)]) ++ [(3149, 14, 1792)]) ++ [(3150, 14, 48)]) ++ [(3153, 14, 96)]) ad cy (aWr x 3072 79 (-1))) H locs → W p l e R s mid args below meth c H locs 44 5959 Qs (F0 mid 1012 ls [])) : W p l e R s mid args below meth c H locs 40 2231 Qs (F0 mid 973 ls []) := by
  refine lv_aload_n C.1 C.2.1 dX12_init_973 rfl (lv_at hl 0 rfl) ?_
  refine lv_sipush C.1 C.2.1 dX12_init_974 (v := 1792) (by decide) ?_
  refine b_arrM (atype := .int) (N9 := 1792) (a0 := (1792, .inl (fun _ => 0))) (ty := .int) (kk := 14) (j := 75) (cells1 := 41) (slots1 := 4023) C hH hJ hA b_aw.1 rfl aTy_i.1 (fun _ h => by cases h) (fun _ => rfl) (by decide) (by decide) (by decide) rfl rfl (Nat.le_trans (Nat.le_of_ble_eq_true rfl) hce) (Nat.le_trans (Nat.le_of_ble_eq_true rfl) hsl) dX12_init_977 dX12_init_979 (by decide) (aTb_tables_1_6 164 rfl rfl) (Or.inr ⟨rfl, hin, rfl⟩) (ty9 := tyX12 75) (by decide +kernel) (fun _ => rfl) (fun _ => rfl) (by decide +kernel) (by decide) (by decide +kernel) (by decide) (fun _ => n12z_i hZ (by decide) (by decide)) (fun ad H locs hA hJ hH => ?_)
  refine lv_aload_n C.1 C.2.1 dX12_init_982 rfl (lv_at hl 0 rfl) ?_
  refine lv_sipush C.1 C.2.1 dX12_init_983 (v := 1792) (by decide) ?_
  refine b_arrM (atype := .int) (N9 := 1792) (a0 := (1792, .inl (fun _ => 0))) (ty := .int) (kk := 14) (j := 76) (cells1 := 42) (slots1 := 5815) C hH hJ hA b_aw.1 rfl aTy_i.1 (fun _ h => by cases h) (fun _ => rfl) (by decide) (by decide) (by decide) rfl rfl (Nat.le_trans (Nat.le_of_ble_eq_true rfl) hce) (Nat.le_trans (Nat.le_of_ble_eq_true rfl) hsl) dX12_init_986 dX12_init_988 (by decide) (aTb_tables_1_6 165 rfl rfl) (Or.inr ⟨rfl, hin, rfl⟩) (ty9 := tyX12 76) (by decide +kernel) (fun _ => rfl) (fun _ => rfl) (by decide +kernel) (by decide) (by decide +kernel) (by decide) (fun _ => n12z_i hZ (by decide) (by decide)) (fun ad H locs hA hJ hH => ?_)
  refine lv_aload_n C.1 C.2.1 dX12_init_991 rfl (lv_at hl 0 rfl) ?_
  refine lv_bipush C.1 C.2.1 dX12_init_992 (v := 48) (by decide) ?_
  refine b_arrM (atype := .int) (N9 := 48) (a0 := (48, .inl (fun _ => 0))) (ty := .int) (kk := 14) (j := 77) (cells1 := 43) (slots1 := 5863) C hH hJ hA b_aw.1 rfl aTy_i.1 (fun _ h => by cases h) (fun _ => rfl) (by decide) (by decide) (by decide) rfl rfl (Nat.le_trans (Nat.le_of_ble_eq_true rfl) hce) (Nat.le_trans (Nat.le_of_ble_eq_true rfl) hsl) dX12_init_994 dX12_init_996 (by decide) (aTb_tables_1_6 166 rfl rfl) (Or.inr ⟨rfl, hin, rfl⟩) (ty9 := tyX12 77) (by decide +kernel) (fun _ => rfl) (fun _ => rfl) (by decide +kernel) (by decide) (by decide +kernel) (by decide) (fun _ => n12z_i hZ (by decide) (by decide)) (fun ad H locs hA hJ hH => ?_)
  refine lv_aload_n C.1 C.2.1 dX12_init_999 rfl (lv_at hl 0 rfl) ?_
  refine lv_iconst C.1 C.2.1 dX12_init_1000 (v := (-1)) (by decide) ?_
  refine b_put (m := mX12_init) (q0 := 0) (ci := 12) (j := 79) (fs := n12o _ _ _) C hH dX12_init_1001 rfl iwX12 (by decide) (aTb_tables_1_6 168 rfl rfl) tyX12 tyX12_ok nmX12 (Or.inl rfl) (ty := tyX12 79) (by decide +kernel) rfl rfl rfl n12o_len (fun H locs hH => ?_)
  replace hH := bH_eq hH (n12l_int (v := (-1)) (j := 79) hJ (by decide) (by decide +kernel))
  replace hZ : n12Z (aWr x 3072 79 (-1)) := n12Z_w hZ
  refine lv_aload_n C.1 C.2.1 dX12_init_1004 rfl (lv_at hl 0 rfl) ?_
  refine lv_bipush C.1 C.2.1 dX12_init_1005 (v := 96) (by decide) ?_
  refine b_arrM (atype := .int) (N9 := 96) (a0 := (96, .inl (fun _ => 0))) (ty := .int) (kk := 14) (j := 80) (cells1 := 44) (slots1 := 5959) C hH hJ hA b_aw.1 rfl aTy_i.1 (fun _ h => by cases h) (fun _ => rfl) (by decide) (by decide) (by decide) rfl rfl (Nat.le_trans (Nat.le_of_ble_eq_true rfl) hce) (Nat.le_trans (Nat.le_of_ble_eq_true rfl) hsl) dX12_init_1007 dX12_init_1009 (by decide) (aTb_tables_1_6 169 rfl rfl) (Or.inr ⟨rfl, hin, rfl⟩) (ty9 := tyX12 80) (by decide +kernel) (fun _ => rfl) (fun _ => rfl) (by decide +kernel) (by decide) (by decide +kernel) (by decide) (fun _ => n12z_i hZ (by decide) (by decide)) (fun ad H locs hA hJ hH => ?_)
  exact K ad H locs hA hJ hH
set_option maxHeartbeats 8000000 in
set_option maxRecDepth 100000 in
theorem m12_h {b : Nat} {ls : Array Slot} {H : Heap} {locs : List Loc} {ad0 ad : Nat → Nat} {js : List aN} {x : aS} (C : bC mX12_init p s mid args c dC dI cy A) (hin : meth.name = "<init>") (hl : lv_has ls 1 [(0, .ref b)]) (hce : 50 ≤ R.cells) (hsl : 9396 ≤ R.slots) (hA : n12A ad0 ad) (hJ : n12J 81 js) (hZ : n12Z x) (hH : bH s dC dI A (n12l b 81 js ad cy x) H locs)
    (K : ∀ (ad : Nat → Nat) (H : Heap) (locs : List Loc), n12A ad0 ad → n12J 89 ((((((js ++ [(3154, 16, 24)]) ++ [(3155, 14, 21)]) ++ [(3157, 14, 3160)]) ++ [(3159, 14, 158)]) ++ [(3160, 14, 66)]) ++ [(3161, 16, 8)]) → bH s dC dI A (n12l b 89 ((((((js ++ [(3154, 16, 24)]) ++ [(3155, 14, 21)]) ++ [(3157, 14, 3160)]) ++ [(3159, 14, 158)]) ++ [(3160, 14, 66)]) ++ [(3161, 16, 8)]) ad cy x) H locs → W p l e R s mid args below meth c H locs 50 9396 Qs (F0 mid 1062 ls [])) : W p l e R s mid args below meth c H locs 44 5959 Qs (F0 mid 1012 ls []) := by
  refine lv_aload_n C.1 C.2.1 dX12_init_1012 rfl (lv_at hl 0 rfl) ?_
  refine lv_bipush C.1 C.2.1 dX12_init_1013 (v := 24) (by decide) ?_
  refine b_arrM (atype := .boolean) (N9 := 24) (a0 := (24, .inl (fun _ => 0))) (ty := .boolean) (kk := 16) (j := 81) (cells1 := 45) (slots1 := 5983) C hH hJ hA b_aw.2.2.1 rfl aTy_i.2.2.1 (fun _ h => by cases h) (fun _ => rfl) (by decide) (by decide) (by decide) rfl rfl (Nat.le_trans (Nat.le_of_ble_eq_true rfl) hce) (Nat.le_trans (Nat.le_of_ble_eq_true rfl) hsl) dX12_init_1015 dX12_init_1017 (by decide) (aTb_tables_1_6 170 rfl rfl) (Or.inr ⟨rfl, hin, rfl⟩) (ty9 := tyX12 81) (by decide +kernel) (fun _ => rfl) (fun _ => rfl) (by decide +kernel) (by decide) (by decide +kernel) (by decide) (fun _ => n12z_i hZ (by decide) (by decide)) (fun ad H locs hA hJ hH => ?_)
  refine lv_aload_n C.1 C.2.1 dX12_init_1020 rfl (lv_at hl 0 rfl) ?_
  refine lv_bipush C.1 C.2.1 dX12_init_1021 (v := 21) (by decide) ?_
  refine b_arrM (atype := .int) (N9 := 21) (a0 := (21, .inl (fun _ => 0))) (ty := .int) (kk := 14) (j := 82) (cells1 := 46) (slots1 := 6004) C hH hJ hA b_aw.1 rfl aTy_i.1 (fun _ h => by cases h) (fun _ => rfl) (by decide) (by decide) (by decide) rfl rfl (Nat.le_trans (Nat.le_of_ble_eq_true rfl) hce) (Nat.le_trans (Nat.le_of_ble_eq_true rfl) hsl) dX12_init_1023 dX12_init_1025 (by decide) (aTb_tables_1_6 171 rfl rfl) (Or.inr ⟨rfl, hin, rfl⟩) (ty9 := tyX12 82) (by decide +kernel) (fun _ => rfl) (fun _ => rfl) (by decide +kernel) (by decide) (by decide +kernel) (by decide) (fun _ => n12z_i hZ (by decide) (by decide)) (fun ad H locs hA hJ hH => ?_)
  refine lv_aload_n C.1 C.2.1 dX12_init_1028 rfl (lv_at hl 0 rfl) ?_
  refine lv_sipush C.1 C.2.1 dX12_init_1029 (v := 3160) (by decide) ?_
  refine b_arrM (atype := .int) (N9 := 3160) (a0 := (3160, .inl (fun _ => 0))) (ty := .int) (kk := 14) (j := 84) (cells1 := 47) (slots1 := 9164) C hH hJ hA b_aw.1 rfl aTy_i.1 (fun _ h => by cases h) (fun _ => rfl) (by decide) (by decide) (by decide) rfl rfl (Nat.le_trans (Nat.le_of_ble_eq_true rfl) hce) (Nat.le_trans (Nat.le_of_ble_eq_true rfl) hsl) dX12_init_1032 dX12_init_1034 (by decide) (aTb_tables_1_6 173 rfl rfl) (Or.inr ⟨rfl, hin, rfl⟩) (ty9 := tyX12 84) (by decide +kernel) (fun _ => rfl) (fun _ => rfl) (by decide +kernel) (by decide) (by decide +kernel) (by decide) (fun _ => n12z_i hZ (by decide) (by decide)) (fun ad H locs hA hJ hH => ?_)
  refine lv_aload_n C.1 C.2.1 dX12_init_1037 rfl (lv_at hl 0 rfl) ?_
  refine lv_sipush C.1 C.2.1 dX12_init_1038 (v := 158) (by decide) ?_
  refine b_arrM (atype := .int) (N9 := 158) (a0 := (158, .inl (fun _ => 0))) (ty := .int) (kk := 14) (j := 86) (cells1 := 48) (slots1 := 9322) C hH hJ hA b_aw.1 rfl aTy_i.1 (fun _ h => by cases h) (fun _ => rfl) (by decide) (by decide) (by decide) rfl rfl (Nat.le_trans (Nat.le_of_ble_eq_true rfl) hce) (Nat.le_trans (Nat.le_of_ble_eq_true rfl) hsl) dX12_init_1041 dX12_init_1043 (by decide) (aTb_tables_1_6 175 rfl rfl) (Or.inr ⟨rfl, hin, rfl⟩) (ty9 := tyX12 86) (by decide +kernel) (fun _ => rfl) (fun _ => rfl) (by decide +kernel) (by decide) (by decide +kernel) (by decide) (fun _ => n12z_i hZ (by decide) (by decide)) (fun ad H locs hA hJ hH => ?_)
  refine lv_aload_n C.1 C.2.1 dX12_init_1046 rfl (lv_at hl 0 rfl) ?_
  refine lv_bipush C.1 C.2.1 dX12_init_1047 (v := 66) (by decide) ?_
  refine b_arrM (atype := .int) (N9 := 66) (a0 := (66, .inl (fun _ => 0))) (ty := .int) (kk := 14) (j := 87) (cells1 := 49) (slots1 := 9388) C hH hJ hA b_aw.1 rfl aTy_i.1 (fun _ h => by cases h) (fun _ => rfl) (by decide) (by decide) (by decide) rfl rfl (Nat.le_trans (Nat.le_of_ble_eq_true rfl) hce) (Nat.le_trans (Nat.le_of_ble_eq_true rfl) hsl) dX12_init_1049 dX12_init_1051 (by decide) (aTb_tables_1_6 176 rfl rfl) (Or.inr ⟨rfl, hin, rfl⟩) (ty9 := tyX12 87) (by decide +kernel) (fun _ => rfl) (fun _ => rfl) (by decide +kernel) (by decide) (by decide +kernel) (by decide) (fun _ => n12z_i hZ (by decide) (by decide)) (fun ad H locs hA hJ hH => ?_)
  refine lv_aload_n C.1 C.2.1 dX12_init_1054 rfl (lv_at hl 0 rfl) ?_
  refine lv_bipush C.1 C.2.1 dX12_init_1055 (v := 8) (by decide) ?_
  refine b_arrM (atype := .boolean) (N9 := 8) (a0 := (8, .inl (fun _ => 0))) (ty := .boolean) (kk := 16) (j := 88) (cells1 := 50) (slots1 := 9396) C hH hJ hA b_aw.2.2.1 rfl aTy_i.2.2.1 (fun _ h => by cases h) (fun _ => rfl) (by decide) (by decide) (by decide) rfl rfl (Nat.le_trans (Nat.le_of_ble_eq_true rfl) hce) (Nat.le_trans (Nat.le_of_ble_eq_true rfl) hsl) dX12_init_1057 dX12_init_1059 (by decide) (aTb_tables_1_6 177 rfl rfl) (Or.inr ⟨rfl, hin, rfl⟩) (ty9 := tyX12 88) (by decide +kernel) (fun _ => rfl) (fun _ => rfl) (by decide +kernel) (by decide) (by decide +kernel) (by decide) (fun _ => n12z_i hZ (by decide) (by decide)) (fun ad H locs hA hJ hH => ?_)
  exact K ad H locs hA hJ hH
end b12
