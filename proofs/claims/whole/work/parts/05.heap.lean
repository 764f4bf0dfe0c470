theorem aFs_at {ad : Nat → Nat} {x : aS} {n ci j : Nat} (hj : j < aNs ci) : ((aFs x n ci).map (aT ad))[j]? = some (aT ad (aF x n ci j)) := by
  unfold aFs
  rw [List.getElem?_map, List.getElem?_map, List.getElem?_range hj]
  rfl
theorem aFs_ext {ad : Nat → Nat} {x y : aS} {n ci j : Nat} {v : Value} (hj : j < aNs ci) (hv : aF y n ci j = v) (h1 : ∀ i, i ≠ j → y.1 n i = x.1 n i) (h2 : ∀ i, i ≠ j → y.2 n i = x.2 n i) :
    (aFs y n ci).map (aT ad) = ((aFs x n ci).map (aT ad)).set j (aT ad v) := by
  apply List.ext_getElem?
  intro i
  rw [List.getElem?_set]
  by_cases hi : j = i
  · subst hi
    rw [if_pos rfl, aFs_at hj, hv]
    have hl : j < ((aFs x n ci).map (aT ad)).length := by
      unfold aFs
      rw [List.length_map, List.length_map, List.length_range]
      exact hj
    rw [if_pos hl]
  · rw [if_neg hi]
    unfold aFs
    rw [List.getElem?_map, List.getElem?_map, List.getElem?_map, List.getElem?_map]
    cases hr : (List.range (aNs ci))[i]? with
    | none => simp only [Option.map_none]
    | some u =>
      have hu : u = i := by
        have := List.getElem?_eq_some_iff.mp hr
        obtain ⟨g, e⟩ := this
        rw [List.getElem_range] at e
        exact e.symm
      subst hu
      show some (aT ad (aF y n ci u)) = some (aT ad (aF x n ci u))
      have hne : u ≠ j := fun g => hi g.symm
      unfold aF
      rw [h1 u hne, h2 u hne]
theorem aE_obj {ad : Nat → Nat} {cy : Nat → ClassId} {x : aS} {n ci len : Nat} (h : ci < 13) : aE ad cy x (n, ci, len) = .inr (ci, (aFs x n ci).map (aT ad)) := by
  unfold aE
  rw [if_pos h]
theorem aE_ints {ad : Nat → Nat} {cy : Nat → ClassId} {x : aS} {n k len : Nat} (h : k = 13 ∨ k = 14 ∨ k = 16) : aE ad cy x (n, k, len) = .inl (cy k, len, .inl (x.1 n)) := by
  rcases h with rfl | rfl | rfl <;> rfl
theorem aE_longs {ad : Nat → Nat} {cy : Nat → ClassId} {x : aS} {n len : Nat} : aE ad cy x (n, 15, len) = .inl (cy 15, len, .inr (.inl (x.2 n))) := rfl
section aHeap
variable {l : Launch} {m : aM} {d : Nat} {D : Nat → Bool} {scr : Option aSc} {pc : Nat} {lv : List (Nat × Value)} {st : List Value} {x : aS} {Q : Option Value → aS → Prop}
theorem a_get {idx n ci j len N : Nat} (hd : decode m.2.1 pc = .ok (.getfield idx, 3)) {C0 : String} {T : u_T} (hc : vwCl[ci]? = some (C0, T, N)) (hin : ∀ w ∈ u_ws C0 T N, w ∈ aTb) (hN : aNs ci = N) (hj : j < N) (hci : ci < 13) (hw : Cond.fieldLink m.1.cls idx (T j).1 (T j).2.1 (T j).2.2.1 ∈ aTb) (hn : aIs D n ci len) (k : aV l m d D scr (pc + 3) lv (aF x n ci j :: st) x Q) : aV l m d D scr pc lv (.ref n :: st) x Q := by
  intro p e R s mid args below meth c cells slots Qs dC dI cy ad A C F H locs ls hH hl
  obtain ⟨q0, hq0⟩ := aIs_at hn
  have he : (aW D ad cy x)[q0]? = some (ad n, .inr (ci, (aFs x n ci).map (aT ad))) := by rw [aW_at hq0, aE_obj hci]
  exact va_get (D := (dC, dI)) C.1 C.2.1 C.2.2.2.2.1 hin C.2.2.2.1 C.2.2.2.2.2.1 hH.1 q0 he hc j hj (C.2.2.2.2.1 _ hw) (fun _ h => h) (aFs_at (by rw [hN]; exact hj)) hd (k p e R s mid args below meth c cells slots Qs dC dI cy ad A C F H locs ls hH hl)
theorem a_putG {idx n ci j len N : Nat} {v : Value} {y : aS} {ty : FieldType} (hd : decode m.2.1 pc = .ok (.putfield idx, 3)) {C0 : String} {T : u_T} (hc : vwCl[ci]? = some (C0, T, N)) (hin : ∀ w ∈ u_ws C0 T N, w ∈ aTb) (hN : aNs ci = N) (hj : j < N) (hci : ci < 13) (hw : Cond.fieldLink m.1.cls idx (T j).1 (T j).2.1 (T j).2.2.1 ∈ aTb) (ty0 : Nat → FieldType) (hty : ∀ k, k < N → parseFieldDescriptor (T k).2.2.1 = some (ty0 k)) (hnm : ∀ a, a < N → ∀ b, b < N → a ≠ b → (T a).2.1 ≠ (T b).2.1) (hfin : (T j).2.2.2 = false) (hp : parseFieldDescriptor (T j).2.2.1 = some ty) (hna : ∀ ad, narrow ty (aT ad v) = aT ad v) (hfi : ∀ ad, fits ty (aT ad v) = true) (hn : aIs D n ci len)
    (hv : aF y n ci j = v) (h1 : ∀ i, i ≠ j → y.1 n i = x.1 n i) (h2 : ∀ i, i ≠ j → y.2 n i = x.2 n i) (h3 : ∀ a, a ≠ n → y.1 a = x.1 a) (h4 : ∀ a, a ≠ n → y.2 a = x.2 a) (k : aV l m d D scr (pc + 3) lv st y Q) : aV l m d D scr pc lv (v :: .ref n :: st) x Q := by
  intro p e R s mid args below meth c cells slots Qs dC dI cy ad A C F H locs ls hH hl
  obtain ⟨q0, hq0⟩ := aIs_at hn
  have hj2 : j < aNs ci := by rw [hN]; exact hj
  have he : (aW D ad cy x)[q0]? = some (ad n, .inr (ci, (aFs x n ci).map (aT ad))) := by rw [aW_at hq0, aE_obj hci]
  have hset : (aW D ad cy x).set q0 (ad n, .inr (ci, ((aFs x n ci).map (aT ad)).set j (aT ad v))) = aW D ad cy y := aW_set hq0 (by rw [aE_obj hci, aFs_ext hj2 hv h1 h2]) h3 h4
  refine va_put (D := (dC, dI)) (ty := ty) C.1 C.2.1 C.2.2.2.2.1 hin ty0 hty hnm C.2.2.2.1 C.2.2.2.2.2.1 hH.1 hH.2.1 hH.2.2 q0 he hc j hj (C.2.2.2.2.1 _ hw) (fun _ h => h) hfin hp (hna ad) (hfi ad) (by rw [List.length_map]; unfold aFs; rw [List.length_map, List.length_range]; exact hj2) hd (fun H1 locs1 g1 g2 h3 => ?_)
  rw [hset] at g1 g2
  exact (k p e R s mid args below meth c cells slots Qs dC dI cy ad A C F H1 locs1 ls ⟨g1, g2, h3⟩ hl)
theorem a_put {idx n ci j len N : Nat} {v : Int32} (hd : decode m.2.1 pc = .ok (.putfield idx, 3)) {C0 : String} {T : u_T} (hc : vwCl[ci]? = some (C0, T, N)) (hin : ∀ w ∈ u_ws C0 T N, w ∈ aTb) (hN : aNs ci = N) (hj : j < N) (hci : ci < 13) (hw : Cond.fieldLink m.1.cls idx (T j).1 (T j).2.1 (T j).2.2.1 ∈ aTb) (ty0 : Nat → FieldType) (hty : ∀ k, k < N → parseFieldDescriptor (T k).2.2.1 = some (ty0 k)) (hnm : ∀ a, a < N → ∀ b, b < N → a ≠ b → (T a).2.1 ≠ (T b).2.1) (hfin : (T j).2.2.2 = false) (hp : parseFieldDescriptor (T j).2.2.1 = some .int) (hk : aK ci j = 0) (hn : aIs D n ci len) (k : aV l m d D scr (pc + 3) lv st (aWr x n j v) Q) : aV l m d D scr pc lv (.int v :: .ref n :: st) x Q :=
  a_putG (y := aWr x n j v) hd hc hin hN hj hci hw ty0 hty hnm hfin hp (fun _ => rfl) (fun _ => rfl) hn (by unfold aF; rw [if_pos hk]; simp [aWr]) (fun i hi => by simp [aWr, hi]) (fun i _ => rfl) (fun a ha => by simp [aWr, ha]) (fun a _ => rfl) k
theorem a_putZ {idx n ci j len N : Nat} {v : Int32} (hd : decode m.2.1 pc = .ok (.putfield idx, 3)) {C0 : String} {T : u_T} (hc : vwCl[ci]? = some (C0, T, N)) (hin : ∀ w ∈ u_ws C0 T N, w ∈ aTb) (hN : aNs ci = N) (hj : j < N) (hci : ci < 13) (hw : Cond.fieldLink m.1.cls idx (T j).1 (T j).2.1 (T j).2.2.1 ∈ aTb) (ty0 : Nat → FieldType) (hty : ∀ k, k < N → parseFieldDescriptor (T k).2.2.1 = some (ty0 k)) (hnm : ∀ a, a < N → ∀ b, b < N → a ≠ b → (T a).2.1 ≠ (T b).2.1) (hfin : (T j).2.2.2 = false) (hp : parseFieldDescriptor (T j).2.2.1 = some .boolean) (hk : aK ci j = 0) (hb : v = 0 ∨ v = 1) (hn : aIs D n ci len) (k : aV l m d D scr (pc + 3) lv st (aWr x n j v) Q) : aV l m d D scr pc lv (.int v :: .ref n :: st) x Q :=
  a_putG (y := aWr x n j v) hd hc hin hN hj hci hw ty0 hty hnm hfin hp (fun _ => by rcases hb with rfl | rfl <;> rfl) (fun _ => by rcases hb with rfl | rfl <;> rfl) hn (by unfold aF; rw [if_pos hk]; simp [aWr]) (fun i hi => by simp [aWr, hi]) (fun i _ => rfl) (fun a ha => by simp [aWr, ha]) (fun a _ => rfl) k
theorem a_putJ {idx n ci j len N : Nat} {v : Int64} (hd : decode m.2.1 pc = .ok (.putfield idx, 3)) {C0 : String} {T : u_T} (hc : vwCl[ci]? = some (C0, T, N)) (hin : ∀ w ∈ u_ws C0 T N, w ∈ aTb) (hN : aNs ci = N) (hj : j < N) (hci : ci < 13) (hw : Cond.fieldLink m.1.cls idx (T j).1 (T j).2.1 (T j).2.2.1 ∈ aTb) (ty0 : Nat → FieldType) (hty : ∀ k, k < N → parseFieldDescriptor (T k).2.2.1 = some (ty0 k)) (hnm : ∀ a, a < N → ∀ b, b < N → a ≠ b → (T a).2.1 ≠ (T b).2.1) (hfin : (T j).2.2.2 = false) (hp : parseFieldDescriptor (T j).2.2.1 = some .long) (hk : aK ci j = 2) (hn : aIs D n ci len) (k : aV l m d D scr (pc + 3) lv st (aWl x n j v) Q) : aV l m d D scr pc lv (.long v :: .ref n :: st) x Q :=
  a_putG (y := aWl x n j v) hd hc hin hN hj hci hw ty0 hty hnm hfin hp (fun _ => rfl) (fun _ => rfl) hn (by unfold aF; rw [if_neg (by rw [hk]; decide), if_pos hk]; simp [aWl]) (fun i _ => rfl) (fun i hi => by simp [aWl, hi]) (fun a _ => rfl) (fun a ha => by simp [aWl, ha]) k
theorem a_putR {idx n ci j len N o : Nat} {cn : String} (hd : decode m.2.1 pc = .ok (.putfield idx, 3)) {C0 : String} {T : u_T} (hc : vwCl[ci]? = some (C0, T, N)) (hin : ∀ w ∈ u_ws C0 T N, w ∈ aTb) (hN : aNs ci = N) (hj : j < N) (hci : ci < 13) (hw : Cond.fieldLink m.1.cls idx (T j).1 (T j).2.1 (T j).2.2.1 ∈ aTb) (ty0 : Nat → FieldType) (hty : ∀ k, k < N → parseFieldDescriptor (T k).2.2.1 = some (ty0 k)) (hnm : ∀ a, a < N → ∀ b, b < N → a ≠ b → (T a).2.1 ≠ (T b).2.1) (hfin : (T j).2.2.2 = false) (hp : parseFieldDescriptor (T j).2.2.1 = some (.object cn)) (hk : aK ci j = 3) (ho : o < 2 ^ 31) (hn : aIs D n ci len) (k : aV l m d D scr (pc + 3) lv st (aWr x n j (nI o)) Q) : aV l m d D scr pc lv (.ref (o * 256) :: .ref n :: st) x Q :=
  a_putG (y := aWr x n j (nI o)) hd hc hin hN hj hci hw ty0 hty hnm hfin hp (fun _ => rfl) (fun _ => rfl) hn (by unfold aF; rw [if_neg (by rw [hk]; decide), if_neg (by rw [hk]; decide), if_pos hk]; simp [aWr, nI_clamp ho]) (fun i hi => by simp [aWr, hi]) (fun i _ => rfl) (fun a ha => by simp [aWr, ha]) (fun a _ => rfl) k
theorem a_iald {n len : Nat} {i : Int32} (hd : decode m.2.1 pc = .ok (.iaload, 1)) (hn : aIs D n 14 len) (hi : vp_in i len) (k : aV l m d D scr (pc + 1) lv (.int (x.1 n i.toNatClampNeg) :: st) x Q) : aV l m d D scr pc lv (.int i :: .ref n :: st) x Q := by
  intro p e R s mid args below meth c cells slots Qs dC dI cy ad A C F H locs ls hH hl
  obtain ⟨q0, hq0⟩ := aIs_at hn
  have he : (aW D ad cy x)[q0]? = some (ad n, .inl (cy 14, len, .inl (x.1 n))) := by rw [aW_at hq0, aE_ints (by decide)]
  exact va_iald (D := (dC, dI)) C.1 C.2.1 C.2.2.2.2.2.1 hH.1 q0 1 he rfl hi hd (k p e R s mid args below meth c cells slots Qs dC dI cy ad A C F H locs ls hH hl)
theorem a_bald {n len : Nat} {i : Int32} (hd : decode m.2.1 pc = .ok (.baload, 1)) (hn : aIs D n 13 len) (hi : vp_in i len) (k : aV l m d D scr (pc + 1) lv (.int (x.1 n i.toNatClampNeg) :: st) x Q) : aV l m d D scr pc lv (.int i :: .ref n :: st) x Q := by
  intro p e R s mid args below meth c cells slots Qs dC dI cy ad A C F H locs ls hH hl
  obtain ⟨q0, hq0⟩ := aIs_at hn
  have he : (aW D ad cy x)[q0]? = some (ad n, .inl (cy 13, len, .inl (x.1 n))) := by rw [aW_at hq0, aE_ints (by decide)]
  exact va_bald (D := (dC, dI)) C.1 C.2.1 C.2.2.2.2.2.1 hH.1 q0 0 he rfl hi hd (k p e R s mid args below meth c cells slots Qs dC dI cy ad A C F H locs ls hH hl)
theorem a_zald {n len : Nat} {i : Int32} (hd : decode m.2.1 pc = .ok (.baload, 1)) (hn : aIs D n 16 len) (hi : vp_in i len) (k : aV l m d D scr (pc + 1) lv (.int (x.1 n i.toNatClampNeg) :: st) x Q) : aV l m d D scr pc lv (.int i :: .ref n :: st) x Q := by
  intro p e R s mid args below meth c cells slots Qs dC dI cy ad A C F H locs ls hH hl
  obtain ⟨q0, hq0⟩ := aIs_at hn
  have he : (aW D ad cy x)[q0]? = some (ad n, .inl (cy 16, len, .inl (x.1 n))) := by rw [aW_at hq0, aE_ints (by decide)]
  exact va_zald (D := (dC, dI)) C.1 C.2.1 C.2.2.2.2.2.1 hH.1 q0 3 he rfl hi hd (k p e R s mid args below meth c cells slots Qs dC dI cy ad A C F H locs ls hH hl)
theorem a_lald {n len : Nat} {i : Int32} (hd : decode m.2.1 pc = .ok (.laload, 1)) (hn : aIs D n 15 len) (hi : vp_in i len) (k : aV l m d D scr (pc + 1) lv (.long (x.2 n i.toNatClampNeg) :: st) x Q) : aV l m d D scr pc lv (.int i :: .ref n :: st) x Q := by
  intro p e R s mid args below meth c cells slots Qs dC dI cy ad A C F H locs ls hH hl
  obtain ⟨q0, hq0⟩ := aIs_at hn
  have he : (aW D ad cy x)[q0]? = some (ad n, .inl (cy 15, len, .inr (.inl (x.2 n)))) := by rw [aW_at hq0, aE_longs]
  exact va_lald (D := (dC, dI)) C.1 C.2.1 C.2.2.2.2.2.1 hH.1 q0 2 he rfl hi hd (k p e R s mid args below meth c cells slots Qs dC dI cy ad A C F H locs ls hH hl)
theorem a_iast {n len : Nat} {i v : Int32} (hd : decode m.2.1 pc = .ok (.iastore, 1)) (hn : aIs D n 14 len) (hi : vp_in i len) (k : aV l m d D scr (pc + 1) lv st (aWr x n i.toNatClampNeg v) Q) : aV l m d D scr pc lv (.int v :: .int i :: .ref n :: st) x Q := by
  intro p e R s mid args below meth c cells slots Qs dC dI cy ad A C F H locs ls hH hl
  obtain ⟨q0, hq0⟩ := aIs_at hn
  have he : (aW D ad cy x)[q0]? = some (ad n, .inl (cy 14, len, .inl (x.1 n))) := by rw [aW_at hq0, aE_ints (by decide)]
  have hset : (aW D ad cy x).set q0 (ad n, .inl (cy 14, len, .inl (upd (x.1 n) i.toNatClampNeg v))) = aW D ad cy (aWr x n i.toNatClampNeg v) := aW_set hq0 (by rw [aE_ints (by decide)]; simp [aWr]; rfl) (fun a ha => by simp only [aWr]; rw [if_neg ha]) (fun a _ => rfl)
  refine va_iast (D := (dC, dI)) C.1 C.2.1 C.2.2.2.2.2.1 hH.1 hH.2.1 hH.2.2 q0 1 he rfl hi hd (fun H1 locs1 g1 g2 h3 => ?_)
  rw [hset] at g1 g2
  exact (k p e R s mid args below meth c cells slots Qs dC dI cy ad A C F H1 locs1 ls ⟨g1, g2, h3⟩ hl)
theorem a_bast {n len : Nat} {i v : Int32} (hd : decode m.2.1 pc = .ok (.bastore, 1)) (hn : aIs D n 13 len) (hi : vp_in i len) (k : aV l m d D scr (pc + 1) lv st (aWr x n i.toNatClampNeg (vp_nar .byte v)) Q) : aV l m d D scr pc lv (.int v :: .int i :: .ref n :: st) x Q := by
  intro p e R s mid args below meth c cells slots Qs dC dI cy ad A C F H locs ls hH hl
  obtain ⟨q0, hq0⟩ := aIs_at hn
  have he : (aW D ad cy x)[q0]? = some (ad n, .inl (cy 13, len, .inl (x.1 n))) := by rw [aW_at hq0, aE_ints (by decide)]
  have hset : (aW D ad cy x).set q0 (ad n, .inl (cy 13, len, .inl (upd (x.1 n) i.toNatClampNeg (vp_nar .byte v)))) = aW D ad cy (aWr x n i.toNatClampNeg (vp_nar .byte v)) := aW_set hq0 (by rw [aE_ints (by decide)]; simp [aWr]; rfl) (fun a ha => by simp only [aWr]; rw [if_neg ha]) (fun a _ => rfl)
  refine va_bast (D := (dC, dI)) C.1 C.2.1 C.2.2.2.2.2.1 hH.1 hH.2.1 hH.2.2 q0 0 he rfl hi hd (fun H1 locs1 g1 g2 h3 => ?_)
  rw [hset] at g1 g2
  exact (k p e R s mid args below meth c cells slots Qs dC dI cy ad A C F H1 locs1 ls ⟨g1, g2, h3⟩ hl)
theorem a_zast {n len : Nat} {i v : Int32} (hd : decode m.2.1 pc = .ok (.bastore, 1)) (hn : aIs D n 16 len) (hi : vp_in i len) (k : aV l m d D scr (pc + 1) lv st (aWr x n i.toNatClampNeg (vp_nar .boolean v)) Q) : aV l m d D scr pc lv (.int v :: .int i :: .ref n :: st) x Q := by
  intro p e R s mid args below meth c cells slots Qs dC dI cy ad A C F H locs ls hH hl
  obtain ⟨q0, hq0⟩ := aIs_at hn
  have he : (aW D ad cy x)[q0]? = some (ad n, .inl (cy 16, len, .inl (x.1 n))) := by rw [aW_at hq0, aE_ints (by decide)]
  have hset : (aW D ad cy x).set q0 (ad n, .inl (cy 16, len, .inl (upd (x.1 n) i.toNatClampNeg (vp_nar .boolean v)))) = aW D ad cy (aWr x n i.toNatClampNeg (vp_nar .boolean v)) := aW_set hq0 (by rw [aE_ints (by decide)]; simp [aWr]; rfl) (fun a ha => by simp only [aWr]; rw [if_neg ha]) (fun a _ => rfl)
  refine va_zast (D := (dC, dI)) C.1 C.2.1 C.2.2.2.2.2.1 hH.1 hH.2.1 hH.2.2 q0 3 he rfl hi hd (fun H1 locs1 g1 g2 h3 => ?_)
  rw [hset] at g1 g2
  exact (k p e R s mid args below meth c cells slots Qs dC dI cy ad A C F H1 locs1 ls ⟨g1, g2, h3⟩ hl)
theorem a_last {n len : Nat} {i : Int32} {v : Int64} (hd : decode m.2.1 pc = .ok (.lastore, 1)) (hn : aIs D n 15 len) (hi : vp_in i len) (k : aV l m d D scr (pc + 1) lv st (aWl x n i.toNatClampNeg v) Q) : aV l m d D scr pc lv (.long v :: .int i :: .ref n :: st) x Q := by
  intro p e R s mid args below meth c cells slots Qs dC dI cy ad A C F H locs ls hH hl
  obtain ⟨q0, hq0⟩ := aIs_at hn
  have he : (aW D ad cy x)[q0]? = some (ad n, .inl (cy 15, len, .inr (.inl (x.2 n)))) := by rw [aW_at hq0, aE_longs]
  have hset : (aW D ad cy x).set q0 (ad n, .inl (cy 15, len, .inr (.inl (vp_updL (x.2 n) i.toNatClampNeg v)))) = aW D ad cy (aWl x n i.toNatClampNeg v) := aW_set hq0 (by rw [aE_longs]; simp [aWl]; rfl) (fun a _ => rfl) (fun a ha => by simp only [aWl]; rw [if_neg ha])
  refine va_last (D := (dC, dI)) C.1 C.2.1 C.2.2.2.2.2.1 hH.1 hH.2.1 hH.2.2 q0 2 he rfl hi hd (fun H1 locs1 g1 g2 h3 => ?_)
  rw [hset] at g1 g2
  exact (k p e R s mid args below meth c cells slots Qs dC dI cy ad A C F H1 locs1 ls ⟨g1, g2, h3⟩ hl)
theorem a_adeed {n len : Nat} {i : Int32} (hd : decode m.2.1 pc = .ok (.aaload, 1)) (hn : aIs D n 17 len) (hi : vp_in i len) (k : aV l m d D scr (pc + 1) lv (.ref (n + 88 + i.toNatClampNeg) :: st) x Q) : aV l m d D scr pc lv (.int i :: .ref n :: st) x Q := by
  intro p e R s mid args below meth c cells slots Qs dC dI cy ad A C F H locs ls hH hl
  obtain ⟨q0, hq0⟩ := aIs_at hn
  have he : (aW D ad cy x)[q0]? = some (ad n, .inl (cy 17, len, .inr (.inr (.inr (.inr (fun i => some (ad (n + 88 + i)))))))) := by rw [aW_at hq0]; rfl
  exact va_aldq (D := (dC, dI)) (C := "LastHouse$Deed") C.1 C.2.1 C.2.2.2.2.2.1 hH.1 q0 4 he rfl hi hd (k p e R s mid args below meth c cells slots Qs dC dI cy ad A C F H locs ls hH hl)
theorem a_awed {n len : Nat} {i : Int32} (hd : decode m.2.1 pc = .ok (.aaload, 1)) (hn : aIs D n 18 len) (hi : vp_in i len) (k : aV l m d D scr (pc + 1) lv (.ref (n + 106 + i.toNatClampNeg) :: st) x Q) : aV l m d D scr pc lv (.int i :: .ref n :: st) x Q := by
  intro p e R s mid args below meth c cells slots Qs dC dI cy ad A C F H locs ls hH hl
  obtain ⟨q0, hq0⟩ := aIs_at hn
  have he : (aW D ad cy x)[q0]? = some (ad n, .inl (cy 18, len, .inr (.inr (.inr (.inr (fun i => some (ad (n + 106 + i)))))))) := by rw [aW_at hq0]; rfl
  exact va_aldq (D := (dC, dI)) (C := "LastHouse$Wedding") C.1 C.2.1 C.2.2.2.2.2.1 hH.1 q0 5 he rfl hi hd (k p e R s mid args below meth c cells slots Qs dC dI cy ad A C F H locs ls hH hl)
theorem a_alen {n kd len : Nat} (hd : decode m.2.1 pc = .ok (.arraylength, 1)) (hn : aIs D n kd len) (hk : kd = 13 ∨ kd = 14 ∨ kd = 16) (k : aV l m d D scr (pc + 1) lv (.int (nI len) :: st) x Q) : aV l m d D scr pc lv (.ref n :: st) x Q := by
  intro p e R s mid args below meth c cells slots Qs dC dI cy ad A C F H locs ls hH hl
  obtain ⟨q0, hq0⟩ := aIs_at hn
  have he : (aW D ad cy x)[q0]? = some (ad n, .inl (cy kd, len, .inl (x.1 n))) := by rw [aW_at hq0, aE_ints hk]
  rcases hk with rfl | rfl | rfl
  · exact va_alen (D := (dC, dI)) (ty := .byte) C.1 C.2.1 C.2.2.2.2.2.1 hH.1 q0 0 he rfl rfl hd (k p e R s mid args below meth c cells slots Qs dC dI cy ad A C F H locs ls hH hl)
  · exact va_alen (D := (dC, dI)) (ty := .int) C.1 C.2.1 C.2.2.2.2.2.1 hH.1 q0 1 he rfl rfl hd (k p e R s mid args below meth c cells slots Qs dC dI cy ad A C F H locs ls hH hl)
  · exact va_alen (D := (dC, dI)) (ty := .boolean) C.1 C.2.1 C.2.2.2.2.2.1 hH.1 q0 3 he rfl rfl hd (k p e R s mid args below meth c cells slots Qs dC dI cy ad A C F H locs ls hH hl)
theorem a_alenJ {n len : Nat} (hd : decode m.2.1 pc = .ok (.arraylength, 1)) (hn : aIs D n 15 len) (k : aV l m d D scr (pc + 1) lv (.int (nI len) :: st) x Q) : aV l m d D scr pc lv (.ref n :: st) x Q := by
  intro p e R s mid args below meth c cells slots Qs dC dI cy ad A C F H locs ls hH hl
  obtain ⟨q0, hq0⟩ := aIs_at hn
  have he : (aW D ad cy x)[q0]? = some (ad n, .inl (cy 15, len, .inr (.inl (x.2 n)))) := by rw [aW_at hq0, aE_longs]
  exact va_alen (D := (dC, dI)) (ty := .long) C.1 C.2.1 C.2.2.2.2.2.1 hH.1 q0 2 he rfl rfl hd (k p e R s mid args below meth c cells slots Qs dC dI cy ad A C F H locs ls hH hl)
theorem a_sld {q : aSc} {i : Int32} (hd : decode m.2.1 pc = .ok (.iaload, 1)) (hs : scr = some q) (hi : vp_in i q.1) (k : aV l m d D scr (pc + 1) lv (.int (q.2.1 i.toNatClampNeg) :: st) x Q) : aV l m d D scr pc lv (.int i :: .ref 9000 :: st) x Q := by
  intro p e R s mid args below meth c cells slots Qs dC dI cy ad A C F H locs ls hH hl
  obtain ⟨h1, h2, h3, -⟩ := C.2.2.2.2.2.2.2.2.2.2.2.1 q hs
  exact va_sld C.1 C.2.1 h1 h2 (h3 _ h2) hH.2.2 hi hd (k p e R s mid args below meth c cells slots Qs dC dI cy ad A C F H locs ls hH hl)
theorem a_slen {q : aSc} (hd : decode m.2.1 pc = .ok (.arraylength, 1)) (hs : scr = some q) (k : aV l m d D scr (pc + 1) lv (.int (nI q.1) :: st) x Q) : aV l m d D scr pc lv (.ref 9000 :: st) x Q := by
  intro p e R s mid args below meth c cells slots Qs dC dI cy ad A C F H locs ls hH hl
  obtain ⟨h1, h2, h3, -⟩ := C.2.2.2.2.2.2.2.2.2.2.2.1 q hs
  exact va_slen C.1 C.2.1 h1 h2 (h3 _ h2) hH.2.2 hd (k p e R s mid args below meth c cells slots Qs dC dI cy ad A C F H locs ls hH hl)
theorem aT_sum (ad : Nat → Nat) (st : List Value) : ((st.map (aT ad)).map fun v => v.category).sum = (st.map fun v => v.category).sum := by
  rw [List.map_map]
  congr 1
  exact List.map_congr_left (fun v _ => aT_cat ad v)
theorem a_max {idx : Nat} {a b : Int32} (hd : decode m.2.1 pc = .ok (.invokestatic idx, 3)) (hw : Cond.methodLink m.1.cls idx Lib.Math.max.name ∈ aTb) (hw2 : Cond.static Lib.Math.max.name ∈ aTb) (hw3 : Cond.initialized "java/lang/Math" ∈ aTb) (hw4 : Cond.code Lib.Math.max.name Lib.Math.max.code 2 (some .int) ∈ aTb) (hst : (st.map fun v => v.category).sum ≤ 8) (h0 : 1 ≤ d) (k : aV l m d D scr (pc + 3) lv (.int (if a < b then b else a) :: st) x Q) : aV l m d D scr pc lv (.int b :: .int a :: st) x Q := by
  intro p e R s mid args below meth c cells slots Qs dC dI cy ad A C F H locs ls hH hl
  have hf : 1 ≤ R.frames := Nat.le_trans h0 C.2.2.2.2.2.2.2.1
  have hlo : ((st.map (aT ad)).map fun v => v.category).sum + 13 ≤ R.locals := by
    have := C.2.2.2.2.2.2.2.2.1
    rw [aT_sum]
    omega
  exact va_mmax C.1 C.2.1 (C.2.2.1.trans hl.1.symm) C.2.2.2.1 (C.2.2.2.2.1 _ hw) (C.2.2.2.2.1 _ hw2) (C.2.2.2.2.1 _ hw3) (C.2.2.2.2.1 _ hw4) hf hlo C.2.2.2.2.2.2.2.2.2.1 C.2.2.2.2.2.2.2.2.2.2.1 hd (k p e R s mid args below meth c cells slots Qs dC dI cy ad A C F H locs ls hH hl)
theorem a_min {idx : Nat} {a b : Int32} (hd : decode m.2.1 pc = .ok (.invokestatic idx, 3)) (hw : Cond.methodLink m.1.cls idx Lib.Math.min.name ∈ aTb) (hw2 : Cond.static Lib.Math.min.name ∈ aTb) (hw3 : Cond.initialized "java/lang/Math" ∈ aTb) (hw4 : Cond.code Lib.Math.min.name Lib.Math.min.code 2 (some .int) ∈ aTb) (hst : (st.map fun v => v.category).sum ≤ 8) (h0 : 1 ≤ d) (k : aV l m d D scr (pc + 3) lv (.int (if b < a then b else a) :: st) x Q) : aV l m d D scr pc lv (.int b :: .int a :: st) x Q := by
  intro p e R s mid args below meth c cells slots Qs dC dI cy ad A C F H locs ls hH hl
  have hf : 1 ≤ R.frames := Nat.le_trans h0 C.2.2.2.2.2.2.2.1
  have hlo : ((st.map (aT ad)).map fun v => v.category).sum + 13 ≤ R.locals := by
    have := C.2.2.2.2.2.2.2.2.1
    rw [aT_sum]
    omega
  exact va_mmin C.1 C.2.1 (C.2.2.1.trans hl.1.symm) C.2.2.2.1 (C.2.2.2.2.1 _ hw) (C.2.2.2.2.1 _ hw2) (C.2.2.2.2.1 _ hw3) (C.2.2.2.2.1 _ hw4) hf hlo C.2.2.2.2.2.2.2.2.2.1 C.2.2.2.2.2.2.2.2.2.2.1 hd (k p e R s mid args below meth c cells slots Qs dC dI cy ad A C F H locs ls hH hl)
theorem a_max_long {idx : Nat} {a b : Int64} (hd : decode m.2.1 pc = .ok (.invokestatic idx, 3)) (hw : Cond.methodLink m.1.cls idx Lib.MathLoose.max_long.x ∈ aTb) (hw2 : Cond.static Lib.MathLoose.max_long.x ∈ aTb) (hw3 : Cond.initialized "java/lang/Math" ∈ aTb) (hw4 : Cond.code Lib.MathLoose.max_long.x Lib.MathLoose.max_long.code 4 (some .long) ∈ aTb) (hst : (st.map fun v => v.category).sum ≤ 8) (h0 : 1 ≤ d) (k : aV l m d D scr (pc + 3) lv (.long (if b < a then a else b) :: st) x Q) : aV l m d D scr pc lv (.long b :: .long a :: st) x Q := by
  intro p e R s mid args below meth c cells slots Qs dC dI cy ad A C F H locs ls hH hl
  have hf : 1 ≤ R.frames := Nat.le_trans h0 C.2.2.2.2.2.2.2.1
  have hlo : ((st.map (aT ad)).map fun v => v.category).sum + 15 ≤ R.locals := by
    have := C.2.2.2.2.2.2.2.2.1
    rw [aT_sum]
    omega
  exact va_mmax_long C.1 C.2.1 (C.2.2.1.trans hl.1.symm) C.2.2.2.1 (C.2.2.2.2.1 _ hw) (C.2.2.2.2.1 _ hw2) (C.2.2.2.2.1 _ hw3) (C.2.2.2.2.1 _ hw4) hf hlo C.2.2.2.2.2.2.2.2.2.1 C.2.2.2.2.2.2.2.2.2.2.1 hd (k p e R s mid args below meth c cells slots Qs dC dI cy ad A C F H locs ls hH hl)
theorem a_min_long {idx : Nat} {a b : Int64} (hd : decode m.2.1 pc = .ok (.invokestatic idx, 3)) (hw : Cond.methodLink m.1.cls idx Lib.MathLoose.min_long.x ∈ aTb) (hw2 : Cond.static Lib.MathLoose.min_long.x ∈ aTb) (hw3 : Cond.initialized "java/lang/Math" ∈ aTb) (hw4 : Cond.code Lib.MathLoose.min_long.x Lib.MathLoose.min_long.code 4 (some .long) ∈ aTb) (hst : (st.map fun v => v.category).sum ≤ 8) (h0 : 1 ≤ d) (k : aV l m d D scr (pc + 3) lv (.long (if b < a then b else a) :: st) x Q) : aV l m d D scr pc lv (.long b :: .long a :: st) x Q := by
  intro p e R s mid args below meth c cells slots Qs dC dI cy ad A C F H locs ls hH hl
  have hf : 1 ≤ R.frames := Nat.le_trans h0 C.2.2.2.2.2.2.2.1
  have hlo : ((st.map (aT ad)).map fun v => v.category).sum + 15 ≤ R.locals := by
    have := C.2.2.2.2.2.2.2.2.1
    rw [aT_sum]
    omega
  exact va_mmin_long C.1 C.2.1 (C.2.2.1.trans hl.1.symm) C.2.2.2.1 (C.2.2.2.2.1 _ hw) (C.2.2.2.2.1 _ hw2) (C.2.2.2.2.1 _ hw3) (C.2.2.2.2.1 _ hw4) hf hlo C.2.2.2.2.2.2.2.2.2.1 C.2.2.2.2.2.2.2.2.2.2.1 hd (k p e R s mid args below meth c cells slots Qs dC dI cy ad A C F H locs ls hH hl)
theorem a_abs {idx : Nat} {a : Int32} (hd : decode m.2.1 pc = .ok (.invokestatic idx, 3)) (hw : Cond.methodLink m.1.cls idx Lib.Math.abs.name ∈ aTb) (hw2 : Cond.static Lib.Math.abs.name ∈ aTb) (hw3 : Cond.initialized "java/lang/Math" ∈ aTb) (hw4 : Cond.code Lib.Math.abs.name Lib.Math.abs.code 1 (some .int) ∈ aTb) (hst : (st.map fun v => v.category).sum ≤ 8) (h0 : 1 ≤ d) (k : aV l m d D scr (pc + 3) lv (.int (if 0 ≤ a then a else 0 - a) :: st) x Q) : aV l m d D scr pc lv (.int a :: st) x Q := by
  intro p e R s mid args below meth c cells slots Qs dC dI cy ad A C F H locs ls hH hl
  have hf : 1 ≤ R.frames := Nat.le_trans h0 C.2.2.2.2.2.2.2.1
  have hlo : ((st.map (aT ad)).map fun v => v.category).sum + 13 ≤ R.locals := by
    have := C.2.2.2.2.2.2.2.2.1
    rw [aT_sum]
    omega
  exact va_mabs C.1 C.2.1 (C.2.2.1.trans hl.1.symm) C.2.2.2.1 (C.2.2.2.2.1 _ hw) (C.2.2.2.2.1 _ hw2) (C.2.2.2.2.1 _ hw3) (C.2.2.2.2.1 _ hw4) hf hlo C.2.2.2.2.2.2.2.2.2.1 C.2.2.2.2.2.2.2.2.2.2.1 hd (k p e R s mid args below meth c cells slots Qs dC dI cy ad A C F H locs ls hH hl)
theorem a_copy {idx n0 n1 l0 l1 : Nat} {sp dp n : Int32} (hd : decode m.2.1 pc = .ok (.invokestatic idx, 3)) (hw : Cond.methodLink m.1.cls idx arraycopyName ∈ aTb) (hw2 : Cond.native arraycopyName ∈ aTb) (hw3 : Cond.static arraycopyName ∈ aTb) (hw4 : Cond.initialized "java/lang/System" ∈ aTb) (hn0 : aIs D n0 14 l0) (hn1 : aIs D n1 14 l1) (h1 : ¬ sp < 0) (h2 : ¬ dp < 0) (h3 : ¬ n < 0) (h4 : sp.toNatClampNeg + n.toNatClampNeg ≤ l0) (h5 : dp.toNatClampNeg + n.toNatClampNeg ≤ l1) (hst : (st.map fun v => v.category).sum ≤ 8) (h0 : 1 ≤ d) (k : aV l m d D scr (pc + 3) lv st (aWw x n1 (va_cpy (x.1 n0) (x.1 n1) sp.toNatClampNeg dp.toNatClampNeg n.toNatClampNeg)) Q) : aV l m d D scr pc lv (.int n :: .int dp :: .ref n1 :: .int sp :: .ref n0 :: st) x Q := by
  intro p e R s mid args below meth c cells slots Qs dC dI cy ad A C F H locs ls hH hl
  obtain ⟨q0, hq0⟩ := aIs_at hn0
  obtain ⟨q1, hq1⟩ := aIs_at hn1
  have he0 : (aW D ad cy x)[q0]? = some (ad n0, .inl (cy 14, l0, .inl (x.1 n0))) := by rw [aW_at hq0, aE_ints (by decide)]
  have he1 : (aW D ad cy x)[q1]? = some (ad n1, .inl (cy 14, l1, .inl (x.1 n1))) := by rw [aW_at hq1, aE_ints (by decide)]
  have hf : 1 ≤ R.frames := Nat.le_trans h0 C.2.2.2.2.2.2.2.1
  have hlo : ((st.map (aT ad)).map fun v => v.category).sum + (nativeFrameWords "java/lang/System" "arraycopy" 5 + 11) ≤ R.locals := by
    have h9 := C.2.2.2.2.2.2.2.2.1
    have h8 : nativeFrameWords "java/lang/System" "arraycopy" 5 ≤ 20 := by decide
    rw [aT_sum]
    omega
  have hset : (aW D ad cy x).set q1 (ad n1, .inl (cy 14, l1, .inl (va_cpy (x.1 n0) (x.1 n1) sp.toNatClampNeg dp.toNatClampNeg n.toNatClampNeg))) = aW D ad cy (aWw x n1 (va_cpy (x.1 n0) (x.1 n1) sp.toNatClampNeg dp.toNatClampNeg n.toNatClampNeg)) := aW_set hq1 (by rw [aE_ints (by decide)]; simp [aWw]) (fun a ha => by simp only [aWw]; rw [if_neg ha]) (fun a _ => rfl)
  refine va_copyi (D := (dC, dI)) (ty := .int) C.1 C.2.1 (C.2.2.1.trans hl.1.symm) C.2.2.2.1 (C.2.2.2.2.1 _ hw) (C.2.2.2.2.1 _ hw2) (C.2.2.2.2.1 _ hw3) (C.2.2.2.2.1 _ hw4) C.2.2.2.2.2.1 hH.1 hH.2.1 hH.2.2 q0 q1 1 1 he0 he1 rfl rfl rfl h1 h2 h3 h4 h5 (fun i _ => rfl) hf hlo hd (fun H1 locs1 g1 g2 h3 => ?_)
  rw [hset] at g1 g2
  exact (k p e R s mid args below meth c cells slots Qs dC dI cy ad A C F H1 locs1 ls ⟨g1, g2, h3⟩ hl)
end aHeap
