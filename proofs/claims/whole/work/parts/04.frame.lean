/-! THE ABSTRACT MACHINE: cells have names (numbers), memory is x.1 (ints) and x.2 (longs) by name and place; aV says that the machine goes on. -/
/-- the tables' words that stay as they are -/
def aTb : List Cond := lw_tbl.filter goodWord
theorem aTb_at (i : Nat) {w : Cond} (h : lw_tbl[i]? = some w) (g : goodWord w = true) : w ∈ aTb := List.mem_filter.mpr ⟨List.mem_of_getElem? h, g⟩
theorem aTb_lw_privs_1 (i : Nat) {y : MethodName} {n : Nat} (h : lw_privs_1[i]? = some (y, n)) : Cond.selects y.cls y y ∈ aTb := List.mem_filter.mpr ⟨List.mem_append_left _ (List.mem_map.mpr ⟨(y, n), (List.mem_append_left _ (List.mem_of_getElem? h)), rfl⟩), rfl⟩
theorem aTb_lw_privs_2 (i : Nat) {y : MethodName} {n : Nat} (h : lw_privs_2[i]? = some (y, n)) : Cond.selects y.cls y y ∈ aTb := List.mem_filter.mpr ⟨List.mem_append_left _ (List.mem_map.mpr ⟨(y, n), (List.mem_append_right _ (List.mem_append_left _ (List.mem_of_getElem? h))), rfl⟩), rfl⟩
theorem aTb_lw_privs_3 (i : Nat) {y : MethodName} {n : Nat} (h : lw_privs_3[i]? = some (y, n)) : Cond.selects y.cls y y ∈ aTb := List.mem_filter.mpr ⟨List.mem_append_left _ (List.mem_map.mpr ⟨(y, n), (List.mem_append_right _ (List.mem_append_right _ (List.mem_append_left _ (List.mem_of_getElem? h)))), rfl⟩), rfl⟩
theorem aTb_lw_privs_4 (i : Nat) {y : MethodName} {n : Nat} (h : lw_privs_4[i]? = some (y, n)) : Cond.selects y.cls y y ∈ aTb := List.mem_filter.mpr ⟨List.mem_append_left _ (List.mem_map.mpr ⟨(y, n), (List.mem_append_right _ (List.mem_append_right _ (List.mem_append_right _ (List.mem_append_left _ (List.mem_of_getElem? h))))), rfl⟩), rfl⟩
theorem aTb_lw_privs_5 (i : Nat) {y : MethodName} {n : Nat} (h : lw_privs_5[i]? = some (y, n)) : Cond.selects y.cls y y ∈ aTb := List.mem_filter.mpr ⟨List.mem_append_left _ (List.mem_map.mpr ⟨(y, n), (List.mem_append_right _ (List.mem_append_right _ (List.mem_append_right _ (List.mem_append_right _ (List.mem_append_left _ (List.mem_of_getElem? h)))))), rfl⟩), rfl⟩
theorem aTb_lw_privs_6 (i : Nat) {y : MethodName} {n : Nat} (h : lw_privs_6[i]? = some (y, n)) : Cond.selects y.cls y y ∈ aTb := List.mem_filter.mpr ⟨List.mem_append_left _ (List.mem_map.mpr ⟨(y, n), (List.mem_append_right _ (List.mem_append_right _ (List.mem_append_right _ (List.mem_append_right _ (List.mem_append_right _ (List.mem_append_left _ (List.mem_of_getElem? h))))))), rfl⟩), rfl⟩
theorem aTb_lw_privs_7 (i : Nat) {y : MethodName} {n : Nat} (h : lw_privs_7[i]? = some (y, n)) : Cond.selects y.cls y y ∈ aTb := List.mem_filter.mpr ⟨List.mem_append_left _ (List.mem_map.mpr ⟨(y, n), (List.mem_append_right _ (List.mem_append_right _ (List.mem_append_right _ (List.mem_append_right _ (List.mem_append_right _ (List.mem_append_right _ (List.mem_append_left _ (List.mem_of_getElem? h)))))))), rfl⟩), rfl⟩
theorem aTb_lw_privs_8 (i : Nat) {y : MethodName} {n : Nat} (h : lw_privs_8[i]? = some (y, n)) : Cond.selects y.cls y y ∈ aTb := List.mem_filter.mpr ⟨List.mem_append_left _ (List.mem_map.mpr ⟨(y, n), (List.mem_append_right _ (List.mem_append_right _ (List.mem_append_right _ (List.mem_append_right _ (List.mem_append_right _ (List.mem_append_right _ (List.mem_append_right _ (List.mem_of_getElem? h)))))))), rfl⟩), rfl⟩
theorem aTb_tables_1_1 (i : Nat) {w : Cond} (h : tables_1_1[i]? = some w) (g : goodWord w = true) : w ∈ aTb := List.mem_filter.mpr ⟨List.mem_append_right _ (List.mem_append_left _ (List.mem_of_getElem? h)), g⟩
theorem aTb_tables_1_2 (i : Nat) {w : Cond} (h : tables_1_2[i]? = some w) (g : goodWord w = true) : w ∈ aTb := List.mem_filter.mpr ⟨List.mem_append_right _ (List.mem_append_right _ (List.mem_append_left _ (List.mem_of_getElem? h))), g⟩
theorem aTb_tables_1_3 (i : Nat) {w : Cond} (h : tables_1_3[i]? = some w) (g : goodWord w = true) : w ∈ aTb := List.mem_filter.mpr ⟨List.mem_append_right _ (List.mem_append_right _ (List.mem_append_right _ (List.mem_append_left _ (List.mem_of_getElem? h)))), g⟩
theorem aTb_tables_1_4 (i : Nat) {w : Cond} (h : tables_1_4[i]? = some w) (g : goodWord w = true) : w ∈ aTb := List.mem_filter.mpr ⟨List.mem_append_right _ (List.mem_append_right _ (List.mem_append_right _ (List.mem_append_right _ (List.mem_append_left _ (List.mem_of_getElem? h))))), g⟩
theorem aTb_tables_1_5 (i : Nat) {w : Cond} (h : tables_1_5[i]? = some w) (g : goodWord w = true) : w ∈ aTb := List.mem_filter.mpr ⟨List.mem_append_right _ (List.mem_append_right _ (List.mem_append_right _ (List.mem_append_right _ (List.mem_append_right _ (List.mem_append_left _ (List.mem_of_getElem? h)))))), g⟩
theorem aTb_tables_1_6 (i : Nat) {w : Cond} (h : tables_1_6[i]? = some w) (g : goodWord w = true) : w ∈ aTb := List.mem_filter.mpr ⟨List.mem_append_right _ (List.mem_append_right _ (List.mem_append_right _ (List.mem_append_right _ (List.mem_append_right _ (List.mem_append_right _ (List.mem_append_left _ (List.mem_of_getElem? h))))))), g⟩
theorem aTb_tables_1_7 (i : Nat) {w : Cond} (h : tables_1_7[i]? = some w) (g : goodWord w = true) : w ∈ aTb := List.mem_filter.mpr ⟨List.mem_append_right _ (List.mem_append_right _ (List.mem_append_right _ (List.mem_append_right _ (List.mem_append_right _ (List.mem_append_right _ (List.mem_append_right _ (List.mem_append_left _ (List.mem_of_getElem? h)))))))), g⟩
theorem aTb_tables_1_8 (i : Nat) {w : Cond} (h : tables_1_8[i]? = some w) (g : goodWord w = true) : w ∈ aTb := List.mem_filter.mpr ⟨List.mem_append_right _ (List.mem_append_right _ (List.mem_append_right _ (List.mem_append_right _ (List.mem_append_right _ (List.mem_append_right _ (List.mem_append_right _ (List.mem_append_right _ (List.mem_append_left _ (List.mem_of_getElem? h))))))))), g⟩
theorem aTb_tables_1_9 (i : Nat) {w : Cond} (h : tables_1_9[i]? = some w) (g : goodWord w = true) : w ∈ aTb := List.mem_filter.mpr ⟨List.mem_append_right _ (List.mem_append_right _ (List.mem_append_right _ (List.mem_append_right _ (List.mem_append_right _ (List.mem_append_right _ (List.mem_append_right _ (List.mem_append_right _ (List.mem_append_right _ (List.mem_of_getElem? h))))))))), g⟩
abbrev aM : Type := MethodName × ByteArray × Nat × Option FieldType
abbrev aS : Type := (Nat → Nat → Int32) × (Nat → Nat → Int64)
abbrev aN : Type := Nat × Nat × Nat
def aT (ad : Nat → Nat) (v : Value) : Value := match v with
  | .ref n => .ref (ad n)
  | u => u
theorem aT_cat (ad : Nat → Nat) (v : Value) : (aT ad v).category = v.category := by cases v <;> rfl
def aK (ci j : Nat) : Nat := (aSK.getD ci []).getD j 0
def aNs (ci : Nat) : Nat := (aSK.getD ci []).length
/-- what slot j of the object n, of class ci, holds -/
def aF (x : aS) (n ci j : Nat) : Value :=
  if aK ci j = 0 then .int (x.1 n j) else if aK ci j = 2 then .long (x.2 n j) else if aK ci j = 3 then .ref ((x.1 n j).toNatClampNeg * 256)
  else if aK ci j < 1000 then .ref (n + (aK ci j - 100)) else .ref (aK ci j - 1000)
def aFs (x : aS) (n ci : Nat) : List Value := (List.range (aNs ci)).map (aF x n ci)
def aE (ad : Nat → Nat) (cy : Nat → ClassId) (x : aS) (q : aN) : va_E :=
  if q.2.1 < 13 then .inr (q.2.1, (aFs x q.1 q.2.1).map (aT ad))
  else if q.2.1 = 15 then .inl (cy 15, q.2.2, .inr (.inl (x.2 q.1)))
  else if q.2.1 = 17 then .inl (cy 17, q.2.2, .inr (.inr (.inr (.inr (fun i => some (ad (q.1 + 88 + i)))))))
  else if q.2.1 = 18 then .inl (cy 18, q.2.2, .inr (.inr (.inr (.inr (fun i => some (ad (q.1 + 106 + i)))))))
  else .inl (cy q.2.1, q.2.2, .inl (x.1 q.1))
def aL (D : Nat → Bool) : List aN := aSH.filter (fun q => D (q.1 / 256))
def aW (D : Nat → Bool) (ad : Nat → Nat) (cy : Nat → ClassId) (x : aS) : va_W := (aL D).map (fun q => (ad q.1, aE ad cy x q))
def aTy (cy : Nat → ClassId) : List (ClassId × FieldType) := [(cy 13, .byte), (cy 14, .int), (cy 15, .long), (cy 16, .boolean), (cy 17, .object "LastHouse$Deed"), (cy 18, .object "LastHouse$Wedding")]
set_option maxRecDepth 100000 in
theorem aSH_nd : (aSH.map (fun q => q.1)).Nodup := by decide +kernel
theorem aL_inj {D : Nat → Bool} {i j : Nat} {p q : aN} (hi : (aL D)[i]? = some p) (hj : (aL D)[j]? = some q) (h : p.1 = q.1) : i = j := by
  have hn : ((aL D).map (fun q => q.1)).Nodup := (List.Sublist.map _ List.filter_sublist).nodup aSH_nd
  have h1 : ((aL D).map (fun q => q.1))[i]? = some p.1 := by rw [List.getElem?_map, hi]; rfl
  have h2 : ((aL D).map (fun q => q.1))[j]? = some q.1 := by rw [List.getElem?_map, hj]; rfl
  have hlt : i < ((aL D).map (fun q => q.1)).length := by
    rcases Nat.lt_or_ge i ((aL D).map (fun q => q.1)).length with g | g
    · exact g
    · rw [List.getElem?_eq_none g] at h1
      exact absurd h1 (by simp)
  exact (List.getElem?_inj hlt hn).mp (by rw [h1, h2, h])
theorem aW_at {D : Nat → Bool} {ad : Nat → Nat} {cy : Nat → ClassId} {x : aS} {k : Nat} {q : aN} (h : (aL D)[k]? = some q) : (aW D ad cy x)[k]? = some (ad q.1, aE ad cy x q) := by
  unfold aW
  rw [List.getElem?_map, h]
  rfl
theorem aE_ext {ad : Nat → Nat} {cy : Nat → ClassId} {x y : aS} {q : aN} (h1 : y.1 q.1 = x.1 q.1) (h2 : y.2 q.1 = x.2 q.1) : aE ad cy y q = aE ad cy x q := by
  have h3 : aFs y q.1 q.2.1 = aFs x q.1 q.2.1 := by
    unfold aFs
    refine List.map_congr_left (fun j _ => ?_)
    unfold aF
    rw [h1, h2]
  unfold aE
  rw [h1, h2, h3]
theorem aW_set {D : Nat → Bool} {ad : Nat → Nat} {cy : Nat → ClassId} {x y : aS} {k : Nat} {q : aN} {e : va_E} (h : (aL D)[k]? = some q) (he : aE ad cy y q = e) (h1 : ∀ n, n ≠ q.1 → y.1 n = x.1 n) (h2 : ∀ n, n ≠ q.1 → y.2 n = x.2 n) :
    (aW D ad cy x).set k (ad q.1, e) = aW D ad cy y := by
  apply List.ext_getElem?
  intro i
  rw [List.getElem?_set]
  by_cases hi : k = i
  · subst hi
    rw [if_pos rfl, aW_at h, he]
    have hl : k < (aW D ad cy x).length := by
      unfold aW
      rw [List.length_map]
      rcases Nat.lt_or_ge k (aL D).length with g | g
      · exact g
      · rw [List.getElem?_eq_none g] at h; cases h
    rw [if_pos hl]
  · rw [if_neg hi]
    unfold aW
    rw [List.getElem?_map, List.getElem?_map]
    cases hq : (aL D)[i]? with
    | none => simp only [Option.map_none]
    | some p =>
      have hne : p.1 ≠ q.1 := fun g => hi (aL_inj h hq g.symm)
      show some (ad p.1, aE ad cy x p) = some (ad p.1, aE ad cy y p)
      rw [aE_ext (h1 _ hne) (h2 _ hne)]
/-- one place is written -/
def aWr (x : aS) (n j : Nat) (v : Int32) : aS := (fun a => if a = n then (fun i => if i = j then v else x.1 n i) else x.1 a, x.2)
def aWl (x : aS) (n j : Nat) (v : Int64) : aS := (x.1, fun a => if a = n then (fun i => if i = j then v else x.2 n i) else x.2 a)
/-- a whole row is written -/
def aWw (x : aS) (n : Nat) (r : Nat → Int32) : aS := (fun a => if a = n then r else x.1 a, x.2)
theorem aWr_1 (x : aS) (n j : Nat) (v : Int32) : (aWr x n j v).1 = fun a => if a = n then (fun i => if i = j then v else x.1 n i) else x.1 a := rfl
theorem aWr_2 (x : aS) (n j : Nat) (v : Int32) : (aWr x n j v).2 = x.2 := rfl
theorem aWl_1 (x : aS) (n j : Nat) (v : Int64) : (aWl x n j v).1 = x.1 := rfl
theorem aWw_2 (x : aS) (n : Nat) (r : Nat → Int32) : (aWw x n r).2 = x.2 := rfl
/-- a cell is there: its name, its kind, its length -/
def aIs (D : Nat → Bool) (n k len : Nat) : Prop := (n, k, len) ∈ aSH ∧ D (n / 256) = true
theorem aIs_at {D : Nat → Bool} {n k len : Nat} (h : aIs D n k len) : ∃ i : Nat, (aL D)[i]? = some (n, k, len) := List.getElem?_of_mem (List.mem_filter.mpr ⟨h.1, h.2⟩)
/-- what a law's walk has: the script's length, the script, cells and slots used so far -/
abbrev aSc : Type := Nat × (Nat → Int32) × Nat × Nat
def wdT : String := "house man add slice wed strip damp seed law thick bear corn or and not by zone much pinch corns layers year "
def wdB : List Int32 := [104, 111, 117, 115, 101, 32, 109, 97, 110, 32, 97, 100, 100, 32, 115, 108, 105, 99, 101, 32, 119, 101, 100, 32, 115, 116, 114, 105, 112, 32, 100, 97, 109, 112, 32, 115, 101, 101, 100, 32, 108, 97, 119, 32, 116, 104, 105, 99, 107, 32, 98, 101, 97, 114, 32, 99, 111, 114, 110, 32, 111, 114, 32, 97, 110, 100, 32, 110, 111, 116, 32, 98, 121, 32, 122, 111, 110, 101, 32, 109, 117, 99, 104, 32, 112, 105, 110, 99, 104, 32, 99, 111, 114, 110, 115, 32, 108, 97, 121, 101, 114, 115, 32, 121, 101, 97, 114, 32]
/-- the words' text (names 9001, 9002), and what the JDK's members of it read -/
def aXt (ad : Nat → Nat) (A : Nat → Prop) (U : State) (H : Heap) : Prop :=
  vk_S 1 [108] [wdB] (fun _ => ad 9001) (fun _ => ad 9002) A U H ∧ vk_R RX7 66 wdT (ad 9001) U ∧ va_Z "java/lang/String" "COMPACT_STRINGS" "Z" (.int 1) A U H ∧
  (va_Z "jdk/internal/util/Preconditions" "SIOOBE_FORMATTER" "Ljava/util/function/BiFunction;" .null A U H ∨ va_Z "jdk/internal/util/Preconditions" "SIOOBE_FORMATTER" "Ljava/util/function/BiFunction;" (.ref (ad 9003)) A U H)
theorem aXt_go {ad : Nat → Nat} {A B : Nat → Prop} {s U : State} {H : Heap} {locs : List Loc} (h : aXt ad A s s.heap) (hS : va_S A s.heap H locs) (hW : s.WarmedH U.vm) (hAB : ∀ q, B q → A q) : aXt ad B U H := by
  obtain ⟨h1, h2, h3, h4⟩ := h
  refine ⟨((h1.kept hS.2.1).moved hW.alike).narrow hAB, vk_R.warm hW h2, ((h3.kept hS.2.1).moved hW.alike).narrow hAB, ?_⟩
  rcases h4 with h | h
  · exact Or.inl (((h.kept hS.2.1).moved hW.alike).narrow hAB)
  · exact Or.inr (((h.kept hS.2.1).moved hW.alike).narrow hAB)
theorem aXt_same {ad : Nat → Nat} {A : Nat → Prop} {u U : State} {H : Heap} (hv : U.vm = u.vm) (h : aXt ad A u H) : aXt ad A U H := by
  obtain ⟨h1, h2, h3, h4⟩ := h
  have ha : u.vm.Alike U.vm := by rw [hv]; exact Vm.Alike.refl _
  refine ⟨h1.moved ha, vk_R.same hv h2, h3.moved ha, ?_⟩
  rcases h4 with h | h
  · exact Or.inl (h.moved ha)
  · exact Or.inr (h.moved ha)
def aCx (m : aM) (d : Nat) (scr : Option aSc) (p : Program) (R : Room) (s : State) (mid : MethodId) (args : Array Value) (c : Code) (cells slots : Nat) (dC : Nat → ClassId) (dI : Nat → Nat → Nat) (cy : Nat → ClassId) (ad : Nat → Nat) (A : Nat → Prop) : Prop :=
  p.tables.exec = Jvm.exec ∧ c.code = m.2.1 ∧ c.maxLocals = m.2.2.1 ∧ s.vm.findClass m.1.cls = some mid.cls ∧ (∀ w ∈ aTb, w.before args s = true) ∧ va_K (dC, dI) vwCl (aTy cy) s ∧ (∀ q, s.heap.size ≤ q → A q) ∧ d ≤ R.frames ∧ 40 * d ≤ R.locals ∧ cells ≤ R.cells ∧ slots ≤ R.slots ∧
  (∀ q, scr = some q → va_X (ad 9000) q.1 q.2.1 s s.heap ∧ ad 9000 < s.heap.size ∧ (∀ a, a < s.heap.size → ¬ A a) ∧ (cells = q.2.2.1 ∧ slots = q.2.2.2) ∧ (room_1.cells ≤ R.cells ∧ room_1.slots ≤ R.slots) ∧ (Jvm.Cond.and given_1 narrow_1).before args s = true ∧ (∀ w ∈ lw_tbl, w.before args s = true)) ∧ va_Nw aNk s ∧ aXt ad A s s.heap
def aH (D : Nat → Bool) (s : State) (dC : Nat → ClassId) (dI : Nat → Nat → Nat) (cy : Nat → ClassId) (ad : Nat → Nat) (A : Nat → Prop) (x : aS) (H : Heap) (locs : List Loc) : Prop :=
  va_P (dC, dI) vwCl (aW D ad cy x) H ∧ va_D A (aW D ad cy x) ∧ va_S A s.heap H locs
/-- a return: which instruction, with what -/
def aRt (m : aM) (pc : Nat) (v : Option Value) : Prop := (decode m.2.1 pc = .ok (.ireturn, 1) ∧ ∃ k, v = some (.int k)) ∨ (decode m.2.1 pc = .ok (.lreturn, 1) ∧ ∃ k, v = some (.long k)) ∨ (decode m.2.1 pc = .ok (.return_, 1) ∧ v = none)
def aTv (ad : Nat → Nat) (lv : List (Nat × Value)) : List (Nat × Value) := lv.map (fun q => (q.1, aT ad q.2))
/-- the machine, at pc with these locals, stack and memory, comes to a return with Q -/
def aV (l : Launch) (m : aM) (d : Nat) (D : Nat → Bool) (scr : Option aSc) (pc : Nat) (lv : List (Nat × Value)) (st : List Value) (x : aS) (Q : Option Value → aS → Prop) : Prop :=
  ∀ (p : Program) (e : Env) (R : Room) (s : State) (mid : MethodId) (args : Array Value) (below : List Frame) (meth : Method) (c : Code) (cells slots : Nat) (Qs : State → Prop) (dC : Nat → ClassId) (dI : Nat → Nat → Nat) (cy : Nat → ClassId) (ad : Nat → Nat) (A : Nat → Prop),
    aCx m d scr p R s mid args c cells slots dC dI cy ad A →
    (∀ (cells' slots' : Nat), (scr = none → cells' = cells ∧ slots' = slots) → cells' ≤ R.cells → slots' ≤ R.slots → ∀ (pcR : Nat) (v : Option Value) (y : aS) (H : Heap) (locs : List Loc) (ls : Array Slot), aRt m pcR v → Q v y → aH D s dC dI cy ad A y H locs → W p l e R s mid args below meth c H locs cells' slots' Qs (F0 mid pcR ls (v.map (aT ad)).toList)) →
    ∀ (H : Heap) (locs : List Loc) (ls : Array Slot), aH D s dC dI cy ad A x H locs → lv_has ls m.2.2.1 (aTv ad lv) → W p l e R s mid args below meth c H locs cells slots Qs (F0 mid pc ls (st.map (aT ad)))
theorem aTv_at {ad : Nat → Nat} {lv : List (Nat × Value)} {ls : Array Slot} {nL i : Nat} {v : Value} (h : lv_has ls nL (aTv ad lv)) (hi : (i, v) ∈ lv) : ls[i]? = some (.val (aT ad v)) :=
  h.2.2 (i, aT ad v) (List.mem_map.mpr ⟨(i, v), hi, rfl⟩)
/-- the locals behind a store at i of a value of one word -/
def aSt (lv : List (Nat × Value)) (i : Nat) (v : Value) : List (Nat × Value) := (i, v) :: lv.filter (fun q => !(q.1 == i) && !(q.1 + 1 == i && q.2.category == 2))
def aSl (lv : List (Nat × Value)) (i : Nat) (v : Value) : List (Nat × Value) := (i, v) :: lv.filter (fun q => !(q.1 == i) && (!(q.1 == i + 1) && !(q.1 + 1 == i && q.2.category == 2)))
theorem aSt_tv (ad : Nat → Nat) (lv : List (Nat × Value)) (i : Nat) (v : Value) : (i, aT ad v) :: (aTv ad lv).filter (fun q => !(q.1 == i) && !(q.1 + 1 == i && q.2.category == 2)) = aTv ad (aSt lv i v) := by
  unfold aTv aSt
  rw [List.map_cons, List.filter_map]
  congr 2
  refine List.filter_congr (fun q _ => ?_)
  simp [Function.comp, aT_cat]
theorem aSl_tv (ad : Nat → Nat) (lv : List (Nat × Value)) (i : Nat) (v : Value) : (i, aT ad v) :: (aTv ad lv).filter (fun q => !(q.1 == i) && (!(q.1 == i + 1) && !(q.1 + 1 == i && q.2.category == 2))) = aTv ad (aSl lv i v) := by
  unfold aTv aSl
  rw [List.map_cons, List.filter_map]
  congr 2
  refine List.filter_congr (fun q _ => ?_)
  simp [Function.comp, aT_cat]
/-- locals by their places -/
def aLk (lv : List (Nat × Value)) (i : Nat) : Option Value := (lv.find? (fun q => q.1 == i)).map (fun q => q.2)
theorem aLk_mem {lv : List (Nat × Value)} {i : Nat} {v : Value} (h : aLk lv i = some v) : (i, v) ∈ lv := by
  unfold aLk at h
  cases hf : lv.find? (fun q => q.1 == i) with
  | none => rw [hf] at h; cases h
  | some q =>
    rw [hf] at h
    have h1 : q.1 = i := by simpa using List.find?_some hf
    have h2 : q.2 = v := Option.some.inj h
    subst h1; subst h2
    exact List.mem_of_find?_eq_some hf
section aRules
variable {l : Launch} {m : aM} {d : Nat} {D : Nat → Bool} {scr : Option aSc} {pc : Nat} {lv : List (Nat × Value)} {st : List Value} {x : aS} {Q : Option Value → aS → Prop}
theorem a_iconst {n : Int} {v : Int32} (hd : decode m.2.1 pc = .ok (.iconst n, 1)) (hv : Int32.ofInt n = v) (k : aV l m d D scr (pc + 1) lv (.int v :: st) x Q) : aV l m d D scr pc lv st x Q := by
  intro p e R s mid args below meth c cells slots Qs dC dI cy ad A C F H locs ls hH hl
  exact lv_iconst C.1 C.2.1 hd hv (k p e R s mid args below meth c cells slots Qs dC dI cy ad A C F H locs ls hH hl)
theorem a_bipush {n : Int} {v : Int32} (hd : decode m.2.1 pc = .ok (.bipush n, 2)) (hv : (Int8.ofInt n).toInt32 = v) (k : aV l m d D scr (pc + 2) lv (.int v :: st) x Q) : aV l m d D scr pc lv st x Q := by
  intro p e R s mid args below meth c cells slots Qs dC dI cy ad A C F H locs ls hH hl
  exact lv_bipush C.1 C.2.1 hd hv (k p e R s mid args below meth c cells slots Qs dC dI cy ad A C F H locs ls hH hl)
theorem a_sipush {n : Int} {v : Int32} (hd : decode m.2.1 pc = .ok (.sipush n, 3)) (hv : (Int16.ofInt n).toInt32 = v) (k : aV l m d D scr (pc + 3) lv (.int v :: st) x Q) : aV l m d D scr pc lv st x Q := by
  intro p e R s mid args below meth c cells slots Qs dC dI cy ad A C F H locs ls hH hl
  exact lv_sipush C.1 C.2.1 hd hv (k p e R s mid args below meth c cells slots Qs dC dI cy ad A C F H locs ls hH hl)
theorem a_lconst {n : Fin 2} {v : Int64} (hd : decode m.2.1 pc = .ok (.lconst n, 1)) (hv : Int64.ofNat (n : Nat) = v) (k : aV l m d D scr (pc + 1) lv (.long v :: st) x Q) : aV l m d D scr pc lv st x Q := by
  intro p e R s mid args below meth c cells slots Qs dC dI cy ad A C F H locs ls hH hl
  exact lv_lconst C.1 C.2.1 hd hv (k p e R s mid args below meth c cells slots Qs dC dI cy ad A C F H locs ls hH hl)
theorem a_ldc {i : Nat} {v : Int32} (hd : decode m.2.1 pc = .ok (.ldc i, 2)) (hw : Cond.constant m.1.cls i v ∈ aTb) (k : aV l m d D scr (pc + 2) lv (.int v :: st) x Q) : aV l m d D scr pc lv st x Q := by
  intro p e R s mid args below meth c cells slots Qs dC dI cy ad A C F H locs ls hH hl
  exact lv_ldc C.1 C.2.1 C.2.2.2.1 (C.2.2.2.2.1 _ hw) hd (k p e R s mid args below meth c cells slots Qs dC dI cy ad A C F H locs ls hH hl)
theorem a_ldcw {i : Nat} {v : Int32} (hd : decode m.2.1 pc = .ok (.ldc_w i, 3)) (hw : Cond.constant m.1.cls i v ∈ aTb) (k : aV l m d D scr (pc + 3) lv (.int v :: st) x Q) : aV l m d D scr pc lv st x Q := by
  intro p e R s mid args below meth c cells slots Qs dC dI cy ad A C F H locs ls hH hl
  exact lv_ldcw C.1 C.2.1 C.2.2.2.1 (C.2.2.2.2.1 _ hw) hd (k p e R s mid args below meth c cells slots Qs dC dI cy ad A C F H locs ls hH hl)
theorem a_ldc2 {i : Nat} {v : Int64} (hd : decode m.2.1 pc = .ok (.ldc2_w i, 3)) (hw : Cond.constantLong m.1.cls i v ∈ aTb) (k : aV l m d D scr (pc + 3) lv (.long v :: st) x Q) : aV l m d D scr pc lv st x Q := by
  intro p e R s mid args below meth c cells slots Qs dC dI cy ad A C F H locs ls hH hl
  exact lv_ldc2 C.1 C.2.1 C.2.2.2.1 (C.2.2.2.2.1 _ hw) hd (k p e R s mid args below meth c cells slots Qs dC dI cy ad A C F H locs ls hH hl)
theorem a_iload_n {n : Fin 4} {i : Nat} {v : Int32} (hd : decode m.2.1 pc = .ok (.iload_n n, 1)) (hi : (n : Nat) = i) (hv : aLk lv i = some (Value.int v)) (k : aV l m d D scr (pc + 1) lv (.int v :: st) x Q) : aV l m d D scr pc lv st x Q := by
  intro p e R s mid args below meth c cells slots Qs dC dI cy ad A C F H locs ls hH hl
  exact lv_iload_n C.1 C.2.1 hd hi (aTv_at hl (aLk_mem hv)) (k p e R s mid args below meth c cells slots Qs dC dI cy ad A C F H locs ls hH hl)
theorem a_iload {i : Nat} {v : Int32} (hd : decode m.2.1 pc = .ok (.iload i, 2)) (hv : aLk lv i = some (Value.int v)) (k : aV l m d D scr (pc + 2) lv (.int v :: st) x Q) : aV l m d D scr pc lv st x Q := by
  intro p e R s mid args below meth c cells slots Qs dC dI cy ad A C F H locs ls hH hl
  exact lv_iload C.1 C.2.1 hd (aTv_at hl (aLk_mem hv)) (k p e R s mid args below meth c cells slots Qs dC dI cy ad A C F H locs ls hH hl)
theorem a_lload_n {n : Fin 4} {i : Nat} {v : Int64} (hd : decode m.2.1 pc = .ok (.lload_n n, 1)) (hi : (n : Nat) = i) (hv : aLk lv i = some (Value.long v)) (k : aV l m d D scr (pc + 1) lv (.long v :: st) x Q) : aV l m d D scr pc lv st x Q := by
  intro p e R s mid args below meth c cells slots Qs dC dI cy ad A C F H locs ls hH hl
  exact lv_lload_n C.1 C.2.1 hd hi (aTv_at hl (aLk_mem hv)) (k p e R s mid args below meth c cells slots Qs dC dI cy ad A C F H locs ls hH hl)
theorem a_lload {i : Nat} {v : Int64} (hd : decode m.2.1 pc = .ok (.lload i, 2)) (hv : aLk lv i = some (Value.long v)) (k : aV l m d D scr (pc + 2) lv (.long v :: st) x Q) : aV l m d D scr pc lv st x Q := by
  intro p e R s mid args below meth c cells slots Qs dC dI cy ad A C F H locs ls hH hl
  exact lv_lload C.1 C.2.1 hd (aTv_at hl (aLk_mem hv)) (k p e R s mid args below meth c cells slots Qs dC dI cy ad A C F H locs ls hH hl)
theorem a_aload_n {n : Fin 4} {i : Nat} {v : Nat} (hd : decode m.2.1 pc = .ok (.aload_n n, 1)) (hi : (n : Nat) = i) (hv : aLk lv i = some (Value.ref v)) (k : aV l m d D scr (pc + 1) lv (.ref v :: st) x Q) : aV l m d D scr pc lv st x Q := by
  intro p e R s mid args below meth c cells slots Qs dC dI cy ad A C F H locs ls hH hl
  exact lv_aload_n C.1 C.2.1 hd hi (aTv_at hl (aLk_mem hv)) (k p e R s mid args below meth c cells slots Qs dC dI cy ad A C F H locs ls hH hl)
theorem a_aload {i : Nat} {v : Nat} (hd : decode m.2.1 pc = .ok (.aload i, 2)) (hv : aLk lv i = some (Value.ref v)) (k : aV l m d D scr (pc + 2) lv (.ref v :: st) x Q) : aV l m d D scr pc lv st x Q := by
  intro p e R s mid args below meth c cells slots Qs dC dI cy ad A C F H locs ls hH hl
  exact lv_aload C.1 C.2.1 hd (aTv_at hl (aLk_mem hv)) (k p e R s mid args below meth c cells slots Qs dC dI cy ad A C F H locs ls hH hl)
theorem a_istore_n {n : Fin 4} {i : Nat} {v : Int32} (hd : decode m.2.1 pc = .ok (.istore_n n, 1)) (hi : (n : Nat) = i) (hn : i < m.2.2.1) (k : aV l m d D scr (pc + 1) (aSt lv i (.int v)) st x Q) : aV l m d D scr pc lv (.int v :: st) x Q := by
  intro p e R s mid args below meth c cells slots Qs dC dI cy ad A C F H locs ls hH hl
  exact lv_istore_n C.1 C.2.1 hd hi hl hn (aSt_tv ad lv i (.int v)) (fun ls hl => (k p e R s mid args below meth c cells slots Qs dC dI cy ad A C F H locs ls hH hl))
theorem a_istore {i : Nat} {v : Int32} (hd : decode m.2.1 pc = .ok (.istore i, 2)) (hn : i < m.2.2.1) (k : aV l m d D scr (pc + 2) (aSt lv i (.int v)) st x Q) : aV l m d D scr pc lv (.int v :: st) x Q := by
  intro p e R s mid args below meth c cells slots Qs dC dI cy ad A C F H locs ls hH hl
  exact lv_istore C.1 C.2.1 hd hl hn (aSt_tv ad lv i (.int v)) (fun ls hl => (k p e R s mid args below meth c cells slots Qs dC dI cy ad A C F H locs ls hH hl))
theorem a_lstore_n {n : Fin 4} {i : Nat} {v : Int64} (hd : decode m.2.1 pc = .ok (.lstore_n n, 1)) (hi : (n : Nat) = i) (hn : i + 1 < m.2.2.1) (k : aV l m d D scr (pc + 1) (aSl lv i (.long v)) st x Q) : aV l m d D scr pc lv (.long v :: st) x Q := by
  intro p e R s mid args below meth c cells slots Qs dC dI cy ad A C F H locs ls hH hl
  exact lv_lstore_n C.1 C.2.1 hd hi hl hn (aSl_tv ad lv i (.long v)) (fun ls hl => (k p e R s mid args below meth c cells slots Qs dC dI cy ad A C F H locs ls hH hl))
theorem a_lstore {i : Nat} {v : Int64} (hd : decode m.2.1 pc = .ok (.lstore i, 2)) (hn : i + 1 < m.2.2.1) (k : aV l m d D scr (pc + 2) (aSl lv i (.long v)) st x Q) : aV l m d D scr pc lv (.long v :: st) x Q := by
  intro p e R s mid args below meth c cells slots Qs dC dI cy ad A C F H locs ls hH hl
  exact lv_lstore C.1 C.2.1 hd hl hn (aSl_tv ad lv i (.long v)) (fun ls hl => (k p e R s mid args below meth c cells slots Qs dC dI cy ad A C F H locs ls hH hl))
theorem a_astore_n {n : Fin 4} {i : Nat} {v : Nat} (hd : decode m.2.1 pc = .ok (.astore_n n, 1)) (hi : (n : Nat) = i) (hn : i < m.2.2.1) (k : aV l m d D scr (pc + 1) (aSt lv i (.ref v)) st x Q) : aV l m d D scr pc lv (.ref v :: st) x Q := by
  intro p e R s mid args below meth c cells slots Qs dC dI cy ad A C F H locs ls hH hl
  exact lv_astore_n C.1 C.2.1 hd hi hl hn (aSt_tv ad lv i (.ref v)) (fun ls hl => (k p e R s mid args below meth c cells slots Qs dC dI cy ad A C F H locs ls hH hl))
theorem a_astore {i : Nat} {v : Nat} (hd : decode m.2.1 pc = .ok (.astore i, 2)) (hn : i < m.2.2.1) (k : aV l m d D scr (pc + 2) (aSt lv i (.ref v)) st x Q) : aV l m d D scr pc lv (.ref v :: st) x Q := by
  intro p e R s mid args below meth c cells slots Qs dC dI cy ad A C F H locs ls hH hl
  exact lv_astore C.1 C.2.1 hd hl hn (aSt_tv ad lv i (.ref v)) (fun ls hl => (k p e R s mid args below meth c cells slots Qs dC dI cy ad A C F H locs ls hH hl))
theorem a_iinc {i : Nat} {n : Int} {u v : Int32} (hd : decode m.2.1 pc = .ok (.iinc i n, 3)) (hu : aLk lv i = some (Value.int u)) (hv : u + Int32.ofInt n = v) (hn : i < m.2.2.1) (k : aV l m d D scr (pc + 3) (aSt lv i (.int v)) st x Q) : aV l m d D scr pc lv st x Q := by
  intro p e R s mid args below meth c cells slots Qs dC dI cy ad A C F H locs ls hH hl
  obtain ⟨k0, hk0⟩ := List.getElem?_of_mem (List.mem_map.mpr ⟨(i, Value.int u), aLk_mem hu, rfl⟩ : (i, Value.int u) ∈ aTv ad lv)
  exact lv_iinc C.1 C.2.1 hd hl hk0 hv hn (aSt_tv ad lv i (.int v)) (fun ls hl => (k p e R s mid args below meth c cells slots Qs dC dI cy ad A C F H locs ls hH hl))
theorem a_iincK {i : Nat} {n : Int} {v u : Int32} (hd : decode m.2.1 pc = .ok (.iinc i n, 3)) (hv : aLk lv i = some (Value.int v)) (hu : Int32.ofInt n = u) (hn : i < m.2.2.1) (k : aV l m d D scr (pc + 3) (aSt lv i (.int (v + u))) st x Q) : aV l m d D scr pc lv st x Q := a_iinc hd hv (by rw [hu]) hn k
theorem a_iadd {a b : Int32} (hd : decode m.2.1 pc = .ok (.iadd, 1))  (k : aV l m d D scr (pc + 1) lv (.int (a + b) :: st) x Q) : aV l m d D scr pc lv (.int b :: .int a :: st) x Q := by
  intro p e R s mid args below meth c cells slots Qs dC dI cy ad A C F H locs ls hH hl
  exact lv_iadd C.1 C.2.1 hd (k p e R s mid args below meth c cells slots Qs dC dI cy ad A C F H locs ls hH hl)
theorem a_isub {a b : Int32} (hd : decode m.2.1 pc = .ok (.isub, 1))  (k : aV l m d D scr (pc + 1) lv (.int (a - b) :: st) x Q) : aV l m d D scr pc lv (.int b :: .int a :: st) x Q := by
  intro p e R s mid args below meth c cells slots Qs dC dI cy ad A C F H locs ls hH hl
  exact lv_isub C.1 C.2.1 hd (k p e R s mid args below meth c cells slots Qs dC dI cy ad A C F H locs ls hH hl)
theorem a_imul {a b : Int32} (hd : decode m.2.1 pc = .ok (.imul, 1))  (k : aV l m d D scr (pc + 1) lv (.int (a * b) :: st) x Q) : aV l m d D scr pc lv (.int b :: .int a :: st) x Q := by
  intro p e R s mid args below meth c cells slots Qs dC dI cy ad A C F H locs ls hH hl
  exact lv_imul C.1 C.2.1 hd (k p e R s mid args below meth c cells slots Qs dC dI cy ad A C F H locs ls hH hl)
theorem a_iand {a b : Int32} (hd : decode m.2.1 pc = .ok (.iand, 1))  (k : aV l m d D scr (pc + 1) lv (.int (a &&& b) :: st) x Q) : aV l m d D scr pc lv (.int b :: .int a :: st) x Q := by
  intro p e R s mid args below meth c cells slots Qs dC dI cy ad A C F H locs ls hH hl
  exact lv_iand C.1 C.2.1 hd (k p e R s mid args below meth c cells slots Qs dC dI cy ad A C F H locs ls hH hl)
theorem a_ior {a b : Int32} (hd : decode m.2.1 pc = .ok (.ior, 1))  (k : aV l m d D scr (pc + 1) lv (.int (a ||| b) :: st) x Q) : aV l m d D scr pc lv (.int b :: .int a :: st) x Q := by
  intro p e R s mid args below meth c cells slots Qs dC dI cy ad A C F H locs ls hH hl
  exact lv_ior C.1 C.2.1 hd (k p e R s mid args below meth c cells slots Qs dC dI cy ad A C F H locs ls hH hl)
theorem a_ixor {a b : Int32} (hd : decode m.2.1 pc = .ok (.ixor, 1))  (k : aV l m d D scr (pc + 1) lv (.int (a ^^^ b) :: st) x Q) : aV l m d D scr pc lv (.int b :: .int a :: st) x Q := by
  intro p e R s mid args below meth c cells slots Qs dC dI cy ad A C F H locs ls hH hl
  exact lv_ixor C.1 C.2.1 hd (k p e R s mid args below meth c cells slots Qs dC dI cy ad A C F H locs ls hH hl)
theorem a_ishl {a b : Int32} (hd : decode m.2.1 pc = .ok (.ishl, 1))  (k : aV l m d D scr (pc + 1) lv (.int (a <<< (b &&& 31)) :: st) x Q) : aV l m d D scr pc lv (.int b :: .int a :: st) x Q := by
  intro p e R s mid args below meth c cells slots Qs dC dI cy ad A C F H locs ls hH hl
  exact lv_ishl C.1 C.2.1 hd (k p e R s mid args below meth c cells slots Qs dC dI cy ad A C F H locs ls hH hl)
theorem a_ishr {a b : Int32} (hd : decode m.2.1 pc = .ok (.ishr, 1))  (k : aV l m d D scr (pc + 1) lv (.int (a >>> (b &&& 31)) :: st) x Q) : aV l m d D scr pc lv (.int b :: .int a :: st) x Q := by
  intro p e R s mid args below meth c cells slots Qs dC dI cy ad A C F H locs ls hH hl
  exact lv_ishr C.1 C.2.1 hd (k p e R s mid args below meth c cells slots Qs dC dI cy ad A C F H locs ls hH hl)
theorem a_idiv {a b : Int32} (hd : decode m.2.1 pc = .ok (.idiv, 1)) (hne : ¬ b = 0) (k : aV l m d D scr (pc + 1) lv (.int (a / b) :: st) x Q) : aV l m d D scr pc lv (.int b :: .int a :: st) x Q := by
  intro p e R s mid args below meth c cells slots Qs dC dI cy ad A C F H locs ls hH hl
  exact lv_idiv C.1 C.2.1 hd hne (k p e R s mid args below meth c cells slots Qs dC dI cy ad A C F H locs ls hH hl)
theorem a_irem {a b : Int32} (hd : decode m.2.1 pc = .ok (.irem, 1)) (hne : ¬ b = 0) (k : aV l m d D scr (pc + 1) lv (.int (a - a / b * b) :: st) x Q) : aV l m d D scr pc lv (.int b :: .int a :: st) x Q := by
  intro p e R s mid args below meth c cells slots Qs dC dI cy ad A C F H locs ls hH hl
  exact lv_irem C.1 C.2.1 hd hne (k p e R s mid args below meth c cells slots Qs dC dI cy ad A C F H locs ls hH hl)
theorem a_ladd {a b : Int64} (hd : decode m.2.1 pc = .ok (.ladd, 1))  (k : aV l m d D scr (pc + 1) lv (.long (a + b) :: st) x Q) : aV l m d D scr pc lv (.long b :: .long a :: st) x Q := by
  intro p e R s mid args below meth c cells slots Qs dC dI cy ad A C F H locs ls hH hl
  exact lv_ladd C.1 C.2.1 hd (k p e R s mid args below meth c cells slots Qs dC dI cy ad A C F H locs ls hH hl)
theorem a_lsub {a b : Int64} (hd : decode m.2.1 pc = .ok (.lsub, 1))  (k : aV l m d D scr (pc + 1) lv (.long (a - b) :: st) x Q) : aV l m d D scr pc lv (.long b :: .long a :: st) x Q := by
  intro p e R s mid args below meth c cells slots Qs dC dI cy ad A C F H locs ls hH hl
  exact lv_lsub C.1 C.2.1 hd (k p e R s mid args below meth c cells slots Qs dC dI cy ad A C F H locs ls hH hl)
theorem a_lmul {a b : Int64} (hd : decode m.2.1 pc = .ok (.lmul, 1))  (k : aV l m d D scr (pc + 1) lv (.long (a * b) :: st) x Q) : aV l m d D scr pc lv (.long b :: .long a :: st) x Q := by
  intro p e R s mid args below meth c cells slots Qs dC dI cy ad A C F H locs ls hH hl
  exact lv_lmul C.1 C.2.1 hd (k p e R s mid args below meth c cells slots Qs dC dI cy ad A C F H locs ls hH hl)
theorem a_land {a b : Int64} (hd : decode m.2.1 pc = .ok (.land, 1))  (k : aV l m d D scr (pc + 1) lv (.long (a &&& b) :: st) x Q) : aV l m d D scr pc lv (.long b :: .long a :: st) x Q := by
  intro p e R s mid args below meth c cells slots Qs dC dI cy ad A C F H locs ls hH hl
  exact lv_land C.1 C.2.1 hd (k p e R s mid args below meth c cells slots Qs dC dI cy ad A C F H locs ls hH hl)
theorem a_ldiv {a b : Int64} (hd : decode m.2.1 pc = .ok (.ldiv, 1)) (hne : ¬ b = 0) (k : aV l m d D scr (pc + 1) lv (.long (a / b) :: st) x Q) : aV l m d D scr pc lv (.long b :: .long a :: st) x Q := by
  intro p e R s mid args below meth c cells slots Qs dC dI cy ad A C F H locs ls hH hl
  exact lv_ldiv C.1 C.2.1 hd hne (k p e R s mid args below meth c cells slots Qs dC dI cy ad A C F H locs ls hH hl)
theorem a_lrem {a b : Int64} (hd : decode m.2.1 pc = .ok (.lrem, 1)) (hne : ¬ b = 0) (k : aV l m d D scr (pc + 1) lv (.long (a - a / b * b) :: st) x Q) : aV l m d D scr pc lv (.long b :: .long a :: st) x Q := by
  intro p e R s mid args below meth c cells slots Qs dC dI cy ad A C F H locs ls hH hl
  exact lv_lrem C.1 C.2.1 hd hne (k p e R s mid args below meth c cells slots Qs dC dI cy ad A C F H locs ls hH hl)
theorem a_ineg {a : Int32} (hd : decode m.2.1 pc = .ok (.ineg, 1))  (k : aV l m d D scr (pc + 1) lv (.int (-a) :: st) x Q) : aV l m d D scr pc lv (.int a :: st) x Q := by
  intro p e R s mid args below meth c cells slots Qs dC dI cy ad A C F H locs ls hH hl
  exact lv_ineg C.1 C.2.1 hd (k p e R s mid args below meth c cells slots Qs dC dI cy ad A C F H locs ls hH hl)
theorem a_lneg {a : Int64} (hd : decode m.2.1 pc = .ok (.lneg, 1))  (k : aV l m d D scr (pc + 1) lv (.long (-a) :: st) x Q) : aV l m d D scr pc lv (.long a :: st) x Q := by
  intro p e R s mid args below meth c cells slots Qs dC dI cy ad A C F H locs ls hH hl
  exact lv_lneg C.1 C.2.1 hd (k p e R s mid args below meth c cells slots Qs dC dI cy ad A C F H locs ls hH hl)
theorem a_i2l {a : Int32} (hd : decode m.2.1 pc = .ok (.i2l, 1))  (k : aV l m d D scr (pc + 1) lv (.long a.toInt64 :: st) x Q) : aV l m d D scr pc lv (.int a :: st) x Q := by
  intro p e R s mid args below meth c cells slots Qs dC dI cy ad A C F H locs ls hH hl
  exact lv_i2l C.1 C.2.1 hd rfl (k p e R s mid args below meth c cells slots Qs dC dI cy ad A C F H locs ls hH hl)
theorem a_l2i {a : Int64} (hd : decode m.2.1 pc = .ok (.l2i, 1))  (k : aV l m d D scr (pc + 1) lv (.int a.toInt32 :: st) x Q) : aV l m d D scr pc lv (.long a :: st) x Q := by
  intro p e R s mid args below meth c cells slots Qs dC dI cy ad A C F H locs ls hH hl
  exact lv_l2i C.1 C.2.1 hd rfl (k p e R s mid args below meth c cells slots Qs dC dI cy ad A C F H locs ls hH hl)
theorem a_i2b {a : Int32} (hd : decode m.2.1 pc = .ok (.i2b, 1))  (k : aV l m d D scr (pc + 1) lv (.int a.toInt8.toInt32 :: st) x Q) : aV l m d D scr pc lv (.int a :: st) x Q := by
  intro p e R s mid args below meth c cells slots Qs dC dI cy ad A C F H locs ls hH hl
  exact lv_i2b C.1 C.2.1 hd rfl (k p e R s mid args below meth c cells slots Qs dC dI cy ad A C F H locs ls hH hl)
theorem a_iushr {a b : Int32} (hd : decode m.2.1 pc = .ok (.iushr, 1))  (k : aV l m d D scr (pc + 1) lv (.int (a.toUInt32 >>> (b.toUInt32 &&& Int32.toUInt32 31)).toInt32 :: st) x Q) : aV l m d D scr pc lv (.int b :: .int a :: st) x Q := by
  intro p e R s mid args below meth c cells slots Qs dC dI cy ad A C F H locs ls hH hl
  exact lv_iushr C.1 C.2.1 hd rfl (k p e R s mid args below meth c cells slots Qs dC dI cy ad A C F H locs ls hH hl)
theorem a_lcmp {a b : Int64} (hd : decode m.2.1 pc = .ok (.lcmp, 1))  (k : aV l m d D scr (pc + 1) lv (.int (lg_cmp a b) :: st) x Q) : aV l m d D scr pc lv (.long b :: .long a :: st) x Q := by
  intro p e R s mid args below meth c cells slots Qs dC dI cy ad A C F H locs ls hH hl
  exact W.lcmp C.1 C.2.1 hd (k p e R s mid args below meth c cells slots Qs dC dI cy ad A C F H locs ls hH hl)
theorem a_dup {v : Value} (hd : decode m.2.1 pc = .ok (.dup, 1)) (hc : v.category = 1) (k : aV l m d D scr (pc + 1) lv (v :: v :: st) x Q) : aV l m d D scr pc lv (v :: st) x Q := by
  intro p e R s mid args below meth c cells slots Qs dC dI cy ad A C F H locs ls hH hl
  exact lv_dup C.1 C.2.1 hd ((aT_cat ad v).trans hc) (k p e R s mid args below meth c cells slots Qs dC dI cy ad A C F H locs ls hH hl)
theorem a_pop {v : Value} (hd : decode m.2.1 pc = .ok (.pop, 1)) (hc : v.category = 1) (k : aV l m d D scr (pc + 1) lv st x Q) : aV l m d D scr pc lv (v :: st) x Q := by
  intro p e R s mid args below meth c cells slots Qs dC dI cy ad A C F H locs ls hH hl
  exact lv_pop C.1 C.2.1 hd ((aT_cat ad v).trans hc) (k p e R s mid args below meth c cells slots Qs dC dI cy ad A C F H locs ls hH hl)
theorem a_dup2_11 {v u : Value} (hd : decode m.2.1 pc = .ok (.dup2, 1)) (hc : v.category = 1) (hu : u.category = 1) (k : aV l m d D scr (pc + 1) lv (v :: u :: v :: u :: st) x Q) : aV l m d D scr pc lv (v :: u :: st) x Q := by
  intro p e R s mid args below meth c cells slots Qs dC dI cy ad A C F H locs ls hH hl
  exact lv_dup2_11 C.1 C.2.1 hd ((aT_cat ad v).trans hc) ((aT_cat ad u).trans hu) (k p e R s mid args below meth c cells slots Qs dC dI cy ad A C F H locs ls hH hl)
theorem a_dup2_2 {v : Value} (hd : decode m.2.1 pc = .ok (.dup2, 1)) (hc : v.category = 2) (k : aV l m d D scr (pc + 1) lv (v :: v :: st) x Q) : aV l m d D scr pc lv (v :: st) x Q := by
  intro p e R s mid args below meth c cells slots Qs dC dI cy ad A C F H locs ls hH hl
  exact lv_dup2_2 C.1 C.2.1 hd ((aT_cat ad v).trans hc) (k p e R s mid args below meth c cells slots Qs dC dI cy ad A C F H locs ls hH hl)
theorem a_if_eq {a : Int32} {off : Int} {tg : Nat} (hd : decode m.2.1 pc = .ok (.ifCond .eq off, 3)) (ht : (pc : Int) + off = (tg : Int)) (kt : a = 0 → aV l m d D scr tg lv st x Q) (kf : ¬ (a = 0) → aV l m d D scr (pc + 3) lv st x Q) : aV l m d D scr pc lv (.int a :: st) x Q := by
  intro p e R s mid args below meth c cells slots Qs dC dI cy ad A C F H locs ls hH hl
  exact lv_if_eq C.1 C.2.1 hd ht (fun h => (kt h p e R s mid args below meth c cells slots Qs dC dI cy ad A C F H locs ls hH hl)) (fun h => (kf h p e R s mid args below meth c cells slots Qs dC dI cy ad A C F H locs ls hH hl))
theorem a_icmp_eq {a b : Int32} {off : Int} {tg : Nat} (hd : decode m.2.1 pc = .ok (.if_icmp .eq off, 3)) (ht : (pc : Int) + off = (tg : Int)) (kt : a = b → aV l m d D scr tg lv st x Q) (kf : ¬ (a = b) → aV l m d D scr (pc + 3) lv st x Q) : aV l m d D scr pc lv (.int b :: .int a :: st) x Q := by
  intro p e R s mid args below meth c cells slots Qs dC dI cy ad A C F H locs ls hH hl
  exact lv_icmp_eq C.1 C.2.1 hd ht (fun h => (kt h p e R s mid args below meth c cells slots Qs dC dI cy ad A C F H locs ls hH hl)) (fun h => (kf h p e R s mid args below meth c cells slots Qs dC dI cy ad A C F H locs ls hH hl))
theorem a_if_ne {a : Int32} {off : Int} {tg : Nat} (hd : decode m.2.1 pc = .ok (.ifCond .ne off, 3)) (ht : (pc : Int) + off = (tg : Int)) (kt : ¬ a = 0 → aV l m d D scr tg lv st x Q) (kf : a = 0 → aV l m d D scr (pc + 3) lv st x Q) : aV l m d D scr pc lv (.int a :: st) x Q := by
  intro p e R s mid args below meth c cells slots Qs dC dI cy ad A C F H locs ls hH hl
  exact lv_if_ne C.1 C.2.1 hd ht (fun h => (kt h p e R s mid args below meth c cells slots Qs dC dI cy ad A C F H locs ls hH hl)) (fun h => (kf h p e R s mid args below meth c cells slots Qs dC dI cy ad A C F H locs ls hH hl))
theorem a_icmp_ne {a b : Int32} {off : Int} {tg : Nat} (hd : decode m.2.1 pc = .ok (.if_icmp .ne off, 3)) (ht : (pc : Int) + off = (tg : Int)) (kt : ¬ a = b → aV l m d D scr tg lv st x Q) (kf : a = b → aV l m d D scr (pc + 3) lv st x Q) : aV l m d D scr pc lv (.int b :: .int a :: st) x Q := by
  intro p e R s mid args below meth c cells slots Qs dC dI cy ad A C F H locs ls hH hl
  exact lv_icmp_ne C.1 C.2.1 hd ht (fun h => (kt h p e R s mid args below meth c cells slots Qs dC dI cy ad A C F H locs ls hH hl)) (fun h => (kf h p e R s mid args below meth c cells slots Qs dC dI cy ad A C F H locs ls hH hl))
theorem a_if_lt {a : Int32} {off : Int} {tg : Nat} (hd : decode m.2.1 pc = .ok (.ifCond .lt off, 3)) (ht : (pc : Int) + off = (tg : Int)) (kt : a < 0 → aV l m d D scr tg lv st x Q) (kf : ¬ (a < 0) → aV l m d D scr (pc + 3) lv st x Q) : aV l m d D scr pc lv (.int a :: st) x Q := by
  intro p e R s mid args below meth c cells slots Qs dC dI cy ad A C F H locs ls hH hl
  exact lv_if_lt C.1 C.2.1 hd ht (fun h => (kt h p e R s mid args below meth c cells slots Qs dC dI cy ad A C F H locs ls hH hl)) (fun h => (kf h p e R s mid args below meth c cells slots Qs dC dI cy ad A C F H locs ls hH hl))
theorem a_icmp_lt {a b : Int32} {off : Int} {tg : Nat} (hd : decode m.2.1 pc = .ok (.if_icmp .lt off, 3)) (ht : (pc : Int) + off = (tg : Int)) (kt : a < b → aV l m d D scr tg lv st x Q) (kf : ¬ (a < b) → aV l m d D scr (pc + 3) lv st x Q) : aV l m d D scr pc lv (.int b :: .int a :: st) x Q := by
  intro p e R s mid args below meth c cells slots Qs dC dI cy ad A C F H locs ls hH hl
  exact lv_icmp_lt C.1 C.2.1 hd ht (fun h => (kt h p e R s mid args below meth c cells slots Qs dC dI cy ad A C F H locs ls hH hl)) (fun h => (kf h p e R s mid args below meth c cells slots Qs dC dI cy ad A C F H locs ls hH hl))
theorem a_if_ge {a : Int32} {off : Int} {tg : Nat} (hd : decode m.2.1 pc = .ok (.ifCond .ge off, 3)) (ht : (pc : Int) + off = (tg : Int)) (kt : 0 ≤ a → aV l m d D scr tg lv st x Q) (kf : ¬ (0 ≤ a) → aV l m d D scr (pc + 3) lv st x Q) : aV l m d D scr pc lv (.int a :: st) x Q := by
  intro p e R s mid args below meth c cells slots Qs dC dI cy ad A C F H locs ls hH hl
  exact lv_if_ge C.1 C.2.1 hd ht (fun h => (kt h p e R s mid args below meth c cells slots Qs dC dI cy ad A C F H locs ls hH hl)) (fun h => (kf h p e R s mid args below meth c cells slots Qs dC dI cy ad A C F H locs ls hH hl))
theorem a_icmp_ge {a b : Int32} {off : Int} {tg : Nat} (hd : decode m.2.1 pc = .ok (.if_icmp .ge off, 3)) (ht : (pc : Int) + off = (tg : Int)) (kt : b ≤ a → aV l m d D scr tg lv st x Q) (kf : ¬ (b ≤ a) → aV l m d D scr (pc + 3) lv st x Q) : aV l m d D scr pc lv (.int b :: .int a :: st) x Q := by
  intro p e R s mid args below meth c cells slots Qs dC dI cy ad A C F H locs ls hH hl
  exact lv_icmp_ge C.1 C.2.1 hd ht (fun h => (kt h p e R s mid args below meth c cells slots Qs dC dI cy ad A C F H locs ls hH hl)) (fun h => (kf h p e R s mid args below meth c cells slots Qs dC dI cy ad A C F H locs ls hH hl))
theorem a_if_gt {a : Int32} {off : Int} {tg : Nat} (hd : decode m.2.1 pc = .ok (.ifCond .gt off, 3)) (ht : (pc : Int) + off = (tg : Int)) (kt : 0 < a → aV l m d D scr tg lv st x Q) (kf : ¬ (0 < a) → aV l m d D scr (pc + 3) lv st x Q) : aV l m d D scr pc lv (.int a :: st) x Q := by
  intro p e R s mid args below meth c cells slots Qs dC dI cy ad A C F H locs ls hH hl
  exact lv_if_gt C.1 C.2.1 hd ht (fun h => (kt h p e R s mid args below meth c cells slots Qs dC dI cy ad A C F H locs ls hH hl)) (fun h => (kf h p e R s mid args below meth c cells slots Qs dC dI cy ad A C F H locs ls hH hl))
theorem a_icmp_gt {a b : Int32} {off : Int} {tg : Nat} (hd : decode m.2.1 pc = .ok (.if_icmp .gt off, 3)) (ht : (pc : Int) + off = (tg : Int)) (kt : b < a → aV l m d D scr tg lv st x Q) (kf : ¬ (b < a) → aV l m d D scr (pc + 3) lv st x Q) : aV l m d D scr pc lv (.int b :: .int a :: st) x Q := by
  intro p e R s mid args below meth c cells slots Qs dC dI cy ad A C F H locs ls hH hl
  exact lv_icmp_gt C.1 C.2.1 hd ht (fun h => (kt h p e R s mid args below meth c cells slots Qs dC dI cy ad A C F H locs ls hH hl)) (fun h => (kf h p e R s mid args below meth c cells slots Qs dC dI cy ad A C F H locs ls hH hl))
theorem a_if_le {a : Int32} {off : Int} {tg : Nat} (hd : decode m.2.1 pc = .ok (.ifCond .le off, 3)) (ht : (pc : Int) + off = (tg : Int)) (kt : a ≤ 0 → aV l m d D scr tg lv st x Q) (kf : ¬ (a ≤ 0) → aV l m d D scr (pc + 3) lv st x Q) : aV l m d D scr pc lv (.int a :: st) x Q := by
  intro p e R s mid args below meth c cells slots Qs dC dI cy ad A C F H locs ls hH hl
  exact lv_if_le C.1 C.2.1 hd ht (fun h => (kt h p e R s mid args below meth c cells slots Qs dC dI cy ad A C F H locs ls hH hl)) (fun h => (kf h p e R s mid args below meth c cells slots Qs dC dI cy ad A C F H locs ls hH hl))
theorem a_icmp_le {a b : Int32} {off : Int} {tg : Nat} (hd : decode m.2.1 pc = .ok (.if_icmp .le off, 3)) (ht : (pc : Int) + off = (tg : Int)) (kt : a ≤ b → aV l m d D scr tg lv st x Q) (kf : ¬ (a ≤ b) → aV l m d D scr (pc + 3) lv st x Q) : aV l m d D scr pc lv (.int b :: .int a :: st) x Q := by
  intro p e R s mid args below meth c cells slots Qs dC dI cy ad A C F H locs ls hH hl
  exact lv_icmp_le C.1 C.2.1 hd ht (fun h => (kt h p e R s mid args below meth c cells slots Qs dC dI cy ad A C F H locs ls hH hl)) (fun h => (kf h p e R s mid args below meth c cells slots Qs dC dI cy ad A C F H locs ls hH hl))
theorem a_goto {off : Int} {tg : Nat} (hd : decode m.2.1 pc = .ok (.goto off, 3)) (ht : (pc : Int) + off = (tg : Int)) (k : aV l m d D scr tg lv st x Q) : aV l m d D scr pc lv st x Q := by
  intro p e R s mid args below meth c cells slots Qs dC dI cy ad A C F H locs ls hH hl
  exact lv_goto C.1 C.2.1 hd ht (k p e R s mid args below meth c cells slots Qs dC dI cy ad A C F H locs ls hH hl)
theorem a_tableIn {df lo hi : Int} {offs : Array Int} {len : Nat} {a : Int32} {off : Int} {tg : Nat} (hd : decode m.2.1 pc = .ok (.tableswitch df lo hi offs, len)) (h1 : ¬ a.toInt < lo) (h2 : ¬ hi < a.toInt) (ho : offs[(a.toInt - lo).toNat]? = some off) (ht : (pc : Int) + off = (tg : Int)) (k : aV l m d D scr tg lv st x Q) : aV l m d D scr pc lv (.int a :: st) x Q := by
  intro p e R s mid args below meth c cells slots Qs dC dI cy ad A C F H locs ls hH hl
  exact lv_tableIn C.1 C.2.1 hd h1 h2 ho ht (k p e R s mid args below meth c cells slots Qs dC dI cy ad A C F H locs ls hH hl)
theorem a_tableOut {df lo hi : Int} {offs : Array Int} {len : Nat} {a : Int32} {tg : Nat} (hd : decode m.2.1 pc = .ok (.tableswitch df lo hi offs, len)) (h : a.toInt < lo ∨ hi < a.toInt) (ht : (pc : Int) + df = (tg : Int)) (k : aV l m d D scr tg lv st x Q) : aV l m d D scr pc lv (.int a :: st) x Q := by
  intro p e R s mid args below meth c cells slots Qs dC dI cy ad A C F H locs ls hH hl
  exact lv_tableOut C.1 C.2.1 hd h ht (k p e R s mid args below meth c cells slots Qs dC dI cy ad A C F H locs ls hH hl)
theorem a_lookup {df : Int} {ps : Array (Int × Int)} {len : Nat} {a : Int32} {off : Int} {tg : Nat} (hd : decode m.2.1 pc = .ok (.lookupswitch df ps, len)) (hp : (ps.toList.zip (ps.toList.drop 1)).all (fun (a, next) => a.1 < next.1) = true) (ho : Op.lookupswitch.offset ps.toList df a.toInt = off) (ht : (pc : Int) + off = (tg : Int)) (k : aV l m d D scr tg lv st x Q) : aV l m d D scr pc lv (.int a :: st) x Q := by
  intro p e R s mid args below meth c cells slots Qs dC dI cy ad A C F H locs ls hH hl
  exact lv_lookup C.1 C.2.1 hd hp ho ht (k p e R s mid args below meth c cells slots Qs dC dI cy ad A C F H locs ls hH hl)
theorem a_iret {a : Int32} (hd : decode m.2.1 pc = .ok (.ireturn, 1)) (h : Q (some (.int a)) x) : aV l m d D scr pc lv [.int a] x Q := by
  intro p e R s mid args below meth c cells slots Qs dC dI cy ad A C F H locs ls hH hl
  exact F cells slots (fun _ => ⟨rfl, rfl⟩) C.2.2.2.2.2.2.2.2.2.1 C.2.2.2.2.2.2.2.2.2.2.1 pc (some (.int a)) x H locs ls (Or.inl ⟨hd, a, rfl⟩) h hH
theorem a_lret {a : Int64} (hd : decode m.2.1 pc = .ok (.lreturn, 1)) (h : Q (some (.long a)) x) : aV l m d D scr pc lv [.long a] x Q := by
  intro p e R s mid args below meth c cells slots Qs dC dI cy ad A C F H locs ls hH hl
  exact F cells slots (fun _ => ⟨rfl, rfl⟩) C.2.2.2.2.2.2.2.2.2.1 C.2.2.2.2.2.2.2.2.2.2.1 pc (some (.long a)) x H locs ls (Or.inr (Or.inl ⟨hd, a, rfl⟩)) h hH
theorem a_vret (hd : decode m.2.1 pc = .ok (.return_, 1)) (h : Q none x) : aV l m d D scr pc lv [] x Q := by
  intro p e R s mid args below meth c cells slots Qs dC dI cy ad A C F H locs ls hH hl
  exact F cells slots (fun _ => ⟨rfl, rfl⟩) C.2.2.2.2.2.2.2.2.2.1 C.2.2.2.2.2.2.2.2.2.2.1 pc none x H locs ls (Or.inr (Or.inr ⟨hd, rfl⟩)) h hH
end aRules
