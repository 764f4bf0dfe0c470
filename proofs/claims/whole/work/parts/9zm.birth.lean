/-! BIRTH: constructors, over worlds as lists; an object's own entry is the first -/
def bC (m : aM) (p : Program) (s : State) (mid : MethodId) (args : Array Value) (c : Code) (dC : Nat → ClassId) (dI : Nat → Nat → Nat) (cy : Nat → ClassId) (A : Nat → Prop) : Prop :=
  p.tables.exec = Jvm.exec ∧ c.code = m.2.1 ∧ c.maxLocals = m.2.2.1 ∧ s.vm.findClass m.1.cls = some mid.cls ∧ (∀ w ∈ aTb, w.before args s = true) ∧ va_K (dC, dI) vwCl (aTy cy) s ∧ (∀ q, s.heap.size ≤ q → A q)
def bH (s : State) (dC : Nat → ClassId) (dI : Nat → Nat → Nat) (A : Nat → Prop) (ws : va_W) (H : Heap) (locs : List Loc) : Prop := va_P (dC, dI) vwCl ws H ∧ va_D A ws ∧ va_S A s.heap H locs
section bRules
variable {p : Program} {l : Launch} {e : Env} {R : Room} {s : State} {mid : MethodId} {args : Array Value} {below : List Frame} {meth : Method} {c : Code} {H : Heap} {locs : List Loc} {cells slots : Nat} {Qs : State → Prop}
  {dC : Nat → ClassId} {dI : Nat → Nat → Nat} {cy : Nat → ClassId} {A : Nat → Prop} {m : aM} {pc : Nat} {ls : Array Slot} {st : List Value} {ws : va_W}
set_option maxRecDepth 100000 in
theorem b_ow : Cond.instanceMethod objectInit ∈ aTb ∧ Cond.code objectInit ⟨#[0xb1]⟩ 1 none ∈ aTb := by
  refine ⟨List.mem_filter.mpr ?_, List.mem_filter.mpr ?_⟩ <;> decide +kernel
theorem b_obj {a idx : Nat} (C : bC m p s mid args c dC dI cy A) (hd : decode m.2.1 pc = .ok (.invokespecial idx, 3)) (hw : Cond.methodLink m.1.cls idx objectInit ∈ aTb) (hsz : ls.size = m.2.2.1) (hf : 1 ≤ R.frames) (hl : 20 ≤ R.locals) (hst : (st.map fun v => v.category).sum ≤ 8)
    (k : W p l e R s mid args below meth c H locs cells slots Qs (F0 mid (pc + 3) ls st)) : W p l e R s mid args below meth c H locs cells slots Qs (F0 mid pc ls (.ref a :: st)) := by
  refine W.objInit C.1 C.2.1 C.2.2.2.1 (C.2.2.2.2.1 _ hw) (C.2.2.2.2.1 _ b_ow.1) (C.2.2.2.2.1 _ b_ow.2) rfl (by rw [C.2.2.1]; exact hsz) rfl hd hf ?_ k
  show 2 * (F0 mid pc ls (.ref a :: st)).monitorRoom + _ + 12 ≤ R.locals
  have : (F0 mid pc ls (.ref a :: st)).monitorRoom = 0 := rfl
  omega
/-- an array of a kind k (13 byte, 14 int, 15 long, 16 boolean) -/
theorem b_newa {atype : ArrayType} {ty : FieldType} {kk0 ti : Nat} {n : Int32} {N : Nat} {a0 : vp_A} (C : bC m p s mid args c dC dI cy A) (hH : bH s dC dI A ws H locs) (hw : Cond.arrayClass (newarray.typeOf atype) ∈ aTb) (hty : newarray.typeOf atype = ty) (hti : (aTy cy)[ti]? = some (cy kk0, ty)) (hra : ∀ cA, va_RA s cA ty → va_RA s (cy kk0) ty → cA = cy kk0)
    (ha : ∀ cA : ClassId, vp_cell cA a0 = arrV cA N (fun _ => defaultValue ty)) (hn : ¬ n < 0) (hN : n.toNatClampNeg = N) (hbytes : N * componentBytes ty ≤ 536870912) (hcells : cells + 1 ≤ R.cells) (hslots : slots + N ≤ R.slots) (hdg : decode m.2.1 pc = .ok (.newarray atype, 2))
    (k : ∀ (q : Nat) (H1 : Heap), bH s dC dI A (ws ++ [(q, .inl (cy kk0, a0))]) H1 locs → W p l e R s mid args below meth c H1 locs (cells + 1) (slots + N) Qs (F0 mid (pc + 2) ls (.ref q :: st))) : W p l e R s mid args below meth c H locs cells slots Qs (F0 mid pc ls (.int n :: st)) := by
  refine va_newa (D := (dC, dI)) C.1 C.2.1 (C.2.2.2.2.1 _ hw) hty C.2.2.2.2.2.1 hH.1 hH.2.1 hH.2.2 C.2.2.2.2.2.2 ha hn hN hbytes hcells hslots hdg (fun q cA H1 hK hP hD hS => ?_)
  have e1 : va_RA s cA ty := (hK.2 6 (cA, ty) (by simp [aTy])).2
  have e2 : va_RA s (cy kk0) ty := (C.2.2.2.2.2.1.2 ti _ hti).2
  have := hra cA e1 e2
  subst this
  exact k q H1 ⟨hP, hD, hS⟩
theorem b_ra {cA cB : ClassId} {ty : FieldType} (h : ∀ C, ty ≠ .object C) (e1 : va_RA s cA ty) (e2 : va_RA s cB ty) : cA = cB := by
  cases ty with
  | object C => exact absurd rfl (h C)
  | _ => exact Option.some.inj (e1.symm.trans e2)
set_option maxRecDepth 100000 in
theorem b_aw : Cond.arrayClass .int ∈ aTb ∧ Cond.arrayClass .long ∈ aTb ∧ Cond.arrayClass .boolean ∈ aTb ∧ Cond.arrayClass .byte ∈ aTb := by
  refine ⟨List.mem_filter.mpr ?_, List.mem_filter.mpr ?_, List.mem_filter.mpr ?_, List.mem_filter.mpr ?_⟩ <;> decide +kernel
theorem aTy_i {cy : Nat → ClassId} : (aTy cy)[1]? = some (cy 14, .int) ∧ (aTy cy)[2]? = some (cy 15, .long) ∧ (aTy cy)[3]? = some (cy 16, .boolean) ∧ (aTy cy)[0]? = some (cy 13, .byte) := ⟨rfl, rfl, rfl, rfl⟩
/-- a field of an object is written in its constructor; the object is at place q0 -/
theorem b_put {idx ci j N a q0 : Nat} {v : Value} {ty : FieldType} {fs : List Value} (C : bC m p s mid args c dC dI cy A) (hH : bH s dC dI A ws H locs) (hd : decode m.2.1 pc = .ok (.putfield idx, 3)) {C0 : String} {T : u_T} (hc : vwCl[ci]? = some (C0, T, N)) (hin : ∀ w ∈ u_ws C0 T N, w ∈ aTb) (hj : j < N) (hw : Cond.fieldLink m.1.cls idx (T j).1 (T j).2.1 (T j).2.2.1 ∈ aTb) (ty0 : Nat → FieldType) (hty : ∀ k, k < N → parseFieldDescriptor (T k).2.2.1 = some (ty0 k)) (hnm : ∀ a, a < N → ∀ b, b < N → a ≠ b → (T a).2.1 ≠ (T b).2.1)
    (hfin : (T j).2.2.2 = false ∨ ((T j).2.2.2 = true ∧ meth.name = "<init>" ∧ (T j).1 = m.1.cls)) (hp : parseFieldDescriptor (T j).2.2.1 = some ty) (hna : narrow ty v = v) (hfi : fits ty v = true) (he : ws[q0]? = some (a, .inr (ci, fs))) (hl : fs.length = N)
    (k : ∀ (H1 : Heap) (locs1 : List Loc), bH s dC dI A (ws.set q0 (a, .inr (ci, fs.set j v))) H1 locs1 → W p l e R s mid args below meth c H1 locs1 cells slots Qs (F0 mid (pc + 3) ls st)) : W p l e R s mid args below meth c H locs cells slots Qs (F0 mid pc ls (v :: .ref a :: st)) := by
  rcases hfin with hfin | ⟨h1, h2, h3⟩
  · exact va_put (D := (dC, dI)) (ty := ty) C.1 C.2.1 C.2.2.2.2.1 hin ty0 hty hnm C.2.2.2.1 C.2.2.2.2.2.1 hH.1 hH.2.1 hH.2.2 q0 he hc j hj (C.2.2.2.2.1 _ hw) (fun _ h => h) hfin hp hna hfi (by rw [hl]; exact hj) hd (fun H1 locs1 g1 g2 g3 => k H1 locs1 ⟨g1, g2, g3⟩)
  · exact va_putF (D := (dC, dI)) (ty := ty) C.1 C.2.1 C.2.2.2.2.1 hin ty0 hty hnm C.2.2.2.1 C.2.2.2.2.2.1 hH.1 hH.2.1 hH.2.2 q0 he hc j hj (C.2.2.2.2.1 _ hw) (fun _ h => h) h1 h2 h3 hp hna hfi (by rw [hl]; exact hj) hd (fun H1 locs1 g1 g2 g3 => k H1 locs1 ⟨g1, g2, g3⟩)
/-- this.f = new T[n]: from the push's end on; the object is the first of the world -/
theorem b_arr {atype : ArrayType} {ty : FieldType} {kk0 ti : Nat} {n : Int32} {N9 : Nat} {a0 : vp_A} {idx ci j N b : Nat} {fs : List Value} {w : va_W} (C : bC m p s mid args c dC dI cy A) (hH : bH s dC dI A ((b, .inr (ci, fs)) :: w) H locs) (hw0 : Cond.arrayClass (newarray.typeOf atype) ∈ aTb) (hty0 : newarray.typeOf atype = ty) (hti : (aTy cy)[ti]? = some (cy kk0, ty)) (hob : ∀ C, ty ≠ .object C)
    (ha : ∀ cA : ClassId, vp_cell cA a0 = arrV cA N9 (fun _ => defaultValue ty)) (hn : ¬ n < 0) (hN : n.toNatClampNeg = N9) (hbytes : N9 * componentBytes ty ≤ 536870912) (hcells : cells + 1 ≤ R.cells) (hslots : slots + N9 ≤ R.slots) (hd0 : decode m.2.1 pc = .ok (.newarray atype, 2)) (hd : decode m.2.1 (pc + 2) = .ok (.putfield idx, 3)) {C0 : String} {T : u_T} (hc : vwCl[ci]? = some (C0, T, N)) (hin : ∀ w ∈ u_ws C0 T N, w ∈ aTb) (hj : j < N) (hw : Cond.fieldLink m.1.cls idx (T j).1 (T j).2.1 (T j).2.2.1 ∈ aTb) (ty0 : Nat → FieldType) (hty : ∀ k, k < N → parseFieldDescriptor (T k).2.2.1 = some (ty0 k)) (hnm : ∀ a, a < N → ∀ b, b < N → a ≠ b → (T a).2.1 ≠ (T b).2.1)
    (hfin : (T j).2.2.2 = false ∨ ((T j).2.2.2 = true ∧ meth.name = "<init>" ∧ (T j).1 = m.1.cls)) {ty9 : FieldType} (hp : parseFieldDescriptor (T j).2.2.1 = some ty9) (hna : ∀ q : Nat, narrow ty9 (.ref q) = .ref q) (hfi : ∀ q : Nat, fits ty9 (.ref q) = true) (hl : fs.length = N)
    (k : ∀ (q : Nat) (H1 : Heap) (locs1 : List Loc), (fs.set j (.ref q)).length = N → bH s dC dI A ((b, .inr (ci, fs.set j (.ref q))) :: (w ++ [(q, .inl (cy kk0, a0))])) H1 locs1 → W p l e R s mid args below meth c H1 locs1 (cells + 1) (slots + N9) Qs (F0 mid (pc + 5) ls st)) : W p l e R s mid args below meth c H locs cells slots Qs (F0 mid pc ls (.int n :: .ref b :: st)) := by
  refine b_newa C hH hw0 hty0 hti (fun cA e1 e2 => b_ra hob e1 e2) ha hn hN hbytes hcells hslots hd0 (fun q H1 h1 => ?_)
  refine b_put (q0 := 0) C h1 hd hc hin hj hw ty0 hty hnm hfin hp (hna q) (hfi q) rfl hl (fun H2 locs2 h2 => ?_)
  exact k q H2 locs2 (by rw [List.length_set]; exact hl) h2
end bRules
/-! BIRTH: contracts of constructors -/
def bTyOf (ci : Nat) : Nat → FieldType := match ci with
  | 0 => tyX0 | 1 => tyX1 | 2 => tyX2 | 3 => tyX3 | 4 => tyX4 | 5 => tyX5 | 6 => tyX6 | 7 => tyX7 | 8 => tyX8 | 9 => tyX9 | 10 => tyX10 | 11 => tyX11 | _ => tyX12
/-- a new object's slots -/
def dfl (ci : Nat) : List Value := (List.range (aNs ci)).map (fun k => defaultValue (bTyOf ci k))
def bNst : List (String × Nat × MethodName × String) := [(RX11, 13, yX3_init, "LastHouse"), (RX11, 29, yX6_init, "LastHouse"), (RX11, 42, yX10_init, "LastHouse"), (RX11, 49, yX5_init, "LastHouse"), (RX11, 56, yX1_init, "LastHouse"), (RX11, 63, yX4_init, "LastHouse"), (RX3, 11, yX7_init, "LastHouse"), (RX8, 50, yX2_init, "LastHouse"), (RX8, 61, yX0_init, "LastHouse"), (RX8, 62, yX9_init, "LastHouse")]
/-- what else the constructors link: arrays of objects, constructors of nest mates -/
def bAO (U : State) : Prop := (va_AO "LastHouse$Deed" U ∧ va_AO "LastHouse$Wedding" U) ∧ ∀ w ∈ bNst, va_Nw (.methodLinkNest w.1 w.2.1 w.2.2.1 w.2.2.2) U
theorem bAO_go {s U : State} (hW : s.WarmedH U.vm) (h : bAO s) : bAO U := ⟨⟨va_AO.moved hW.alike h.1.1, va_AO.moved hW.alike h.1.2⟩, fun w hw => va_Nw.warmM hW (h.2 w hw)⟩
theorem bAO_same {u U : State} (hv : U.vm = u.vm) (h : bAO u) : bAO U := by
  have ha : u.vm.Alike U.vm := by rw [hv]; exact Vm.Alike.refl _
  exact ⟨⟨va_AO.moved ha h.1.1, va_AO.moved ha h.1.2⟩, fun w hw => va_Nw.same rfl hv.symm (h.2 w hw)⟩
def bRm (d mc ms : Nat) : Room := { frames := d + 1, cells := mc, slots := ms, locals := 40 * (d + 1) }
def bPc (dC : Nat → ClassId) (dI : Nat → Nat → Nat) (cy : Nat → ClassId) (b ci sz : Nat) : Array Value → State → Prop := va_Pc [.ref b] (fun U => U.heap.size = sz ∧ va_P (dC, dI) vwCl [(b, .inr (ci, dfl ci))] U.heap ∧ va_K (dC, dI) vwCl (aTy cy) U ∧ bAO U)
def bQc (dC : Nat → ClassId) (dI : Nat → Nat → Nat) (A : Nat → Prop) (P : va_W → Prop) : Array Value → State → Outcome → State → Prop := fun _ st oc t => (oc = .returned none ∧ ∃ ws, P ws ∧ va_P (dC, dI) vwCl ws t.heap ∧ va_D A ws) ∧ va_F A st t
def bCt (l : Launch) (m : aM) (ci mc ms d : Nat) (P : (Nat → ClassId) → Nat → va_W → Prop) : Prop := ∀ (dC : Nat → ClassId) (dI : Nat → Nat → Nat) (cy : Nat → ClassId) (b sz : Nat),
  Met l m.1 (aWd m) (bRm d mc ms) (bPc dC dI cy b ci sz) (bQc dC dI (va_A [(b, .inr (ci, dfl ci))] sz) (P cy b)) mc ms (va_A [(b, .inr (ci, dfl ci))] sz)
theorem bPc_blind {dC : Nat → ClassId} {dI : Nat → Nat → Nat} {cy : Nat → ClassId} {b ci sz : Nat} : FrameBlind (bPc dC dI cy b ci sz) := by
  intro a U g mk q
  obtain ⟨q0, q1, qP, qK, q2⟩ := q
  exact ⟨q0, q1, qP, va_K.moved (u := U) (U := U.calling g mk a) (Vm.Alike.refl U.vm) qK, bAO_same (u := U) (U := U.calling g mk a) rfl q2⟩
theorem b_met {l : Launch} {m : aM} {ci mc ms d : Nat} {P : (Nat → ClassId) → Nat → va_W → Prop} (hy : plainName m.1.cls = true) (hi : m.1.name = "<init>") (hlen : 1 ≤ m.2.2.1) (hret : m.2.2.2 = none)
    (body : ∀ (p : Program) (e : Env) (s : State) (mid : MethodId) (args : Array Value) (below : List Frame) (meth : Method) (c : Code) (dC : Nat → ClassId) (dI : Nat → Nat → Nat) (cy : Nat → ClassId) (A : Nat → Prop) (b : Nat) (Qs : State → Prop) (ls : Array Slot),
      bC m p s mid args c dC dI cy A → meth.name = "<init>" → bAO s → lv_has ls m.2.2.1 [(0, .ref b)] →
      (∀ (pc : Nat) (ws : va_W) (H : Heap) (locs : List Loc) (ls : Array Slot), decode m.2.1 pc = .ok (.return_, 1) → P cy b ws → bH s dC dI A ws H locs → W p l e (bRm d mc ms) s mid args below meth c H locs mc ms Qs (F0 mid pc ls [])) →
      ∀ H : Heap, bH s dC dI A [(b, .inr (ci, dfl ci))] H [] → W p l e (bRm d mc ms) s mid args below meth c H [] 0 0 Qs (F0 mid 0 ls [])) : bCt l m ci mc ms d P := by
  intro dC dI cy b sz
  refine Met.ofW (cc := m.2.1) (maxL := m.2.2.1) (ret := m.2.2.2) hy rfl ?_
  intro p e s mid args' below meth c s₁ B hml hv
  obtain ⟨rfl, hsz, hP, hK, hAO⟩ := hv
  have hx := B.exec
  have hb := B.bytes
  have hr := B.returns
  have hts : ∀ w ∈ aTb, w.before (([.ref b] : List Value)).toArray s = true := fun w hw => atoms_spec (ws := aWd m) B.pre w (List.mem_cons_of_mem _ hw)
  have hown : s.vm.findClass m.1.cls = some mid.cls := findClass_of_methodNamed B.named
  have hlocks := B.notSynchronized
  have hin : meth.name = "<init>" := ((name_of_methodNamed B.named B.method).1).trans hi
  subst hsz
  have hD : va_D (va_A [(b, .inr (ci, dfl ci))] s.heap.size) [(b, .inr (ci, dfl ci))] := by
    refine va_D.self (A := fun _ => True) ⟨fun i j p q hi hj _ => ?_, fun _ _ _ => trivial⟩
    have h1 : i < 1 := (List.getElem?_eq_some_iff.mp hi).1
    have h2 : j < 1 := (List.getElem?_eq_some_iff.mp hj).1
    omega
  generalize hAe : va_A [(b, .inr (ci, dfl ci))] s.heap.size = A at hD ⊢
  have hA : ∀ q : Nat, s.heap.size ≤ q → A q := fun q h => by rw [← hAe]; exact Or.inr h
  have hl := lv_entry ([.ref b] : List Value) (n := m.2.2.1) hlen
  rw [lg_entry_eq]
  generalize (lg_sl ([.ref b] : List Value) ++ List.replicate (m.2.2.1 - (lg_sl ([.ref b] : List Value)).length) Slot.unset).toArray = ls at hl ⊢
  refine body p e s mid _ below meth c dC dI cy A b _ ls ⟨hx, hb, hml, hown, hts, hK, hA⟩ hin hAO hl ?_ s.heap ⟨hP, hD, va_S.rf⟩
  intro pc ws H locs ls' hdg hPw hH
  exact W.vret hx hb (by rw [hr, hret]) (fun t ht hW => ⟨⟨rfl, ws, hPw, by rw [ht]; exact hH.1, hH.2.1⟩, hH.2.2.F ht⟩) hH.2.2.2.2 hdg
