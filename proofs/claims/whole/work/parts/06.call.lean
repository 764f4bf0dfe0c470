/-! CONTRACTS: aCt says of a method, at any heap that holds the memory x, that it returns with Q. -/
def aWd (m : aM) : List Cond := Cond.code m.1 m.2.1 m.2.2.1 m.2.2.2 :: aTb
def aRm (d : Nat) : Room := { frames := d, cells := 0, slots := 0, locals := 40 * d }
def aPc (D : Nat → Bool) (dC : Nat → ClassId) (dI : Nat → Nat → Nat) (cy : Nat → ClassId) (ad : Nat → Nat) (sz : Nat) (x : aS) (args : List Value) : Array Value → State → Prop :=
  va_Pc (args.map (aT ad)) (fun U => U.heap.size = sz ∧ va_P (dC, dI) vwCl (aW D ad cy x) U.heap ∧ va_K (dC, dI) vwCl (aTy cy) U ∧ va_Nw aNk U ∧ va_D (fun _ => True) (aW D ad cy x) ∧ aXt ad (va_A (aW D ad cy x) sz) U U.heap)
def aQc (D : Nat → Bool) (dC : Nat → ClassId) (dI : Nat → Nat → Nat) (cy : Nat → ClassId) (ad : Nat → Nat) (A : Nat → Prop) (Q : Option Value → aS → Prop) : Array Value → State → Outcome → State → Prop := fun _ st oc t =>
  (∃ (v : Option Value) (y : aS), oc = .returned (v.map (aT ad)) ∧ Q v y ∧ va_P (dC, dI) vwCl (aW D ad cy y) t.heap ∧ va_D A (aW D ad cy y)) ∧ va_F A st t
def aCt (l : Launch) (m : aM) (d : Nat) (D : Nat → Bool) (args : List Value) (x : aS) (Q : Option Value → aS → Prop) : Prop :=
  ∀ (dC : Nat → ClassId) (dI : Nat → Nat → Nat) (cy : Nat → ClassId) (ad : Nat → Nat) (sz : Nat),
    Met l m.1 (aWd m) (aRm d) (aPc D dC dI cy ad sz x args) (aQc D dC dI cy ad (va_A (aW D ad cy x) sz) Q) 0 0 (va_A (aW D ad cy x) sz)
/-- what a method's answer must be for its type -/
def aRo (r : Option FieldType) (v : Option Value) : Prop := (r = some .int ∧ ∃ k, v = some (.int k)) ∨ (r = some .boolean ∧ ∃ k : Int32, v = some (.int k) ∧ (k = 0 ∨ k = 1)) ∨ (r = some .long ∧ ∃ k, v = some (.long k)) ∨ (r = none ∧ v = none)
theorem aTv_args (ad : Nat → Nat) (vs : List Value) : ∀ i : Nat, lv_args i (vs.map (aT ad)) = aTv ad (lv_args i vs) := by
  induction vs with
  | nil => intro i; rfl
  | cons v vs ih =>
    intro i
    show (i, aT ad v) :: lv_args (if (aT ad v).category = 2 then i + 2 else i + 1) (vs.map (aT ad)) = (i, aT ad v) :: aTv ad (lv_args (if v.category = 2 then i + 2 else i + 1) vs)
    rw [aT_cat, ih]
theorem aT_sl (ad : Nat → Nat) (vs : List Value) : (lg_sl (vs.map (aT ad))).length = (lg_sl vs).length := by
  induction vs with
  | nil => rfl
  | cons v vs ih =>
    have e : ∀ u : Value, (lg_sl (u :: vs)).length = (if u.category = 2 then 2 else 1) + (lg_sl vs).length := by
      intro u
      simp only [lg_sl, List.flatMap_cons, List.length_append]
      split <;> rfl
    have e2 : (lg_sl (aT ad v :: vs.map (aT ad))).length = (if (aT ad v).category = 2 then 2 else 1) + (lg_sl (vs.map (aT ad))).length := by
      simp only [lg_sl, List.flatMap_cons, List.length_append]
      split <;> rfl
    rw [List.map_cons, e2, e v, aT_cat, ih]
theorem aTbl_in {w : Cond} (h : w ∈ aTb) : (w.onTables && w.keeps) = true ∨ ∃ ty, w = .arrayClass ty := good_of_word (List.mem_filter.mp h).2
theorem a_met {l : Launch} {m : aM} {d : Nat} {D : Nat → Bool} {args : List Value} {x : aS} {Q : Option Value → aS → Prop} (hy : plainName m.1.cls = true) (hlen : (lg_sl args).length ≤ m.2.2.1) (hro : ∀ v y, Q v y → aRo m.2.2.2 v)
    (h : aV l m d D none 0 (lv_args 0 args) [] x Q) : aCt l m d D args x Q := by
  intro dC dI cy ad sz
  refine Met.ofW (cc := m.2.1) (maxL := m.2.2.1) (ret := m.2.2.2) hy rfl ?_
  intro p e s mid args' below meth c s₁ B hml hv
  obtain ⟨rfl, hsz, hP, hK, hNw, hD0, hXt⟩ := hv
  have hx := B.exec
  have hb := B.bytes
  have hr := B.returns
  have hts : ∀ w ∈ aTb, w.before (args.map (aT ad)).toArray s = true := fun w hw => atoms_spec (ws := aWd m) B.pre w (List.mem_cons_of_mem _ hw)
  have hown : s.vm.findClass m.1.cls = some mid.cls := findClass_of_methodNamed B.named
  have hlocks := B.notSynchronized
  subst hsz
  have hD := hD0.self (sz := s.heap.size)
  generalize hAe : va_A (aW D ad cy x) s.heap.size = A at hD hXt ⊢
  have hA : ∀ q : Nat, s.heap.size ≤ q → A q := fun q h => by rw [← hAe]; exact Or.inr h
  have hl := lv_entry (args.map (aT ad)) (n := m.2.2.1) (by rw [aT_sl]; exact hlen)
  rw [lg_entry_eq]
  generalize (lg_sl (args.map (aT ad)) ++ List.replicate (m.2.2.1 - (lg_sl (args.map (aT ad))).length) Slot.unset).toArray = ls at hl ⊢
  rw [aTv_args] at hl
  refine h p e (headSpec (aWd m) (aRm d)).room s mid _ below meth c 0 0 _ dC dI cy ad A ⟨hx, hb, hml, hown, hts, hK, hA, Nat.le_refl _, Nat.le_refl _, Nat.le_refl _, Nat.le_refl _, (fun q h => by cases h), hNw, hXt⟩ ?_ s.heap [] ls ⟨hP, hD, va_S.rf⟩ hl
  intro cells' slots' hcs _ _ pcR v y H locs ls' hrt hq hH
  obtain ⟨rfl, rfl⟩ := hcs rfl
  have post : ∀ t : State, t.heap = H → s.WarmedH t.vm → aQc D dC dI cy ad A Q (args.map (aT ad)).toArray s (.returned (v.map (aT ad))) t := fun t ht hW => ⟨⟨v, y, rfl, hq, by rw [ht]; exact hH.1, hH.2.1⟩, hH.2.2.F ht⟩
  have ro := hro v y hq
  rcases hrt with ⟨hdg, k, rfl⟩ | ⟨hdg, k, rfl⟩ | ⟨hdg, rfl⟩
  · rcases ro with ⟨e1, -⟩ | ⟨e1, k2, e2, e3⟩ | ⟨e1, k2, e2⟩ | ⟨e1, e2⟩
    · exact W.iret (v := k) hx hb (by rw [hr, e1]) post hH.2.2.2.2 hdg
    · cases e2
      exact W.zret (v := k) hx hb (by rw [hr, e1]) (by rcases e3 with rfl | rfl <;> rfl) post hH.2.2.2.2 hdg
    · cases e2
    · cases e2
  · rcases ro with ⟨e1, k2, e2⟩ | ⟨e1, k2, e2, e3⟩ | ⟨e1, -⟩ | ⟨e1, e2⟩
    · cases e2
    · cases e2
    · exact W.lret (v := k) hx hb (by rw [hr, e1]) post hH.2.2.2.2 hdg
    · cases e2
  · rcases ro with ⟨e1, k2, e2⟩ | ⟨e1, k2, e2, e3⟩ | ⟨e1, k2, e2⟩ | ⟨e1, -⟩
    · cases e2
    · cases e2
    · cases e2
    · exact W.vret hx hb (by rw [hr, e1]) post hH.2.2.2.2 hdg
theorem a_run {p : Program} {l : Launch} {e : Env} {R : Room} {s : State} {mid : MethodId} {args : Array Value} {below : List Frame} {meth : Method} {c : Code} {H : Heap} {locs : List Loc} {cells slots : Nat} {Qs : State → Prop}
    {D : Nat → Bool} {dC : Nat → ClassId} {dI : Nat → Nat → Nat} {cy : Nat → ClassId} {ad : Nat → Nat} {A : Nat → Prop} {x : aS} {Q : Option Value → aS → Prop} {pc : Nat} {ls : Array Slot} {st0 rest : List Value} {a : Array Value}
    (hr : va_Run p l e R s mid args below meth c H locs cells slots 0 0 (F0 mid pc ls st0) rest (aQc D dC dI cy ad (va_A (aW D ad cy x) H.size) Q a) (va_A (aW D ad cy x) H.size))
    (hH : aH D s dC dI cy ad A x H locs) (hA : ∀ q, s.heap.size ≤ q → A q)
    (kk : ∀ (v : Option Value) (y : aS) (H1 : Heap) (locs1 : List Loc), Q v y → aH D s dC dI cy ad A y H1 locs1 → W p l e R s mid args below meth c H1 locs1 cells slots Qs (F0 mid (pc + 3) ls ((v.map (aT ad)).toList ++ rest))) :
    W p l e R s mid args below meth c H locs cells slots Qs (F0 mid pc ls st0) := by
  obtain ⟨hP, hD, hS⟩ := hH
  have hF : ∀ q, va_A (aW D ad cy x) H.size q → A q := by
    intro q h
    rcases h with ⟨k, e, h⟩ | h
    · exact hD.2 k (q, e) h
    · exact hA q (Nat.le_trans hS.1 h)
  intro T hT X
  obtain ⟨v, st₀, t, T', L, h0, X', hL, e1, e2, ⟨⟨v2, y, hv, hq, hP1, hD1⟩, hz, hk⟩, st⟩ := hr T hT X
  cases hv
  rw [h0] at hz hk
  obtain ⟨t2, a1, b1⟩ := kk v2 y T'.heap (locs ++ L) hq ⟨by rw [e1]; exact hP1, hD1.weaken (fun k q _ h => hF q.1 h),
    ⟨Nat.le_trans hS.1 (by rw [e1]; exact hz), fun q h1 h2 => by rw [e1, hk q (Nat.lt_of_lt_of_le h1 hS.1) (fun z => h2 (hF q z))]; exact hS.2.1 q h1 h2, fun q hq => by
      rcases List.mem_append.mp hq with h | h
      · exact hS.2.2 q h
      · exact hF _ (hL q h)⟩⟩ T' rfl X'
  exact ⟨t2, st t2 a1, b1⟩
theorem a_sub {s : State} {D : Nat → Bool} {dC : Nat → ClassId} {dI : Nat → Nat → Nat} {cy : Nat → ClassId} {ad : Nat → Nat} {A : Nat → Prop} {x : aS} {H : Heap} {locs : List Loc} (hH : aH D s dC dI cy ad A x H locs) (hA : ∀ q, s.heap.size ≤ q → A q) : ∀ q, va_A (aW D ad cy x) H.size q → A q := by
  intro q h
  rcases h with ⟨k, e, h⟩ | h
  · exact hH.2.1.2 k (q, e) h
  · exact hA q (Nat.le_trans hH.2.2.1 h)
theorem aPc_blind {D : Nat → Bool} {dC : Nat → ClassId} {dI : Nat → Nat → Nat} {cy : Nat → ClassId} {ad : Nat → Nat} {sz : Nat} {x : aS} {args : List Value} : FrameBlind (aPc D dC dI cy ad sz x args) := by
  intro a U g mk q
  obtain ⟨q0, q1, qP, qK, qN, qD, qX⟩ := q
  exact ⟨q0, q1, qP, va_K.moved (u := U) (U := U.calling g mk a) (Vm.Alike.refl U.vm) qK, va_Nw.same rfl (u := U) (U := U.calling g mk a) rfl qN, qD, aXt_same (u := U) (U := U.calling g mk a) rfl qX⟩
section aCalls
variable {l : Launch} {m : aM} {d : Nat} {D : Nat → Bool} {scr : Option aSc} {pc : Nat} {lv : List (Nat × Value)} {st : List Value} {x : aS} {Q Q' : Option Value → aS → Prop}
theorem a_callV {m' : aM} {idx n ci len N : Nat} {T : u_T} {As : List Value} (hd : decode m.2.1 pc = .ok (.invokevirtual idx, 3)) (hw : Cond.methodLink m.1.cls idx m'.1 ∈ aTb) (hw2 : Cond.instanceMethod m'.1 ∈ aTb) (hw3 : Cond.selects m'.1.cls m'.1 m'.1 ∈ aTb) (hw4 : Cond.initialized m'.1.cls ∈ aTb) (hw5 : Cond.code m'.1 m'.2.1 m'.2.2.1 m'.2.2.2 ∈ aTb)
    (hcl : vwCl[ci]? = some (m'.1.cls, T, N)) (hci : ci < 13) (hy : m'.1.cls ≠ "java/lang/invoke/MethodHandle" ∧ m'.1.cls ≠ "java/lang/invoke/VarHandle" ∧ (parseMethodDescriptor m'.1.desc).map (fun d => d.parameters.length) = some As.length) (hm : m'.2.2.1 ≤ 21)
    (hst : (st.map fun v => v.category).sum ≤ 8) (hn : aIs D n ci len) (hc : aCt l m' d D (.ref n :: As) x Q') (k : ∀ v y, Q' v y → aV l m (d + 1) D scr (pc + 3) lv (v.toList ++ st) y Q) : aV l m (d + 1) D scr pc lv (As.reverse ++ .ref n :: st) x Q := by
  intro p e R s mid args below meth c cells slots Qs dC dI cy ad A C F H locs ls hH hl
  obtain ⟨q0, hq0⟩ := aIs_at hn
  have he : (aW D ad cy x)[q0]? = some (ad n, .inr (ci, (aFs x n ci).map (aT ad))) := by rw [aW_at hq0, aE_obj hci]
  have hG : GoodIn aTb (wsV m.1.cls idx m'.1.cls m'.1 (aWd m')) := by
    intro w hw9
    have h9 : w ∈ aTb := by
      simp only [wsV, aWd, List.mem_append, List.mem_cons, List.not_mem_nil, or_false] at hw9
      rcases hw9 with (rfl | rfl | rfl | rfl) | (rfl | h) <;> assumption
    exact ⟨h9, aTbl_in h9⟩
  have hstk : ((As.reverse ++ .ref n :: st).map (aT ad)) = (As.map (aT ad)).reverse ++ .ref (ad n) :: st.map (aT ad) := by simp [aT]
  rw [hstk]
  refine a_run (Q := Q') (va_runV (As := As.map (aT ad)) (rest := st.map (aT ad)) (Ts := aTb) ⟨C.1, C.2.1, C.2.2.1, C.2.2.2.1, C.2.2.2.2.1⟩ (hc dC dI cy ad H.size) (cwV As.length C.2.2.2.2.1 hG rfl rfl rfl ⟨rfl, hy⟩ ⟨?_, ?_⟩) ⟨aPc_blind, va_recv C.2.2.2.2.2.1 hH.1 hcl he, fun U hU hW => ⟨rfl, by rw [hU], by rw [hU]; exact hH.1, va_K.moved hW.alike C.2.2.2.2.2.1, va_Nw.warmM hW C.2.2.2.2.2.2.2.2.2.2.2.2.1, hH.2.1.weaken (fun _ _ _ _ => trivial), by rw [hU]; exact aXt_go C.2.2.2.2.2.2.2.2.2.2.2.2.2 hH.2.2 hW (a_sub hH C.2.2.2.2.2.2.1)⟩⟩ rfl (by rw [List.length_map]) hl.1 rfl (lv_room (by rw [aT_sum]; exact hst)) hd ⟨C.2.2.2.2.2.2.2.2.2.1, C.2.2.2.2.2.2.2.2.2.2.1⟩) hH C.2.2.2.2.2.2.1 (fun v y H1 locs1 hq hH1 => ?_)
  · have := C.2.2.2.2.2.2.2.1
    exact this
  · have := C.2.2.2.2.2.2.2.2.1
    show 8 + (m'.2.2.1 + 11) + 40 * d ≤ R.locals
    omega
  · have := k v y hq p e R s mid args below meth c cells slots Qs dC dI cy ad A C F H1 locs1 ls hH1 hl
    rw [List.map_append] at this
    cases v <;> exact this
theorem a_callS {m' : aM} {idx : Nat} {As : List Value} (hd : decode m.2.1 pc = .ok (.invokestatic idx, 3)) (hw : Cond.methodLink m.1.cls idx m'.1 ∈ aTb) (hw2 : Cond.static m'.1 ∈ aTb) (hw4 : Cond.initialized m'.1.cls ∈ aTb) (hw5 : Cond.code m'.1 m'.2.1 m'.2.2.1 m'.2.2.2 ∈ aTb)
    (hy : m'.1.cls ≠ "java/lang/invoke/MethodHandle" ∧ m'.1.cls ≠ "java/lang/invoke/VarHandle" ∧ (parseMethodDescriptor m'.1.desc).map (fun d => d.parameters.length) = some As.length) (hm : m'.2.2.1 ≤ 21)
    (hst : (st.map fun v => v.category).sum ≤ 8) (hc : aCt l m' d D As x Q') (k : ∀ v y, Q' v y → aV l m (d + 1) D scr (pc + 3) lv (v.toList ++ st) y Q) : aV l m (d + 1) D scr pc lv (As.reverse ++ st) x Q := by
  intro p e R s mid args below meth c cells slots Qs dC dI cy ad A C F H locs ls hH hl
  have hG : GoodIn aTb (aWd m') := by
    intro w hw9
    have h9 : w ∈ aTb := by
      rcases List.mem_cons.mp hw9 with rfl | h <;> assumption
    exact ⟨h9, aTbl_in h9⟩
  have hstk : ((As.reverse ++ st).map (aT ad)) = (As.map (aT ad)).reverse ++ st.map (aT ad) := by simp
  rw [hstk]
  refine a_run (Q := Q') (va_runS (As := As.map (aT ad)) (rest := st.map (aT ad)) (Ts := aTb) ⟨C.1, C.2.1, C.2.2.1, C.2.2.2.1, C.2.2.2.2.1⟩ (hc dC dI cy ad H.size) ⟨callB_of As.length C.2.2.2.2.1 hG rfl rfl rfl (C.2.2.2.2.1 _ hw4) (C.2.2.2.2.1 _ hw) hy ⟨?_, ?_⟩, C.2.2.2.2.1 _ hw2⟩ ⟨aPc_blind, fun U hU hW => ⟨rfl, by rw [hU], by rw [hU]; exact hH.1, va_K.moved hW.alike C.2.2.2.2.2.1, va_Nw.warmM hW C.2.2.2.2.2.2.2.2.2.2.2.2.1, hH.2.1.weaken (fun _ _ _ _ => trivial), by rw [hU]; exact aXt_go C.2.2.2.2.2.2.2.2.2.2.2.2.2 hH.2.2 hW (a_sub hH C.2.2.2.2.2.2.1)⟩⟩ rfl (by rw [List.length_map]) hl.1 rfl (lv_room (by rw [aT_sum]; exact hst)) hd ⟨C.2.2.2.2.2.2.2.2.2.1, C.2.2.2.2.2.2.2.2.2.2.1⟩) hH C.2.2.2.2.2.2.1 (fun v y H1 locs1 hq hH1 => ?_)
  · have := C.2.2.2.2.2.2.2.1
    exact this
  · have := C.2.2.2.2.2.2.2.2.1
    show 8 + (m'.2.2.1 + 11) + 40 * d ≤ R.locals
    omega
  · have := k v y hq p e R s mid args below meth c cells slots Qs dC dI cy ad A C F H1 locs1 ls hH1 hl
    rw [List.map_append] at this
    cases v <;> exact this
theorem a_callSN {m' : aM} {host : String} {idx : Nat} {As : List Value} (hd : decode m.2.1 pc = .ok (.invokestatic idx, 3)) (hw : Cond.methodLinkNest m.1.cls idx m'.1 host = aNk) (hw2 : Cond.static m'.1 ∈ aTb) (hw4 : Cond.initialized m'.1.cls ∈ aTb) (hw5 : Cond.code m'.1 m'.2.1 m'.2.2.1 m'.2.2.2 ∈ aTb)
    (hy : m'.1.cls ≠ "java/lang/invoke/MethodHandle" ∧ m'.1.cls ≠ "java/lang/invoke/VarHandle" ∧ (parseMethodDescriptor m'.1.desc).map (fun d => d.parameters.length) = some As.length) (hm : m'.2.2.1 ≤ 21)
    (hst : (st.map fun v => v.category).sum ≤ 8) (hc : aCt l m' d D As x Q') (k : ∀ v y, Q' v y → aV l m (d + 1) D scr (pc + 3) lv (v.toList ++ st) y Q) : aV l m (d + 1) D scr pc lv (As.reverse ++ st) x Q := by
  intro p e R s mid args below meth c cells slots Qs dC dI cy ad A C F H locs ls hH hl
  have hG : GoodIn aTb (aWd m') := by
    intro w hw9
    have h9 : w ∈ aTb := by
      rcases List.mem_cons.mp hw9 with rfl | h <;> assumption
    exact ⟨h9, aTbl_in h9⟩
  have hstk : ((As.reverse ++ st).map (aT ad)) = (As.map (aT ad)).reverse ++ st.map (aT ad) := by simp
  rw [hstk]
  refine a_run (Q := Q') (va_runSN (host := host) (As := As.map (aT ad)) (rest := st.map (aT ad)) (Ts := aTb) ⟨C.1, C.2.1, C.2.2.1, C.2.2.2.1, C.2.2.2.2.1⟩ (hc dC dI cy ad H.size) ⟨va_cnB As.length C.2.2.2.2.1 hG rfl rfl rfl (by rw [hw]; exact C.2.2.2.2.2.2.2.2.2.2.2.2.1) (C.2.2.2.2.1 _ hw4) hy ⟨?_, ?_⟩, C.2.2.2.2.1 _ hw2, trivial⟩ ⟨aPc_blind, fun U hU hW => ⟨rfl, by rw [hU], by rw [hU]; exact hH.1, va_K.moved hW.alike C.2.2.2.2.2.1, va_Nw.warmM hW C.2.2.2.2.2.2.2.2.2.2.2.2.1, hH.2.1.weaken (fun _ _ _ _ => trivial), by rw [hU]; exact aXt_go C.2.2.2.2.2.2.2.2.2.2.2.2.2 hH.2.2 hW (a_sub hH C.2.2.2.2.2.2.1)⟩⟩ rfl (by rw [List.length_map]) hl.1 rfl (lv_room (by rw [aT_sum]; exact hst)) hd ⟨C.2.2.2.2.2.2.2.2.2.1, C.2.2.2.2.2.2.2.2.2.2.1⟩) hH C.2.2.2.2.2.2.1 (fun v y H1 locs1 hq hH1 => ?_)
  · have := C.2.2.2.2.2.2.2.1
    exact this
  · have := C.2.2.2.2.2.2.2.2.1
    show 8 + (m'.2.2.1 + 11) + 40 * d ≤ R.locals
    omega
  · have := k v y hq p e R s mid args below meth c cells slots Qs dC dI cy ad A C F H1 locs1 ls hH1 hl
    rw [List.map_append] at this
    cases v <;> exact this
end aCalls
/-- contracts with one answer -/
def aDI (l : Launch) (m : aM) (d : Nat) (D : Nat → Bool) (args : List Value) (x : aS) (r : Int32) (y : aS) : Prop := aCt l m d D args x (fun v z => v = some (.int r) ∧ z = y)
def aDJ (l : Launch) (m : aM) (d : Nat) (D : Nat → Bool) (args : List Value) (x : aS) (r : Int64) (y : aS) : Prop := aCt l m d D args x (fun v z => v = some (.long r) ∧ z = y)
def aDV (l : Launch) (m : aM) (d : Nat) (D : Nat → Bool) (args : List Value) (x : aS) (y : aS) : Prop := aCt l m d D args x (fun v z => v = none ∧ z = y)
/-- fewer locals -/
theorem a_loc {l : Launch} {m : aM} {d : Nat} {D : Nat → Bool} {scr : Option aSc} {pc : Nat} {lv : List (Nat × Value)} {st : List Value} {x : aS} {Q : Option Value → aS → Prop} (lv' : List (Nat × Value)) (h : lv'.map (fun q => aLk lv q.1) = lv'.map (fun q => some q.2)) (k : aV l m d D scr pc lv' st x Q) : aV l m d D scr pc lv st x Q := by
  intro p e R s mid args below meth c cells slots Qs dC dI cy ad A C F H locs ls hH hl
  refine k p e R s mid args below meth c cells slots Qs dC dI cy ad A C F H locs ls hH ⟨hl.1, hl.2.1, fun q hq => ?_⟩
  obtain ⟨q0, h0, rfl⟩ := List.mem_map.mp hq
  have h1 : aLk lv q0.1 = some q0.2 := by
    obtain ⟨i, hi⟩ := List.getElem?_of_mem h0
    have h2 : (lv'.map (fun q => aLk lv q.1))[i]? = (lv'.map (fun q => some q.2))[i]? := by rw [h]
    rw [List.getElem?_map, List.getElem?_map, hi] at h2
    exact Option.some.inj h2
  exact hl.2.2 _ (List.mem_map.mpr ⟨(q0.1, q0.2), aLk_mem h1, rfl⟩)
theorem a_wk {l : Launch} {m : aM} {d : Nat} {D : Nat → Bool} {scr : Option aSc} {pc : Nat} {lv : List (Nat × Value)} {st : List Value} {x : aS} {Q Q2 : Option Value → aS → Prop} (h : aV l m d D scr pc lv st x Q2) (hq : ∀ v y, Q2 v y → Q v y) : aV l m d D scr pc lv st x Q := by
  intro p e R s mid args below meth c cells slots Qs dC dI cy ad A C F
  exact h p e R s mid args below meth c cells slots Qs dC dI cy ad A C (fun c' s' k0 k1 k2 pcR v y H locs ls a b => F c' s' k0 k1 k2 pcR v y H locs ls a (hq v y b))
