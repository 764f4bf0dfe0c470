/-! THE WORDS' TEXT: what the JDK's members of it answer -/
def mSLen : aM := (⟨"java/lang/String", "length", "()I"⟩, prog_23_method_54_code, 1, some .int)
def mSCod : aM := (⟨"java/lang/String", "coder", "()B"⟩, prog_23_method_152_code, 1, some .byte)
def mSChr : aM := (⟨"java/lang/String", "charAt", "(I)C"⟩, prog_23_method_56_code, 2, some .char)
def mSLat : aM := (⟨"java/lang/String", "isLatin1", "()Z"⟩, prog_23_method_154_code, 1, some .boolean)
def mSL1c : aM := (⟨"java/lang/StringLatin1", "charAt", "([BI)C"⟩, prog_24_method_2_code, 2, some .char)
def mSChk : aM := (⟨"java/lang/String", "checkIndex", "(II)V"⟩, prog_23_method_155_code, 2, none)
def mSPre : aM := (⟨"jdk/internal/util/Preconditions", "checkIndex", "(IILjava/util/function/BiFunction;)I"⟩, prog_32_method_11_code, 3, some .int)
theorem dSLen_0 : decode mSLen.2.1 0 = .ok (.aload_n 0, 1) := by decide +kernel
theorem dSLen_1 : decode mSLen.2.1 1 = .ok (.getfield 9, 3) := by decide +kernel
theorem dSLen_4 : decode mSLen.2.1 4 = .ok (.arraylength, 1) := by decide +kernel
theorem dSLen_5 : decode mSLen.2.1 5 = .ok (.aload_n 0, 1) := by decide +kernel
theorem dSLen_6 : decode mSLen.2.1 6 = .ok (.invokevirtual 335, 3) := by decide +kernel
theorem dSLen_9 : decode mSLen.2.1 9 = .ok (.ishr, 1) := by decide +kernel
theorem dSLen_10 : decode mSLen.2.1 10 = .ok (.ireturn, 1) := by decide +kernel
theorem dSCod_0 : decode mSCod.2.1 0 = .ok (.getstatic 38, 3) := by decide +kernel
theorem dSCod_3 : decode mSCod.2.1 3 = .ok (.ifCond .eq 10, 3) := by decide +kernel
theorem dSCod_6 : decode mSCod.2.1 6 = .ok (.aload_n 0, 1) := by decide +kernel
theorem dSCod_7 : decode mSCod.2.1 7 = .ok (.getfield 15, 3) := by decide +kernel
theorem dSCod_10 : decode mSCod.2.1 10 = .ok (.goto 4, 3) := by decide +kernel
theorem dSCod_13 : decode mSCod.2.1 13 = .ok (.iconst 1, 1) := by decide +kernel
theorem dSCod_14 : decode mSCod.2.1 14 = .ok (.ireturn, 1) := by decide +kernel
theorem dSLat_0 : decode mSLat.2.1 0 = .ok (.getstatic 38, 3) := by decide +kernel
theorem dSLat_3 : decode mSLat.2.1 3 = .ok (.ifCond .eq 14, 3) := by decide +kernel
theorem dSLat_6 : decode mSLat.2.1 6 = .ok (.aload_n 0, 1) := by decide +kernel
theorem dSLat_7 : decode mSLat.2.1 7 = .ok (.getfield 15, 3) := by decide +kernel
theorem dSLat_10 : decode mSLat.2.1 10 = .ok (.ifCond .ne 7, 3) := by decide +kernel
theorem dSLat_13 : decode mSLat.2.1 13 = .ok (.iconst 1, 1) := by decide +kernel
theorem dSLat_14 : decode mSLat.2.1 14 = .ok (.goto 4, 3) := by decide +kernel
theorem dSLat_17 : decode mSLat.2.1 17 = .ok (.iconst 0, 1) := by decide +kernel
theorem dSLat_18 : decode mSLat.2.1 18 = .ok (.ireturn, 1) := by decide +kernel
theorem dSChr_0 : decode mSChr.2.1 0 = .ok (.aload_n 0, 1) := by decide +kernel
theorem dSChr_1 : decode mSChr.2.1 1 = .ok (.invokevirtual 492, 3) := by decide +kernel
theorem dSChr_4 : decode mSChr.2.1 4 = .ok (.ifCond .eq 12, 3) := by decide +kernel
theorem dSChr_7 : decode mSChr.2.1 7 = .ok (.aload_n 0, 1) := by decide +kernel
theorem dSChr_8 : decode mSChr.2.1 8 = .ok (.getfield 9, 3) := by decide +kernel
theorem dSChr_11 : decode mSChr.2.1 11 = .ok (.iload_n 1, 1) := by decide +kernel
theorem dSChr_12 : decode mSChr.2.1 12 = .ok (.invokestatic 495, 3) := by decide +kernel
theorem dSChr_15 : decode mSChr.2.1 15 = .ok (.ireturn, 1) := by decide +kernel
theorem dSL1c_0 : decode mSL1c.2.1 0 = .ok (.iload_n 1, 1) := by decide +kernel
theorem dSL1c_1 : decode mSL1c.2.1 1 = .ok (.aload_n 0, 1) := by decide +kernel
theorem dSL1c_2 : decode mSL1c.2.1 2 = .ok (.arraylength, 1) := by decide +kernel
theorem dSL1c_3 : decode mSL1c.2.1 3 = .ok (.invokestatic 9, 3) := by decide +kernel
theorem dSL1c_6 : decode mSL1c.2.1 6 = .ok (.aload_n 0, 1) := by decide +kernel
theorem dSL1c_7 : decode mSL1c.2.1 7 = .ok (.iload_n 1, 1) := by decide +kernel
theorem dSL1c_8 : decode mSL1c.2.1 8 = .ok (.baload, 1) := by decide +kernel
theorem dSL1c_9 : decode mSL1c.2.1 9 = .ok (.sipush 255, 3) := by decide +kernel
theorem dSL1c_12 : decode mSL1c.2.1 12 = .ok (.iand, 1) := by decide +kernel
theorem dSL1c_13 : decode mSL1c.2.1 13 = .ok (.i2c, 1) := by decide +kernel
theorem dSL1c_14 : decode mSL1c.2.1 14 = .ok (.ireturn, 1) := by decide +kernel
theorem dSChk_0 : decode mSChk.2.1 0 = .ok (.iload_n 0, 1) := by decide +kernel
theorem dSChk_1 : decode mSChk.2.1 1 = .ok (.iload_n 1, 1) := by decide +kernel
theorem dSChk_2 : decode mSChk.2.1 2 = .ok (.getstatic 1053, 3) := by decide +kernel
theorem dSChk_5 : decode mSChk.2.1 5 = .ok (.invokestatic 1059, 3) := by decide +kernel
theorem dSChk_8 : decode mSChk.2.1 8 = .ok (.pop, 1) := by decide +kernel
theorem dSChk_9 : decode mSChk.2.1 9 = .ok (.return_, 1) := by decide +kernel
theorem dSPre_0 : decode mSPre.2.1 0 = .ok (.iload_n 0, 1) := by decide +kernel
theorem dSPre_1 : decode mSPre.2.1 1 = .ok (.ifCond .lt 8, 3) := by decide +kernel
theorem dSPre_4 : decode mSPre.2.1 4 = .ok (.iload_n 0, 1) := by decide +kernel
theorem dSPre_5 : decode mSPre.2.1 5 = .ok (.iload_n 1, 1) := by decide +kernel
theorem dSPre_6 : decode mSPre.2.1 6 = .ok (.if_icmp .lt 10, 3) := by decide +kernel
theorem dSPre_16 : decode mSPre.2.1 16 = .ok (.iload_n 0, 1) := by decide +kernel
theorem dSPre_17 : decode mSPre.2.1 17 = .ok (.ireturn, 1) := by decide +kernel
section qSt
variable {l : Launch} {m : aM} {d : Nat} {D : Nat → Bool} {scr : Option aSc} {pc : Nat} {lv : List (Nat × Value)} {st : List Value} {x : aS} {Q Q' : Option Value → aS → Prop}
theorem a_ldcW (hd : decode m.2.1 pc = .ok (.ldc 66, 2)) (hm : m.1.cls = RX7) (k : aV l m d D scr (pc + 2) lv (.ref 9001 :: st) x Q) : aV l m d D scr pc lv st x Q := by
  intro p e R s mid args below meth c cells slots Qs dC dI cy ad A C F H locs ls hH hl
  exact va_ldcS (tx := wdT) C.1 C.2.1 C.2.2.2.1 (by rw [hm]; exact C.2.2.2.2.2.2.2.2.2.2.2.2.2.2.1) hd (k p e R s mid args below meth c cells slots Qs dC dI cy ad A C F H locs ls hH hl)
theorem a_gets1 (hd : decode m.2.1 pc = .ok (.getstatic 38, 3)) (hm : m.1.cls = "java/lang/String") (k : aV l m d D scr (pc + 3) lv (.int 1 :: st) x Q) : aV l m d D scr pc lv st x Q := by
  intro p e R s mid args below meth c cells slots Qs dC dI cy ad A C F H locs ls hH hl
  exact va_gets C.1 C.2.1 C.2.2.2.2.2.2.2.2.2.2.2.2.2.2.2.1 hH.2.2 C.2.2.2.1 (by rw [hm]; exact C.2.2.2.2.1 _ (aTb_tables_1_3 81 rfl rfl)) (fun _ h => h) hd (k p e R s mid args below meth c cells slots Qs dC dI cy ad A C F H locs ls hH hl)
theorem a_getsF (hd : decode m.2.1 pc = .ok (.getstatic 1053, 3)) (hm : m.1.cls = "java/lang/String") (k1 : aV l m d D scr (pc + 3) lv (.null :: st) x Q) (k2 : aV l m d D scr (pc + 3) lv (.ref 9003 :: st) x Q) : aV l m d D scr pc lv st x Q := by
  intro p e R s mid args below meth c cells slots Qs dC dI cy ad A C F H locs ls hH hl
  rcases C.2.2.2.2.2.2.2.2.2.2.2.2.2.2.2.2 with h | h
  · exact va_gets C.1 C.2.1 h hH.2.2 C.2.2.2.1 (by rw [hm]; exact C.2.2.2.2.1 _ (aTb_tables_1_3 97 rfl rfl)) (fun _ h => h) hd (k1 p e R s mid args below meth c cells slots Qs dC dI cy ad A C F H locs ls hH hl)
  · exact va_gets C.1 C.2.1 h hH.2.2 C.2.2.2.1 (by rw [hm]; exact C.2.2.2.2.1 _ (aTb_tables_1_3 97 rfl rfl)) (fun _ h => h) hd (k2 p e R s mid args below meth c cells slots Qs dC dI cy ad A C F H locs ls hH hl)
theorem a_getV (hd : decode m.2.1 pc = .ok (.getfield 9, 3)) (hm : m.1.cls = "java/lang/String") (k : aV l m d D scr (pc + 3) lv (.ref 9002 :: st) x Q) : aV l m d D scr pc lv (.ref 9001 :: st) x Q := by
  intro p e R s mid args below meth c cells slots Qs dC dI cy ad A C F H locs ls hH hl
  exact vk_getf C.1 C.2.1 (C.2.2.2.2.2.2.2.2.2.2.2.2.2.1.1 0 (by decide)).2.2.1 hH.2.2 C.2.2.2.1 (by rw [hm]; exact C.2.2.2.2.1 _ (aTb_tables_1_9 142 rfl rfl)) (fun _ h => h) hd (k p e R s mid args below meth c cells slots Qs dC dI cy ad A C F H locs ls hH hl)
theorem a_getC (hd : decode m.2.1 pc = .ok (.getfield 15, 3)) (hm : m.1.cls = "java/lang/String") (k : aV l m d D scr (pc + 3) lv (.int 0 :: st) x Q) : aV l m d D scr pc lv (.ref 9001 :: st) x Q := by
  intro p e R s mid args below meth c cells slots Qs dC dI cy ad A C F H locs ls hH hl
  exact vk_getf C.1 C.2.1 (C.2.2.2.2.2.2.2.2.2.2.2.2.2.1.1 0 (by decide)).2.1 hH.2.2 C.2.2.2.1 (by rw [hm]; exact C.2.2.2.2.1 _ (aTb_tables_1_9 143 rfl rfl)) (fun _ h => h) hd (k p e R s mid args below meth c cells slots Qs dC dI cy ad A C F H locs ls hH hl)
theorem a_alenW (hd : decode m.2.1 pc = .ok (.arraylength, 1)) (k : aV l m d D scr (pc + 1) lv (.int (nI 108) :: st) x Q) : aV l m d D scr pc lv (.ref 9002 :: st) x Q := by
  intro p e R s mid args below meth c cells slots Qs dC dI cy ad A C F H locs ls hH hl
  exact va_tlen C.1 C.2.1 (C.2.2.2.2.2.2.2.2.2.2.2.2.2.1.1 0 (by decide)).2.2.2 hH.2.2 rfl hd (k p e R s mid args below meth c cells slots Qs dC dI cy ad A C F H locs ls hH hl)
theorem a_baldW {j : Nat} (hd : decode m.2.1 pc = .ok (.baload, 1)) (hj : j < 108) (k : aV l m d D scr (pc + 1) lv (.int (wdB.getD j 0) :: st) x Q) : aV l m d D scr pc lv (.int (nI j) :: .ref 9002 :: st) x Q := by
  intro p e R s mid args below meth c cells slots Qs dC dI cy ad A C F H locs ls hH hl
  exact va_tb C.1 C.2.1 (C.2.2.2.2.2.2.2.2.2.2.2.2.2.1.1 0 (by decide)).2.2.2 hH.2.2 (vp_in_nI hj (by decide)) (v := .int (wdB.getD j 0)) (by rw [nI_clamp (by omega)]; rfl) hd (k p e R s mid args below meth c cells slots Qs dC dI cy ad A C F H locs ls hH hl)
theorem a_i2c {a b : Int32} (hd : decode m.2.1 pc = .ok (.i2c, 1)) (hv : (a.toUInt32 % 65536).toInt32 = b) (k : aV l m d D scr (pc + 1) lv (.int b :: st) x Q) : aV l m d D scr pc lv (.int a :: st) x Q := by
  intro p e R s mid args below meth c cells slots Qs dC dI cy ad A C F H locs ls hH hl
  exact lv_i2c C.1 C.2.1 hd hv (k p e R s mid args below meth c cells slots Qs dC dI cy ad A C F H locs ls hH hl)
theorem a_callW {m' : aM} {idx : Nat} {As : List Value} (hd : decode m.2.1 pc = .ok (.invokevirtual idx, 3)) (hw : Cond.methodLink m.1.cls idx m'.1 ∈ aTb) (hw2 : Cond.instanceMethod m'.1 ∈ aTb) (hw3 : Cond.selects m'.1.cls m'.1 m'.1 ∈ aTb) (hw4 : Cond.initialized m'.1.cls ∈ aTb) (hw5 : Cond.code m'.1 m'.2.1 m'.2.2.1 m'.2.2.2 ∈ aTb)
    (hc0 : m'.1.cls = "java/lang/String") (hy : m'.1.cls ≠ "java/lang/invoke/MethodHandle" ∧ m'.1.cls ≠ "java/lang/invoke/VarHandle" ∧ (parseMethodDescriptor m'.1.desc).map (fun d => d.parameters.length) = some As.length) (hm : m'.2.2.1 ≤ 21)
    (hst : (st.map fun v => v.category).sum ≤ 8) (hc : aCt l m' d D (.ref 9001 :: As) x Q') (k : ∀ v y, Q' v y → aV l m (d + 1) D scr (pc + 3) lv (v.toList ++ st) y Q) : aV l m (d + 1) D scr pc lv (As.reverse ++ .ref 9001 :: st) x Q := by
  intro p e R s mid args below meth c cells slots Qs dC dI cy ad A C F H locs ls hH hl
  have hG : GoodIn aTb (wsV m.1.cls idx m'.1.cls m'.1 (aWd m')) := by
    intro w hw9
    have h9 : w ∈ aTb := by
      simp only [wsV, aWd, List.mem_append, List.mem_cons, List.not_mem_nil, or_false] at hw9
      rcases hw9 with (rfl | rfl | rfl | rfl) | (rfl | h) <;> assumption
    exact ⟨h9, aTbl_in h9⟩
  have hstk : ((As.reverse ++ .ref 9001 :: st).map (aT ad)) = (As.map (aT ad)).reverse ++ .ref (ad 9001) :: st.map (aT ad) := by simp [aT]
  rw [hstk]
  refine a_run (Q := Q') (va_runV (As := As.map (aT ad)) (rest := st.map (aT ad)) (Ts := aTb) ⟨C.1, C.2.1, C.2.2.1, C.2.2.2.1, C.2.2.2.2.1⟩ (hc dC dI cy ad H.size) (cwV As.length C.2.2.2.2.1 hG rfl rfl rfl ⟨rfl, hy⟩ ⟨?_, ?_⟩) ⟨aPc_blind, by rw [hc0]; exact vk_recv C.2.2.2.2.2.2.2.2.2.2.2.2.2.1 (i := 0) (by decide) hH.2.2, fun U hU hW => ⟨rfl, by rw [hU], by rw [hU]; exact hH.1, va_K.moved hW.alike C.2.2.2.2.2.1, va_Nw.warmM hW C.2.2.2.2.2.2.2.2.2.2.2.2.1, hH.2.1.weaken (fun _ _ _ _ => trivial), by rw [hU]; exact aXt_go C.2.2.2.2.2.2.2.2.2.2.2.2.2 hH.2.2 hW (a_sub hH C.2.2.2.2.2.2.1)⟩⟩ rfl (by rw [List.length_map]) hl.1 rfl (lv_room (by rw [aT_sum]; exact hst)) hd ⟨C.2.2.2.2.2.2.2.2.2.1, C.2.2.2.2.2.2.2.2.2.2.1⟩) hH C.2.2.2.2.2.2.1 (fun v y H1 locs1 hq hH1 => ?_)
  · have := C.2.2.2.2.2.2.2.1
    exact this
  · have := C.2.2.2.2.2.2.2.2.1
    show 8 + (m'.2.2.1 + 11) + 40 * d ≤ R.locals
    omega
  · have := k v y hq p e R s mid args below meth c cells slots Qs dC dI cy ad A C F H1 locs1 ls hH1 hl
    rw [List.map_append] at this
    cases v <;> exact this
/-- a method that answers a byte or a char -/
theorem a_metN {args : List Value} {ty : FieldType} (hy : plainName m.1.cls = true) (hlen : (lg_sl args).length ≤ m.2.2.1) (hty : m.2.2.2 = some ty) (hro : ∀ v y, Q v y → ∃ a : Int32, v = some (.int a) ∧ narrow ty (.int a) = .int a)
    (h : aV l m d D none 0 (lv_args 0 args) [] x Q) : aCt l m d D args x Q := by
  intro dC dI cy ad sz
  refine Met.ofW (cc := m.2.1) (maxL := m.2.2.1) (ret := m.2.2.2) hy rfl ?_
  intro p e s mid args' below meth c s₁ B hml hv
  obtain ⟨rfl, hsz, hP, hK, hNw, hD0, hXt⟩ := hv
  have hx := B.exec
  have hb := B.bytes
  have hr := B.returns
  have hts : ∀ w ∈ aTb, w.before (args.map (aT ad)).toArray s = true := fun w hw => atoms_spec (ws := aWd m) B.pre w (List.mem_cons_of_mem _ hw)
  have hown : s.vm.findClass m.1.cls = some mid.cls := findClass_of_methodNamed B.named
  have hlocks := B.notSynchronized
  subst hsz
  have hD := hD0.self (sz := s.heap.size)
  generalize hAe : va_A (aW D ad cy x) s.heap.size = A at hD hXt ⊢
  have hA : ∀ q : Nat, s.heap.size ≤ q → A q := fun q h => by rw [← hAe]; exact Or.inr h
  have hl := lv_entry (args.map (aT ad)) (n := m.2.2.1) (by rw [aT_sl]; exact hlen)
  rw [lg_entry_eq]
  generalize (lg_sl (args.map (aT ad)) ++ List.replicate (m.2.2.1 - (lg_sl (args.map (aT ad))).length) Slot.unset).toArray = ls at hl ⊢
  rw [aTv_args] at hl
  refine h p e (headSpec (aWd m) (aRm d)).room s mid _ below meth c 0 0 _ dC dI cy ad A ⟨hx, hb, hml, hown, hts, hK, hA, Nat.le_refl _, Nat.le_refl _, Nat.le_refl _, Nat.le_refl _, (fun q h => by cases h), hNw, hXt⟩ ?_ s.heap [] ls ⟨hP, hD, va_S.rf⟩ hl
  intro cells' slots' hcs _ _ pcR v y H locs ls' hrt hq hH
  obtain ⟨rfl, rfl⟩ := hcs rfl
  have post : ∀ t : State, t.heap = H → s.WarmedH t.vm → aQc D dC dI cy ad A Q (args.map (aT ad)).toArray s (.returned (v.map (aT ad))) t := fun t ht hW => ⟨⟨v, y, rfl, hq, by rw [ht]; exact hH.1, hH.2.1⟩, hH.2.2.F ht⟩
  obtain ⟨a, rfl, hn⟩ := hro v y hq
  rcases hrt with ⟨hdg, k, e⟩ | ⟨hdg, k, e⟩ | ⟨hdg, e⟩
  · exact W.zret (v := a) hx hb (by rw [hr, hty]) hn post hH.2.2.2.2 hdg
  · cases e
  · cases e
end qSt
