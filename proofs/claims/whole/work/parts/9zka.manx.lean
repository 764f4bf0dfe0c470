/-! THE LAW: man's throws: the class's method throws, the law's own catches -/
def ioN : String := "java/lang/IndexOutOfBoundsException"
def nsN : String := "java/util/NoSuchElementException"
def nmX : List String := ["java/lang/RuntimeException", "java/lang/Exception"]
abbrev rxN : ByteArray := prog_31_method_4_code
theorem rxN_0 : decode rxN 0 = .ok (.aload_n 0, 1) := by decide +kernel
theorem rxN_1 : decode rxN 1 = .ok (.aload_n 1, 1) := by decide +kernel
theorem rxN_2 : decode rxN 2 = .ok (.invokespecial 13, 3) := by decide +kernel
theorem rxN_5 : decode rxN 5 = .ok (.return_, 1) := by decide +kernel
/-- the words of both throws that are no good words -/
def xDc (Y : String) : Cond := .declares (Bundle.initS Y)
def xB1 : List Cond := [xDc "java/lang/RuntimeException", xDc "java/lang/Exception", xDc Bundle.tN, .castable ioN ioN]
def xB2 : List Cond := [xDc "java/lang/RuntimeException", xDc "java/lang/Exception", xDc Bundle.tN, .castable nsN nsN]
def aXx (A : Nat → Prop) (U : State) (H : Heap) (sa sb : Nat) : Prop :=
  (vx_Zq Bundle.tN "UNASSIGNED_STACK" Bundle.steD A U H ∧ vx_Zq Bundle.tN "SUPPRESSED_SENTINEL" Bundle.listD A U H) ∧ (vk_R RX11 130 "no such one of the folk" sa U ∧ vk_R RX11 159 "no such what" sb U) ∧
  (va_Nw (xDc "java/lang/RuntimeException") U ∧ va_Nw (xDc "java/lang/Exception") U ∧ va_Nw (xDc Bundle.tN) U) ∧ (va_Nw (.castable ioN ioN) U ∧ va_Nw (.castable nsN nsN) U) ∧ va_Nc nsN ioN U
theorem aXx_go {A B : Nat → Prop} {s U : State} {H : Heap} {locs : List Loc} {sa sb : Nat} (h : aXx A s s.heap sa sb) (hS : va_S A s.heap H locs) (hW : s.WarmedH U.vm) (hAB : ∀ q, B q → A q) : aXx B U H sa sb := by
  obtain ⟨⟨h1, h2⟩, ⟨h3, h4⟩, ⟨h5, h6, h7⟩, ⟨h8, h9⟩, h10⟩ := h
  exact ⟨⟨((h1.kept hS.2.1).moved hW.alike).narrow hAB, ((h2.kept hS.2.1).moved hW.alike).narrow hAB⟩, ⟨vk_R.warm hW h3, vk_R.warm hW h4⟩, ⟨va_Nw.warmD hW h5, va_Nw.warmD hW h6, va_Nw.warmD hW h7⟩, ⟨va_Nw.warmC hW h8, va_Nw.warmC hW h9⟩, va_Nc.moved hW.alike h10⟩
theorem aXx_same {A : Nat → Prop} {u U : State} {H : Heap} {sa sb : Nat} (hv : U.vm = u.vm) (h : aXx A u H sa sb) : aXx A U H sa sb := by
  obtain ⟨⟨h1, h2⟩, ⟨h3, h4⟩, ⟨h5, h6, h7⟩, ⟨h8, h9⟩, h10⟩ := h
  have ha : u.vm.Alike U.vm := by rw [hv]; exact Vm.Alike.refl _
  exact ⟨⟨h1.moved ha, h2.moved ha⟩, ⟨vk_R.same hv h3, vk_R.same hv h4⟩, ⟨va_Nw.same rfl hv.symm h5, va_Nw.same rfl hv.symm h6, va_Nw.same rfl hv.symm h7⟩, ⟨va_Nw.same rfl hv.symm h8, va_Nw.same rfl hv.symm h9⟩, va_Nc.moved ha h10⟩
theorem x_tb {ws : List Cond} (ps : List Nat) (hp : ws = ps.filterMap (fun i => lw_tbl[i]?)) (hg : ws.all goodWord = true) : ∀ w ∈ ws, w ∈ aTb := by
  intro w hw
  have h1 := List.all_eq_true.mp hg w hw
  rw [hp] at hw
  obtain ⟨i, -, hi⟩ := List.mem_filterMap.mp hw
  exact aTb_at i hi h1
set_option maxRecDepth 100000 in
theorem x_L1 : (vx_atS RX11 132 ioN nmX).filter goodWord = [139, 1316, 1325, 1328, 1331, 1333, 1317, 1318, 153, 154, 1319, 1324, 1329, 1349, 1306, 1350, 1308, 1351, 1310, 1320, 1322, 1312, 1345, 1346, 1348, 1312, 1336, 1337, 1338, 1339, 1339, 1340, 1341, 1342, 1342, 1343, 1344, 1345, 1335, 1295, 1303, 1304, 1305, 1307, 1309, 1311, 1315, 1314, 1313].filterMap (fun i => lw_tbl[i]?) := by decide +kernel
set_option maxRecDepth 100000 in
theorem x_L2 : (xc_at RX11 161 nsN 13 rxN nmX).filter goodWord = [139, 1316, 1325, 1328, 1331, 1333, 1317, 1318, 153, 154, 1319, 1324, 1329, 1349, 1306, 1350, 1308, 1351, 1310, 1320, 1322, 1312, 1345, 1346, 1348, 1312, 1371, 1372, 1373, 1339, 1339, 1340, 1341, 1342, 1342, 1343, 1344, 1345, 1370, 1361, 1363, 1327, 1364, 1365, 1366, 1367, 1315, 1314, 1368].filterMap (fun i => lw_tbl[i]?) := by decide +kernel
set_option maxRecDepth 100000 in
theorem x_N1 : (vx_atS RX11 132 ioN nmX).filter (fun w => !goodWord w) = xB1 := by decide +kernel
set_option maxRecDepth 100000 in
theorem x_N2 : (xc_at RX11 161 nsN 13 rxN nmX).filter (fun w => !goodWord w) = xB2 := by decide +kernel
set_option maxRecDepth 100000 in
theorem x_O1 : (Cond.classLink RX11 128 ioN :: Cond.initialized ioN :: vx_atS RX11 132 ioN nmX).all vx_ot = true := by decide +kernel
set_option maxRecDepth 100000 in
theorem x_O2 : (Cond.classLink RX11 157 nsN :: Cond.initialized nsN :: xc_at RX11 161 nsN 13 rxN nmX).all vx_ot = true := by decide +kernel
set_option maxRecDepth 100000 in
theorem x_w1 : Cond.classLink RX11 128 ioN ∈ aTb ∧ Cond.initialized ioN ∈ aTb := ⟨aTb_at 1294 rfl rfl, aTb_at 142 rfl rfl⟩
set_option maxRecDepth 100000 in
theorem x_w2 : Cond.classLink RX11 157 nsN ∈ aTb ∧ Cond.initialized nsN ∈ aTb := ⟨aTb_at 1360 rfl rfl, aTb_at 143 rfl rfl⟩
theorem x_h1 {args : Array Value} {s : State} {A : Nat → Prop} {H : Heap} {sa sb : Nat} (ht : ∀ w ∈ aTb, w.before args s = true) (h : aXx A s H sa sb) : ∀ w ∈ vx_atS RX11 132 ioN nmX, w.before args s = true :=
  vx_hat (B := xB1) (fun w hw => ht w (x_tb _ x_L1 (List.all_eq_true.mpr (fun w hw => (List.mem_filter.mp hw).2)) w hw)) (fun w hw => by rw [← x_N1]; exact hw)
    (vx_c (va_Nw.use rfl h.2.2.1.1) (vx_c (va_Nw.use rfl h.2.2.1.2.1) (vx_c (va_Nw.use rfl h.2.2.1.2.2) (vx_c (va_Nw.use rfl h.2.2.2.1.1) vx_n))))
theorem x_h2 {args : Array Value} {s : State} {A : Nat → Prop} {H : Heap} {sa sb : Nat} (ht : ∀ w ∈ aTb, w.before args s = true) (h : aXx A s H sa sb) : ∀ w ∈ xc_at RX11 161 nsN 13 rxN nmX, w.before args s = true :=
  vx_hat (B := xB2) (fun w hw => ht w (x_tb _ x_L2 (List.all_eq_true.mpr (fun w hw => (List.mem_filter.mp hw).2)) w hw)) (fun w hw => by rw [← x_N2]; exact hw)
    (vx_c (va_Nw.use rfl h.2.2.1.1) (vx_c (va_Nw.use rfl h.2.2.1.2.1) (vx_c (va_Nw.use rfl h.2.2.1.2.2) (vx_c (va_Nw.use rfl h.2.2.2.1.2) vx_n))))
/-- the method's word with its handlers -/
def hhM : List (Nat × Nat × Nat × Nat) := [(0, 10, 13, 13), (0, 10, 17, 15)]
def mL_man : aM := (yL_man, cL_man, 5, some .int)
def aWdL : List Cond := Cond.codeWith yL_man cL_man 5 (some .int) hhM :: aTb
def rmX : Room := { frames := 11, cells := 1, slots := 6, locals := 440 }
def rmL : Room := { frames := 12, cells := 1, slots := 6, locals := 480 }
set_option maxRecDepth 100000 in
theorem w_L_man : Cond.codeWith yL_man cL_man 5 (some .int) hhM ∈ aTb ∧ Cond.methodLink RL 39 yL_man ∈ aTb ∧ Cond.static yL_man ∈ aTb ∧ Cond.initialized RL ∈ aTb := ⟨aTb_at 1287 rfl rfl, aTb_at 1285 rfl rfl, aTb_at 1286 rfl rfl, aTb_at 120 rfl rfl⟩
set_option maxRecDepth 100000 in
theorem w_L_mc : Cond.classLink RL 13 ioN ∈ aTb ∧ Cond.classLink RL 15 nsN ∈ aTb := ⟨aTb_at 1288 rfl rfl, aTb_at 1289 rfl rfl⟩
def exN (k : Nat) : String := if k = 1 then ioN else nsN
def xMp (T : zT) (Z : zS) (a w : Int32) (x : aS) (v : Option Value) (y : aS) : Prop := (manC T a w = 0 ∧ v = some (.int 0) ∧ y = aWl x 3329 0 (qMan T Z a.toNatClampNeg w).toInt64) ∨ (manC T a w ≠ 0 ∧ v = some (.int (nI (manC T a w))) ∧ y = x)
def xPc (D : Nat → Bool) (dC : Nat → ClassId) (dI : Nat → Nat → Nat) (cy : Nat → ClassId) (ad : Nat → Nat) (sz : Nat) (x : aS) (args : List Value) (sa sb : Nat) : Array Value → State → Prop := fun a U => aPc D dC dI cy ad sz x args a U ∧ aXx (va_A (aW D ad cy x) sz) U U.heap sa sb
theorem xPc_blind {D : Nat → Bool} {dC : Nat → ClassId} {dI : Nat → Nat → Nat} {cy : Nat → ClassId} {ad : Nat → Nat} {sz : Nat} {x : aS} {args : List Value} {sa sb : Nat} : FrameBlind (xPc D dC dI cy ad sz x args sa sb) := by
  intro a U g mk q
  exact ⟨aPc_blind a U g mk q.1, aXx_same (u := U) (U := U.calling g mk a) rfl q.2⟩
def xXC (D : Nat → Bool) (dC : Nat → ClassId) (dI : Nat → Nat → Nat) (cy : Nat → ClassId) (ad : Nat → Nat) (A : Nat → Prop) (x : aS) (k : Nat) : String → State → State → Prop := fun E st t => E = exN k ∧ va_P (dC, dI) vwCl (aW D ad cy x) t.heap ∧ va_F A st t
theorem w_callV {p : Program} {l : Launch} {e : Env} {R : Room} {s : State} {mid : MethodId} {args : Array Value} {below : List Frame} {meth : Method} {c : Code} {H : Heap} {locs : List Loc} {cells slots : Nat} {Qs : State → Prop}
    {D : Nat → Bool} {dC : Nat → ClassId} {dI : Nat → Nat → Nat} {cy : Nat → ClassId} {ad : Nat → Nat} {A : Nat → Prop} {x : aS} {Q' : Option Value → aS → Prop} {pc d : Nat} {scr : Option aSc} {ls : Array Slot} {st : List Value} {m m' : aM} {idx n ci len N : Nat} {T : u_T} {As : List Value} (hd : decode m.2.1 pc = .ok (.invokevirtual idx, 3)) (hw : Cond.methodLink m.1.cls idx m'.1 ∈ aTb) (hw2 : Cond.instanceMethod m'.1 ∈ aTb) (hw3 : Cond.selects m'.1.cls m'.1 m'.1 ∈ aTb) (hw4 : Cond.initialized m'.1.cls ∈ aTb) (hw5 : Cond.code m'.1 m'.2.1 m'.2.2.1 m'.2.2.2 ∈ aTb)
    (hcl : vwCl[ci]? = some (m'.1.cls, T, N)) (hci : ci < 13) (hy : m'.1.cls ≠ "java/lang/invoke/MethodHandle" ∧ m'.1.cls ≠ "java/lang/invoke/VarHandle" ∧ (parseMethodDescriptor m'.1.desc).map (fun d => d.parameters.length) = some As.length) (hm : m'.2.2.1 ≤ 21)
    (hst : (st.map fun v => v.category).sum ≤ 8) (hn : aIs D n ci len) (hc : aCt l m' d D (.ref n :: As) x Q') (C : aCx m (d + 1) scr p R s mid args c cells slots dC dI cy ad A) (hH : aH D s dC dI cy ad A x H locs) (hsz : ls.size = m.2.2.1)
    (k : ∀ v y H1 locs1, Q' v y → aH D s dC dI cy ad A y H1 locs1 → W p l e R s mid args below meth c H1 locs1 cells slots Qs (F0 mid (pc + 3) ls ((v.map (aT ad)).toList ++ st.map (aT ad)))) : W p l e R s mid args below meth c H locs cells slots Qs (F0 mid pc ls ((As.reverse ++ .ref n :: st).map (aT ad))) := by
  obtain ⟨q0, hq0⟩ := aIs_at hn
  have he : (aW D ad cy x)[q0]? = some (ad n, .inr (ci, (aFs x n ci).map (aT ad))) := by rw [aW_at hq0, aE_obj hci]
  have hG : GoodIn aTb (wsV m.1.cls idx m'.1.cls m'.1 (aWd m')) := by
    intro w hw9
    have h9 : w ∈ aTb := by
      simp only [wsV, aWd, List.mem_append, List.mem_cons, List.not_mem_nil, or_false] at hw9
      rcases hw9 with (rfl | rfl | rfl | rfl) | (rfl | h) <;> assumption
    exact ⟨h9, aTbl_in h9⟩
  have hstk : ((As.reverse ++ .ref n :: st).map (aT ad)) = (As.map (aT ad)).reverse ++ .ref (ad n) :: st.map (aT ad) := by simp [aT]
  rw [hstk]
  refine a_run (Q := Q') (va_runV (As := As.map (aT ad)) (rest := st.map (aT ad)) (Ts := aTb) ⟨C.1, C.2.1, C.2.2.1, C.2.2.2.1, C.2.2.2.2.1⟩ (hc dC dI cy ad H.size) (cwV As.length C.2.2.2.2.1 hG rfl rfl rfl ⟨rfl, hy⟩ ⟨?_, ?_⟩) ⟨aPc_blind, va_recv C.2.2.2.2.2.1 hH.1 hcl he, fun U hU hW => ⟨rfl, by rw [hU], by rw [hU]; exact hH.1, va_K.moved hW.alike C.2.2.2.2.2.1, va_Nw.warmM hW C.2.2.2.2.2.2.2.2.2.2.2.2.1, hH.2.1.weaken (fun _ _ _ _ => trivial), by rw [hU]; exact aXt_go C.2.2.2.2.2.2.2.2.2.2.2.2.2 hH.2.2 hW (a_sub hH C.2.2.2.2.2.2.1)⟩⟩ rfl (by rw [List.length_map]) hsz rfl (lv_room (by rw [aT_sum]; exact hst)) hd ⟨C.2.2.2.2.2.2.2.2.2.1, C.2.2.2.2.2.2.2.2.2.2.1⟩) hH C.2.2.2.2.2.2.1 k
  · have := C.2.2.2.2.2.2.2.1
    exact this
  · have := C.2.2.2.2.2.2.2.2.1
    show 8 + (m'.2.2.1 + 11) + 40 * d ≤ R.locals
    omega
theorem x_st {l : Launch} (hl : l.flags = flags0) : l.stackTraces = false := by
  unfold Launch.stackTraces; rw [hl]; decide +kernel
theorem s7_out {a : Int32} (h : ¬ zIn 7 a) : a.toInt < 0 ∨ 6 < a.toInt := by
  rcases Int.lt_or_le a.toInt 0 with g | g
  · exact Or.inl g
  · rcases Int.lt_or_le 6 a.toInt with g2 | g2
    · exact Or.inr g2
    · exact absurd (by
        have : a = Int32.ofInt a.toInt := by simp
        rcases (by omega : a.toInt = 0 ∨ a.toInt = 1 ∨ a.toInt = 2 ∨ a.toInt = 3 ∨ a.toInt = 4 ∨ a.toInt = 5 ∨ a.toInt = 6) with e | e | e | e | e | e | e <;> (rw [this, e]; decide)) h
section xMan
variable {l : Launch} {D : Nat → Bool} {T : zT} {W0 : Nat → zL} {Z : zS} {x : aS} {t : Nat} {a w : Int32}
set_option maxHeartbeats 4000000 in
set_option maxRecDepth 100000 in
theorem x_thr (hl : l.flags = flags0) (hD : aDC D) (h : cR T W0 Z x t) (g0 : manC T a w ≠ 0) (dC : Nat → ClassId) (dI : Nat → Nat → Nat) (cy : Nat → ClassId) (ad : Nat → Nat) (sz sa sb : Nat) :
    vx_Met l yX11_man (aWd mX11_man) rmX (xPc D dC dI cy ad sz x [.ref bLH, .int a, .int w] sa sb) (fun _ _ _ _ => False) (xXC D dC dI cy ad (va_A (aW D ad cy x) sz) x (manC T a w)) 1 6 (va_A (aW D ad cy x) sz) := by
  refine vx_ofW (cc := mX11_man.2.1) (maxL := mX11_man.2.2.1) (ret := mX11_man.2.2.2) (by decide) rfl ?_
  intro p e s mid args' below meth c s₁ B hml htb hv
  obtain ⟨⟨rfl, hsz, hP, hK, hNw, hD0, hXt⟩, hXx⟩ := hv
  have hx := B.exec
  have hb := B.bytes
  have hts : ∀ w' ∈ aTb, w'.before (([.ref bLH, .int a, .int w] : List Value).map (aT ad)).toArray s = true := fun w' hw => atoms_spec (ws := aWd mX11_man) B.pre w' (List.mem_cons_of_mem _ hw)
  have hown : s.vm.findClass RX11 = some mid.cls := findClass_of_methodNamed B.named
  have hlocks := B.notSynchronized
  subst hsz
  have hD1 := hD0.self (sz := s.heap.size)
  generalize hAe : va_A (aW D ad cy x) s.heap.size = A at hD1 hXt hXx ⊢
  have hA : ∀ q : Nat, s.heap.size ≤ q → A q := fun q h => by rw [← hAe]; exact Or.inr h
  have hlv := lv_entry (([.ref bLH, .int a, .int w] : List Value).map (aT ad)) (n := mX11_man.2.2.1) (by rw [aT_sl]; exact Nat.le_of_ble_eq_true rfl)
  rw [lg_entry_eq]
  generalize (lg_sl (([.ref bLH, .int a, .int w] : List Value).map (aT ad)) ++ List.replicate (mX11_man.2.2.1 - (lg_sl (([.ref bLH, .int a, .int w] : List Value).map (aT ad))).length) Slot.unset).toArray = ls at hlv ⊢
  rw [aTv_args] at hlv
  have C : aCx mX11_man 11 none p (headSpec (aWd mX11_man) rmX).room s mid (([.ref bLH, .int a, .int w] : List Value).map (aT ad)).toArray c 0 0 dC dI cy ad A := ⟨hx, hb, hml, hown, hts, hK, hA, Nat.le_refl _, Nat.le_refl _, Nat.zero_le _, Nat.zero_le _, (fun q h => by cases h), hNw, hXt⟩
  obtain ⟨ht, hp, ok, hZ, hT, hW, hS⟩ := h
  have im := c_X11_isMan (l := l) (d := 10) (D := D) (a := a) hD ht hp hT
  refine lv_aload_n hx hb dX11_man_0 rfl (aTv_at hlv (aLk_mem (i := 0) (v := .ref bLH) rfl)) ?_
  refine lv_iload_n hx hb dX11_man_1 rfl (aTv_at hlv (aLk_mem (i := 1) (v := .int a) rfl)) ?_
  refine w_callV (m := mX11_man) (m' := mX11_isMan) (As := [.int a]) (st := []) (d := 10) dX11_man_2 (aTb_tables_1_4 37 rfl rfl) w_X11_isMan.1.1 w_X11_isMan.1.2 w_X11_isMan.2.1 w_X11_isMan.2.2.1 (ci := 11) rfl (by decide) w_X11_isMan.2.2.2 (by decide) (Nat.zero_le _) (isLH_0 hD) im C ⟨hP, hD1, va_S.rf⟩ hlv.1 (fun v y H1 locs1 hq hH1 => ?_)
  obtain ⟨rfl, rfl⟩ := hq
  have hx9 : ∀ E, E = exN (manC T a w) → ∀ t' : State, s.vm.Alike t'.vm → H1.size ≤ t'.heap.size → (∀ q : Nat, q < H1.size → t'.heap[q]? = H1[q]?) → xXC D dC dI cy ad A y (manC T a w) E s t' := by
    intro E hE t' _ hz hq
    refine ⟨hE, hH1.1.kept (fun k q hk => hq _ (vx_lt hH1.1 hk)), Nat.le_trans hH1.2.2.1 hz, fun q h1 h2 => ?_⟩
    rw [hq q (Nat.lt_of_lt_of_le h1 hH1.2.2.1)]
    exact hH1.2.2.2.1 q h1 h2
  have g1 := g0
  unfold manC at g1
  refine lv_if_ne (tgt := 18) hx hb dX11_man_5 (by decide) (fun c5 => ?_) (fun c5 => ?_)
  · have gz : zIn (T.1 1) a := by
      by_cases g : zIn (T.1 1) a
      · exact g
      · rw [decide_eq_false g] at c5; exact absurd rfl c5
    rw [if_neg (fun e => e gz)] at g1
    have gw : ¬ zIn 7 w := fun g => g1 (if_neg (fun e => e g))
    have ek : manC T a w = 2 := by unfold manC; rw [if_neg (fun e => e gz), if_pos gw]
    refine lv_iload_n hx hb dX11_man_18 rfl (aTv_at hlv (aLk_mem (i := 2) (v := .int w) rfl)) ?_
    refine lv_tableOut (tgt := 135) hx hb dX11_man_19 (s7_out gw) (by decide) ?_
    exact xc_throw (A := A) hx hb (x_st hl) rxN_0 rxN_1 rxN_2 rxN_5 hown (by decide) (by decide) (hts _ x_w2.1) (hts _ x_w2.2) hXx.2.1.2 (x_h2 hts hXx) (List.all_eq_true.mp x_O2) hXx.1.1 hXx.1.2 hH1.2.2 (by rw [hlv.1, hml]) dX11_man_135 dX11_man_138 dX11_man_139 dX11_man_141 dX11_man_144 (fun x hx => absurd hx (fun h => htb x h)) (by decide) (Nat.le_of_ble_eq_true rfl) (by decide) (by decide) hlocks (hx9 nsN (by rw [ek]; rfl)) hH1.2.2.2.2 (by decide) (by decide)
  · have gz : ¬ zIn (T.1 1) a := fun g => by rw [decide_eq_true g] at c5; exact absurd c5 (by decide)
    have ek : manC T a w = 1 := by unfold manC; rw [if_pos gz]
    exact vx_throwS (A := A) hx hb (x_st hl) hown (by decide) (by decide) (hts _ x_w1.1) (hts _ x_w1.2) hXx.2.1.1 (x_h1 hts hXx) (List.all_eq_true.mp x_O1) hXx.1.1 hXx.1.2 hH1.2.2 (by rw [hlv.1, hml]) dX11_man_8 dX11_man_11 dX11_man_12 dX11_man_14 dX11_man_17 (fun x hx => absurd hx (fun h => htb x h)) (by decide) (Nat.le_of_ble_eq_true rfl) (by decide) (by decide) hlocks (hx9 ioN (by rw [ek]; rfl)) hH1.2.2.2.2 (by decide) (by decide)
end xMan
section xManL
variable {l : Launch} {D : Nat → Bool} {T : zT} {W0 : Nat → zL} {Z : zS} {x : aS} {t : Nat} {a w : Int32}
theorem isOut (hO : D 13 = true) : aIs D 3329 15 1 := ⟨by decide +kernel, hO⟩
set_option maxHeartbeats 4000000 in
set_option maxRecDepth 100000 in
theorem x_manV (hD : aDC D) (hO : D 13 = true) (h : cR T W0 Z x t) (g0 : manC T a w = 0) : aV l mL_man 12 D none 0 (lv_args 0 [.ref bLH, .int a, .int w, .ref 3329]) [] x (xMp T Z a w x) := by
  refine a_aload_n (i := 3) dL_man_0 rfl rfl ?_
  refine a_iconst (v := 0) dL_man_1 (by decide) ?_
  refine a_aload_n (i := 0) dL_man_2 rfl rfl ?_
  refine a_iload_n (i := 1) dL_man_3 rfl rfl ?_
  refine a_iload_n (i := 2) dL_man_4 rfl rfl ?_
  refine kL_7 rfl dL_man_5 (Nat.le_of_ble_eq_true rfl) (isLH_0 hD) (c_X11_manOk (d := 8) hD h g0) ?_
  refine a_i2l dL_man_8 ?_
  refine a_last dL_man_9 (isOut hO) (vp_in_nI (by decide : 0 < 1) (by decide)) ?_
  refine a_goto (tg := 21) dL_man_10 (by decide) ?_
  refine a_iconst (v := 0) dL_man_21 (by decide) ?_
  exact a_iret dL_man_22 (Or.inl ⟨g0, rfl, rfl⟩)
theorem manC_2 (g0 : manC T a w ≠ 0) : manC T a w = 1 ∨ manC T a w = 2 := by
  unfold manC at g0 ⊢
  by_cases g : zIn (T.1 1) a
  · rw [if_neg (fun e => e g)] at g0 ⊢
    by_cases gw : zIn 7 w
    · rw [if_neg (fun e => e gw)] at g0; exact absurd rfl g0
    · rw [if_pos gw]; exact Or.inr rfl
  · rw [if_pos g]; exact Or.inl rfl
set_option maxHeartbeats 4000000 in
set_option maxRecDepth 100000 in
theorem x_man (hl : l.flags = flags0) (hD : aDC D) (hO : D 13 = true) (h : cR T W0 Z x t) (dC : Nat → ClassId) (dI : Nat → Nat → Nat) (cy : Nat → ClassId) (ad : Nat → Nat) (sz sa sb : Nat) :
    vx_Met l yL_man aWdL rmL (xPc D dC dI cy ad sz x [.ref bLH, .int a, .int w, .ref 3329] sa sb) (aQc D dC dI cy ad (va_A (aW D ad cy x) sz) (xMp T Z a w x)) (fun _ _ _ => False) 1 6 (va_A (aW D ad cy x) sz) := by
  refine vx_ofWH (cc := mL_man.2.1) (maxL := mL_man.2.2.1) (ret := mL_man.2.2.2) (hh := hhM) (by decide) rfl ?_
  intro p e s mid args' below meth c s₁ B hml hv
  obtain ⟨⟨rfl, hsz, hP, hK, hNw, hD0, hXt⟩, hXx⟩ := hv
  have hx := B.exec
  have hb := B.bytes
  have hr := B.returns
  have hts : ∀ w' ∈ aTb, w'.before (([.ref bLH, .int a, .int w, .ref 3329] : List Value).map (aT ad)).toArray s = true := fun w' hw => atoms_spec (ws := aWdL) B.pre w' (List.mem_cons_of_mem _ hw)
  have hown : s.vm.findClass RL = some mid.cls := findClass_of_methodNamed B.named
  have hlocks := B.notSynchronized
  have htab : c.exceptionTable.toList = tableOf hhM := vx_table (x := yL_man) B (hts _ w_L_man.1)
  subst hsz
  have hD1 := hD0.self (sz := s.heap.size)
  generalize hAe : va_A (aW D ad cy x) s.heap.size = A at hD1 hXt hXx ⊢
  have hA : ∀ q : Nat, s.heap.size ≤ q → A q := fun q h => by rw [← hAe]; exact Or.inr h
  have hlv := lv_entry (([.ref bLH, .int a, .int w, .ref 3329] : List Value).map (aT ad)) (n := mL_man.2.2.1) (by rw [aT_sl]; exact Nat.le_of_ble_eq_true rfl)
  rw [lg_entry_eq]
  generalize (lg_sl (([.ref bLH, .int a, .int w, .ref 3329] : List Value).map (aT ad)) ++ List.replicate (mL_man.2.2.1 - (lg_sl (([.ref bLH, .int a, .int w, .ref 3329] : List Value).map (aT ad))).length) Slot.unset).toArray = ls at hlv ⊢
  rw [aTv_args] at hlv
  have C : aCx mL_man 12 none p (headSpec aWdL rmL).room s mid (([.ref bLH, .int a, .int w, .ref 3329] : List Value).map (aT ad)).toArray c 0 0 dC dI cy ad A := ⟨hx, hb, hml, hown, hts, hK, hA, Nat.le_refl _, Nat.le_refl _, Nat.zero_le _, Nat.zero_le _, (fun q h => by cases h), hNw, hXt⟩
  have hH0 : aH D s dC dI cy ad A x s.heap [] := ⟨hP, hD1, va_S.rf⟩
  have fin : ∀ (k : Int32) (y : aS) (H : Heap) (locs : List Loc) (ls' : Array Slot) (pc : Nat), xMp T Z a w x (some (.int k)) y → aH D s dC dI cy ad A y H locs → decode cL_man pc = .ok (.ireturn, 1) → W p l e (headSpec aWdL rmL).room s mid (([.ref bLH, .int a, .int w, .ref 3329] : List Value).map (aT ad)).toArray below meth c H locs 1 6 (vx_MQ below (aQc D dC dI cy ad A (xMp T Z a w x)) (fun _ _ _ => False) (([.ref bLH, .int a, .int w, .ref 3329] : List Value).map (aT ad)).toArray s 1 6 A) (F0 mid pc ls' [.int k]) := by
    intro k y H locs ls' pc hq hH hdg
    exact vx_ret (W.iret (v := k) hx hb hr (fun t' ht hW => ⟨⟨some (.int k), y, rfl, hq, by rw [ht]; exact hH.1, hH.2.1⟩, hH.2.2.F ht⟩) hH.2.2.2.2 hdg)
  by_cases g0 : manC T a w = 0
  · refine x_manV hD hO h g0 p e _ s mid _ below meth c 0 0 _ dC dI cy ad A C ?_ s.heap [] ls hH0 hlv
    intro cells' slots' hcs _ _ pcR v y H locs ls' hrt hq hH
    obtain ⟨rfl, rfl⟩ := hcs rfl
    rcases hrt with ⟨hdg, k, rfl⟩ | ⟨hdg, k, rfl⟩ | ⟨hdg, rfl⟩
    · exact W.widen (Nat.zero_le _) (Nat.zero_le _) (fin k y H locs ls' pcR hq hH hdg)
    · rcases hq with ⟨_, e, _⟩ | ⟨_, e, _⟩ <;> cases e
    · rcases hq with ⟨_, e, _⟩ | ⟨_, e, _⟩ <;> cases e
  · refine lv_aload_n hx hb dL_man_0 rfl (aTv_at hlv (aLk_mem (i := 3) (v := .ref 3329) rfl)) ?_
    refine lv_iconst hx hb dL_man_1 (v := 0) (by decide) ?_
    refine lv_aload_n hx hb dL_man_2 rfl (aTv_at hlv (aLk_mem (i := 0) (v := .ref bLH) rfl)) ?_
    refine lv_iload_n hx hb dL_man_3 rfl (aTv_at hlv (aLk_mem (i := 1) (v := .int a) rfl)) ?_
    refine lv_iload_n hx hb dL_man_4 rfl (aTv_at hlv (aLk_mem (i := 2) (v := .int w) rfl)) ?_
    intro T9 hT9 X9
    obtain ⟨q0, hq0⟩ := aIs_at (isLH_0 hD)
    have he : (aW D ad cy x)[q0]? = some (ad bLH, .inr (11, (aFs x bLH 11).map (aT ad))) := by rw [aW_at hq0, aE_obj (by decide)]
    have hG : GoodIn aTb (wsV RL 7 RX11 yX11_man (aWd mX11_man)) := by
      intro w hw9
      have h9 : w ∈ aTb := by
        simp only [wsV, aWd, List.mem_append, List.mem_cons, List.not_mem_nil, or_false] at hw9
        rcases hw9 with (rfl | rfl | rfl | rfl) | (rfl | h)
        · exact aTb_tables_1_5 210 rfl rfl
        · exact w_X11_man.1.1
        · exact w_X11_man.1.2
        · exact w_X11_man.2.1
        · exact w_X11_man.2.2.1
        · exact h
      exact ⟨h9, aTbl_in h9⟩
    rcases vx_runV (cells := 0) (slots := 0) (locs := []) (H := s.heap) (As := [.int a, .int w]) (rest := [.int 0, .ref (ad 3329)]) (Ts := aTb) ⟨hx, hb, hml, hown, hts⟩ (x_thr (l := l) hl hD h g0 dC dI cy ad s.heap.size sa sb) (cwV 2 hts hG rfl rfl rfl ⟨rfl, w_X11_man.2.2.2⟩ ⟨by decide, by decide⟩)
      ⟨xPc_blind, va_recv hK hP (ci := 11) rfl he, fun U hU hW => ⟨⟨rfl, by rw [hU], by rw [hU]; exact hP, va_K.moved hW.alike hK, va_Nw.warmM hW hNw, hD0, by rw [hU, hAe]; exact aXt_go hXt va_S.rf hW (fun _ h => h)⟩, by rw [hU, hAe]; exact aXx_go hXx va_S.rf hW (fun _ h => h)⟩⟩ rfl rfl hlv.1 rfl (lv_room (by simp [Value.category])) dL_man_5 ⟨by decide, by decide⟩ T9 hT9 X9 with ⟨_, _, _, _, _, _, _, _, _, _, hF, _⟩ | ⟨q, st₀, t', T', L, E, ce, h0, X', hL, e1, e2, ⟨hE, hP1, hz, hk⟩, hce, hcv, hcl, st⟩
    · exact absurd hF (fun h => h)
    · rw [h0] at hz hk
      rw [hAe] at hL hk
      have hH1 : aH D s dC dI cy ad A x T'.heap ([] ++ L) := ⟨by rw [e1]; exact hP1, hD1, ⟨by rw [e1]; exact hz, fun q h1 h2 => by rw [e1]; exact hk q h1 h2, fun q hq => hL q (by simpa using hq)⟩⟩
      have hcell : T'.heap[q]? = some ce := by rw [e1]; exact hce
      have ks : ∀ (pc : Nat) (k : Int32), decode cL_man pc = .ok (.astore 4, 2) → decode cL_man (pc + 2) = .ok (.iconst k.toInt, 1) → decode cL_man (pc + 3) = .ok (.ireturn, 1) → nI (manC T a w) = k → W p l e (headSpec aWdL rmL).room s mid (([.ref bLH, .int a, .int w, .ref 3329] : List Value).map (aT ad)).toArray below meth c T'.heap ([] ++ L) (0 + 1) (0 + 6) (vx_MQ below (aQc D dC dI cy ad A (xMp T Z a w x)) (fun _ _ _ => False) (([.ref bLH, .int a, .int w, .ref 3329] : List Value).map (aT ad)).toArray s 1 6 A) (F0 mid pc ls [.ref q]) := by
        intro pc k d1 d2 d3 hk
        refine lv_astore hx hb d1 hlv (by decide) rfl (fun ls' _ => ?_)
        refine lv_iconst hx hb d2 (v := k) (by simp) ?_
        exact fin k x _ _ ls' _ (Or.inr ⟨g0, by rw [hk], rfl⟩) hH1 d3
      have kW : vx_W p l e (headSpec aWdL rmL).room s mid (([.ref bLH, .int a, .int w, .ref 3329] : List Value).map (aT ad)).toArray below meth c T'.heap ([] ++ L) (0 + 1) (0 + 6) (vx_MQ below (aQc D dC dI cy ad A (xMp T Z a w x)) (fun _ _ _ => False) (([.ref bLH, .int a, .int w, .ref 3329] : List Value).map (aT ad)).toArray s 1 6 A) (F0 mid 5 ls [.int 0, .ref (ad 3329)]) q := by
        rcases manC_2 g0 with ek | ek
        · have hE' : E = ioN := by rw [hE, ek]; rfl
          subst hE'
          exact vx_catch hown [] _ _ htab (fun z hz => by cases hz) rfl (by decide) (hts _ w_L_mc.1) (va_Nw.use rfl hXx.2.2.2.1.1) hcell hcv hcl (ks 13 1 dL_man_13 dL_man_15 dL_man_16 (by rw [ek]; rfl))
        · have hE' : E = nsN := by rw [hE, ek]; rfl
          subst hE'
          refine vx_catch hown [_] _ [] htab (fun z hz => ?_) rfl (by decide) (hts _ w_L_mc.2) (va_Nw.use rfl hXx.2.2.2.1.2) hcell hcv hcl (ks 17 2 dL_man_17 dL_man_19 dL_man_20 (by rw [ek]; rfl))
          rw [List.mem_singleton] at hz
          subst hz
          exact Or.inr ⟨by decide, ioN, hts _ w_L_mc.1, hXx.2.2.2.2⟩
      obtain ⟨t2, a1, b1⟩ := kW T' rfl X'
      exact ⟨t2, st.trans a1, b1⟩
end xManL
/-! what the start's words say of the throws; the law's call of man -/
set_option maxRecDepth 100000 in
theorem x_tbs : Cond.laysStatic Bundle.tN "UNASSIGNED_STACK" Bundle.steD ∈ lw_tbl ∧ Cond.laysStatic Bundle.tN "SUPPRESSED_SENTINEL" Bundle.listD ∈ lw_tbl ∧ Cond.initialized Bundle.tN ∈ lw_tbl ∧ Cond.stringRef RX11 130 "no such one of the folk" ∈ lw_tbl ∧ Cond.stringRef RX11 159 "no such what" ∈ lw_tbl ∧ xDc "java/lang/RuntimeException" ∈ lw_tbl ∧ xDc "java/lang/Exception" ∈ lw_tbl ∧ xDc Bundle.tN ∈ lw_tbl ∧ Cond.castable ioN ioN ∈ lw_tbl ∧ Cond.castable nsN nsN ∈ lw_tbl :=
  ⟨List.mem_of_getElem? (i := 1321) rfl, List.mem_of_getElem? (i := 1323) rfl, List.mem_of_getElem? (i := 139) rfl, List.mem_of_getElem? (i := 1334) rfl, List.mem_of_getElem? (i := 1369) rfl, List.mem_of_getElem? (i := 1298) rfl, List.mem_of_getElem? (i := 1300) rfl, List.mem_of_getElem? (i := 1302) rfl, List.mem_of_getElem? (i := 1296) rfl, List.mem_of_getElem? (i := 1362) rfl⟩
theorem x_start {args : Array Value} {s : State} {A : Nat → Prop} (hA : ∀ a, a < s.heap.size → ¬ A a) (hg : (Jvm.Cond.and given_1 narrow_1).before args s = true) (ht : ∀ w ∈ lw_tbl, w.before args s = true) : ∃ sa sb, aXx A s s.heap sa sb := by
  have hs := flat_of_before _ hg
  have n1 : (Cond.isRef (.static Bundle.tN "UNASSIGNED_STACK" Bundle.steD)).before args s = true := hs _ (by decide +kernel)
  have n2 : (Cond.isRef (.static Bundle.tN "SUPPRESSED_SENTINEL" Bundle.listD)).before args s = true := hs _ (by decide +kernel)
  have n3 : (Cond.exactly (.string RX11 130) "java/lang/String").before args s = true := hs _ (by decide +kernel)
  have n4 : (Cond.exactly (.string RX11 159) "java/lang/String").before args s = true := hs _ (by decide +kernel)
  have n5 : (Cond.not (.castable nsN ioN)).before args s = true := hs _ (by decide +kernel)
  obtain ⟨t1, t2, t3, t4, t5, t6, t7, t8, t9, t10⟩ := x_tbs
  obtain ⟨sa, _, _, _, q1, -⟩ := Cond.exactly_spec (args := args) (first := s) (o := none) (s := s) (idx := []) n3
  obtain ⟨sb, _, _, _, q2, -⟩ := Cond.exactly_spec (args := args) (first := s) (o := none) (s := s) (idx := []) n4
  exact ⟨sa, sb, ⟨vx_Zqof (ht _ t1) (ht _ t3) n1 hA, vx_Zqof (ht _ t2) (ht _ t3) n2 hA⟩, ⟨vk_R.of (ht _ t4) q1, vk_R.of (ht _ t5) q2⟩, ⟨va_Nw.of rfl (ht _ t6), va_Nw.of rfl (ht _ t7), va_Nw.of rfl (ht _ t8)⟩, ⟨va_Nw.of rfl (ht _ t9), va_Nw.of rfl (ht _ t10)⟩, va_Nc.of n5⟩
section xCall
variable {l : Launch} {D : Nat → Bool} {scr : Option aSc} {q : aSc} {i : Nat} {x : aS} {Q : Option Value → aS → Prop} {T : zT} {W0 : Nat → zL} {Z : zS} {t : Nat} {a w : Int32} {lv : List (Nat × Value)}
set_option maxHeartbeats 4000000 in
set_option maxRecDepth 100000 in
theorem x_call (hl : l.flags = flags0) (hD : aDC D) (hO : D 13 = true) (hs : scr = some q) (hc : q.2.2.1 + 1 ≤ room_1.cells) (hs6 : q.2.2.2 + 6 ≤ room_1.slots) (h : cR T W0 Z x t)
    (k : ∀ v y, xMp T Z a w x v y → aV l mL_law 13 D (some (q.1, q.2.1, q.2.2.1 + 1, q.2.2.2 + 6)) 397 lv (v.toList ++ []) y Q) : aV l mL_law 13 D scr 394 lv [.ref 3329, .int w, .int a, .ref bLH] x Q := by
  intro p e R s mid args below meth c cells slots Qs dC dI cy ad A C F H locs ls hH hlv
  obtain ⟨hx, hb, hml, hown, hts, hK, hA, hf, hlo, hce, hsl, hsc, hNw, hXt⟩ := C
  obtain ⟨c1, c2, c3, ⟨c4, c4'⟩, ⟨c5, c5'⟩, c6, c7⟩ := hsc q hs
  obtain ⟨sa, sb, hXx⟩ := x_start c3 c6 c7
  have hsub := a_sub hH hA
  have hG : GoodIn aTb (va_wsS RL 39 yL_man aWdL) := by
    intro w hw9
    have h9 : w ∈ aTb := by
      simp only [va_wsS, aWdL, List.mem_append, List.mem_cons, List.not_mem_nil, or_false] at hw9
      rcases hw9 with (rfl | rfl | rfl) | (rfl | h)
      · exact w_L_man.2.1
      · exact w_L_man.2.2.1
      · exact w_L_man.2.2.2
      · exact w_L_man.1
      · exact h
    exact ⟨h9, aTbl_in h9⟩
  intro T9 hT9 X9
  rcases vx_runSX (cells := cells) (slots := slots) (locs := locs) (H := H) (As := [.ref (ad bLH), .int a, .int w, .ref (ad 3329)]) (rest := []) (Ts := aTb) ⟨hx, hb, hml, hown, hts⟩ (x_man (l := l) (a := a) (w := w) hl hD hO h dC dI cy ad H.size sa sb) (vx_cwSW 4 hts hG rfl rfl rfl ⟨by decide, by decide, by decide⟩ ⟨hf, (by show 8 + (5 + 11) + 480 ≤ R.locals; omega)⟩)
    ⟨xPc_blind, fun U hU hW => ⟨⟨rfl, by rw [hU], by rw [hU]; exact hH.1, va_K.moved hW.alike hK, va_Nw.warmM hW hNw, hH.2.1.weaken (fun _ _ _ _ => trivial), by rw [hU]; exact aXt_go hXt hH.2.2 hW hsub⟩, by rw [hU]; exact aXx_go hXx hH.2.2 hW hsub⟩⟩ rfl rfl hlv.1 rfl (lv_room (by simp)) dL_law_394 ⟨by omega, by omega⟩ T9 hT9 X9 with ⟨v, st₀, t', T', L, h0, X', hL, e1, e2, ⟨⟨v2, y, hv, hq, hP1, hD1⟩, hz, hk⟩, st⟩ | ⟨_, _, _, _, _, _, _, _, _, _, _, _, hF, _⟩
  · cases hv
    rw [h0] at hz hk
    obtain ⟨t2, a1, b1⟩ := k v2 y hq p e R s mid args below meth c (cells + 1) (slots + 6) Qs dC dI cy ad A
      ⟨hx, hb, hml, hown, hts, hK, hA, hf, hlo, by omega, by omega, (fun q' h' => by cases h'; exact ⟨c1, c2, c3, ⟨by rw [c4], by rw [c4']⟩, ⟨c5, c5'⟩, c6, c7⟩), hNw, hXt⟩
      (fun c' s' _ g1 g2 => F c' s' (fun g => by rw [hs] at g; cases g) g1 g2) T'.heap (locs ++ L) ls ⟨by rw [e1]; exact hP1, hD1.weaken (fun k q _ h => hsub q.1 h),
        ⟨Nat.le_trans hH.2.2.1 (by rw [e1]; exact hz), fun q h1 h2 => by rw [e1, hk q (Nat.lt_of_lt_of_le h1 hH.2.2.1) (fun z => h2 (hsub q z))]; exact hH.2.2.2.1 q h1 h2, fun q hq => by
          rcases List.mem_append.mp hq with h | h
          · exact hH.2.2.2.2 q h
          · exact hsub _ (hL q h)⟩⟩ hlv T' rfl X'
    refine ⟨t2, st t2 ?_, b1⟩
    rw [List.map_append] at a1
    cases v2 <;> exact a1
  · exact absurd hF (fun h => h)
end xCall
section qBSb
variable {l : Launch} {D : Nat → Bool} {scr : Option aSc} {q : aSc} {i : Nat} {x y : aS} {Q : Option Value → aS → Prop}
theorem gM_2 {T : zT} {W : Nat → zL} {Z Y : zS} {p : Nat × zG} {k : Int32} {u : zU} {im : Bool} {f7 f8 : Int32} {N : Nat} {B : Nat → Nat} (h : gM T W Z Y p k u im f7 f8 N B x) (e1 : y.1 = x.1) (e2 : y.2 bM = x.2 bM) : gM T W Z Y p k u im f7 f8 N B y := by
  simp only [gM, mQ, mR, rTM, rWM, rLM, mNok, mNd, rM, rNum, rFl, mT0, rTm, mSe, rGM, rUM, snap, mI0, rIM, e1, e2] at h ⊢
  exact h
theorem toI64 (r : Int32) : lg_cmp r.toInt64 r.toInt64 = 0 := lcmp_r _
set_option maxHeartbeats 4000000 in
set_option maxRecDepth 100000 in
theorem lw_man (hl : l.flags = flags0) (hD : aDC D) (hM : D 12 = true) (hO : D 13 = true) (hs : scr = some q) (hL : q.1 < 2147483648) (hi : i + 6 ≤ q.1) (hc : q.2.2.1 + 1 ≤ room_1.cells) (hs6 : q.2.2.2 + 6 ≤ room_1.slots) (J : gJ x) (ih : ∀ z, gJ z → aV l mL_law 13 D (some (q.1, q.2.1, q.2.2.1 + 1, q.2.2.2 + 6)) 1618 (lwV i) [] z Q) : aV l mL_law 13 D scr 380 (lwV i) [] x Q := by
  obtain ⟨T, W, Z, Y, p, k, u, im, f7, f8, t, t2, N, B, C, M, P⟩ := J
  refine a_aload_n (i := 1) dL_law_380 rfl rfl ?_
  refine a_aload_n (i := 0) dL_law_381 rfl rfl ?_
  refine a_iload (i := 4) dL_law_382 rfl ?_
  refine a_iconst (v := 1) dL_law_384 (by decide) ?_
  refine a_iadd dL_law_385 ?_
  refine a_sldN dL_law_386 hs (nI_add _ 1) (by omega) hL ?_
  refine a_aload_n (i := 0) dL_law_387 rfl rfl ?_
  refine a_iload (i := 4) dL_law_388 rfl ?_
  refine a_iconst (v := 2) dL_law_390 (by decide) ?_
  refine a_iadd dL_law_391 ?_
  refine a_sldN dL_law_392 hs (nI_add _ 2) (by omega) hL ?_
  refine a_aload_n (i := 3) dL_law_393 rfl rfl ?_
  refine x_call hl hD hO hs hc hs6 C.1 (fun v y hq => ?_)
  have key : ∃ (r : Int32), v = some (.int r) ∧ r = nI (manC T (q.2.1 (i + 1)) (q.2.1 (i + 2))) ∧ (manC T (q.2.1 (i + 1)) (q.2.1 (i + 2)) = 0 → y.2 3329 0 = (qMan T Z (q.2.1 (i + 1)).toNatClampNeg (q.2.1 (i + 2))).toInt64) ∧ y.1 = x.1 ∧ y.2 bM = x.2 bM := by
    rcases hq with ⟨g0, rfl, rfl⟩ | ⟨g0, rfl, rfl⟩
    · refine ⟨0, rfl, by rw [g0]; rfl, fun _ => ?_, rfl, ?_⟩
      · unfold aWl; simp
      · unfold aWl; rw [show bM = 3072 from by decide]; simp
    · exact ⟨_, rfl, rfl, fun g => absurd g g0, rfl, rfl⟩
  obtain ⟨r, rfl, hr, h0, e1, e2⟩ := key
  have C1 := gC_lo (y := y) C (fun m _ => by rw [e1])
  have M1 := gM_2 (y := y) M e1 e2
  refine a_istore (i := 5) dL_law_397 (by decide) ?_
  refine a_aload_n (i := 2) dL_law_399 rfl rfl ?_
  refine a_aload_n (i := 0) dL_law_400 rfl rfl ?_
  refine a_iload (i := 4) dL_law_401 rfl ?_
  refine a_iconst (v := 1) dL_law_403 (by decide) ?_
  refine a_iadd dL_law_404 ?_
  refine a_sldN dL_law_405 rfl (nI_add _ 1) (by show i + 1 < q.1; omega) hL ?_
  refine a_aload_n (i := 0) dL_law_406 rfl rfl ?_
  refine a_iload (i := 4) dL_law_407 rfl ?_
  refine a_iconst (v := 2) dL_law_409 (by decide) ?_
  refine a_iadd dL_law_410 ?_
  refine a_sldN dL_law_411 rfl (nI_add _ 2) (by show i + 2 < q.1; omega) hL ?_
  refine kgL_44 rfl dL_law_412 (Nat.le_of_ble_eq_true rfl) (isM_0 hM) (c_X12_man (d := 8) hM M1.1.1) (fun v z hz => ?_)
  obtain ⟨⟨r6, rfl, h6⟩, hz2, hzF⟩ := hz
  have C2 := gC_lo C1 (lo_F hzF)
  have M2 := gM_F M1 hzF
  have hz9 : z.2 3329 = y.2 3329 := hzF.2 _ (by decide) (by decide)
  refine a_istore (i := 6) dL_law_415 (by decide) ?_
  refine a_aload_n (i := 2) dL_law_417 rfl rfl ?_
  refine kL_45 rfl dL_law_418 (Nat.le_of_ble_eq_true rfl) (isM_0 hM) (c_X12_thrown hM) ?_
  refine a_iload (i := 5) dL_law_421 rfl ?_
  refine a_icmp_eq (tg := 428) dL_law_423 (by decide) (fun c_423 => ?_) (fun c_423 => ?_)
  · refine a_iload (i := 5) dL_law_428 rfl ?_
    refine a_if_ne (tg := 445) dL_law_430 (by decide) (fun c_430 => ?_) (fun c_430 => ?_)
    · refine a_goto (tg := 1618) dL_law_445 (by decide) ?_
      exact a_loc _ rfl (ih _ ⟨T, W, Z, Y, p, k, u, im, f7, f8, t, t2, N, B, C2, M2, P⟩)
    · have m0 : manC T (q.2.1 (i + 1)) (q.2.1 (i + 2)) = 0 := by
        rw [hr] at c_430
        by_cases g : manC T (q.2.1 (i + 1)) (q.2.1 (i + 2)) = 0
        · exact g
        · rcases manC_2 g with e | e <;> (rw [e] at c_430; exact absurd c_430 (by decide))
      refine a_aload_n (i := 3) dL_law_433 rfl rfl ?_
      refine a_iconst (v := 0) dL_law_434 (by decide) ?_
      refine a_lald dL_law_435 (isOut hO) (vp_in_nI (by decide : 0 < 1) (by decide)) ?_
      refine a_iload (i := 6) dL_law_436 rfl ?_
      refine a_i2l dL_law_438 ?_
      refine a_lcmp dL_law_439 ?_
      have e9 : z.2 3329 (0 : Int32).toNatClampNeg = r6.toInt64 := by
        rw [hz9, h6 m0]; exact h0 m0
      rw [e9, toI64]
      refine a_if_eq (tg := 445) dL_law_440 (by decide) (fun c_440 => ?_) (fun c_440 => absurd rfl c_440)
      refine a_goto (tg := 1618) dL_law_445 (by decide) ?_
      exact a_loc _ rfl (ih _ ⟨T, W, Z, Y, p, k, u, im, f7, f8, t, t2, N, B, C2, M2, P⟩)
  · exact absurd (by rw [hz2, hr]) c_423
end qBSb
