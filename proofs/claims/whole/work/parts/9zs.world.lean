/-! BIRTH: the class's world, by names -/
def bRel (q q' : Nat × va_E) : Prop := q.1 = q'.1 ∧ ∀ (D : va_G) (cl : List vw_C) (H : Heap), va_at D cl q H → va_at D cl q' H
theorem bRel_r (q : Nat × va_E) : bRel q q := ⟨rfl, fun _ _ _ h => h⟩
/-- every cell of ws' is one of ws -/
def bSub (ws ws' : va_W) : Prop := List.Perm (ws'.map (fun q => q.1)) (ws.map (fun q => q.1)) ∧ ∀ q' ∈ ws', ∃ q ∈ ws, bRel q q'
theorem bSub_r (ws : va_W) : bSub ws ws := ⟨List.Perm.refl _, fun q h => ⟨q, h, bRel_r q⟩⟩
theorem bSub_e {ws ws' : va_W} (h : ws = ws') : bSub ws ws' := h ▸ bSub_r ws
theorem bSub_app {a a' b b' : va_W} (h : bSub a a') (g : bSub b b') : bSub (a ++ b) (a' ++ b') := by
  refine ⟨by rw [List.map_append, List.map_append]; exact List.Perm.append h.1 g.1, fun q' hq => ?_⟩
  rcases List.mem_append.mp hq with hh | hh
  · obtain ⟨q, h1, h2⟩ := h.2 q' hh
    exact ⟨q, List.mem_append_left _ h1, h2⟩
  · obtain ⟨q, h1, h2⟩ := g.2 q' hh
    exact ⟨q, List.mem_append_right _ h1, h2⟩
theorem bSub_cons {e : Nat × va_E} {a a' : va_W} (h : bSub a a') : bSub (e :: a) (e :: a') := bSub_app (a := [e]) (a' := [e]) (bSub_r _) h
theorem bSub_rel {e e' : Nat × va_E} {a a' : va_W} (g : bRel e e') (h : bSub a a') : bSub (e :: a) (e' :: a') := by
  refine bSub_app (a := [e]) (a' := [e']) ⟨?_, fun q' hq => ?_⟩ h
  · show List.Perm [e'.1] [e.1]
    rw [g.1]
  · rw [List.mem_singleton] at hq
    subst hq
    exact ⟨e, List.mem_singleton.mpr rfl, g⟩
theorem bSub_perm {ws : va_W} {ns ns' : List aN} {F : aN → Nat × va_E} (h : bSub ws (ns.map F)) (p : List.Perm ns' ns) : bSub ws (ns'.map F) := by
  refine ⟨List.Perm.trans ((p.map F).map _) h.1, fun q' hq => h.2 q' ((p.map F).mem_iff.mp hq)⟩
theorem va_D_nd {A : Nat → Prop} {ws : va_W} (h : va_D A ws) : (ws.map (fun q => q.1)).Nodup := by
  refine List.pairwise_iff_getElem.mpr (fun i j hi hj hij e => ?_)
  rw [List.length_map] at hi hj
  rw [List.getElem_map, List.getElem_map] at e
  have := h.1 i j ws[i] ws[j] (List.getElem?_eq_getElem hi) (List.getElem?_eq_getElem hj) e
  omega
theorem bH_sub {s : State} {dC : Nat → ClassId} {dI : Nat → Nat → Nat} {A : Nat → Prop} {ws ws' : va_W} {H : Heap} {locs : List Loc} (h : bH s dC dI A ws H locs) (g : bSub ws ws') : bH s dC dI A ws' H locs := by
  obtain ⟨hP, hD, hS⟩ := h
  have hn : (ws'.map (fun q => q.1)).Nodup := g.1.nodup_iff.mpr (va_D_nd hD)
  refine ⟨fun k q hk => ?_, ⟨fun i j x y hi hj e => ?_, fun k q hk => ?_⟩, hS⟩
  · obtain ⟨q0, h1, h2⟩ := g.2 q (List.mem_of_getElem? hk)
    obtain ⟨i, hi⟩ := List.getElem?_of_mem h1
    exact h2.2 _ _ _ (hP i q0 hi)
  · have h1 : (ws'.map (fun q => q.1))[i]? = some x.1 := by rw [List.getElem?_map, hi]; rfl
    have h2 : (ws'.map (fun q => q.1))[j]? = some y.1 := by rw [List.getElem?_map, hj]; rfl
    have hlt : i < (ws'.map (fun q => q.1)).length := (List.getElem?_eq_some_iff.mp h1).1
    exact (List.getElem?_inj hlt hn).mp (by rw [h1, h2, e])
  · obtain ⟨q0, h1, h2⟩ := g.2 q (List.mem_of_getElem? hk)
    obtain ⟨i, hi⟩ := List.getElem?_of_mem h1
    rw [← h2.1]
    exact hD.2 i q0 hi
theorem b_arrV {c : ClassId} {n : Nat} {f g : Nat → Value} (h : ∀ j, j < n → f j = g j) : arrV c n f = arrV c n g := by
  have e : (fun j : Fin n => f j.val) = (fun j : Fin n => g j.val) := funext (fun j => h j.val j.isLt)
  unfold arrV
  rw [e]
/-- an array of references, by what lies within it -/
theorem bRel_q {a n : Nat} {c : ClassId} {f g : Nat → Option Nat} (h : ∀ j, j < n → f j = g j) : bRel (a, .inl (c, n, .inr (.inr (.inr (.inr f))))) (a, .inl (c, n, .inr (.inr (.inr (.inr g))))) := by
  refine ⟨rfl, fun D cl H hh => ?_⟩
  have hh : H[a]? = some (arrV c n (fun j => va_rf (f j))) := hh
  show H[a]? = some (arrV c n (fun j => va_rf (g j)))
  exact hh.trans (congrArg some (b_arrV (fun j hj => by
    show va_rf (f j) = va_rf (g j)
    rw [h j hj])))
/-- the first memory -/
def x00 : aS := (fun n j => if n = 256 ∧ j = 8 then -1 else if n = 2304 ∧ j = 1 then -1 else if n = 512 ∧ j = 4 then 37 else if n = 256 ∧ j = 1 then 3 else if n = 0 ∧ j = 1 then 4 else 0, fun _ _ => 0)
def bF (ad : Nat → Nat) (cy : Nat → ClassId) : aN → Nat × va_E := fun q => (ad q.1, aE ad cy x00 q)
/-- ad is a on an owner's names -/
def bOn (o : Nat) (a ad : Nat → Nat) : Prop := ∀ m, 256 * o ≤ m → m < 256 * o + 256 → ad m = a m
def nm_2 : List aN := [(512, 7, 0), (514, 13, 700)]
def nm_3 : List aN := [(768, 8, 0), (771, 14, 6), (772, 14, 6), (774, 14, 8), (775, 14, 8), (776, 14, 8), (777, 14, 8), (778, 14, 8), (780, 17, 14), (782, 18, 6), (784, 14, 4), (868, 0, 0), (869, 0, 0), (870, 0, 0), (871, 0, 0), (872, 0, 0), (873, 0, 0), (874, 0, 0), (875, 0, 0), (876, 0, 0), (877, 0, 0), (878, 0, 0), (879, 0, 0), (880, 0, 0), (881, 0, 0), (888, 9, 0), (889, 9, 0), (890, 9, 0), (891, 9, 0), (892, 9, 0), (893, 9, 0), (898, 2, 0), (908, 14, 64), (918, 14, 64), (899, 2, 0), (909, 14, 64), (919, 14, 64), (900, 2, 0), (910, 14, 64), (920, 14, 64)]
def nm_4 : List aN := [(1024, 8, 0), (1027, 14, 6), (1028, 14, 6), (1030, 14, 8), (1031, 14, 8), (1032, 14, 8), (1033, 14, 8), (1034, 14, 8), (1036, 17, 14), (1038, 18, 6), (1040, 14, 4), (1124, 0, 0), (1125, 0, 0), (1126, 0, 0), (1127, 0, 0), (1128, 0, 0), (1129, 0, 0), (1130, 0, 0), (1131, 0, 0), (1132, 0, 0), (1133, 0, 0), (1134, 0, 0), (1135, 0, 0), (1136, 0, 0), (1137, 0, 0), (1144, 9, 0), (1145, 9, 0), (1146, 9, 0), (1147, 9, 0), (1148, 9, 0), (1149, 9, 0), (1154, 2, 0), (1164, 14, 64), (1174, 14, 64), (1155, 2, 0), (1165, 14, 64), (1175, 14, 64), (1156, 2, 0), (1166, 14, 64), (1176, 14, 64)]
def nm_5 : List aN := [(1280, 6, 0), (1285, 14, 48), (1286, 14, 48), (1287, 14, 6), (1288, 14, 72), (1289, 14, 72), (1290, 14, 8), (1291, 14, 8), (1292, 14, 8)]
def nm_6 : List aN := [(1536, 6, 0), (1541, 14, 48), (1542, 14, 48), (1543, 14, 6), (1544, 14, 72), (1545, 14, 72), (1546, 14, 8), (1547, 14, 8), (1548, 14, 8)]
def nm_7 : List aN := [(1792, 6, 0), (1797, 14, 48), (1798, 14, 48), (1799, 14, 6), (1800, 14, 72), (1801, 14, 72), (1802, 14, 8), (1803, 14, 8), (1804, 14, 8)]
def nm_8 : List aN := [(2048, 10, 0), (2049, 14, 7), (2050, 15, 64)]
def nm_9 : List aN := [(2304, 5, 0), (2307, 14, 24), (2308, 14, 24), (2309, 14, 24), (2310, 16, 24), (2311, 14, 24), (2312, 16, 24)]
def nm_10 : List aN := [(2560, 1, 0), (2562, 14, 20), (2563, 14, 20), (2564, 14, 20), (2565, 14, 20)]
def nm_11 : List aN := [(2816, 4, 0), (2817, 14, 6), (2819, 14, 61), (2820, 14, 8), (2821, 14, 48), (2822, 14, 1792), (2823, 14, 6), (2824, 16, 6)]
set_option maxRecDepth 100000 in
theorem bN_2 {cy : Nat → ClassId} {b : Nat} {ws : va_W} (h : bP_X7 cy b ws) : ∃ a : Nat → Nat, a 512 = b ∧ ∀ ad, bOn 2 a ad → bSub ws (List.map (bF ad cy) nm_2) := by
  obtain ⟨q1, rfl⟩ := h
  refine ⟨fun m => if m = 512 then b else if m = 514 then q1 else 0, rfl, fun ad h => bSub_e ?_⟩
  have e0 : ad 512 = b := h 512 (by decide) (by decide)
  have e1 : ad 514 = q1 := h 514 (by decide) (by decide)
  clear h
  subst e0
  subst e1
  rfl
set_option maxRecDepth 100000 in
theorem bN_5 {cy : Nat → ClassId} {b : Nat} {ws : va_W} (h : bP_X6 cy b ws) : ∃ a : Nat → Nat, a 1280 = b ∧ ∀ ad, bOn 5 a ad → bSub ws (List.map (bF ad cy) nm_5) := by
  obtain ⟨q4, q5, q6, q7, q8, q9, q10, q11, rfl⟩ := h
  refine ⟨fun m => if m = 1280 then b else if m = 1285 then q4 else if m = 1286 then q5 else if m = 1287 then q6 else if m = 1288 then q7 else if m = 1289 then q8 else if m = 1290 then q9 else if m = 1291 then q10 else if m = 1292 then q11 else 0, rfl, fun ad h => bSub_e ?_⟩
  have e0 : ad 1280 = b := h 1280 (by decide) (by decide)
  have e1 : ad 1285 = q4 := h 1285 (by decide) (by decide)
  have e2 : ad 1286 = q5 := h 1286 (by decide) (by decide)
  have e3 : ad 1287 = q6 := h 1287 (by decide) (by decide)
  have e4 : ad 1288 = q7 := h 1288 (by decide) (by decide)
  have e5 : ad 1289 = q8 := h 1289 (by decide) (by decide)
  have e6 : ad 1290 = q9 := h 1290 (by decide) (by decide)
  have e7 : ad 1291 = q10 := h 1291 (by decide) (by decide)
  have e8 : ad 1292 = q11 := h 1292 (by decide) (by decide)
  clear h
  subst e0
  subst e1
  subst e2
  subst e3
  subst e4
  subst e5
  subst e6
  subst e7
  subst e8
  rfl
set_option maxRecDepth 100000 in
theorem bN_6 {cy : Nat → ClassId} {b : Nat} {ws : va_W} (h : bP_X6 cy b ws) : ∃ a : Nat → Nat, a 1536 = b ∧ ∀ ad, bOn 6 a ad → bSub ws (List.map (bF ad cy) nm_6) := by
  obtain ⟨q4, q5, q6, q7, q8, q9, q10, q11, rfl⟩ := h
  refine ⟨fun m => if m = 1536 then b else if m = 1541 then q4 else if m = 1542 then q5 else if m = 1543 then q6 else if m = 1544 then q7 else if m = 1545 then q8 else if m = 1546 then q9 else if m = 1547 then q10 else if m = 1548 then q11 else 0, rfl, fun ad h => bSub_e ?_⟩
  have e0 : ad 1536 = b := h 1536 (by decide) (by decide)
  have e1 : ad 1541 = q4 := h 1541 (by decide) (by decide)
  have e2 : ad 1542 = q5 := h 1542 (by decide) (by decide)
  have e3 : ad 1543 = q6 := h 1543 (by decide) (by decide)
  have e4 : ad 1544 = q7 := h 1544 (by decide) (by decide)
  have e5 : ad 1545 = q8 := h 1545 (by decide) (by decide)
  have e6 : ad 1546 = q9 := h 1546 (by decide) (by decide)
  have e7 : ad 1547 = q10 := h 1547 (by decide) (by decide)
  have e8 : ad 1548 = q11 := h 1548 (by decide) (by decide)
  clear h
  subst e0
  subst e1
  subst e2
  subst e3
  subst e4
  subst e5
  subst e6
  subst e7
  subst e8
  rfl
set_option maxRecDepth 100000 in
theorem bN_7 {cy : Nat → ClassId} {b : Nat} {ws : va_W} (h : bP_X6 cy b ws) : ∃ a : Nat → Nat, a 1792 = b ∧ ∀ ad, bOn 7 a ad → bSub ws (List.map (bF ad cy) nm_7) := by
  obtain ⟨q4, q5, q6, q7, q8, q9, q10, q11, rfl⟩ := h
  refine ⟨fun m => if m = 1792 then b else if m = 1797 then q4 else if m = 1798 then q5 else if m = 1799 then q6 else if m = 1800 then q7 else if m = 1801 then q8 else if m = 1802 then q9 else if m = 1803 then q10 else if m = 1804 then q11 else 0, rfl, fun ad h => bSub_e ?_⟩
  have e0 : ad 1792 = b := h 1792 (by decide) (by decide)
  have e1 : ad 1797 = q4 := h 1797 (by decide) (by decide)
  have e2 : ad 1798 = q5 := h 1798 (by decide) (by decide)
  have e3 : ad 1799 = q6 := h 1799 (by decide) (by decide)
  have e4 : ad 1800 = q7 := h 1800 (by decide) (by decide)
  have e5 : ad 1801 = q8 := h 1801 (by decide) (by decide)
  have e6 : ad 1802 = q9 := h 1802 (by decide) (by decide)
  have e7 : ad 1803 = q10 := h 1803 (by decide) (by decide)
  have e8 : ad 1804 = q11 := h 1804 (by decide) (by decide)
  clear h
  subst e0
  subst e1
  subst e2
  subst e3
  subst e4
  subst e5
  subst e6
  subst e7
  subst e8
  rfl
set_option maxRecDepth 100000 in
theorem bN_8 {cy : Nat → ClassId} {b : Nat} {ws : va_W} (h : bP_X10 cy b ws) : ∃ a : Nat → Nat, a 2048 = b ∧ ∀ ad, bOn 8 a ad → bSub ws (List.map (bF ad cy) nm_8) := by
  obtain ⟨q0, q1, rfl⟩ := h
  refine ⟨fun m => if m = 2048 then b else if m = 2049 then q0 else if m = 2050 then q1 else 0, rfl, fun ad h => bSub_e ?_⟩
  have e0 : ad 2048 = b := h 2048 (by decide) (by decide)
  have e1 : ad 2049 = q0 := h 2049 (by decide) (by decide)
  have e2 : ad 2050 = q1 := h 2050 (by decide) (by decide)
  clear h
  subst e0
  subst e1
  subst e2
  rfl
set_option maxRecDepth 100000 in
theorem bN_9 {cy : Nat → ClassId} {b : Nat} {ws : va_W} (h : bP_X5 cy b ws) : ∃ a : Nat → Nat, a 2304 = b ∧ ∀ ad, bOn 9 a ad → bSub ws (List.map (bF ad cy) nm_9) := by
  obtain ⟨q2, q3, q4, q5, q6, q7, rfl⟩ := h
  refine ⟨fun m => if m = 2304 then b else if m = 2307 then q2 else if m = 2308 then q3 else if m = 2309 then q4 else if m = 2310 then q5 else if m = 2311 then q6 else if m = 2312 then q7 else 0, rfl, fun ad h => bSub_e ?_⟩
  have e0 : ad 2304 = b := h 2304 (by decide) (by decide)
  have e1 : ad 2307 = q2 := h 2307 (by decide) (by decide)
  have e2 : ad 2308 = q3 := h 2308 (by decide) (by decide)
  have e3 : ad 2309 = q4 := h 2309 (by decide) (by decide)
  have e4 : ad 2310 = q5 := h 2310 (by decide) (by decide)
  have e5 : ad 2311 = q6 := h 2311 (by decide) (by decide)
  have e6 : ad 2312 = q7 := h 2312 (by decide) (by decide)
  clear h
  subst e0
  subst e1
  subst e2
  subst e3
  subst e4
  subst e5
  subst e6
  rfl
set_option maxRecDepth 100000 in
theorem bN_10 {cy : Nat → ClassId} {b : Nat} {ws : va_W} (h : bP_X1 cy b ws) : ∃ a : Nat → Nat, a 2560 = b ∧ ∀ ad, bOn 10 a ad → bSub ws (List.map (bF ad cy) nm_10) := by
  obtain ⟨q1, q2, q3, q4, rfl⟩ := h
  refine ⟨fun m => if m = 2560 then b else if m = 2562 then q1 else if m = 2563 then q2 else if m = 2564 then q3 else if m = 2565 then q4 else 0, rfl, fun ad h => bSub_e ?_⟩
  have e0 : ad 2560 = b := h 2560 (by decide) (by decide)
  have e1 : ad 2562 = q1 := h 2562 (by decide) (by decide)
  have e2 : ad 2563 = q2 := h 2563 (by decide) (by decide)
  have e3 : ad 2564 = q3 := h 2564 (by decide) (by decide)
  have e4 : ad 2565 = q4 := h 2565 (by decide) (by decide)
  clear h
  subst e0
  subst e1
  subst e2
  subst e3
  subst e4
  rfl
set_option maxRecDepth 100000 in
theorem bN_11c {cy : Nat → ClassId} {b : Nat} {ws : va_W} (h : bP_X4 cy b ws) : ∃ a : Nat → Nat, a 2816 = b ∧ ∀ ad, bOn 11 a ad → bSub ws (List.map (bF ad cy) nm_11) := by
  obtain ⟨q0, q2, q3, q4, q5, q6, q7, rfl⟩ := h
  refine ⟨fun m => if m = 2816 then b else if m = 2817 then q0 else if m = 2819 then q2 else if m = 2820 then q3 else if m = 2821 then q4 else if m = 2822 then q5 else if m = 2823 then q6 else if m = 2824 then q7 else 0, rfl, fun ad h => bSub_e ?_⟩
  have e0 : ad 2816 = b := h 2816 (by decide) (by decide)
  have e1 : ad 2817 = q0 := h 2817 (by decide) (by decide)
  have e2 : ad 2819 = q2 := h 2819 (by decide) (by decide)
  have e3 : ad 2820 = q3 := h 2820 (by decide) (by decide)
  have e4 : ad 2821 = q4 := h 2821 (by decide) (by decide)
  have e5 : ad 2822 = q5 := h 2822 (by decide) (by decide)
  have e6 : ad 2823 = q6 := h 2823 (by decide) (by decide)
  have e7 : ad 2824 = q7 := h 2824 (by decide) (by decide)
  clear h
  subst e0
  subst e1
  subst e2
  subst e3
  subst e4
  subst e5
  subst e6
  subst e7
  rfl
set_option maxHeartbeats 2000000 in
set_option maxRecDepth 100000 in
theorem bN_3 {cy : Nat → ClassId} {b : Nat} {ws : va_W} (h : bP_X8 cy b ws) : ∃ a : Nat → Nat, a 768 = b ∧ ∀ ad, bOn 3 a ad → bSub ws (List.map (bF ad cy) nm_3) := by
  obtain ⟨q2, q3, q5, q6, q7, q8, q9, q11, q13, q15, q19, qa19, qb19, q20, qa20, qb20, q21, qa21, qb21, f11, f13, g11, g13, hf11, hf13, rfl⟩ := h
  refine ⟨fun m => if 868 ≤ m ∧ m < 882 then g11 (m - 868) else if 888 ≤ m ∧ m < 894 then g13 (m - 888) else if m = 768 then b else if m = 782 then q13 else if m = 780 then q11 else if m = 771 then q2 else if m = 772 then q3 else if m = 774 then q5 else if m = 775 then q6 else if m = 776 then q7 else if m = 777 then q8 else if m = 778 then q9 else if m = 784 then q15 else if m = 898 then q19 else if m = 908 then qa19 else if m = 918 then qb19 else if m = 899 then q20 else if m = 909 then qa20 else if m = 919 then qb20 else if m = 900 then q21 else if m = 910 then qa21 else if m = 920 then qb21 else 0, rfl, fun ad h => bSub_perm (ns := [(768, 8, 0), (782, 18, 6), (780, 17, 14), (771, 14, 6), (772, 14, 6), (774, 14, 8), (775, 14, 8), (776, 14, 8), (777, 14, 8), (778, 14, 8), (784, 14, 4), (898, 2, 0), (908, 14, 64), (918, 14, 64), (899, 2, 0), (909, 14, 64), (919, 14, 64), (900, 2, 0), (910, 14, 64), (920, 14, 64), (868, 0, 0), (869, 0, 0), (870, 0, 0), (871, 0, 0), (872, 0, 0), (873, 0, 0), (874, 0, 0), (875, 0, 0), (876, 0, 0), (877, 0, 0), (878, 0, 0), (879, 0, 0), (880, 0, 0), (881, 0, 0), (888, 9, 0), (889, 9, 0), (890, 9, 0), (891, 9, 0), (892, 9, 0), (893, 9, 0)]) ?_ (by decide +kernel)⟩
  have e0 : ad 768 = b := h 768 (by decide) (by decide)
  have e1 : ad 782 = q13 := h 782 (by decide) (by decide)
  have e2 : ad 780 = q11 := h 780 (by decide) (by decide)
  have e3 : ad 771 = q2 := h 771 (by decide) (by decide)
  have e4 : ad 772 = q3 := h 772 (by decide) (by decide)
  have e5 : ad 774 = q5 := h 774 (by decide) (by decide)
  have e6 : ad 775 = q6 := h 775 (by decide) (by decide)
  have e7 : ad 776 = q7 := h 776 (by decide) (by decide)
  have e8 : ad 777 = q8 := h 777 (by decide) (by decide)
  have e9 : ad 778 = q9 := h 778 (by decide) (by decide)
  have e10 : ad 784 = q15 := h 784 (by decide) (by decide)
  have e11 : ad 898 = q19 := h 898 (by decide) (by decide)
  have e12 : ad 908 = qa19 := h 908 (by decide) (by decide)
  have e13 : ad 918 = qb19 := h 918 (by decide) (by decide)
  have e14 : ad 899 = q20 := h 899 (by decide) (by decide)
  have e15 : ad 909 = qa20 := h 909 (by decide) (by decide)
  have e16 : ad 919 = qb20 := h 919 (by decide) (by decide)
  have e17 : ad 900 = q21 := h 900 (by decide) (by decide)
  have e18 : ad 910 = qa21 := h 910 (by decide) (by decide)
  have e19 : ad 920 = qb21 := h 920 (by decide) (by decide)
  have g1 : ∀ j, j < 14 → g11 j = ad (868 + j) := fun j hj => by
    rw [h (868 + j) (by omega) (by omega)]
    try dsimp only
    rw [if_pos ⟨by omega, by omega⟩, Nat.add_sub_cancel_left]
  have g2 : ∀ j, j < 6 → g13 j = ad (888 + j) := fun j hj => by
    rw [h (888 + j) (by omega) (by omega)]
    try dsimp only
    rw [if_neg (by omega), if_pos ⟨by omega, by omega⟩, Nat.add_sub_cancel_left]
  clear h
  have r1 : (List.range 14).map (fun j => (g11 j, (.inr (0, dfl 0) : va_E))) = (List.range 14).map (fun j => (ad (868 + j), (.inr (0, dfl 0) : va_E))) := List.map_congr_left (fun j hj => by rw [g1 j (List.mem_range.mp hj)])
  have r2 : (List.range 6).map (fun j => (g13 j, (.inr (9, dfl 9) : va_E))) = (List.range 6).map (fun j => (ad (888 + j), (.inr (9, dfl 9) : va_E))) := List.map_congr_left (fun j hj => by rw [g2 j (List.mem_range.mp hj)])
  rw [r1, r2]
  subst e0
  subst e1
  subst e2
  subst e3
  subst e4
  subst e5
  subst e6
  subst e7
  subst e8
  subst e9
  subst e10
  subst e11
  subst e12
  subst e13
  subst e14
  subst e15
  subst e16
  subst e17
  subst e18
  subst e19
  refine bSub_cons (bSub_rel (bRel_q (fun j hj => ?_)) (bSub_rel (bRel_q (fun j hj => ?_)) (bSub_e ?_)))
  · rw [hf13 j hj, g2 j hj]
  · rw [hf11 j hj, g1 j hj]
  · rfl
set_option maxHeartbeats 2000000 in
set_option maxRecDepth 100000 in
theorem bN_4 {cy : Nat → ClassId} {b : Nat} {ws : va_W} (h : bP_X8 cy b ws) : ∃ a : Nat → Nat, a 1024 = b ∧ ∀ ad, bOn 4 a ad → bSub ws (List.map (bF ad cy) nm_4) := by
  obtain ⟨q2, q3, q5, q6, q7, q8, q9, q11, q13, q15, q19, qa19, qb19, q20, qa20, qb20, q21, qa21, qb21, f11, f13, g11, g13, hf11, hf13, rfl⟩ := h
  refine ⟨fun m => if 1124 ≤ m ∧ m < 1138 then g11 (m - 1124) else if 1144 ≤ m ∧ m < 1150 then g13 (m - 1144) else if m = 1024 then b else if m = 1038 then q13 else if m = 1036 then q11 else if m = 1027 then q2 else if m = 1028 then q3 else if m = 1030 then q5 else if m = 1031 then q6 else if m = 1032 then q7 else if m = 1033 then q8 else if m = 1034 then q9 else if m = 1040 then q15 else if m = 1154 then q19 else if m = 1164 then qa19 else if m = 1174 then qb19 else if m = 1155 then q20 else if m = 1165 then qa20 else if m = 1175 then qb20 else if m = 1156 then q21 else if m = 1166 then qa21 else if m = 1176 then qb21 else 0, rfl, fun ad h => bSub_perm (ns := [(1024, 8, 0), (1038, 18, 6), (1036, 17, 14), (1027, 14, 6), (1028, 14, 6), (1030, 14, 8), (1031, 14, 8), (1032, 14, 8), (1033, 14, 8), (1034, 14, 8), (1040, 14, 4), (1154, 2, 0), (1164, 14, 64), (1174, 14, 64), (1155, 2, 0), (1165, 14, 64), (1175, 14, 64), (1156, 2, 0), (1166, 14, 64), (1176, 14, 64), (1124, 0, 0), (1125, 0, 0), (1126, 0, 0), (1127, 0, 0), (1128, 0, 0), (1129, 0, 0), (1130, 0, 0), (1131, 0, 0), (1132, 0, 0), (1133, 0, 0), (1134, 0, 0), (1135, 0, 0), (1136, 0, 0), (1137, 0, 0), (1144, 9, 0), (1145, 9, 0), (1146, 9, 0), (1147, 9, 0), (1148, 9, 0), (1149, 9, 0)]) ?_ (by decide +kernel)⟩
  have e0 : ad 1024 = b := h 1024 (by decide) (by decide)
  have e1 : ad 1038 = q13 := h 1038 (by decide) (by decide)
  have e2 : ad 1036 = q11 := h 1036 (by decide) (by decide)
  have e3 : ad 1027 = q2 := h 1027 (by decide) (by decide)
  have e4 : ad 1028 = q3 := h 1028 (by decide) (by decide)
  have e5 : ad 1030 = q5 := h 1030 (by decide) (by decide)
  have e6 : ad 1031 = q6 := h 1031 (by decide) (by decide)
  have e7 : ad 1032 = q7 := h 1032 (by decide) (by decide)
  have e8 : ad 1033 = q8 := h 1033 (by decide) (by decide)
  have e9 : ad 1034 = q9 := h 1034 (by decide) (by decide)
  have e10 : ad 1040 = q15 := h 1040 (by decide) (by decide)
  have e11 : ad 1154 = q19 := h 1154 (by decide) (by decide)
  have e12 : ad 1164 = qa19 := h 1164 (by decide) (by decide)
  have e13 : ad 1174 = qb19 := h 1174 (by decide) (by decide)
  have e14 : ad 1155 = q20 := h 1155 (by decide) (by decide)
  have e15 : ad 1165 = qa20 := h 1165 (by decide) (by decide)
  have e16 : ad 1175 = qb20 := h 1175 (by decide) (by decide)
  have e17 : ad 1156 = q21 := h 1156 (by decide) (by decide)
  have e18 : ad 1166 = qa21 := h 1166 (by decide) (by decide)
  have e19 : ad 1176 = qb21 := h 1176 (by decide) (by decide)
  have g1 : ∀ j, j < 14 → g11 j = ad (1124 + j) := fun j hj => by
    rw [h (1124 + j) (by omega) (by omega)]
    try dsimp only
    rw [if_pos ⟨by omega, by omega⟩, Nat.add_sub_cancel_left]
  have g2 : ∀ j, j < 6 → g13 j = ad (1144 + j) := fun j hj => by
    rw [h (1144 + j) (by omega) (by omega)]
    try dsimp only
    rw [if_neg (by omega), if_pos ⟨by omega, by omega⟩, Nat.add_sub_cancel_left]
  clear h
  have r1 : (List.range 14).map (fun j => (g11 j, (.inr (0, dfl 0) : va_E))) = (List.range 14).map (fun j => (ad (1124 + j), (.inr (0, dfl 0) : va_E))) := List.map_congr_left (fun j hj => by rw [g1 j (List.mem_range.mp hj)])
  have r2 : (List.range 6).map (fun j => (g13 j, (.inr (9, dfl 9) : va_E))) = (List.range 6).map (fun j => (ad (1144 + j), (.inr (9, dfl 9) : va_E))) := List.map_congr_left (fun j hj => by rw [g2 j (List.mem_range.mp hj)])
  rw [r1, r2]
  subst e0
  subst e1
  subst e2
  subst e3
  subst e4
  subst e5
  subst e6
  subst e7
  subst e8
  subst e9
  subst e10
  subst e11
  subst e12
  subst e13
  subst e14
  subst e15
  subst e16
  subst e17
  subst e18
  subst e19
  refine bSub_cons (bSub_rel (bRel_q (fun j hj => ?_)) (bSub_rel (bRel_q (fun j hj => ?_)) (bSub_e ?_)))
  · rw [hf13 j hj, g2 j hj]
  · rw [hf11 j hj, g1 j hj]
  · rfl
def D11 : Nat → Bool := fun k => decide (k < 12)
def n11js : List aN := ((0, 11, 0) :: ((((((((([] ++ ((256, 3, 0) :: ((([] ++ nm_2) ++ nm_3) ++ [(261, 14, 72)]))) ++ nm_4) ++ nm_5) ++ nm_6) ++ nm_7) ++ nm_8) ++ nm_9) ++ nm_10) ++ nm_11) : List aN)
set_option maxRecDepth 100000 in
theorem aL11 : List.Perm (aL D11) n11js := by decide +kernel
set_option maxHeartbeats 2000000 in
set_option maxRecDepth 100000 in
theorem bN_11 {cy : Nat → ClassId} {b : Nat} {ws : va_W} (h : bP_X11 cy b ws) : ∃ a : Nat → Nat, a 0 = b ∧ ∀ ad : Nat → Nat, (∀ m, m < 3072 → ad m = a m) → bSub ws (List.map (bF ad cy) (aL D11)) := by
  obtain ⟨q0, w0, q1, w1, q2, w2, q3, w3, q4, w4, q6, w6, q7, w7, q8, w8, q9, w9, ⟨p0, v0, p1, v1, p4, h00, h01, rfl⟩, h1, h2, h3, h4, h6, h7, h8, h9, rfl⟩ := h
  obtain ⟨a2, b2, k2⟩ := bN_2 h00
  obtain ⟨a3, b3, k3⟩ := bN_3 h01
  obtain ⟨a4, b4, k4⟩ := bN_4 h1
  obtain ⟨a5, b5, k5⟩ := bN_5 h2
  obtain ⟨a6, b6, k6⟩ := bN_6 h3
  obtain ⟨a7, b7, k7⟩ := bN_7 h4
  obtain ⟨a8, b8, k8⟩ := bN_8 h6
  obtain ⟨a9, b9, k9⟩ := bN_9 h7
  obtain ⟨a10, b10, k10⟩ := bN_10 h8
  obtain ⟨a11, b11, k11⟩ := bN_11c h9
  refine ⟨fun m => if m < 256 then b else if m < 512 then (if m = 261 then p4 else q0) else if m < 768 then a2 m else if m < 1024 then a3 m else if m < 1280 then a4 m else if m < 1536 then a5 m else if m < 1792 then a6 m else if m < 2048 then a7 m else if m < 2304 then a8 m else if m < 2560 then a9 m else if m < 2816 then a10 m else a11 m, rfl, fun ad h => bSub_perm (ns := n11js) ?_ aL11⟩
  have c2 : bOn 2 a2 ad := fun m g1 g2 => by
    rw [h m (by omega)]
    try dsimp only
    rw [if_neg (by omega), if_neg (by omega), if_pos (by omega)]
  have c3 : bOn 3 a3 ad := fun m g1 g2 => by
    rw [h m (by omega)]
    try dsimp only
    rw [if_neg (by omega), if_neg (by omega), if_neg (by omega), if_pos (by omega)]
  have c4 : bOn 4 a4 ad := fun m g1 g2 => by
    rw [h m (by omega)]
    try dsimp only
    rw [if_neg (by omega), if_neg (by omega), if_neg (by omega), if_neg (by omega), if_pos (by omega)]
  have c5 : bOn 5 a5 ad := fun m g1 g2 => by
    rw [h m (by omega)]
    try dsimp only
    rw [if_neg (by omega), if_neg (by omega), if_neg (by omega), if_neg (by omega), if_neg (by omega), if_pos (by omega)]
  have c6 : bOn 6 a6 ad := fun m g1 g2 => by
    rw [h m (by omega)]
    try dsimp only
    rw [if_neg (by omega), if_neg (by omega), if_neg (by omega), if_neg (by omega), if_neg (by omega), if_neg (by omega), if_pos (by omega)]
  have c7 : bOn 7 a7 ad := fun m g1 g2 => by
    rw [h m (by omega)]
    try dsimp only
    rw [if_neg (by omega), if_neg (by omega), if_neg (by omega), if_neg (by omega), if_neg (by omega), if_neg (by omega), if_neg (by omega), if_pos (by omega)]
  have c8 : bOn 8 a8 ad := fun m g1 g2 => by
    rw [h m (by omega)]
    try dsimp only
    rw [if_neg (by omega), if_neg (by omega), if_neg (by omega), if_neg (by omega), if_neg (by omega), if_neg (by omega), if_neg (by omega), if_neg (by omega), if_pos (by omega)]
  have c9 : bOn 9 a9 ad := fun m g1 g2 => by
    rw [h m (by omega)]
    try dsimp only
    rw [if_neg (by omega), if_neg (by omega), if_neg (by omega), if_neg (by omega), if_neg (by omega), if_neg (by omega), if_neg (by omega), if_neg (by omega), if_neg (by omega), if_pos (by omega)]
  have c10 : bOn 10 a10 ad := fun m g1 g2 => by
    rw [h m (by omega)]
    try dsimp only
    rw [if_neg (by omega), if_neg (by omega), if_neg (by omega), if_neg (by omega), if_neg (by omega), if_neg (by omega), if_neg (by omega), if_neg (by omega), if_neg (by omega), if_neg (by omega), if_pos (by omega)]
  have c11 : bOn 11 a11 ad := fun m g1 g2 => by
    rw [h m (by omega)]
    try dsimp only
    rw [if_neg (by omega), if_neg (by omega), if_neg (by omega), if_neg (by omega), if_neg (by omega), if_neg (by omega), if_neg (by omega), if_neg (by omega), if_neg (by omega), if_neg (by omega), if_neg (by omega)]
  have e0 : ad 0 = b := h 0 (by decide)
  have e1 : ad 256 = q0 := h 256 (by decide)
  have e14 : ad 261 = p4 := h 261 (by decide)
  have e2 : ad 512 = p0 := (c2 512 (by decide) (by decide)).trans b2
  have e3 : ad 768 = p1 := (c3 768 (by decide) (by decide)).trans b3
  have e4 : ad 1024 = q1 := (c4 1024 (by decide) (by decide)).trans b4
  have e5 : ad 1280 = q2 := (c5 1280 (by decide) (by decide)).trans b5
  have e6 : ad 1536 = q3 := (c6 1536 (by decide) (by decide)).trans b6
  have e7 : ad 1792 = q4 := (c7 1792 (by decide) (by decide)).trans b7
  have e8 : ad 2048 = q6 := (c8 2048 (by decide) (by decide)).trans b8
  have e9 : ad 2304 = q7 := (c9 2304 (by decide) (by decide)).trans b9
  have e10 : ad 2560 = q8 := (c10 2560 (by decide) (by decide)).trans b10
  have e11 : ad 2816 = q9 := (c11 2816 (by decide) (by decide)).trans b11
  have s2 := k2 ad c2
  have s3 := k3 ad c3
  have s4 := k4 ad c4
  have s5 := k5 ad c5
  have s6 := k6 ad c6
  have s7 := k7 ad c7
  have s8 := k8 ad c8
  have s9 := k9 ad c9
  have s10 := k10 ad c10
  have s11 := k11 ad c11
  clear h c2 c3 c4 c5 c6 c7 c8 c9 c10 c11 k2 k3 k4 k5 k6 k7 k8 k9 k10 k11 b2 b3 b4 b5 b6 b7 b8 b9 b10 b11 h00 h01 h1 h2 h3 h4 h6 h7 h8 h9
  have o0 : ((b, .inr (11, [.ref q0, .ref q1, .ref q2, .ref q3, .ref q4, .int 0, .ref q6, .ref q7, .ref q8, .ref q9])) : Nat × va_E) = bF ad cy (0, 11, 0) := by
    subst e0 e1 e4 e5 e6 e7 e8 e9 e10 e11
    rfl
  have o1 : ((q0, .inr (3, [.ref p0, .ref p1, .int 0, .int 0, .ref p4, .int 0, .int 0, .int 0, .int (-1)])) : Nat × va_E) = bF ad cy (256, 3, 0) := by
    subst e1 e2 e3 e14
    rfl
  have o2 : ((p4, .inl (cy 14, 72, .inl (fun _ => 0))) : Nat × va_E) = bF ad cy (261, 14, 72) := by
    subst e14
    rfl
  rw [o0, o1, o2]
  unfold n11js
  simp only [List.map_cons, List.map_append, List.map_nil]
  exact bSub_cons (bSub_app (bSub_app (bSub_app (bSub_app (bSub_app (bSub_app (bSub_app (bSub_app (bSub_app (bSub_r _) (bSub_cons (bSub_app (bSub_app (bSub_app (bSub_r _) s2) s3) (bSub_r _)))) s4) s5) s6) s7) s8) s9) s10) s11)
