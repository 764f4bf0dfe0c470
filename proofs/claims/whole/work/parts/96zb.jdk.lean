/-! THE WORDS' TEXT: the JDK's members' contracts -/
section qSu
variable {l : Launch} {d : Nat} {D : Nat → Bool} {x : aS}
theorem wdB_c : ∀ j, j < 108 → ((wdB.getD j 0 &&& 255).toUInt32 % 65536).toInt32 = wdB.getD j 0 ∧ narrow .char (.int (wdB.getD j 0)) = .int (wdB.getD j 0) := by decide +kernel
set_option maxHeartbeats 4000000 in
set_option maxRecDepth 100000 in
theorem c_SPre {j n : Nat} {f : Value} (hf : f = .null ∨ f = .ref 9003) (hj : j < n) (hn : n < 2 ^ 31) : aDI l mSPre d D [.int (nI j), .int (nI n), f] x (nI j) x := by
  rcases hf with rfl | rfl
  · refine a_metI (by decide) (Nat.le_of_ble_eq_true rfl) rfl ?_
    refine a_iload_n (i := 0) dSPre_0 rfl rfl ?_
    refine a_if_lt (tg := 9) dSPre_1 (by decide) (fun c => absurd c (nI_pos (by omega))) (fun c => ?_)
    refine a_iload_n (i := 0) dSPre_4 rfl rfl ?_
    refine a_iload_n (i := 1) dSPre_5 rfl rfl ?_
    refine a_icmp_lt (tg := 16) dSPre_6 (by decide) (fun c => ?_) (fun c => absurd (nI_lt hj hn) c)
    refine a_iload_n (i := 0) dSPre_16 rfl rfl ?_
    exact a_iret dSPre_17 ⟨rfl, rfl⟩
  · refine a_metI (by decide) (Nat.le_of_ble_eq_true rfl) rfl ?_
    refine a_iload_n (i := 0) dSPre_0 rfl rfl ?_
    refine a_if_lt (tg := 9) dSPre_1 (by decide) (fun c => absurd c (nI_pos (by omega))) (fun c => ?_)
    refine a_iload_n (i := 0) dSPre_4 rfl rfl ?_
    refine a_iload_n (i := 1) dSPre_5 rfl rfl ?_
    refine a_icmp_lt (tg := 16) dSPre_6 (by decide) (fun c => ?_) (fun c => absurd (nI_lt hj hn) c)
    refine a_iload_n (i := 0) dSPre_16 rfl rfl ?_
    exact a_iret dSPre_17 ⟨rfl, rfl⟩
set_option maxHeartbeats 4000000 in
set_option maxRecDepth 100000 in
theorem c_SChk {j n : Nat} (hj : j < n) (hn : n < 2 ^ 31) : aDV l mSChk (d + 1) D [.int (nI j), .int (nI n)] x x := by
  refine a_metV (by decide) (Nat.le_of_ble_eq_true rfl) rfl ?_
  refine a_iload_n (i := 0) dSChk_0 rfl rfl ?_
  refine a_iload_n (i := 1) dSChk_1 rfl rfl ?_
  have T : ∀ f : Value, (f = .null ∨ f = .ref 9003) → f.category = 1 → aV l mSChk (d + 1) D none 5 (lv_args 0 [.int (nI j), .int (nI n)]) [f, .int (nI n), .int (nI j)] x (fun v z => v = none ∧ z = x) := by
    intro f hf hc
    refine a_callS (m' := mSPre) (As := [.int (nI j), .int (nI n), f]) (st := []) dSChk_5 (aTb_tables_1_3 99 rfl rfl) (aTb_tables_1_3 100 rfl rfl) (aTb_tables_1_1 17 rfl rfl) (aTb_tables_1_3 101 rfl rfl) (by show _ ∧ _ ∧ _ = some 3; decide +kernel) (by decide) (by decide) (c_SPre hf hj hn) (fun v y hq => ?_)
    obtain ⟨rfl, rfl⟩ := hq
    refine a_pop dSChk_8 rfl ?_
    exact a_vret dSChk_9 ⟨rfl, rfl⟩
  exact a_getsF dSChk_2 rfl (T .null (Or.inl rfl) rfl) (T (.ref 9003) (Or.inr rfl) rfl)
set_option maxHeartbeats 4000000 in
set_option maxRecDepth 100000 in
theorem c_SL1c {j : Nat} (hj : j < 108) : aDI l mSL1c (d + 2) D [.ref 9002, .int (nI j)] x (wdB.getD j 0) x := by
  refine a_metN (ty := .char) (by decide) (Nat.le_of_ble_eq_true rfl) rfl (fun v y q => ⟨_, q.1, (wdB_c j hj).2⟩) ?_
  refine a_iload_n (i := 1) dSL1c_0 rfl rfl ?_
  refine a_aload_n (i := 0) dSL1c_1 rfl rfl ?_
  refine a_alenW dSL1c_2 ?_
  refine a_callS (m' := mSChk) (As := [.int (nI j), .int (nI 108)]) (st := []) dSL1c_3 (aTb_tables_1_3 94 rfl rfl) (aTb_tables_1_3 95 rfl rfl) (aTb_tables_1_1 15 rfl rfl) (aTb_tables_1_3 96 rfl rfl) (by show _ ∧ _ ∧ _ = some 2; decide +kernel) (by decide) (by decide) (c_SChk hj (by decide)) (fun v y hq => ?_)
  obtain ⟨rfl, rfl⟩ := hq
  refine a_aload_n (i := 0) dSL1c_6 rfl rfl ?_
  refine a_iload_n (i := 1) dSL1c_7 rfl rfl ?_
  refine a_baldW dSL1c_8 hj ?_
  refine a_sipush (v := 255) dSL1c_9 (by decide) ?_
  refine a_iand dSL1c_12 ?_
  refine a_i2c dSL1c_13 (wdB_c j hj).1 ?_
  exact a_iret dSL1c_14 ⟨rfl, rfl⟩
set_option maxHeartbeats 4000000 in
set_option maxRecDepth 100000 in
theorem c_SLat : aDI l mSLat d D [.ref 9001] x 1 x := by
  refine a_metZ (by decide) (Nat.le_of_ble_eq_true rfl) rfl (Or.inr rfl) ?_
  refine a_gets1 dSLat_0 rfl ?_
  refine a_if_eq (tg := 17) dSLat_3 (by decide) (fun c => absurd c (by decide)) (fun c => ?_)
  refine a_aload_n (i := 0) dSLat_6 rfl rfl ?_
  refine a_getC dSLat_7 rfl ?_
  refine a_if_ne (tg := 17) dSLat_10 (by decide) (fun c => absurd rfl c) (fun c => ?_)
  refine a_iconst (v := 1) dSLat_13 (by decide) ?_
  refine a_goto (tg := 18) dSLat_14 (by decide) ?_
  exact a_iret dSLat_18 ⟨rfl, rfl⟩
set_option maxHeartbeats 4000000 in
set_option maxRecDepth 100000 in
theorem c_SCod : aDI l mSCod d D [.ref 9001] x 0 x := by
  refine a_metN (ty := .byte) (by decide) (Nat.le_of_ble_eq_true rfl) rfl (fun v y q => ⟨_, q.1, rfl⟩) ?_
  refine a_gets1 dSCod_0 rfl ?_
  refine a_if_eq (tg := 13) dSCod_3 (by decide) (fun c => absurd c (by decide)) (fun c => ?_)
  refine a_aload_n (i := 0) dSCod_6 rfl rfl ?_
  refine a_getC dSCod_7 rfl ?_
  refine a_goto (tg := 14) dSCod_10 (by decide) ?_
  exact a_iret dSCod_14 ⟨rfl, rfl⟩
set_option maxHeartbeats 4000000 in
set_option maxRecDepth 100000 in
theorem c_SLen : aDI l mSLen (d + 1) D [.ref 9001] x (nI 108) x := by
  refine a_metI (by decide) (Nat.le_of_ble_eq_true rfl) rfl ?_
  refine a_aload_n (i := 0) dSLen_0 rfl rfl ?_
  refine a_getV dSLen_1 rfl ?_
  refine a_alenW dSLen_4 ?_
  refine a_aload_n (i := 0) dSLen_5 rfl rfl ?_
  refine a_callW (m' := mSCod) (As := []) (st := [.int (nI 108)]) dSLen_6 (aTb_tables_1_3 77 rfl rfl) (aTb_tables_1_3 78 rfl rfl) (aTb_tables_1_3 79 rfl rfl) (aTb_tables_1_1 15 rfl rfl) (aTb_tables_1_3 80 rfl rfl) rfl (by show _ ∧ _ ∧ _ = some 0; decide +kernel) (by decide) (by decide) c_SCod (fun v y hq => ?_)
  obtain ⟨rfl, rfl⟩ := hq
  refine a_ishr dSLen_9 ?_
  exact a_iret dSLen_10 ⟨by decide, rfl⟩
set_option maxHeartbeats 4000000 in
set_option maxRecDepth 100000 in
theorem c_SChr {j : Nat} (hj : j < 108) : aDI l mSChr (d + 3) D [.ref 9001, .int (nI j)] x (wdB.getD j 0) x := by
  refine a_metN (ty := .char) (by decide) (Nat.le_of_ble_eq_true rfl) rfl (fun v y q => ⟨_, q.1, (wdB_c j hj).2⟩) ?_
  refine a_aload_n (i := 0) dSChr_0 rfl rfl ?_
  refine a_callW (m' := mSLat) (As := []) (st := []) dSChr_1 (aTb_tables_1_3 87 rfl rfl) (aTb_tables_1_3 88 rfl rfl) (aTb_tables_1_3 89 rfl rfl) (aTb_tables_1_1 15 rfl rfl) (aTb_tables_1_3 90 rfl rfl) rfl (by show _ ∧ _ ∧ _ = some 0; decide +kernel) (by decide) (by decide) c_SLat (fun v y hq => ?_)
  obtain ⟨rfl, rfl⟩ := hq
  refine a_if_eq (tg := 16) dSChr_4 (by decide) (fun c => absurd c (by decide)) (fun c => ?_)
  refine a_aload_n (i := 0) dSChr_7 rfl rfl ?_
  refine a_getV dSChr_8 rfl ?_
  refine a_iload_n (i := 1) dSChr_11 rfl rfl ?_
  refine a_callS (m' := mSL1c) (As := [.ref 9002, .int (nI j)]) (st := []) dSChr_12 (aTb_tables_1_3 91 rfl rfl) (aTb_tables_1_3 92 rfl rfl) (aTb_tables_1_1 16 rfl rfl) (aTb_tables_1_3 93 rfl rfl) (by show _ ∧ _ ∧ _ = some 2; decide +kernel) (by decide) (by decide) (c_SL1c hj) (fun v y hq => ?_)
  obtain ⟨rfl, rfl⟩ := hq
  exact a_iret dSChr_15 ⟨rfl, rfl⟩
/-- wordKind's way through the text -/
def wsq : Nat → Int32 × Int32 × Int32
  | 0 => (0, 0, 30)
  | i + 1 => if wdB.getD i 0 = 32 then ((wsq i).1 + 1, 0, 30) else ((wsq i).1, (wsq i).2.1 ||| ((wdB.getD i 0 - 97 + 1) <<< ((wsq i).2.2 + -5 &&& 31)), (wsq i).2.2 + -5)
def wcq : Nat → Nat
  | 0 => 0
  | i + 1 => if wdB.getD i 0 = 32 then wcq i + 1 else wcq i
theorem wsq_ok : ∀ i, i < 108 → wdB.getD i 0 = 32 → (wsq i).2.1 = nI (pkL.getD (wcq i) 0) ∧ wcq i < 22 := by decide +kernel
theorem wsq_1 : ∀ i, (wsq i).1 = nI (wcq i)
  | 0 => rfl
  | i + 1 => by
    unfold wsq wcq
    split
    · show (wsq i).1 + 1 = nI (wcq i + 1)
      rw [wsq_1 i, nI_1]
    · exact wsq_1 i
theorem wcq_108 : wcq 108 = 22 := by decide +kernel
theorem wkN_k : ∀ k, k < 22 → wkN (pkL.getD k 0) = k ∧ pkL.getD k 0 < 2 ^ 30 := by decide +kernel
theorem wkN_no {V : Nat} (h : ∀ k, k < 22 → ¬ pkL.getD k 0 = V) : wkN V = 22 := by
  unfold wkN
  refine List.findIdx_eq_length.mpr (fun u hu => ?_)
  obtain ⟨k, hk, e⟩ := List.getElem_of_mem hu
  have h22 : k < 22 := hk
  have := h k h22
  have e2 : pkL.getD k 0 = u := by rw [← e, List.getD_eq_getElem?_getD, List.getElem?_eq_getElem hk]; rfl
  rw [e2] at this
  simp [this]
theorem kgX7_68 {m : aM} {scr : Option aSc} {pc : Nat} {lv : List (Nat × Value)} {st : List Value} {Q : Option Value → aS → Prop} (hm : m.1.cls = RX7) (hd : decode m.2.1 pc = .ok (.invokevirtual 68, 3)) (hst : (st.map fun v => v.category).sum ≤ 8) (k : aV l m (d + 2) D scr (pc + 3) lv (.int (nI 108) :: st) x Q) : aV l m (d + 2) D scr pc lv (.ref 9001 :: st) x Q :=
  a_callW (m' := mSLen) (As := []) hd (by rw [hm]; exact (aTb_tables_1_3 73 rfl rfl)) (aTb_tables_1_3 74 rfl rfl) (aTb_tables_1_3 75 rfl rfl) (aTb_tables_1_1 15 rfl rfl) (aTb_tables_1_3 76 rfl rfl) rfl (by show _ ∧ _ ∧ _ = some 0; decide +kernel) (by decide) hst c_SLen (fun v y hq => by obtain ⟨rfl, rfl⟩ := hq; exact k)
theorem kgX7_73 {m : aM} {scr : Option aSc} {pc : Nat} {lv : List (Nat × Value)} {st : List Value} {Q : Option Value → aS → Prop} {j : Nat} (hj : j < 108) (hm : m.1.cls = RX7) (hd : decode m.2.1 pc = .ok (.invokevirtual 73, 3)) (hst : (st.map fun v => v.category).sum ≤ 8) (k : aV l m (d + 4) D scr (pc + 3) lv (.int (wdB.getD j 0) :: st) x Q) : aV l m (d + 4) D scr pc lv (.int (nI j) :: .ref 9001 :: st) x Q :=
  a_callW (m' := mSChr) (As := [.int (nI j)]) hd (by rw [hm]; exact (aTb_tables_1_3 83 rfl rfl)) (aTb_tables_1_3 84 rfl rfl) (aTb_tables_1_3 85 rfl rfl) (aTb_tables_1_1 15 rfl rfl) (aTb_tables_1_3 86 rfl rfl) rfl (by show _ ∧ _ ∧ _ = some 1; decide +kernel) (by decide) hst (c_SChr hj) (fun v y hq => by obtain ⟨rfl, rfl⟩ := hq; exact k)
set_option maxHeartbeats 4000000 in
set_option maxRecDepth 100000 in
theorem c_X7_wordKind {V : Nat} (hV : V < 2 ^ 30) : aDI l mX7_wordKind (d + 4) D [.int (nI V)] x (nI (wkN V)) x := by
  have L : ∀ F i, i + F = 108 → (∀ k, k < wcq i → ¬ pkL.getD k 0 = V) → aV l mX7_wordKind (d + 4) D none 10 [(0, .int (nI V)), (1, .int (wsq i).1), (2, .int (wsq i).2.1), (3, .int (wsq i).2.2), (4, .int (nI i))] [] x (fun v y => v = some (.int (nI (wkN V))) ∧ y = x) := by
    intro F
    induction F with
    | zero =>
      intro i hi no
      have e : i = 108 := by omega
      subst e
      rw [wcq_108] at no
      have r := wkN_no no
      refine a_iload (i := 4) dX7_wordKind_10 rfl ?_
      refine a_ldcW dX7_wordKind_12 rfl ?_
      refine kgX7_68 rfl dX7_wordKind_14 (Nat.le_of_ble_eq_true rfl) ?_
      refine a_icmp_ge (tg := 75) dX7_wordKind_17 (by decide) (fun c => ?_) (fun c => absurd (Int32.le_refl _) c)
      refine a_bipush (v := 22) dX7_wordKind_75 (by decide) ?_
      exact a_iret dX7_wordKind_77 ⟨by rw [r]; rfl, rfl⟩
    | succ F ih =>
      intro i hi no
      have i108 : i < 108 := by omega
      refine a_iload (i := 4) dX7_wordKind_10 rfl ?_
      refine a_ldcW dX7_wordKind_12 rfl ?_
      refine kgX7_68 rfl dX7_wordKind_14 (Nat.le_of_ble_eq_true rfl) ?_
      refine a_icmp_ge (tg := 75) dX7_wordKind_17 (by decide) (fun c => absurd c (nI_ge i108 (by decide))) (fun c => ?_)
      refine a_ldcW dX7_wordKind_20 rfl ?_
      refine a_iload (i := 4) dX7_wordKind_22 rfl ?_
      refine kgX7_73 i108 rfl dX7_wordKind_24 (Nat.le_of_ble_eq_true rfl) ?_
      refine a_istore (i := 5) dX7_wordKind_27 (by decide) ?_
      refine a_iload (i := 5) dX7_wordKind_29 rfl ?_
      refine a_bipush (v := 32) dX7_wordKind_31 (by decide) ?_
      refine a_icmp_eq (tg := 54) dX7_wordKind_33 (by decide) (fun c32 => ?_) (fun c32 => ?_)
      · obtain ⟨w1, w2⟩ := wsq_ok i i108 c32
        obtain ⟨k1, k2⟩ := wkN_k (wcq i) w2
        refine a_iload_n (i := 2) dX7_wordKind_54 rfl rfl ?_
        refine a_iload_n (i := 0) dX7_wordKind_55 rfl rfl ?_
        refine a_icmp_ne (tg := 61) dX7_wordKind_56 (by decide) (fun cn => ?_) (fun cn => ?_)
        · have X := ih (i + 1) (by omega) (fun k hk => by
            have e : wcq (i + 1) = wcq i + 1 := by rw [wcq, if_pos c32]
            rw [e] at hk
            by_cases ek : k = wcq i
            · rw [ek]
              intro g
              exact cn (by rw [w1, g])
            · exact no k (by omega))
          rw [show wsq (i + 1) = ((wsq i).1 + 1, 0, 30) from by rw [wsq, if_pos c32]] at X
          refine a_iincK (i := 1) (u := 1) dX7_wordKind_61 rfl (by decide) (by decide) ?_
          refine a_iconst (v := 0) dX7_wordKind_64 (by decide) ?_
          refine a_istore_n (i := 2) dX7_wordKind_65 rfl (by decide) ?_
          refine a_bipush (v := 30) dX7_wordKind_66 (by decide) ?_
          refine a_istore_n (i := 3) dX7_wordKind_68 rfl (by decide) ?_
          refine a_iincK (i := 4) (u := 1) dX7_wordKind_69 rfl (by decide) (by decide) ?_
          refine a_goto (tg := 10) dX7_wordKind_72 (by decide) ?_
          rw [nI_1]
          exact a_loc _ rfl X
        · have ev : pkL.getD (wcq i) 0 = V := (nI_eq (by omega) (by omega)).mp (w1.symm.trans cn)
          rw [ev] at k1
          refine a_iload_n (i := 1) dX7_wordKind_59 rfl rfl ?_
          exact a_iret dX7_wordKind_60 ⟨by rw [k1, wsq_1], rfl⟩
      · have X := ih (i + 1) (by omega) (fun k hk => by
          have e : wcq (i + 1) = wcq i := by rw [wcq, if_neg c32]
          rw [e] at hk
          exact no k hk)
        rw [show wsq (i + 1) = ((wsq i).1, (wsq i).2.1 ||| ((wdB.getD i 0 - 97 + 1) <<< ((wsq i).2.2 + -5 &&& 31)), (wsq i).2.2 + -5) from by rw [wsq, if_neg c32]] at X
        refine a_iincK (i := 3) (u := (-5)) dX7_wordKind_36 rfl (by decide) (by decide) ?_
        refine a_iload_n (i := 2) dX7_wordKind_39 rfl rfl ?_
        refine a_iload (i := 5) dX7_wordKind_40 rfl ?_
        refine a_bipush (v := 97) dX7_wordKind_42 (by decide) ?_
        refine a_isub dX7_wordKind_44 ?_
        refine a_iconst (v := 1) dX7_wordKind_45 (by decide) ?_
        refine a_iadd dX7_wordKind_46 ?_
        refine a_iload_n (i := 3) dX7_wordKind_47 rfl rfl ?_
        refine a_ishl dX7_wordKind_48 ?_
        refine a_ior dX7_wordKind_49 ?_
        refine a_istore_n (i := 2) dX7_wordKind_50 rfl (by decide) ?_
        refine a_goto (tg := 69) dX7_wordKind_51 (by decide) ?_
        refine a_iincK (i := 4) (u := 1) dX7_wordKind_69 rfl (by decide) (by decide) ?_
        refine a_goto (tg := 10) dX7_wordKind_72 (by decide) ?_
        rw [nI_1]
        exact a_loc _ rfl X
  refine a_metI (by decide) (Nat.le_of_ble_eq_true rfl) rfl ?_
  refine a_iconst (v := 0) dX7_wordKind_0 (by decide) ?_
  refine a_istore_n (i := 1) dX7_wordKind_1 rfl (by decide) ?_
  refine a_iconst (v := 0) dX7_wordKind_2 (by decide) ?_
  refine a_istore_n (i := 2) dX7_wordKind_3 rfl (by decide) ?_
  refine a_bipush (v := 30) dX7_wordKind_4 (by decide) ?_
  refine a_istore_n (i := 3) dX7_wordKind_6 rfl (by decide) ?_
  refine a_iconst (v := 0) dX7_wordKind_7 (by decide) ?_
  refine a_istore (i := 4) dX7_wordKind_8 (by decide) ?_
  exact a_loc _ rfl (L 108 0 rfl (fun k hk => absurd hk (Nat.not_lt_zero k)))
end qSu
