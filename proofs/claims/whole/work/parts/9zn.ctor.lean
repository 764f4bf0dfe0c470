/-! BIRTH: constructors without calls -/
def bP_X0 : (Nat → ClassId) → Nat → va_W → Prop := fun cy b ws => ws = [(b, .inr (0, [.int 0, .int 0, .int 0, .int 0, .int 0]))]
set_option maxHeartbeats 4000000 in
set_option maxRecDepth 100000 in
theorem i_X0 {l : Launch} {d : Nat} : bCt l mX0_init 0 0 0 d bP_X0 := by
  refine b_met (by decide) rfl (by decide) rfl ?_
  intro p e s mid args below meth c dC dI cy A b Qs ls C hin hAO hl fin H hH
  refine lv_aload_n C.1 C.2.1 dX0_init_0 rfl (lv_at hl 0 rfl) ?_
  refine b_obj (m := mX0_init) C dX0_init_1 (aTb_tables_1_1 109 rfl rfl) hl.1 (Nat.succ_le_succ (Nat.zero_le _)) (by show 20 ≤ 40 * (d + 1); omega) (Nat.zero_le _) ?_
  exact fin _ _ _ _ _ dX0_init_4 rfl hH
def bP_X9 : (Nat → ClassId) → Nat → va_W → Prop := fun cy b ws => ws = [(b, .inr (9, [.int 0, .int 0, .int 0]))]
set_option maxHeartbeats 4000000 in
set_option maxRecDepth 100000 in
theorem i_X9 {l : Launch} {d : Nat} : bCt l mX9_init 9 0 0 d bP_X9 := by
  refine b_met (by decide) rfl (by decide) rfl ?_
  intro p e s mid args below meth c dC dI cy A b Qs ls C hin hAO hl fin H hH
  refine lv_aload_n C.1 C.2.1 dX9_init_0 rfl (lv_at hl 0 rfl) ?_
  refine b_obj (m := mX9_init) C dX9_init_1 (aTb_tables_1_1 135 rfl rfl) hl.1 (Nat.succ_le_succ (Nat.zero_le _)) (by show 20 ≤ 40 * (d + 1); omega) (Nat.zero_le _) ?_
  exact fin _ _ _ _ _ dX9_init_4 rfl hH
def bP_X2 : (Nat → ClassId) → Nat → va_W → Prop := fun cy b ws => ∃ (q2 q3 : Nat), ws = [(b, .inr (2, [.int 0, .int 0, .ref q2, .ref q3])), (q2, .inl (cy 14, 64, .inl (fun _ => 0))), (q3, .inl (cy 14, 64, .inl (fun _ => 0)))]
set_option maxHeartbeats 4000000 in
set_option maxRecDepth 100000 in
theorem i_X2 {l : Launch} {d : Nat} : bCt l mX2_init 2 2 128 d bP_X2 := by
  refine b_met (by decide) rfl (by decide) rfl ?_
  intro p e s mid args below meth c dC dI cy A b Qs ls C hin hAO hl fin H hH
  refine lv_aload_n C.1 C.2.1 dX2_init_0 rfl (lv_at hl 0 rfl) ?_
  refine b_obj (m := mX2_init) C dX2_init_1 (aTb_tables_1_1 89 rfl rfl) hl.1 (Nat.succ_le_succ (Nat.zero_le _)) (by show 20 ≤ 40 * (d + 1); omega) (Nat.zero_le _) ?_
  refine lv_aload_n C.1 C.2.1 dX2_init_4 rfl (lv_at hl 0 rfl) ?_
  refine lv_bipush C.1 C.2.1 dX2_init_5 (v := 64) (by decide) ?_
  refine b_arr (m := mX2_init) (atype := .int) (N9 := 64) (a0 := (64, .inl (fun _ => 0))) (ty := .int) (ci := 2) (j := 2) C hH b_aw.1 rfl aTy_i.1 (fun _ h => by cases h) (fun _ => rfl) (by decide) (by decide) (by decide) (Nat.le_of_ble_eq_true rfl) (Nat.le_of_ble_eq_true rfl) dX2_init_7 dX2_init_9 rfl iwX2 (by decide) (aTb_tables_1_1 93 rfl rfl) tyX2 tyX2_ok nmX2 (Or.inr ⟨rfl, hin, rfl⟩) (ty9 := tyX2 2) (by decide +kernel) (fun _ => rfl) (fun _ => rfl) rfl (fun q2 H locs hf2 hH => ?_)
  refine lv_aload_n C.1 C.2.1 dX2_init_12 rfl (lv_at hl 0 rfl) ?_
  refine lv_bipush C.1 C.2.1 dX2_init_13 (v := 64) (by decide) ?_
  refine b_arr (m := mX2_init) (atype := .int) (N9 := 64) (a0 := (64, .inl (fun _ => 0))) (ty := .int) (ci := 2) (j := 3) C hH b_aw.1 rfl aTy_i.1 (fun _ h => by cases h) (fun _ => rfl) (by decide) (by decide) (by decide) (Nat.le_of_ble_eq_true rfl) (Nat.le_of_ble_eq_true rfl) dX2_init_15 dX2_init_17 rfl iwX2 (by decide) (aTb_tables_1_1 94 rfl rfl) tyX2 tyX2_ok nmX2 (Or.inr ⟨rfl, hin, rfl⟩) (ty9 := tyX2 3) (by decide +kernel) (fun _ => rfl) (fun _ => rfl) hf2 (fun q3 H locs hf3 hH => ?_)
  exact fin _ _ _ _ _ dX2_init_20 ⟨q2, q3, rfl⟩ hH
def bP_X1 : (Nat → ClassId) → Nat → va_W → Prop := fun cy b ws => ∃ (q1 q2 q3 q4 : Nat), ws = [(b, .inr (1, [.int 0, .ref q1, .ref q2, .ref q3, .ref q4])), (q1, .inl (cy 14, 20, .inl (fun _ => 0))), (q2, .inl (cy 14, 20, .inl (fun _ => 0))), (q3, .inl (cy 14, 20, .inl (fun _ => 0))), (q4, .inl (cy 14, 20, .inl (fun _ => 0)))]
set_option maxHeartbeats 4000000 in
set_option maxRecDepth 100000 in
theorem i_X1 {l : Launch} {d : Nat} : bCt l mX1_init 1 4 80 d bP_X1 := by
  refine b_met (by decide) rfl (by decide) rfl ?_
  intro p e s mid args below meth c dC dI cy A b Qs ls C hin hAO hl fin H hH
  refine lv_aload_n C.1 C.2.1 dX1_init_0 rfl (lv_at hl 0 rfl) ?_
  refine b_obj (m := mX1_init) C dX1_init_1 (aTb_tables_1_2 180 rfl rfl) hl.1 (Nat.succ_le_succ (Nat.zero_le _)) (by show 20 ≤ 40 * (d + 1); omega) (Nat.zero_le _) ?_
  refine lv_aload_n C.1 C.2.1 dX1_init_4 rfl (lv_at hl 0 rfl) ?_
  refine lv_bipush C.1 C.2.1 dX1_init_5 (v := 20) (by decide) ?_
  refine b_arr (m := mX1_init) (atype := .int) (N9 := 20) (a0 := (20, .inl (fun _ => 0))) (ty := .int) (ci := 1) (j := 1) C hH b_aw.1 rfl aTy_i.1 (fun _ h => by cases h) (fun _ => rfl) (by decide) (by decide) (by decide) (Nat.le_of_ble_eq_true rfl) (Nat.le_of_ble_eq_true rfl) dX1_init_7 dX1_init_9 rfl iwX1 (by decide) (aTb_tables_1_2 183 rfl rfl) tyX1 tyX1_ok nmX1 (Or.inr ⟨rfl, hin, rfl⟩) (ty9 := tyX1 1) (by decide +kernel) (fun _ => rfl) (fun _ => rfl) rfl (fun q1 H locs hf1 hH => ?_)
  refine lv_aload_n C.1 C.2.1 dX1_init_12 rfl (lv_at hl 0 rfl) ?_
  refine lv_bipush C.1 C.2.1 dX1_init_13 (v := 20) (by decide) ?_
  refine b_arr (m := mX1_init) (atype := .int) (N9 := 20) (a0 := (20, .inl (fun _ => 0))) (ty := .int) (ci := 1) (j := 2) C hH b_aw.1 rfl aTy_i.1 (fun _ h => by cases h) (fun _ => rfl) (by decide) (by decide) (by decide) (Nat.le_of_ble_eq_true rfl) (Nat.le_of_ble_eq_true rfl) dX1_init_15 dX1_init_17 rfl iwX1 (by decide) (aTb_tables_1_2 185 rfl rfl) tyX1 tyX1_ok nmX1 (Or.inr ⟨rfl, hin, rfl⟩) (ty9 := tyX1 2) (by decide +kernel) (fun _ => rfl) (fun _ => rfl) hf1 (fun q2 H locs hf2 hH => ?_)
  refine lv_aload_n C.1 C.2.1 dX1_init_20 rfl (lv_at hl 0 rfl) ?_
  refine lv_bipush C.1 C.2.1 dX1_init_21 (v := 20) (by decide) ?_
  refine b_arr (m := mX1_init) (atype := .int) (N9 := 20) (a0 := (20, .inl (fun _ => 0))) (ty := .int) (ci := 1) (j := 3) C hH b_aw.1 rfl aTy_i.1 (fun _ h => by cases h) (fun _ => rfl) (by decide) (by decide) (by decide) (Nat.le_of_ble_eq_true rfl) (Nat.le_of_ble_eq_true rfl) dX1_init_23 dX1_init_25 rfl iwX1 (by decide) (aTb_tables_1_2 187 rfl rfl) tyX1 tyX1_ok nmX1 (Or.inr ⟨rfl, hin, rfl⟩) (ty9 := tyX1 3) (by decide +kernel) (fun _ => rfl) (fun _ => rfl) hf2 (fun q3 H locs hf3 hH => ?_)
  refine lv_aload_n C.1 C.2.1 dX1_init_28 rfl (lv_at hl 0 rfl) ?_
  refine lv_bipush C.1 C.2.1 dX1_init_29 (v := 20) (by decide) ?_
  refine b_arr (m := mX1_init) (atype := .int) (N9 := 20) (a0 := (20, .inl (fun _ => 0))) (ty := .int) (ci := 1) (j := 4) C hH b_aw.1 rfl aTy_i.1 (fun _ h => by cases h) (fun _ => rfl) (by decide) (by decide) (by decide) (Nat.le_of_ble_eq_true rfl) (Nat.le_of_ble_eq_true rfl) dX1_init_31 dX1_init_33 rfl iwX1 (by decide) (aTb_tables_1_2 189 rfl rfl) tyX1 tyX1_ok nmX1 (Or.inr ⟨rfl, hin, rfl⟩) (ty9 := tyX1 4) (by decide +kernel) (fun _ => rfl) (fun _ => rfl) hf3 (fun q4 H locs hf4 hH => ?_)
  exact fin _ _ _ _ _ dX1_init_36 ⟨q1, q2, q3, q4, rfl⟩ hH
def bP_X6 : (Nat → ClassId) → Nat → va_W → Prop := fun cy b ws => ∃ (q4 q5 q6 q7 q8 q9 q10 q11 : Nat), ws = [(b, .inr (6, [.int 0, .int 0, .int 0, .int 0, .ref q4, .ref q5, .ref q6, .ref q7, .ref q8, .ref q9, .ref q10, .ref q11])), (q4, .inl (cy 14, 48, .inl (fun _ => 0))), (q5, .inl (cy 14, 48, .inl (fun _ => 0))), (q6, .inl (cy 14, 6, .inl (fun _ => 0))), (q7, .inl (cy 14, 72, .inl (fun _ => 0))), (q8, .inl (cy 14, 72, .inl (fun _ => 0))), (q9, .inl (cy 14, 8, .inl (fun _ => 0))), (q10, .inl (cy 14, 8, .inl (fun _ => 0))), (q11, .inl (cy 14, 8, .inl (fun _ => 0)))]
set_option maxHeartbeats 4000000 in
set_option maxRecDepth 100000 in
theorem i_X6 {l : Launch} {d : Nat} : bCt l mX6_init 6 8 270 d bP_X6 := by
  refine b_met (by decide) rfl (by decide) rfl ?_
  intro p e s mid args below meth c dC dI cy A b Qs ls C hin hAO hl fin H hH
  refine lv_aload_n C.1 C.2.1 dX6_init_0 rfl (lv_at hl 0 rfl) ?_
  refine b_obj (m := mX6_init) C dX6_init_1 (aTb_tables_1_2 67 rfl rfl) hl.1 (Nat.succ_le_succ (Nat.zero_le _)) (by show 20 ≤ 40 * (d + 1); omega) (Nat.zero_le _) ?_
  refine lv_aload_n C.1 C.2.1 dX6_init_4 rfl (lv_at hl 0 rfl) ?_
  refine lv_bipush C.1 C.2.1 dX6_init_5 (v := 48) (by decide) ?_
  refine b_arr (m := mX6_init) (atype := .int) (N9 := 48) (a0 := (48, .inl (fun _ => 0))) (ty := .int) (ci := 6) (j := 4) C hH b_aw.1 rfl aTy_i.1 (fun _ h => by cases h) (fun _ => rfl) (by decide) (by decide) (by decide) (Nat.le_of_ble_eq_true rfl) (Nat.le_of_ble_eq_true rfl) dX6_init_7 dX6_init_9 rfl iwX6 (by decide) (aTb_tables_1_2 78 rfl rfl) tyX6 tyX6_ok nmX6 (Or.inr ⟨rfl, hin, rfl⟩) (ty9 := tyX6 4) (by decide +kernel) (fun _ => rfl) (fun _ => rfl) rfl (fun q4 H locs hf4 hH => ?_)
  refine lv_aload_n C.1 C.2.1 dX6_init_12 rfl (lv_at hl 0 rfl) ?_
  refine lv_bipush C.1 C.2.1 dX6_init_13 (v := 48) (by decide) ?_
  refine b_arr (m := mX6_init) (atype := .int) (N9 := 48) (a0 := (48, .inl (fun _ => 0))) (ty := .int) (ci := 6) (j := 5) C hH b_aw.1 rfl aTy_i.1 (fun _ h => by cases h) (fun _ => rfl) (by decide) (by decide) (by decide) (Nat.le_of_ble_eq_true rfl) (Nat.le_of_ble_eq_true rfl) dX6_init_15 dX6_init_17 rfl iwX6 (by decide) (aTb_tables_1_2 79 rfl rfl) tyX6 tyX6_ok nmX6 (Or.inr ⟨rfl, hin, rfl⟩) (ty9 := tyX6 5) (by decide +kernel) (fun _ => rfl) (fun _ => rfl) hf4 (fun q5 H locs hf5 hH => ?_)
  refine lv_aload_n C.1 C.2.1 dX6_init_20 rfl (lv_at hl 0 rfl) ?_
  refine lv_bipush C.1 C.2.1 dX6_init_21 (v := 6) (by decide) ?_
  refine b_arr (m := mX6_init) (atype := .int) (N9 := 6) (a0 := (6, .inl (fun _ => 0))) (ty := .int) (ci := 6) (j := 6) C hH b_aw.1 rfl aTy_i.1 (fun _ h => by cases h) (fun _ => rfl) (by decide) (by decide) (by decide) (Nat.le_of_ble_eq_true rfl) (Nat.le_of_ble_eq_true rfl) dX6_init_23 dX6_init_25 rfl iwX6 (by decide) (aTb_tables_1_2 80 rfl rfl) tyX6 tyX6_ok nmX6 (Or.inr ⟨rfl, hin, rfl⟩) (ty9 := tyX6 6) (by decide +kernel) (fun _ => rfl) (fun _ => rfl) hf5 (fun q6 H locs hf6 hH => ?_)
  refine lv_aload_n C.1 C.2.1 dX6_init_28 rfl (lv_at hl 0 rfl) ?_
  refine lv_bipush C.1 C.2.1 dX6_init_29 (v := 72) (by decide) ?_
  refine b_arr (m := mX6_init) (atype := .int) (N9 := 72) (a0 := (72, .inl (fun _ => 0))) (ty := .int) (ci := 6) (j := 7) C hH b_aw.1 rfl aTy_i.1 (fun _ h => by cases h) (fun _ => rfl) (by decide) (by decide) (by decide) (Nat.le_of_ble_eq_true rfl) (Nat.le_of_ble_eq_true rfl) dX6_init_31 dX6_init_33 rfl iwX6 (by decide) (aTb_tables_1_2 84 rfl rfl) tyX6 tyX6_ok nmX6 (Or.inr ⟨rfl, hin, rfl⟩) (ty9 := tyX6 7) (by decide +kernel) (fun _ => rfl) (fun _ => rfl) hf6 (fun q7 H locs hf7 hH => ?_)
  refine lv_aload_n C.1 C.2.1 dX6_init_36 rfl (lv_at hl 0 rfl) ?_
  refine lv_bipush C.1 C.2.1 dX6_init_37 (v := 72) (by decide) ?_
  refine b_arr (m := mX6_init) (atype := .int) (N9 := 72) (a0 := (72, .inl (fun _ => 0))) (ty := .int) (ci := 6) (j := 8) C hH b_aw.1 rfl aTy_i.1 (fun _ h => by cases h) (fun _ => rfl) (by decide) (by decide) (by decide) (Nat.le_of_ble_eq_true rfl) (Nat.le_of_ble_eq_true rfl) dX6_init_39 dX6_init_41 rfl iwX6 (by decide) (aTb_tables_1_2 87 rfl rfl) tyX6 tyX6_ok nmX6 (Or.inr ⟨rfl, hin, rfl⟩) (ty9 := tyX6 8) (by decide +kernel) (fun _ => rfl) (fun _ => rfl) hf7 (fun q8 H locs hf8 hH => ?_)
  refine lv_aload_n C.1 C.2.1 dX6_init_44 rfl (lv_at hl 0 rfl) ?_
  refine lv_bipush C.1 C.2.1 dX6_init_45 (v := 8) (by decide) ?_
  refine b_arr (m := mX6_init) (atype := .int) (N9 := 8) (a0 := (8, .inl (fun _ => 0))) (ty := .int) (ci := 6) (j := 9) C hH b_aw.1 rfl aTy_i.1 (fun _ h => by cases h) (fun _ => rfl) (by decide) (by decide) (by decide) (Nat.le_of_ble_eq_true rfl) (Nat.le_of_ble_eq_true rfl) dX6_init_47 dX6_init_49 rfl iwX6 (by decide) (aTb_tables_1_2 90 rfl rfl) tyX6 tyX6_ok nmX6 (Or.inr ⟨rfl, hin, rfl⟩) (ty9 := tyX6 9) (by decide +kernel) (fun _ => rfl) (fun _ => rfl) hf8 (fun q9 H locs hf9 hH => ?_)
  refine lv_aload_n C.1 C.2.1 dX6_init_52 rfl (lv_at hl 0 rfl) ?_
  refine lv_bipush C.1 C.2.1 dX6_init_53 (v := 8) (by decide) ?_
  refine b_arr (m := mX6_init) (atype := .int) (N9 := 8) (a0 := (8, .inl (fun _ => 0))) (ty := .int) (ci := 6) (j := 10) C hH b_aw.1 rfl aTy_i.1 (fun _ h => by cases h) (fun _ => rfl) (by decide) (by decide) (by decide) (Nat.le_of_ble_eq_true rfl) (Nat.le_of_ble_eq_true rfl) dX6_init_55 dX6_init_57 rfl iwX6 (by decide) (aTb_tables_1_2 94 rfl rfl) tyX6 tyX6_ok nmX6 (Or.inr ⟨rfl, hin, rfl⟩) (ty9 := tyX6 10) (by decide +kernel) (fun _ => rfl) (fun _ => rfl) hf9 (fun q10 H locs hf10 hH => ?_)
  refine lv_aload_n C.1 C.2.1 dX6_init_60 rfl (lv_at hl 0 rfl) ?_
  refine lv_bipush C.1 C.2.1 dX6_init_61 (v := 8) (by decide) ?_
  refine b_arr (m := mX6_init) (atype := .int) (N9 := 8) (a0 := (8, .inl (fun _ => 0))) (ty := .int) (ci := 6) (j := 11) C hH b_aw.1 rfl aTy_i.1 (fun _ h => by cases h) (fun _ => rfl) (by decide) (by decide) (by decide) (Nat.le_of_ble_eq_true rfl) (Nat.le_of_ble_eq_true rfl) dX6_init_63 dX6_init_65 rfl iwX6 (by decide) (aTb_tables_1_2 98 rfl rfl) tyX6 tyX6_ok nmX6 (Or.inr ⟨rfl, hin, rfl⟩) (ty9 := tyX6 11) (by decide +kernel) (fun _ => rfl) (fun _ => rfl) hf10 (fun q11 H locs hf11 hH => ?_)
  exact fin _ _ _ _ _ dX6_init_68 ⟨q4, q5, q6, q7, q8, q9, q10, q11, rfl⟩ hH
def bP_X10 : (Nat → ClassId) → Nat → va_W → Prop := fun cy b ws => ∃ (q0 q1 : Nat), ws = [(b, .inr (10, [.ref q0, .ref q1])), (q0, .inl (cy 14, 7, .inl (fun _ => 0))), (q1, .inl (cy 15, 64, .inr (.inl (fun _ => 0))))]
set_option maxHeartbeats 4000000 in
set_option maxRecDepth 100000 in
theorem i_X10 {l : Launch} {d : Nat} : bCt l mX10_init 10 2 71 d bP_X10 := by
  refine b_met (by decide) rfl (by decide) rfl ?_
  intro p e s mid args below meth c dC dI cy A b Qs ls C hin hAO hl fin H hH
  refine lv_aload_n C.1 C.2.1 dX10_init_0 rfl (lv_at hl 0 rfl) ?_
  refine b_obj (m := mX10_init) C dX10_init_1 (aTb_tables_1_2 132 rfl rfl) hl.1 (Nat.succ_le_succ (Nat.zero_le _)) (by show 20 ≤ 40 * (d + 1); omega) (Nat.zero_le _) ?_
  refine lv_aload_n C.1 C.2.1 dX10_init_4 rfl (lv_at hl 0 rfl) ?_
  refine lv_bipush C.1 C.2.1 dX10_init_5 (v := 7) (by decide) ?_
  refine b_arr (m := mX10_init) (atype := .int) (N9 := 7) (a0 := (7, .inl (fun _ => 0))) (ty := .int) (ci := 10) (j := 0) C hH b_aw.1 rfl aTy_i.1 (fun _ h => by cases h) (fun _ => rfl) (by decide) (by decide) (by decide) (Nat.le_of_ble_eq_true rfl) (Nat.le_of_ble_eq_true rfl) dX10_init_7 dX10_init_9 rfl iwX10 (by decide) (aTb_tables_1_2 133 rfl rfl) tyX10 tyX10_ok nmX10 (Or.inr ⟨rfl, hin, rfl⟩) (ty9 := tyX10 0) (by decide +kernel) (fun _ => rfl) (fun _ => rfl) rfl (fun q0 H locs hf0 hH => ?_)
  refine lv_aload_n C.1 C.2.1 dX10_init_12 rfl (lv_at hl 0 rfl) ?_
  refine lv_bipush C.1 C.2.1 dX10_init_13 (v := 64) (by decide) ?_
  refine b_arr (m := mX10_init) (atype := .long) (N9 := 64) (a0 := (64, .inr (.inl (fun _ => 0)))) (ty := .long) (ci := 10) (j := 1) C hH b_aw.2.1 rfl aTy_i.2.1 (fun _ h => by cases h) (fun _ => rfl) (by decide) (by decide) (by decide) (Nat.le_of_ble_eq_true rfl) (Nat.le_of_ble_eq_true rfl) dX10_init_15 dX10_init_17 rfl iwX10 (by decide) (aTb_tables_1_2 134 rfl rfl) tyX10 tyX10_ok nmX10 (Or.inr ⟨rfl, hin, rfl⟩) (ty9 := tyX10 1) (by decide +kernel) (fun _ => rfl) (fun _ => rfl) hf0 (fun q1 H locs hf1 hH => ?_)
  exact fin _ _ _ _ _ dX10_init_20 ⟨q0, q1, rfl⟩ hH
def bP_X5 : (Nat → ClassId) → Nat → va_W → Prop := fun cy b ws => ∃ (q2 q3 q4 q5 q6 q7 : Nat), ws = [(b, .inr (5, [.int 0, .int (-1), .ref q2, .ref q3, .ref q4, .ref q5, .ref q6, .ref q7])), (q2, .inl (cy 14, 24, .inl (fun _ => 0))), (q3, .inl (cy 14, 24, .inl (fun _ => 0))), (q4, .inl (cy 14, 24, .inl (fun _ => 0))), (q5, .inl (cy 16, 24, .inl (fun _ => 0))), (q6, .inl (cy 14, 24, .inl (fun _ => 0))), (q7, .inl (cy 16, 24, .inl (fun _ => 0)))]
set_option maxHeartbeats 4000000 in
set_option maxRecDepth 100000 in
theorem i_X5 {l : Launch} {d : Nat} : bCt l mX5_init 5 6 144 d bP_X5 := by
  refine b_met (by decide) rfl (by decide) rfl ?_
  intro p e s mid args below meth c dC dI cy A b Qs ls C hin hAO hl fin H hH
  refine lv_aload_n C.1 C.2.1 dX5_init_0 rfl (lv_at hl 0 rfl) ?_
  refine b_obj (m := mX5_init) C dX5_init_1 (aTb_tables_1_2 146 rfl rfl) hl.1 (Nat.succ_le_succ (Nat.zero_le _)) (by show 20 ≤ 40 * (d + 1); omega) (Nat.zero_le _) ?_
  refine lv_aload_n C.1 C.2.1 dX5_init_4 rfl (lv_at hl 0 rfl) ?_
  refine lv_iconst C.1 C.2.1 dX5_init_5 (v := (-1)) (by decide) ?_
  refine b_put (m := mX5_init) (q0 := 0) (ci := 5) (j := 1) C hH dX5_init_6 rfl iwX5 (by decide) (aTb_tables_1_2 149 rfl rfl) tyX5 tyX5_ok nmX5 (Or.inl rfl) (ty := tyX5 1) (by decide +kernel) rfl rfl rfl rfl (fun H locs hH => ?_)
  refine lv_aload_n C.1 C.2.1 dX5_init_9 rfl (lv_at hl 0 rfl) ?_
  refine lv_bipush C.1 C.2.1 dX5_init_10 (v := 24) (by decide) ?_
  refine b_arr (m := mX5_init) (atype := .int) (N9 := 24) (a0 := (24, .inl (fun _ => 0))) (ty := .int) (ci := 5) (j := 2) C hH b_aw.1 rfl aTy_i.1 (fun _ h => by cases h) (fun _ => rfl) (by decide) (by decide) (by decide) (Nat.le_of_ble_eq_true rfl) (Nat.le_of_ble_eq_true rfl) dX5_init_12 dX5_init_14 rfl iwX5 (by decide) (aTb_tables_1_2 151 rfl rfl) tyX5 tyX5_ok nmX5 (Or.inr ⟨rfl, hin, rfl⟩) (ty9 := tyX5 2) (by decide +kernel) (fun _ => rfl) (fun _ => rfl) (by rw [List.length_set]; exact rfl) (fun q2 H locs hf2 hH => ?_)
  refine lv_aload_n C.1 C.2.1 dX5_init_17 rfl (lv_at hl 0 rfl) ?_
  refine lv_bipush C.1 C.2.1 dX5_init_18 (v := 24) (by decide) ?_
  refine b_arr (m := mX5_init) (atype := .int) (N9 := 24) (a0 := (24, .inl (fun _ => 0))) (ty := .int) (ci := 5) (j := 3) C hH b_aw.1 rfl aTy_i.1 (fun _ h => by cases h) (fun _ => rfl) (by decide) (by decide) (by decide) (Nat.le_of_ble_eq_true rfl) (Nat.le_of_ble_eq_true rfl) dX5_init_20 dX5_init_22 rfl iwX5 (by decide) (aTb_tables_1_2 152 rfl rfl) tyX5 tyX5_ok nmX5 (Or.inr ⟨rfl, hin, rfl⟩) (ty9 := tyX5 3) (by decide +kernel) (fun _ => rfl) (fun _ => rfl) hf2 (fun q3 H locs hf3 hH => ?_)
  refine lv_aload_n C.1 C.2.1 dX5_init_25 rfl (lv_at hl 0 rfl) ?_
  refine lv_bipush C.1 C.2.1 dX5_init_26 (v := 24) (by decide) ?_
  refine b_arr (m := mX5_init) (atype := .int) (N9 := 24) (a0 := (24, .inl (fun _ => 0))) (ty := .int) (ci := 5) (j := 4) C hH b_aw.1 rfl aTy_i.1 (fun _ h => by cases h) (fun _ => rfl) (by decide) (by decide) (by decide) (Nat.le_of_ble_eq_true rfl) (Nat.le_of_ble_eq_true rfl) dX5_init_28 dX5_init_30 rfl iwX5 (by decide) (aTb_tables_1_2 153 rfl rfl) tyX5 tyX5_ok nmX5 (Or.inr ⟨rfl, hin, rfl⟩) (ty9 := tyX5 4) (by decide +kernel) (fun _ => rfl) (fun _ => rfl) hf3 (fun q4 H locs hf4 hH => ?_)
  refine lv_aload_n C.1 C.2.1 dX5_init_33 rfl (lv_at hl 0 rfl) ?_
  refine lv_bipush C.1 C.2.1 dX5_init_34 (v := 24) (by decide) ?_
  refine b_arr (m := mX5_init) (atype := .boolean) (N9 := 24) (a0 := (24, .inl (fun _ => 0))) (ty := .boolean) (ci := 5) (j := 5) C hH b_aw.2.2.1 rfl aTy_i.2.2.1 (fun _ h => by cases h) (fun _ => rfl) (by decide) (by decide) (by decide) (Nat.le_of_ble_eq_true rfl) (Nat.le_of_ble_eq_true rfl) dX5_init_36 dX5_init_38 rfl iwX5 (by decide) (aTb_tables_1_2 154 rfl rfl) tyX5 tyX5_ok nmX5 (Or.inr ⟨rfl, hin, rfl⟩) (ty9 := tyX5 5) (by decide +kernel) (fun _ => rfl) (fun _ => rfl) hf4 (fun q5 H locs hf5 hH => ?_)
  refine lv_aload_n C.1 C.2.1 dX5_init_41 rfl (lv_at hl 0 rfl) ?_
  refine lv_bipush C.1 C.2.1 dX5_init_42 (v := 24) (by decide) ?_
  refine b_arr (m := mX5_init) (atype := .int) (N9 := 24) (a0 := (24, .inl (fun _ => 0))) (ty := .int) (ci := 5) (j := 6) C hH b_aw.1 rfl aTy_i.1 (fun _ h => by cases h) (fun _ => rfl) (by decide) (by decide) (by decide) (Nat.le_of_ble_eq_true rfl) (Nat.le_of_ble_eq_true rfl) dX5_init_44 dX5_init_46 rfl iwX5 (by decide) (aTb_tables_1_2 155 rfl rfl) tyX5 tyX5_ok nmX5 (Or.inr ⟨rfl, hin, rfl⟩) (ty9 := tyX5 6) (by decide +kernel) (fun _ => rfl) (fun _ => rfl) hf5 (fun q6 H locs hf6 hH => ?_)
  refine lv_aload_n C.1 C.2.1 dX5_init_49 rfl (lv_at hl 0 rfl) ?_
  refine lv_bipush C.1 C.2.1 dX5_init_50 (v := 24) (by decide) ?_
  refine b_arr (m := mX5_init) (atype := .boolean) (N9 := 24) (a0 := (24, .inl (fun _ => 0))) (ty := .boolean) (ci := 5) (j := 7) C hH b_aw.2.2.1 rfl aTy_i.2.2.1 (fun _ h => by cases h) (fun _ => rfl) (by decide) (by decide) (by decide) (Nat.le_of_ble_eq_true rfl) (Nat.le_of_ble_eq_true rfl) dX5_init_52 dX5_init_54 rfl iwX5 (by decide) (aTb_tables_1_2 156 rfl rfl) tyX5 tyX5_ok nmX5 (Or.inr ⟨rfl, hin, rfl⟩) (ty9 := tyX5 7) (by decide +kernel) (fun _ => rfl) (fun _ => rfl) hf6 (fun q7 H locs hf7 hH => ?_)
  exact fin _ _ _ _ _ dX5_init_57 ⟨q2, q3, q4, q5, q6, q7, rfl⟩ hH
def bP_X4 : (Nat → ClassId) → Nat → va_W → Prop := fun cy b ws => ∃ (q0 q2 q3 q4 q5 q6 q7 : Nat), ws = [(b, .inr (4, [.ref q0, .int 0, .ref q2, .ref q3, .ref q4, .ref q5, .ref q6, .ref q7])), (q0, .inl (cy 14, 6, .inl (fun _ => 0))), (q2, .inl (cy 14, 61, .inl (fun _ => 0))), (q3, .inl (cy 14, 8, .inl (fun _ => 0))), (q4, .inl (cy 14, 48, .inl (fun _ => 0))), (q5, .inl (cy 14, 1792, .inl (fun _ => 0))), (q6, .inl (cy 14, 6, .inl (fun _ => 0))), (q7, .inl (cy 16, 6, .inl (fun _ => 0)))]
set_option maxHeartbeats 4000000 in
set_option maxRecDepth 100000 in
theorem i_X4 {l : Launch} {d : Nat} : bCt l mX4_init 4 7 1927 d bP_X4 := by
  refine b_met (by decide) rfl (by decide) rfl ?_
  intro p e s mid args below meth c dC dI cy A b Qs ls C hin hAO hl fin H hH
  refine lv_aload_n C.1 C.2.1 dX4_init_0 rfl (lv_at hl 0 rfl) ?_
  refine b_obj (m := mX4_init) C dX4_init_1 (aTb_tables_1_2 207 rfl rfl) hl.1 (Nat.succ_le_succ (Nat.zero_le _)) (by show 20 ≤ 40 * (d + 1); omega) (Nat.zero_le _) ?_
  refine lv_aload_n C.1 C.2.1 dX4_init_4 rfl (lv_at hl 0 rfl) ?_
  refine lv_bipush C.1 C.2.1 dX4_init_5 (v := 6) (by decide) ?_
  refine b_arr (m := mX4_init) (atype := .int) (N9 := 6) (a0 := (6, .inl (fun _ => 0))) (ty := .int) (ci := 4) (j := 0) C hH b_aw.1 rfl aTy_i.1 (fun _ h => by cases h) (fun _ => rfl) (by decide) (by decide) (by decide) (Nat.le_of_ble_eq_true rfl) (Nat.le_of_ble_eq_true rfl) dX4_init_7 dX4_init_9 rfl iwX4 (by decide) (aTb_tables_1_2 208 rfl rfl) tyX4 tyX4_ok nmX4 (Or.inr ⟨rfl, hin, rfl⟩) (ty9 := tyX4 0) (by decide +kernel) (fun _ => rfl) (fun _ => rfl) rfl (fun q0 H locs hf0 hH => ?_)
  refine lv_aload_n C.1 C.2.1 dX4_init_12 rfl (lv_at hl 0 rfl) ?_
  refine lv_bipush C.1 C.2.1 dX4_init_13 (v := 61) (by decide) ?_
  refine b_arr (m := mX4_init) (atype := .int) (N9 := 61) (a0 := (61, .inl (fun _ => 0))) (ty := .int) (ci := 4) (j := 2) C hH b_aw.1 rfl aTy_i.1 (fun _ h => by cases h) (fun _ => rfl) (by decide) (by decide) (by decide) (Nat.le_of_ble_eq_true rfl) (Nat.le_of_ble_eq_true rfl) dX4_init_15 dX4_init_17 rfl iwX4 (by decide) (aTb_tables_1_2 212 rfl rfl) tyX4 tyX4_ok nmX4 (Or.inr ⟨rfl, hin, rfl⟩) (ty9 := tyX4 2) (by decide +kernel) (fun _ => rfl) (fun _ => rfl) hf0 (fun q2 H locs hf2 hH => ?_)
  refine lv_aload_n C.1 C.2.1 dX4_init_20 rfl (lv_at hl 0 rfl) ?_
  refine lv_bipush C.1 C.2.1 dX4_init_21 (v := 8) (by decide) ?_
  refine b_arr (m := mX4_init) (atype := .int) (N9 := 8) (a0 := (8, .inl (fun _ => 0))) (ty := .int) (ci := 4) (j := 3) C hH b_aw.1 rfl aTy_i.1 (fun _ h => by cases h) (fun _ => rfl) (by decide) (by decide) (by decide) (Nat.le_of_ble_eq_true rfl) (Nat.le_of_ble_eq_true rfl) dX4_init_23 dX4_init_25 rfl iwX4 (by decide) (aTb_tables_1_2 214 rfl rfl) tyX4 tyX4_ok nmX4 (Or.inr ⟨rfl, hin, rfl⟩) (ty9 := tyX4 3) (by decide +kernel) (fun _ => rfl) (fun _ => rfl) hf2 (fun q3 H locs hf3 hH => ?_)
  refine lv_aload_n C.1 C.2.1 dX4_init_28 rfl (lv_at hl 0 rfl) ?_
  refine lv_bipush C.1 C.2.1 dX4_init_29 (v := 48) (by decide) ?_
  refine b_arr (m := mX4_init) (atype := .int) (N9 := 48) (a0 := (48, .inl (fun _ => 0))) (ty := .int) (ci := 4) (j := 4) C hH b_aw.1 rfl aTy_i.1 (fun _ h => by cases h) (fun _ => rfl) (by decide) (by decide) (by decide) (Nat.le_of_ble_eq_true rfl) (Nat.le_of_ble_eq_true rfl) dX4_init_31 dX4_init_33 rfl iwX4 (by decide) (aTb_tables_1_2 215 rfl rfl) tyX4 tyX4_ok nmX4 (Or.inr ⟨rfl, hin, rfl⟩) (ty9 := tyX4 4) (by decide +kernel) (fun _ => rfl) (fun _ => rfl) hf3 (fun q4 H locs hf4 hH => ?_)
  refine lv_aload_n C.1 C.2.1 dX4_init_36 rfl (lv_at hl 0 rfl) ?_
  refine lv_sipush C.1 C.2.1 dX4_init_37 (v := 1792) (by decide) ?_
  refine b_arr (m := mX4_init) (atype := .int) (N9 := 1792) (a0 := (1792, .inl (fun _ => 0))) (ty := .int) (ci := 4) (j := 5) C hH b_aw.1 rfl aTy_i.1 (fun _ h => by cases h) (fun _ => rfl) (by decide) (by decide) (by decide) (Nat.le_of_ble_eq_true rfl) (Nat.le_of_ble_eq_true rfl) dX4_init_40 dX4_init_42 rfl iwX4 (by decide) (aTb_tables_1_2 216 rfl rfl) tyX4 tyX4_ok nmX4 (Or.inr ⟨rfl, hin, rfl⟩) (ty9 := tyX4 5) (by decide +kernel) (fun _ => rfl) (fun _ => rfl) hf4 (fun q5 H locs hf5 hH => ?_)
  refine lv_aload_n C.1 C.2.1 dX4_init_45 rfl (lv_at hl 0 rfl) ?_
  refine lv_bipush C.1 C.2.1 dX4_init_46 (v := 6) (by decide) ?_
  refine b_arr (m := mX4_init) (atype := .int) (N9 := 6) (a0 := (6, .inl (fun _ => 0))) (ty := .int) (ci := 4) (j := 6) C hH b_aw.1 rfl aTy_i.1 (fun _ h => by cases h) (fun _ => rfl) (by decide) (by decide) (by decide) (Nat.le_of_ble_eq_true rfl) (Nat.le_of_ble_eq_true rfl) dX4_init_48 dX4_init_50 rfl iwX4 (by decide) (aTb_tables_1_2 217 rfl rfl) tyX4 tyX4_ok nmX4 (Or.inr ⟨rfl, hin, rfl⟩) (ty9 := tyX4 6) (by decide +kernel) (fun _ => rfl) (fun _ => rfl) hf5 (fun q6 H locs hf6 hH => ?_)
  refine lv_aload_n C.1 C.2.1 dX4_init_53 rfl (lv_at hl 0 rfl) ?_
  refine lv_bipush C.1 C.2.1 dX4_init_54 (v := 6) (by decide) ?_
  refine b_arr (m := mX4_init) (atype := .boolean) (N9 := 6) (a0 := (6, .inl (fun _ => 0))) (ty := .boolean) (ci := 4) (j := 7) C hH b_aw.2.2.1 rfl aTy_i.2.2.1 (fun _ h => by cases h) (fun _ => rfl) (by decide) (by decide) (by decide) (Nat.le_of_ble_eq_true rfl) (Nat.le_of_ble_eq_true rfl) dX4_init_56 dX4_init_58 rfl iwX4 (by decide) (aTb_tables_1_2 218 rfl rfl) tyX4 tyX4_ok nmX4 (Or.inr ⟨rfl, hin, rfl⟩) (ty9 := tyX4 7) (by decide +kernel) (fun _ => rfl) (fun _ => rfl) hf6 (fun q7 H locs hf7 hH => ?_)
  exact fin _ _ _ _ _ dX4_init_61 ⟨q0, q2, q3, q4, q5, q6, q7, rfl⟩ hH
def bP_X7 : (Nat → ClassId) → Nat → va_W → Prop := fun cy b ws => ∃ (q1 : Nat), ws = [(b, .inr (7, [.int 0, .ref q1, .int 0, .int 0, .int 37, .int 0, .int 0])), (q1, .inl (cy 13, 700, .inl (fun _ => 0)))]
set_option maxHeartbeats 4000000 in
set_option maxRecDepth 100000 in
theorem i_X7 {l : Launch} {d : Nat} : bCt l mX7_init 7 1 700 d bP_X7 := by
  refine b_met (by decide) rfl (by decide) rfl ?_
  intro p e s mid args below meth c dC dI cy A b Qs ls C hin hAO hl fin H hH
  refine lv_aload_n C.1 C.2.1 dX7_init_0 rfl (lv_at hl 0 rfl) ?_
  refine b_obj (m := mX7_init) C dX7_init_1 (aTb_tables_1_1 46 rfl rfl) hl.1 (Nat.succ_le_succ (Nat.zero_le _)) (by show 20 ≤ 40 * (d + 1); omega) (Nat.zero_le _) ?_
  refine lv_aload_n C.1 C.2.1 dX7_init_4 rfl (lv_at hl 0 rfl) ?_
  refine lv_sipush C.1 C.2.1 dX7_init_5 (v := 700) (by decide) ?_
  refine b_arr (m := mX7_init) (atype := .byte) (N9 := 700) (a0 := (700, .inl (fun _ => 0))) (ty := .byte) (ci := 7) (j := 1) C hH b_aw.2.2.2 rfl aTy_i.2.2.2 (fun _ h => by cases h) (fun _ => rfl) (by decide) (by decide) (by decide) (Nat.le_of_ble_eq_true rfl) (Nat.le_of_ble_eq_true rfl) dX7_init_8 dX7_init_10 rfl iwX7 (by decide) (aTb_tables_1_1 49 rfl rfl) tyX7 tyX7_ok nmX7 (Or.inr ⟨rfl, hin, rfl⟩) (ty9 := tyX7 1) (by decide +kernel) (fun _ => rfl) (fun _ => rfl) rfl (fun q1 H locs hf1 hH => ?_)
  refine lv_aload_n C.1 C.2.1 dX7_init_13 rfl (lv_at hl 0 rfl) ?_
  refine lv_bipush C.1 C.2.1 dX7_init_14 (v := 37) (by decide) ?_
  refine b_put (m := mX7_init) (q0 := 0) (ci := 7) (j := 4) C hH dX7_init_16 rfl iwX7 (by decide) (aTb_tables_1_1 52 rfl rfl) tyX7 tyX7_ok nmX7 (Or.inl rfl) (ty := tyX7 4) (by decide +kernel) rfl rfl rfl (hf1) (fun H locs hH => ?_)
  exact fin _ _ _ _ _ dX7_init_19 ⟨q1, rfl⟩ hH
/-! BIRTH: new, and the call of a constructor -/
theorem dflX0 : ∀ k, k < aNs 0 → defaultValue (tyX0 k) = vp_V (dfl 0) k := by decide +kernel
theorem dflX1 : ∀ k, k < aNs 1 → defaultValue (tyX1 k) = vp_V (dfl 1) k := by decide +kernel
theorem dflX2 : ∀ k, k < aNs 2 → defaultValue (tyX2 k) = vp_V (dfl 2) k := by decide +kernel
theorem dflX3 : ∀ k, k < aNs 3 → defaultValue (tyX3 k) = vp_V (dfl 3) k := by decide +kernel
theorem dflX4 : ∀ k, k < aNs 4 → defaultValue (tyX4 k) = vp_V (dfl 4) k := by decide +kernel
theorem dflX5 : ∀ k, k < aNs 5 → defaultValue (tyX5 k) = vp_V (dfl 5) k := by decide +kernel
theorem dflX6 : ∀ k, k < aNs 6 → defaultValue (tyX6 k) = vp_V (dfl 6) k := by decide +kernel
theorem dflX7 : ∀ k, k < aNs 7 → defaultValue (tyX7 k) = vp_V (dfl 7) k := by decide +kernel
theorem dflX8 : ∀ k, k < aNs 8 → defaultValue (tyX8 k) = vp_V (dfl 8) k := by decide +kernel
theorem dflX9 : ∀ k, k < aNs 9 → defaultValue (tyX9 k) = vp_V (dfl 9) k := by decide +kernel
theorem dflX10 : ∀ k, k < aNs 10 → defaultValue (tyX10 k) = vp_V (dfl 10) k := by decide +kernel
theorem dflX11 : ∀ k, k < aNs 11 → defaultValue (tyX11 k) = vp_V (dfl 11) k := by decide +kernel
theorem dflX12 : ∀ k, k < aNs 12 → defaultValue (tyX12 k) = vp_V (dfl 12) k := by decide +kernel
section bNews
variable {p : Program} {l : Launch} {e : Env} {R : Room} {s : State} {mid : MethodId} {args : Array Value} {below : List Frame} {meth : Method} {c : Code} {H : Heap} {locs : List Loc} {cells slots : Nat} {Qs : State → Prop}
  {dC : Nat → ClassId} {dI : Nat → Nat → Nat} {cy : Nat → ClassId} {A : Nat → Prop} {m m' : aM} {pc : Nat} {ls : Array Slot} {st : List Value} {ws : va_W}
theorem b_new {idx ci N : Nat} {C0 : String} {T : u_T} (C : bC m p s mid args c dC dI cy A) (hH : bH s dC dI A ws H locs) (hc : vwCl[ci]? = some (C0, T, N)) (hin : ∀ w ∈ u_ws C0 T N, w ∈ aTb) (ty0 : Nat → FieldType) (hty : ∀ k, k < N → parseFieldDescriptor (T k).2.2.1 = some (ty0 k)) (hfs : ∀ k, k < N → defaultValue (ty0 k) = vp_V (dfl ci) k) (h1 : Cond.classLink m.1.cls idx C0 ∈ aTb) (h2 : Cond.instantiable C0 N ∈ aTb) (h3 : Cond.initialized C0 ∈ aTb) (hcells : cells + 1 ≤ R.cells) (hslots : slots + N ≤ R.slots) (hd : decode m.2.1 pc = .ok (.new idx, 3))
    (k : ∀ (q : Nat) (H1 : Heap), bH s dC dI A (ws ++ [(q, .inr (ci, dfl ci))]) H1 locs → W p l e R s mid args below meth c H1 locs (cells + 1) (slots + N) Qs (F0 mid (pc + 3) ls (.ref q :: st))) : W p l e R s mid args below meth c H locs cells slots Qs (F0 mid pc ls st) :=
  va_new (D := (dC, dI)) C.1 C.2.1 C.2.2.2.2.1 hin ty0 hty C.2.2.2.1 (C.2.2.2.2.1 _ h1) (C.2.2.2.2.1 _ h2) (C.2.2.2.2.1 _ h3) C.2.2.2.2.2.1 hH.1 hH.2.1 hH.2.2 C.2.2.2.2.2.2 hc hfs hcells hslots hd (fun q H1 hP hD hS => k q H1 ⟨hP, hD, hS⟩)
/-- behind a constructor's run -/
theorem b_run {q ci mc ms : Nat} {P : va_W → Prop} {st0 : List Value} {a : Array Value} (hA : ∀ q, s.heap.size ≤ q → A q) (hH : bH s dC dI A (ws ++ [(q, .inr (ci, dfl ci))]) H locs)
    (hr : va_Run p l e R s mid args below meth c H locs cells slots mc ms (F0 mid pc ls st0) st (bQc dC dI (va_A [(q, .inr (ci, dfl ci))] H.size) P a) (va_A [(q, .inr (ci, dfl ci))] H.size))
    (k : ∀ (w' : va_W) (H1 : Heap) (locs1 : List Loc), P w' → bH s dC dI A (ws ++ w') H1 locs1 → W p l e R s mid args below meth c H1 locs1 (cells + mc) (slots + ms) Qs (F0 mid (pc + 3) ls st)) : W p l e R s mid args below meth c H locs cells slots Qs (F0 mid pc ls st0) := by
  obtain ⟨hP, hD, hS⟩ := hH
  have hlast : (ws ++ [(q, .inr (ci, dfl ci))])[ws.length]? = some (q, .inr (ci, dfl ci)) := by simp
  have hF : ∀ z, va_A [(q, .inr (ci, dfl ci))] H.size z → A z := by
    intro z h
    rcases h with ⟨k, e, h⟩ | h
    · have h1 : k < 1 := (List.getElem?_eq_some_iff.mp h).1
      rw [show k = 0 by omega] at h
      cases h
      exact hD.2 _ _ hlast
    · exact hA z (Nat.le_trans hS.1 h)
  have hin : ∀ (k : Nat) (x : Nat × va_E), ws[k]? = some x → (ws ++ [(q, .inr (ci, dfl ci))])[k]? = some x := fun k x h => by
    rw [List.getElem?_append_left (List.getElem?_eq_some_iff.mp h).1]; exact h
  have hno : ∀ (k : Nat) (x : Nat × va_E), ws[k]? = some x → x.1 < H.size ∧ ¬ va_A [(q, .inr (ci, dfl ci))] H.size x.1 := by
    intro k x h
    have hlt := (hP k x (hin k x h)).lt
    refine ⟨hlt, fun g => ?_⟩
    rcases g with ⟨k2, e, g⟩ | g
    · have h1 : k2 < 1 := (List.getElem?_eq_some_iff.mp g).1
      rw [show k2 = 0 by omega] at g
      have e1 : q = x.1 := by cases g; rfl
      have := hD.1 k ws.length x _ (hin k x h) hlast e1.symm
      have := (List.getElem?_eq_some_iff.mp h).1
      omega
    · omega
  intro T hT X
  obtain ⟨v, st₀, t, T', L, h0, X', hL, e1, e2, ⟨⟨hv, w', hPw, hP1, hD1⟩, hz, hk⟩, stp⟩ := hr T hT X
  cases hv
  rw [h0] at hz hk
  have hN : bH s dC dI A (ws ++ w') T'.heap (locs ++ L) := by
    refine ⟨?_, ?_, Nat.le_trans hS.1 (by rw [e1]; exact hz), fun z h1 h2 => by rw [e1, hk z (Nat.lt_of_lt_of_le h1 hS.1) (fun g => h2 (hF z g))]; exact hS.2.1 z h1 h2, fun z hz => ?_⟩
    · refine va_P.app (fun k x hx => ?_) (by rw [e1]; exact hP1)
      refine (hP k x (hin k x hx)).kept ?_
      rw [e1]
      exact hk _ (hno k x hx).1 (hno k x hx).2
    · refine va_D.app ⟨fun i j x y hi hj => hD.1 i j x y (hin i x hi) (hin j y hj), fun k x hx => hD.2 k x (hin k x hx)⟩ (hD1.weaken (fun _ z _ h => hF z.1 h)) (fun i j x y hi hj g => ?_)
      exact (hno i x hi).2 (by rw [g]; exact hD1.2 j y hj)
    · rcases List.mem_append.mp hz with h | h
      · exact hS.2.2 z h
      · exact hF _ (hL z h)
  obtain ⟨t2, a1, b1⟩ := k w' T'.heap (locs ++ L) hPw hN T' rfl X'
  exact ⟨t2, stp t2 a1, b1⟩
theorem b_pre {q ci : Nat} {U : State} (C : bC m p s mid args c dC dI cy A) (hAO : bAO s) (hH : bH s dC dI A (ws ++ [(q, .inr (ci, dfl ci))]) H locs) (hU : U.heap = H) (hW : s.WarmedH U.vm) : bPc dC dI cy q ci H.size ([.ref q] : List Value).toArray U := by
  refine ⟨rfl, by rw [hU], fun k x hx => ?_, va_K.moved hW.alike C.2.2.2.2.2.1, bAO_go hW hAO⟩
  have h1 : k < 1 := (List.getElem?_eq_some_iff.mp hx).1
  rw [show k = 0 by omega] at hx
  cases hx
  rw [hU]
  exact hH.1 ws.length _ (by simp)
/-- a constructor by a plain link, by a nest mate's -/
theorem b_call {idx q ci mc ms d : Nat} {P : (Nat → ClassId) → Nat → va_W → Prop} (C : bC m p s mid args c dC dI cy A) (hAO : bAO s) (hH : bH s dC dI A (ws ++ [(q, .inr (ci, dfl ci))]) H locs) (hd : decode m.2.1 pc = .ok (.invokespecial idx, 3)) (hw : Cond.methodLink m.1.cls idx m'.1 ∈ aTb ∨ (m.1.cls, idx, m'.1, "LastHouse") ∈ bNst) (hw2 : Cond.instanceMethod m'.1 ∈ aTb) (hw4 : Cond.initialized m'.1.cls ∈ aTb) (hw5 : Cond.code m'.1 m'.2.1 m'.2.2.1 none ∈ aTb) (hi : m'.1.name = "<init>") (hret : m'.2.2.2 = none) (hy : m'.1.cls ≠ "java/lang/invoke/MethodHandle" ∧ m'.1.cls ≠ "java/lang/invoke/VarHandle" ∧ (parseMethodDescriptor m'.1.desc).map (fun d => d.parameters.length) = some 0) (hm : m'.2.2.1 ≤ 21) (hsz : ls.size = m.2.2.1)
    (hfr : d + 2 ≤ R.frames) (hlo : 40 * (d + 2) ≤ R.locals) (hst : (st.map fun v => v.category).sum ≤ 8) (hcells : cells + mc ≤ R.cells) (hslots : slots + ms ≤ R.slots) (hc : bCt l m' ci mc ms d P)
    (k : ∀ (w' : va_W) (H1 : Heap) (locs1 : List Loc), P cy q w' → bH s dC dI A (ws ++ w') H1 locs1 → W p l e R s mid args below meth c H1 locs1 (cells + mc) (slots + ms) Qs (F0 mid (pc + 3) ls st)) : W p l e R s mid args below meth c H locs cells slots Qs (F0 mid pc ls (.ref q :: st)) := by
  have hWd : aWd m' = Cond.code m'.1 m'.2.1 m'.2.2.1 none :: aTb := by unfold aWd; rw [hret]
  have hG : GoodIn aTb (aWd m') := by
    intro w hw9
    have h9 : w ∈ aTb := by
      rcases List.mem_cons.mp hw9 with rfl | h
      · rw [hret]; exact hw5
      · exact h
    exact ⟨h9, aTbl_in h9⟩
  rcases hw with hw | hw
  · refine b_run (P := P cy q) C.2.2.2.2.2.2 hH (va_runI (As := []) (rest := st) (Ts := aTb) ⟨C.1, C.2.1, C.2.2.1, C.2.2.2.1, C.2.2.2.2.1⟩ (hc dC dI cy q H.size) (cwI 0 C.2.2.2.2.1 hG hWd rfl rfl (C.2.2.2.2.1 _ hw4) (C.2.2.2.2.1 _ hw) (C.2.2.2.2.1 _ hw2) hi hy ⟨by show d + 1 + 1 ≤ _; omega, by show 8 + (m'.2.2.1 + 11) + 40 * (d + 1) ≤ _; omega⟩) ⟨bPc_blind, fun U hU hW => b_pre C hAO hH hU hW⟩ rfl rfl hsz rfl (lv_room hst) hd ⟨hcells, hslots⟩) k
  · refine b_run (P := P cy q) C.2.2.2.2.2.2 hH (va_runIN (host := "LastHouse") (As := []) (rest := st) (Ts := aTb) ⟨C.1, C.2.1, C.2.2.1, C.2.2.2.1, C.2.2.2.2.1⟩ (hc dC dI cy q H.size) ⟨va_cnB (mc := mc) (ms := ms) (rm := bRm d mc ms) (ret := none) (bytes := m'.2.1) (maxL := m'.2.2.1) (y := m'.1) (host := "LastHouse") (ws' := aTb) 0 C.2.2.2.2.1 hG hWd rfl rfl (hAO.2 (m.1.cls, idx, m'.1, "LastHouse") hw) (C.2.2.2.2.1 _ hw4) hy ⟨by show d + 1 + 1 ≤ _; omega, by show 8 + (m'.2.2.1 + 11) + 40 * (d + 1) ≤ _; omega⟩, hi, C.2.2.2.2.1 _ hw2⟩ ⟨bPc_blind, fun U hU hW => b_pre C hAO hH hU hW⟩ rfl rfl hsz rfl (lv_room hst) hd ⟨hcells, hslots⟩) k
/-- this.f = new C(): from 'new' on; the object is the first of the world -/
theorem b_sub {i1 i2 i3 ci' N' mc ms d ci j N b : Nat} {P : (Nat → ClassId) → Nat → va_W → Prop} {fs : List Value} {w : va_W} (C : bC m p s mid args c dC dI cy A) (hAO : bAO s) (hH : bH s dC dI A ((b, .inr (ci, fs)) :: w) H locs)
    (hd1 : decode m.2.1 pc = .ok (.new i1, 3)) (hd2 : decode m.2.1 (pc + 3) = .ok (.dup, 1)) (hd3 : decode m.2.1 (pc + 4) = .ok (.invokespecial i2, 3)) (hd4 : decode m.2.1 (pc + 7) = .ok (.putfield i3, 3))
    {C1 : String} {T1 : u_T} (hc1 : vwCl[ci']? = some (C1, T1, N')) (hin1 : ∀ w ∈ u_ws C1 T1 N', w ∈ aTb) (ty1 : Nat → FieldType) (hty1 : ∀ k, k < N' → parseFieldDescriptor (T1 k).2.2.1 = some (ty1 k)) (hfs1 : ∀ k, k < N' → defaultValue (ty1 k) = vp_V (dfl ci') k) (h1 : Cond.classLink m.1.cls i1 C1 ∈ aTb) (h2 : Cond.instantiable C1 N' ∈ aTb) (h3 : Cond.initialized C1 ∈ aTb)
    (hw : Cond.methodLink m.1.cls i2 m'.1 ∈ aTb ∨ (m.1.cls, i2, m'.1, "LastHouse") ∈ bNst) (hw2 : Cond.instanceMethod m'.1 ∈ aTb) (hw4 : Cond.initialized m'.1.cls ∈ aTb) (hw5 : Cond.code m'.1 m'.2.1 m'.2.2.1 none ∈ aTb) (hi : m'.1.name = "<init>") (hret : m'.2.2.2 = none) (hy : m'.1.cls ≠ "java/lang/invoke/MethodHandle" ∧ m'.1.cls ≠ "java/lang/invoke/VarHandle" ∧ (parseMethodDescriptor m'.1.desc).map (fun d => d.parameters.length) = some 0) (hm : m'.2.2.1 ≤ 21) (hsz : ls.size = m.2.2.1)
    (hfr : d + 2 ≤ R.frames) (hlo : 40 * (d + 2) ≤ R.locals) (hcells : cells + 1 + mc ≤ R.cells) (hslots : slots + N' + ms ≤ R.slots) (hct : bCt l m' ci' mc ms d P)
    {C0 : String} {T : u_T} (hc : vwCl[ci]? = some (C0, T, N)) (hin : ∀ w ∈ u_ws C0 T N, w ∈ aTb) (hj : j < N) (hwf : Cond.fieldLink m.1.cls i3 (T j).1 (T j).2.1 (T j).2.2.1 ∈ aTb) (ty0 : Nat → FieldType) (hty : ∀ k, k < N → parseFieldDescriptor (T k).2.2.1 = some (ty0 k)) (hnm : ∀ a, a < N → ∀ b, b < N → a ≠ b → (T a).2.1 ≠ (T b).2.1)
    (hfin : (T j).2.2.2 = false ∨ ((T j).2.2.2 = true ∧ meth.name = "<init>" ∧ (T j).1 = m.1.cls)) {ty9 : FieldType} (hp : parseFieldDescriptor (T j).2.2.1 = some ty9) (hna : ∀ q : Nat, narrow ty9 (.ref q) = .ref q) (hfi : ∀ q : Nat, fits ty9 (.ref q) = true) (hl : fs.length = N)
    (k : ∀ (q : Nat) (w' : va_W) (H1 : Heap) (locs1 : List Loc), P cy q w' → (fs.set j (.ref q)).length = N → bH s dC dI A ((b, .inr (ci, fs.set j (.ref q))) :: (w ++ w')) H1 locs1 → W p l e R s mid args below meth c H1 locs1 (cells + 1 + mc) (slots + N' + ms) Qs (F0 mid (pc + 10) ls [])) : W p l e R s mid args below meth c H locs cells slots Qs (F0 mid pc ls [.ref b]) := by
  refine b_new C hH hc1 hin1 ty1 hty1 hfs1 h1 h2 h3 (by omega) (by omega) hd1 (fun q H1 hH1 => ?_)
  refine lv_dup C.1 C.2.1 hd2 rfl ?_
  refine b_call (ws := (b, .inr (ci, fs)) :: w) (d := d) C hAO hH1 hd3 hw hw2 hw4 hw5 hi hret hy hm hsz hfr hlo (Nat.le_of_ble_eq_true rfl) hcells hslots hct (fun w' H2 locs2 hP hH2 => ?_)
  refine b_put (q0 := 0) C hH2 hd4 hc hin hj hwf ty0 hty hnm hfin hp (hna q) (hfi q) rfl hl (fun H3 locs3 hH3 => ?_)
  exact k q w' H3 locs3 hP (by rw [List.length_set]; exact hl) hH3
end bNews
