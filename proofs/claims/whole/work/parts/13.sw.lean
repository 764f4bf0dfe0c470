/-! constants and switches -/
section aSwitch
variable {l : Launch} {m : aM} {d : Nat} {D : Nat → Bool} {scr : Option aSc} {pc : Nat} {lv : List (Nat × Value)} {st : List Value} {x : aS} {Q Q' : Option Value → aS → Prop}
theorem oX7_77 (hm : m.1.cls = RX7) : Cond.constant m.1.cls 77 (1000000 : Int32) ∈ aTb := by rw [hm]; exact aTb_tables_1_3 128 rfl rfl
theorem oX3_183 (hm : m.1.cls = RX3) : Cond.constant m.1.cls 183 (99999 : Int32) ∈ aTb := by rw [hm]; exact aTb_tables_1_3 184 rfl rfl
theorem oX11_168 (hm : m.1.cls = RX11) : Cond.constant m.1.cls 168 (-2147483648 : Int32) ∈ aTb := by rw [hm]; exact aTb_tables_1_4 24 rfl rfl
theorem oX11_189 (hm : m.1.cls = RX11) : Cond.constantLong m.1.cls 189 (-9223372036854775808 : Int64) ∈ aTb := by rw [hm]; exact aTb_tables_1_4 57 rfl rfl
theorem oX2_26 (hm : m.1.cls = RX2) : Cond.constantLong m.1.cls 26 (-9223372036854775808 : Int64) ∈ aTb := by rw [hm]; exact aTb_tables_1_4 67 rfl rfl
theorem oX2_35 (hm : m.1.cls = RX2) : Cond.constantLong m.1.cls 35 (1000000000000 : Int64) ∈ aTb := by rw [hm]; exact aTb_tables_1_4 74 rfl rfl
theorem oX2_37 (hm : m.1.cls = RX2) : Cond.constantLong m.1.cls 37 (-1000000000000 : Int64) ∈ aTb := by rw [hm]; exact aTb_tables_1_4 75 rfl rfl
theorem oJ6_265 (hm : m.1.cls = RJ6) : Cond.constant m.1.cls 265 (1431655765 : Int32) ∈ aTb := by rw [hm]; exact aTb_tables_1_4 139 rfl rfl
theorem oJ6_266 (hm : m.1.cls = RJ6) : Cond.constant m.1.cls 266 (858993459 : Int32) ∈ aTb := by rw [hm]; exact aTb_tables_1_4 140 rfl rfl
theorem oJ6_267 (hm : m.1.cls = RJ6) : Cond.constant m.1.cls 267 (252645135 : Int32) ∈ aTb := by rw [hm]; exact aTb_tables_1_4 141 rfl rfl
theorem oX10_167 (hm : m.1.cls = RX10) : Cond.constantLong m.1.cls 167 (-9223372036854775808 : Int64) ∈ aTb := by rw [hm]; exact aTb_tables_1_4 214 rfl rfl
theorem oX6_91 (hm : m.1.cls = RX6) : Cond.constant m.1.cls 91 (1103515245 : Int32) ∈ aTb := by rw [hm]; exact aTb_tables_1_5 4 rfl rfl
theorem oX6_94 (hm : m.1.cls = RX6) : Cond.constant m.1.cls 94 (2147483647 : Int32) ∈ aTb := by rw [hm]; exact aTb_tables_1_5 5 rfl rfl
theorem oX6_95 (hm : m.1.cls = RX6) : Cond.constant m.1.cls 95 (65536 : Int32) ∈ aTb := by rw [hm]; exact aTb_tables_1_5 6 rfl rfl
theorem oX11_290 (hm : m.1.cls = RX11) : Cond.constantLong m.1.cls 290 (-1 : Int64) ∈ aTb := by rw [hm]; exact aTb_tables_1_5 45 rfl rfl
theorem oX11_295 (hm : m.1.cls = RX11) : Cond.constantLong m.1.cls 295 (100 : Int64) ∈ aTb := by rw [hm]; exact aTb_tables_1_5 46 rfl rfl
theorem oX4_89 (hm : m.1.cls = RX4) : Cond.constant m.1.cls 89 (1000000000 : Int32) ∈ aTb := by rw [hm]; exact aTb_tables_1_5 93 rfl rfl
theorem oX12_213 (hm : m.1.cls = RX12) : Cond.constant m.1.cls 213 (99999 : Int32) ∈ aTb := by rw [hm]; exact aTb_tables_1_7 152 rfl rfl
theorem oX12_501 (hm : m.1.cls = RX12) : Cond.constant m.1.cls 501 (-2147483648 : Int32) ∈ aTb := by rw [hm]; exact aTb_tables_1_8 61 rfl rfl
theorem oX12_505 (hm : m.1.cls = RX12) : Cond.constantLong m.1.cls 505 (-9223372036854775808 : Int64) ∈ aTb := by rw [hm]; exact aTb_tables_1_8 81 rfl rfl
theorem oX12_372 (hm : m.1.cls = RX12) : Cond.constantLong m.1.cls 372 (1000000000000 : Int64) ∈ aTb := by rw [hm]; exact aTb_tables_1_8 102 rfl rfl
theorem oX12_374 (hm : m.1.cls = RX12) : Cond.constantLong m.1.cls 374 (-1000000000000 : Int64) ∈ aTb := by rw [hm]; exact aTb_tables_1_8 103 rfl rfl
theorem oX12_466 (hm : m.1.cls = RX12) : Cond.constantLong m.1.cls 466 (1103515245 : Int64) ∈ aTb := by rw [hm]; exact aTb_tables_1_8 167 rfl rfl
theorem oX12_468 (hm : m.1.cls = RX12) : Cond.constantLong m.1.cls 468 (12345 : Int64) ∈ aTb := by rw [hm]; exact aTb_tables_1_8 168 rfl rfl
theorem oX12_470 (hm : m.1.cls = RX12) : Cond.constantLong m.1.cls 470 (2147483647 : Int64) ∈ aTb := by rw [hm]; exact aTb_tables_1_8 169 rfl rfl
theorem oX12_472 (hm : m.1.cls = RX12) : Cond.constantLong m.1.cls 472 (65536 : Int64) ∈ aTb := by rw [hm]; exact aTb_tables_1_8 170 rfl rfl
theorem oX12_549 (hm : m.1.cls = RX12) : Cond.constantLong m.1.cls 549 (-1 : Int64) ∈ aTb := by rw [hm]; exact aTb_tables_1_9 30 rfl rfl
theorem oX12_551 (hm : m.1.cls = RX12) : Cond.constantLong m.1.cls 551 (100 : Int64) ∈ aTb := by rw [hm]; exact aTb_tables_1_9 31 rfl rfl
theorem sL_law_40 {a : Int32} (hd : decode m.2.1 40 = .ok (.tableswitch 1578 0 40 #[180, 253, 278, 303, 340, 408, 445, 494, 531, 569, 618, 643, 680, 705, 754, 779, 804, 841, 866, 903, 928, 941, 966, 1003, 1052, 1090, 1115, 1164, 1177, 1190, 1203, 1280, 1305, 1330, 1355, 1404, 1465, 1514, 1527, 1540, 1553], 180)) (k0 : a = 0 → aV l m d D scr 220 lv st x Q) (k1 : a = 1 → aV l m d D scr 293 lv st x Q) (k2 : a = 2 → aV l m d D scr 318 lv st x Q) (k3 : a = 3 → aV l m d D scr 343 lv st x Q) (k4 : a = 4 → aV l m d D scr 380 lv st x Q) (k5 : a = 5 → aV l m d D scr 448 lv st x Q) (k6 : a = 6 → aV l m d D scr 485 lv st x Q) (k7 : a = 7 → aV l m d D scr 534 lv st x Q) (k8 : a = 8 → aV l m d D scr 571 lv st x Q) (k9 : a = 9 → aV l m d D scr 609 lv st x Q) (k10 : a = 10 → aV l m d D scr 658 lv st x Q) (k11 : a = 11 → aV l m d D scr 683 lv st x Q) (k12 : a = 12 → aV l m d D scr 720 lv st x Q) (k13 : a = 13 → aV l m d D scr 745 lv st x Q) (k14 : a = 14 → aV l m d D scr 794 lv st x Q) (k15 : a = 15 → aV l m d D scr 819 lv st x Q) (k16 : a = 16 → aV l m d D scr 844 lv st x Q) (k17 : a = 17 → aV l m d D scr 881 lv st x Q) (k18 : a = 18 → aV l m d D scr 906 lv st x Q) (k19 : a = 19 → aV l m d D scr 943 lv st x Q) (k20 : a = 20 → aV l m d D scr 968 lv st x Q) (k21 : a = 21 → aV l m d D scr 981 lv st x Q) (k22 : a = 22 → aV l m d D scr 1006 lv st x Q) (k23 : a = 23 → aV l m d D scr 1043 lv st x Q) (k24 : a = 24 → aV l m d D scr 1092 lv st x Q) (k25 : a = 25 → aV l m d D scr 1130 lv st x Q) (k26 : a = 26 → aV l m d D scr 1155 lv st x Q) (k27 : a = 27 → aV l m d D scr 1204 lv st x Q) (k28 : a = 28 → aV l m d D scr 1217 lv st x Q) (k29 : a = 29 → aV l m d D scr 1230 lv st x Q) (k30 : a = 30 → aV l m d D scr 1243 lv st x Q) (k31 : a = 31 → aV l m d D scr 1320 lv st x Q) (k32 : a = 32 → aV l m d D scr 1345 lv st x Q) (k33 : a = 33 → aV l m d D scr 1370 lv st x Q) (k34 : a = 34 → aV l m d D scr 1395 lv st x Q) (k35 : a = 35 → aV l m d D scr 1444 lv st x Q) (k36 : a = 36 → aV l m d D scr 1505 lv st x Q) (k37 : a = 37 → aV l m d D scr 1554 lv st x Q) (k38 : a = 38 → aV l m d D scr 1567 lv st x Q) (k39 : a = 39 → aV l m d D scr 1580 lv st x Q) (k40 : a = 40 → aV l m d D scr 1593 lv st x Q) (kd : ¬ a = 0 → ¬ a = 1 → ¬ a = 2 → ¬ a = 3 → ¬ a = 4 → ¬ a = 5 → ¬ a = 6 → ¬ a = 7 → ¬ a = 8 → ¬ a = 9 → ¬ a = 10 → ¬ a = 11 → ¬ a = 12 → ¬ a = 13 → ¬ a = 14 → ¬ a = 15 → ¬ a = 16 → ¬ a = 17 → ¬ a = 18 → ¬ a = 19 → ¬ a = 20 → ¬ a = 21 → ¬ a = 22 → ¬ a = 23 → ¬ a = 24 → ¬ a = 25 → ¬ a = 26 → ¬ a = 27 → ¬ a = 28 → ¬ a = 29 → ¬ a = 30 → ¬ a = 31 → ¬ a = 32 → ¬ a = 33 → ¬ a = 34 → ¬ a = 35 → ¬ a = 36 → ¬ a = 37 → ¬ a = 38 → ¬ a = 39 → ¬ a = 40 → aV l m d D scr 1618 lv st x Q) : aV l m d D scr 40 lv (.int a :: st) x Q := by
  by_cases c0 : a = 0
  · subst c0
    exact a_tableIn hd (by decide) (by decide) (off := 180) (by decide) (by decide) (k0 rfl)
  by_cases c1 : a = 1
  · subst c1
    exact a_tableIn hd (by decide) (by decide) (off := 253) (by decide) (by decide) (k1 rfl)
  by_cases c2 : a = 2
  · subst c2
    exact a_tableIn hd (by decide) (by decide) (off := 278) (by decide) (by decide) (k2 rfl)
  by_cases c3 : a = 3
  · subst c3
    exact a_tableIn hd (by decide) (by decide) (off := 303) (by decide) (by decide) (k3 rfl)
  by_cases c4 : a = 4
  · subst c4
    exact a_tableIn hd (by decide) (by decide) (off := 340) (by decide) (by decide) (k4 rfl)
  by_cases c5 : a = 5
  · subst c5
    exact a_tableIn hd (by decide) (by decide) (off := 408) (by decide) (by decide) (k5 rfl)
  by_cases c6 : a = 6
  · subst c6
    exact a_tableIn hd (by decide) (by decide) (off := 445) (by decide) (by decide) (k6 rfl)
  by_cases c7 : a = 7
  · subst c7
    exact a_tableIn hd (by decide) (by decide) (off := 494) (by decide) (by decide) (k7 rfl)
  by_cases c8 : a = 8
  · subst c8
    exact a_tableIn hd (by decide) (by decide) (off := 531) (by decide) (by decide) (k8 rfl)
  by_cases c9 : a = 9
  · subst c9
    exact a_tableIn hd (by decide) (by decide) (off := 569) (by decide) (by decide) (k9 rfl)
  by_cases c10 : a = 10
  · subst c10
    exact a_tableIn hd (by decide) (by decide) (off := 618) (by decide) (by decide) (k10 rfl)
  by_cases c11 : a = 11
  · subst c11
    exact a_tableIn hd (by decide) (by decide) (off := 643) (by decide) (by decide) (k11 rfl)
  by_cases c12 : a = 12
  · subst c12
    exact a_tableIn hd (by decide) (by decide) (off := 680) (by decide) (by decide) (k12 rfl)
  by_cases c13 : a = 13
  · subst c13
    exact a_tableIn hd (by decide) (by decide) (off := 705) (by decide) (by decide) (k13 rfl)
  by_cases c14 : a = 14
  · subst c14
    exact a_tableIn hd (by decide) (by decide) (off := 754) (by decide) (by decide) (k14 rfl)
  by_cases c15 : a = 15
  · subst c15
    exact a_tableIn hd (by decide) (by decide) (off := 779) (by decide) (by decide) (k15 rfl)
  by_cases c16 : a = 16
  · subst c16
    exact a_tableIn hd (by decide) (by decide) (off := 804) (by decide) (by decide) (k16 rfl)
  by_cases c17 : a = 17
  · subst c17
    exact a_tableIn hd (by decide) (by decide) (off := 841) (by decide) (by decide) (k17 rfl)
  by_cases c18 : a = 18
  · subst c18
    exact a_tableIn hd (by decide) (by decide) (off := 866) (by decide) (by decide) (k18 rfl)
  by_cases c19 : a = 19
  · subst c19
    exact a_tableIn hd (by decide) (by decide) (off := 903) (by decide) (by decide) (k19 rfl)
  by_cases c20 : a = 20
  · subst c20
    exact a_tableIn hd (by decide) (by decide) (off := 928) (by decide) (by decide) (k20 rfl)
  by_cases c21 : a = 21
  · subst c21
    exact a_tableIn hd (by decide) (by decide) (off := 941) (by decide) (by decide) (k21 rfl)
  by_cases c22 : a = 22
  · subst c22
    exact a_tableIn hd (by decide) (by decide) (off := 966) (by decide) (by decide) (k22 rfl)
  by_cases c23 : a = 23
  · subst c23
    exact a_tableIn hd (by decide) (by decide) (off := 1003) (by decide) (by decide) (k23 rfl)
  by_cases c24 : a = 24
  · subst c24
    exact a_tableIn hd (by decide) (by decide) (off := 1052) (by decide) (by decide) (k24 rfl)
  by_cases c25 : a = 25
  · subst c25
    exact a_tableIn hd (by decide) (by decide) (off := 1090) (by decide) (by decide) (k25 rfl)
  by_cases c26 : a = 26
  · subst c26
    exact a_tableIn hd (by decide) (by decide) (off := 1115) (by decide) (by decide) (k26 rfl)
  by_cases c27 : a = 27
  · subst c27
    exact a_tableIn hd (by decide) (by decide) (off := 1164) (by decide) (by decide) (k27 rfl)
  by_cases c28 : a = 28
  · subst c28
    exact a_tableIn hd (by decide) (by decide) (off := 1177) (by decide) (by decide) (k28 rfl)
  by_cases c29 : a = 29
  · subst c29
    exact a_tableIn hd (by decide) (by decide) (off := 1190) (by decide) (by decide) (k29 rfl)
  by_cases c30 : a = 30
  · subst c30
    exact a_tableIn hd (by decide) (by decide) (off := 1203) (by decide) (by decide) (k30 rfl)
  by_cases c31 : a = 31
  · subst c31
    exact a_tableIn hd (by decide) (by decide) (off := 1280) (by decide) (by decide) (k31 rfl)
  by_cases c32 : a = 32
  · subst c32
    exact a_tableIn hd (by decide) (by decide) (off := 1305) (by decide) (by decide) (k32 rfl)
  by_cases c33 : a = 33
  · subst c33
    exact a_tableIn hd (by decide) (by decide) (off := 1330) (by decide) (by decide) (k33 rfl)
  by_cases c34 : a = 34
  · subst c34
    exact a_tableIn hd (by decide) (by decide) (off := 1355) (by decide) (by decide) (k34 rfl)
  by_cases c35 : a = 35
  · subst c35
    exact a_tableIn hd (by decide) (by decide) (off := 1404) (by decide) (by decide) (k35 rfl)
  by_cases c36 : a = 36
  · subst c36
    exact a_tableIn hd (by decide) (by decide) (off := 1465) (by decide) (by decide) (k36 rfl)
  by_cases c37 : a = 37
  · subst c37
    exact a_tableIn hd (by decide) (by decide) (off := 1514) (by decide) (by decide) (k37 rfl)
  by_cases c38 : a = 38
  · subst c38
    exact a_tableIn hd (by decide) (by decide) (off := 1527) (by decide) (by decide) (k38 rfl)
  by_cases c39 : a = 39
  · subst c39
    exact a_tableIn hd (by decide) (by decide) (off := 1540) (by decide) (by decide) (k39 rfl)
  by_cases c40 : a = 40
  · subst c40
    exact a_tableIn hd (by decide) (by decide) (off := 1553) (by decide) (by decide) (k40 rfl)
  refine a_tableOut hd ?_ (by decide) (kd c0 c1 c2 c3 c4 c5 c6 c7 c8 c9 c10 c11 c12 c13 c14 c15 c16 c17 c18 c19 c20 c21 c22 c23 c24 c25 c26 c27 c28 c29 c30 c31 c32 c33 c34 c35 c36 c37 c38 c39 c40)
  have hz : ∀ z : Int32, a ≠ z → a.toInt ≠ z.toInt := fun z h g => h (Int32.toInt_inj.mp g)
  have qc0 := hz 0 c0
  have qc1 := hz 1 c1
  have qc2 := hz 2 c2
  have qc3 := hz 3 c3
  have qc4 := hz 4 c4
  have qc5 := hz 5 c5
  have qc6 := hz 6 c6
  have qc7 := hz 7 c7
  have qc8 := hz 8 c8
  have qc9 := hz 9 c9
  have qc10 := hz 10 c10
  have qc11 := hz 11 c11
  have qc12 := hz 12 c12
  have qc13 := hz 13 c13
  have qc14 := hz 14 c14
  have qc15 := hz 15 c15
  have qc16 := hz 16 c16
  have qc17 := hz 17 c17
  have qc18 := hz 18 c18
  have qc19 := hz 19 c19
  have qc20 := hz 20 c20
  have qc21 := hz 21 c21
  have qc22 := hz 22 c22
  have qc23 := hz 23 c23
  have qc24 := hz 24 c24
  have qc25 := hz 25 c25
  have qc26 := hz 26 c26
  have qc27 := hz 27 c27
  have qc28 := hz 28 c28
  have qc29 := hz 29 c29
  have qc30 := hz 30 c30
  have qc31 := hz 31 c31
  have qc32 := hz 32 c32
  have qc33 := hz 33 c33
  have qc34 := hz 34 c34
  have qc35 := hz 35 c35
  have qc36 := hz 36 c36
  have qc37 := hz 37 c37
  have qc38 := hz 38 c38
  have qc39 := hz 39 c39
  have qc40 := hz 40 c40
  rw [show ((0 : Int32)).toInt = (0 : Int) from by decide] at qc0
  rw [show ((1 : Int32)).toInt = (1 : Int) from by decide] at qc1
  rw [show ((2 : Int32)).toInt = (2 : Int) from by decide] at qc2
  rw [show ((3 : Int32)).toInt = (3 : Int) from by decide] at qc3
  rw [show ((4 : Int32)).toInt = (4 : Int) from by decide] at qc4
  rw [show ((5 : Int32)).toInt = (5 : Int) from by decide] at qc5
  rw [show ((6 : Int32)).toInt = (6 : Int) from by decide] at qc6
  rw [show ((7 : Int32)).toInt = (7 : Int) from by decide] at qc7
  rw [show ((8 : Int32)).toInt = (8 : Int) from by decide] at qc8
  rw [show ((9 : Int32)).toInt = (9 : Int) from by decide] at qc9
  rw [show ((10 : Int32)).toInt = (10 : Int) from by decide] at qc10
  rw [show ((11 : Int32)).toInt = (11 : Int) from by decide] at qc11
  rw [show ((12 : Int32)).toInt = (12 : Int) from by decide] at qc12
  rw [show ((13 : Int32)).toInt = (13 : Int) from by decide] at qc13
  rw [show ((14 : Int32)).toInt = (14 : Int) from by decide] at qc14
  rw [show ((15 : Int32)).toInt = (15 : Int) from by decide] at qc15
  rw [show ((16 : Int32)).toInt = (16 : Int) from by decide] at qc16
  rw [show ((17 : Int32)).toInt = (17 : Int) from by decide] at qc17
  rw [show ((18 : Int32)).toInt = (18 : Int) from by decide] at qc18
  rw [show ((19 : Int32)).toInt = (19 : Int) from by decide] at qc19
  rw [show ((20 : Int32)).toInt = (20 : Int) from by decide] at qc20
  rw [show ((21 : Int32)).toInt = (21 : Int) from by decide] at qc21
  rw [show ((22 : Int32)).toInt = (22 : Int) from by decide] at qc22
  rw [show ((23 : Int32)).toInt = (23 : Int) from by decide] at qc23
  rw [show ((24 : Int32)).toInt = (24 : Int) from by decide] at qc24
  rw [show ((25 : Int32)).toInt = (25 : Int) from by decide] at qc25
  rw [show ((26 : Int32)).toInt = (26 : Int) from by decide] at qc26
  rw [show ((27 : Int32)).toInt = (27 : Int) from by decide] at qc27
  rw [show ((28 : Int32)).toInt = (28 : Int) from by decide] at qc28
  rw [show ((29 : Int32)).toInt = (29 : Int) from by decide] at qc29
  rw [show ((30 : Int32)).toInt = (30 : Int) from by decide] at qc30
  rw [show ((31 : Int32)).toInt = (31 : Int) from by decide] at qc31
  rw [show ((32 : Int32)).toInt = (32 : Int) from by decide] at qc32
  rw [show ((33 : Int32)).toInt = (33 : Int) from by decide] at qc33
  rw [show ((34 : Int32)).toInt = (34 : Int) from by decide] at qc34
  rw [show ((35 : Int32)).toInt = (35 : Int) from by decide] at qc35
  rw [show ((36 : Int32)).toInt = (36 : Int) from by decide] at qc36
  rw [show ((37 : Int32)).toInt = (37 : Int) from by decide] at qc37
  rw [show ((38 : Int32)).toInt = (38 : Int) from by decide] at qc38
  rw [show ((39 : Int32)).toInt = (39 : Int) from by decide] at qc39
  rw [show ((40 : Int32)).toInt = (40 : Int) from by decide] at qc40
  omega
theorem sX11_ahead_79 {a : Int32} (hd : decode m.2.1 79 = .ok (.tableswitch 83 0 3 #[29, 53, 63, 72], 29)) (k0 : a = 0 → aV l m d D scr 108 lv st x Q) (k1 : a = 1 → aV l m d D scr 132 lv st x Q) (k2 : a = 2 → aV l m d D scr 142 lv st x Q) (k3 : a = 3 → aV l m d D scr 151 lv st x Q) (kd : ¬ a = 0 → ¬ a = 1 → ¬ a = 2 → ¬ a = 3 → aV l m d D scr 162 lv st x Q) : aV l m d D scr 79 lv (.int a :: st) x Q := by
  by_cases c0 : a = 0
  · subst c0
    exact a_tableIn hd (by decide) (by decide) (off := 29) (by decide) (by decide) (k0 rfl)
  by_cases c1 : a = 1
  · subst c1
    exact a_tableIn hd (by decide) (by decide) (off := 53) (by decide) (by decide) (k1 rfl)
  by_cases c2 : a = 2
  · subst c2
    exact a_tableIn hd (by decide) (by decide) (off := 63) (by decide) (by decide) (k2 rfl)
  by_cases c3 : a = 3
  · subst c3
    exact a_tableIn hd (by decide) (by decide) (off := 72) (by decide) (by decide) (k3 rfl)
  refine a_tableOut hd ?_ (by decide) (kd c0 c1 c2 c3)
  have hz : ∀ z : Int32, a ≠ z → a.toInt ≠ z.toInt := fun z h g => h (Int32.toInt_inj.mp g)
  have qc0 := hz 0 c0
  have qc1 := hz 1 c1
  have qc2 := hz 2 c2
  have qc3 := hz 3 c3
  rw [show ((0 : Int32)).toInt = (0 : Int) from by decide] at qc0
  rw [show ((1 : Int32)).toInt = (1 : Int) from by decide] at qc1
  rw [show ((2 : Int32)).toInt = (2 : Int) from by decide] at qc2
  rw [show ((3 : Int32)).toInt = (3 : Int) from by decide] at qc3
  omega
theorem sX11_count_1 {a : Int32} (hd : decode m.2.1 1 = .ok (.tableswitch 186 0 12 #[67, 75, 83, 91, 99, 107, 119, 131, 142, 150, 162, 170, 178], 67)) (k0 : a = 0 → aV l m d D scr 68 lv st x Q) (k1 : a = 1 → aV l m d D scr 76 lv st x Q) (k2 : a = 2 → aV l m d D scr 84 lv st x Q) (k3 : a = 3 → aV l m d D scr 92 lv st x Q) (k4 : a = 4 → aV l m d D scr 100 lv st x Q) (k5 : a = 5 → aV l m d D scr 108 lv st x Q) (k6 : a = 6 → aV l m d D scr 120 lv st x Q) (k7 : a = 7 → aV l m d D scr 132 lv st x Q) (k8 : a = 8 → aV l m d D scr 143 lv st x Q) (k9 : a = 9 → aV l m d D scr 151 lv st x Q) (k10 : a = 10 → aV l m d D scr 163 lv st x Q) (k11 : a = 11 → aV l m d D scr 171 lv st x Q) (k12 : a = 12 → aV l m d D scr 179 lv st x Q) (kd : ¬ a = 0 → ¬ a = 1 → ¬ a = 2 → ¬ a = 3 → ¬ a = 4 → ¬ a = 5 → ¬ a = 6 → ¬ a = 7 → ¬ a = 8 → ¬ a = 9 → ¬ a = 10 → ¬ a = 11 → ¬ a = 12 → aV l m d D scr 187 lv st x Q) : aV l m d D scr 1 lv (.int a :: st) x Q := by
  by_cases c0 : a = 0
  · subst c0
    exact a_tableIn hd (by decide) (by decide) (off := 67) (by decide) (by decide) (k0 rfl)
  by_cases c1 : a = 1
  · subst c1
    exact a_tableIn hd (by decide) (by decide) (off := 75) (by decide) (by decide) (k1 rfl)
  by_cases c2 : a = 2
  · subst c2
    exact a_tableIn hd (by decide) (by decide) (off := 83) (by decide) (by decide) (k2 rfl)
  by_cases c3 : a = 3
  · subst c3
    exact a_tableIn hd (by decide) (by decide) (off := 91) (by decide) (by decide) (k3 rfl)
  by_cases c4 : a = 4
  · subst c4
    exact a_tableIn hd (by decide) (by decide) (off := 99) (by decide) (by decide) (k4 rfl)
  by_cases c5 : a = 5
  · subst c5
    exact a_tableIn hd (by decide) (by decide) (off := 107) (by decide) (by decide) (k5 rfl)
  by_cases c6 : a = 6
  · subst c6
    exact a_tableIn hd (by decide) (by decide) (off := 119) (by decide) (by decide) (k6 rfl)
  by_cases c7 : a = 7
  · subst c7
    exact a_tableIn hd (by decide) (by decide) (off := 131) (by decide) (by decide) (k7 rfl)
  by_cases c8 : a = 8
  · subst c8
    exact a_tableIn hd (by decide) (by decide) (off := 142) (by decide) (by decide) (k8 rfl)
  by_cases c9 : a = 9
  · subst c9
    exact a_tableIn hd (by decide) (by decide) (off := 150) (by decide) (by decide) (k9 rfl)
  by_cases c10 : a = 10
  · subst c10
    exact a_tableIn hd (by decide) (by decide) (off := 162) (by decide) (by decide) (k10 rfl)
  by_cases c11 : a = 11
  · subst c11
    exact a_tableIn hd (by decide) (by decide) (off := 170) (by decide) (by decide) (k11 rfl)
  by_cases c12 : a = 12
  · subst c12
    exact a_tableIn hd (by decide) (by decide) (off := 178) (by decide) (by decide) (k12 rfl)
  refine a_tableOut hd ?_ (by decide) (kd c0 c1 c2 c3 c4 c5 c6 c7 c8 c9 c10 c11 c12)
  have hz : ∀ z : Int32, a ≠ z → a.toInt ≠ z.toInt := fun z h g => h (Int32.toInt_inj.mp g)
  have qc0 := hz 0 c0
  have qc1 := hz 1 c1
  have qc2 := hz 2 c2
  have qc3 := hz 3 c3
  have qc4 := hz 4 c4
  have qc5 := hz 5 c5
  have qc6 := hz 6 c6
  have qc7 := hz 7 c7
  have qc8 := hz 8 c8
  have qc9 := hz 9 c9
  have qc10 := hz 10 c10
  have qc11 := hz 11 c11
  have qc12 := hz 12 c12
  rw [show ((0 : Int32)).toInt = (0 : Int) from by decide] at qc0
  rw [show ((1 : Int32)).toInt = (1 : Int) from by decide] at qc1
  rw [show ((2 : Int32)).toInt = (2 : Int) from by decide] at qc2
  rw [show ((3 : Int32)).toInt = (3 : Int) from by decide] at qc3
  rw [show ((4 : Int32)).toInt = (4 : Int) from by decide] at qc4
  rw [show ((5 : Int32)).toInt = (5 : Int) from by decide] at qc5
  rw [show ((6 : Int32)).toInt = (6 : Int) from by decide] at qc6
  rw [show ((7 : Int32)).toInt = (7 : Int) from by decide] at qc7
  rw [show ((8 : Int32)).toInt = (8 : Int) from by decide] at qc8
  rw [show ((9 : Int32)).toInt = (9 : Int) from by decide] at qc9
  rw [show ((10 : Int32)).toInt = (10 : Int) from by decide] at qc10
  rw [show ((11 : Int32)).toInt = (11 : Int) from by decide] at qc11
  rw [show ((12 : Int32)).toInt = (12 : Int) from by decide] at qc12
  omega
theorem sX11_fault_1 {a : Int32} (hd : decode m.2.1 1 = .ok (.lookupswitch 43 #[(0, 27), (1, 35)], 27)) (k0 : a = 0 → aV l m d D scr 28 lv st x Q) (k1 : a = 1 → aV l m d D scr 36 lv st x Q) (kd : ¬ a = 0 → ¬ a = 1 → aV l m d D scr 44 lv st x Q) : aV l m d D scr 1 lv (.int a :: st) x Q := by
  by_cases c0 : a = 0
  · subst c0
    exact a_lookup hd (by decide) (off := 27) (by decide) (by decide) (k0 rfl)
  by_cases c1 : a = 1
  · subst c1
    exact a_lookup hd (by decide) (off := 35) (by decide) (by decide) (k1 rfl)
  refine a_lookup hd (by decide) (off := 43) ?_ (by decide) (kd c0 c1)
  have hz : ∀ z : Int32, a ≠ z → a.toInt ≠ z.toInt := fun z h g => h (Int32.toInt_inj.mp g)
  have qc0 := hz 0 c0
  rw [show ((0 : Int32)).toInt = (0 : Int) from by decide] at qc0
  have qc1 := hz 1 c1
  rw [show ((1 : Int32)).toInt = (1 : Int) from by decide] at qc1
  simp [Op.lookupswitch.offset, Ne.symm qc0, Ne.symm qc1]
theorem sX11_law_1 {a : Int32} (hd : decode m.2.1 1 = .ok (.tableswitch 141 0 2 #[27, 65, 103], 27)) (k0 : a = 0 → aV l m d D scr 28 lv st x Q) (k1 : a = 1 → aV l m d D scr 66 lv st x Q) (k2 : a = 2 → aV l m d D scr 104 lv st x Q) (kd : ¬ a = 0 → ¬ a = 1 → ¬ a = 2 → aV l m d D scr 142 lv st x Q) : aV l m d D scr 1 lv (.int a :: st) x Q := by
  by_cases c0 : a = 0
  · subst c0
    exact a_tableIn hd (by decide) (by decide) (off := 27) (by decide) (by decide) (k0 rfl)
  by_cases c1 : a = 1
  · subst c1
    exact a_tableIn hd (by decide) (by decide) (off := 65) (by decide) (by decide) (k1 rfl)
  by_cases c2 : a = 2
  · subst c2
    exact a_tableIn hd (by decide) (by decide) (off := 103) (by decide) (by decide) (k2 rfl)
  refine a_tableOut hd ?_ (by decide) (kd c0 c1 c2)
  have hz : ∀ z : Int32, a ≠ z → a.toInt ≠ z.toInt := fun z h g => h (Int32.toInt_inj.mp g)
  have qc0 := hz 0 c0
  have qc1 := hz 1 c1
  have qc2 := hz 2 c2
  rw [show ((0 : Int32)).toInt = (0 : Int) from by decide] at qc0
  rw [show ((1 : Int32)).toInt = (1 : Int) from by decide] at qc1
  rw [show ((2 : Int32)).toInt = (2 : Int) from by decide] at qc2
  omega
theorem sX11_layer_43 {a : Int32} (hd : decode m.2.1 43 = .ok (.lookupswitch 55 #[(1, 25), (2, 40)], 25)) (k0 : a = 1 → aV l m d D scr 68 lv st x Q) (k1 : a = 2 → aV l m d D scr 83 lv st x Q) (kd : ¬ a = 1 → ¬ a = 2 → aV l m d D scr 98 lv st x Q) : aV l m d D scr 43 lv (.int a :: st) x Q := by
  by_cases c0 : a = 1
  · subst c0
    exact a_lookup hd (by decide) (off := 25) (by decide) (by decide) (k0 rfl)
  by_cases c1 : a = 2
  · subst c1
    exact a_lookup hd (by decide) (off := 40) (by decide) (by decide) (k1 rfl)
  refine a_lookup hd (by decide) (off := 55) ?_ (by decide) (kd c0 c1)
  have hz : ∀ z : Int32, a ≠ z → a.toInt ≠ z.toInt := fun z h g => h (Int32.toInt_inj.mp g)
  have qc0 := hz 1 c0
  rw [show ((1 : Int32)).toInt = (1 : Int) from by decide] at qc0
  have qc1 := hz 2 c1
  rw [show ((2 : Int32)).toInt = (2 : Int) from by decide] at qc1
  simp [Op.lookupswitch.offset, Ne.symm qc0, Ne.symm qc1]
theorem sX11_man_19 {a : Int32} (hd : decode m.2.1 19 = .ok (.tableswitch 116 0 6 #[41, 51, 61, 71, 81, 91, 103], 41)) (k0 : a = 0 → aV l m d D scr 60 lv st x Q) (k1 : a = 1 → aV l m d D scr 70 lv st x Q) (k2 : a = 2 → aV l m d D scr 80 lv st x Q) (k3 : a = 3 → aV l m d D scr 90 lv st x Q) (k4 : a = 4 → aV l m d D scr 100 lv st x Q) (k5 : a = 5 → aV l m d D scr 110 lv st x Q) (k6 : a = 6 → aV l m d D scr 122 lv st x Q) (kd : ¬ a = 0 → ¬ a = 1 → ¬ a = 2 → ¬ a = 3 → ¬ a = 4 → ¬ a = 5 → ¬ a = 6 → aV l m d D scr 135 lv st x Q) : aV l m d D scr 19 lv (.int a :: st) x Q := by
  by_cases c0 : a = 0
  · subst c0
    exact a_tableIn hd (by decide) (by decide) (off := 41) (by decide) (by decide) (k0 rfl)
  by_cases c1 : a = 1
  · subst c1
    exact a_tableIn hd (by decide) (by decide) (off := 51) (by decide) (by decide) (k1 rfl)
  by_cases c2 : a = 2
  · subst c2
    exact a_tableIn hd (by decide) (by decide) (off := 61) (by decide) (by decide) (k2 rfl)
  by_cases c3 : a = 3
  · subst c3
    exact a_tableIn hd (by decide) (by decide) (off := 71) (by decide) (by decide) (k3 rfl)
  by_cases c4 : a = 4
  · subst c4
    exact a_tableIn hd (by decide) (by decide) (off := 81) (by decide) (by decide) (k4 rfl)
  by_cases c5 : a = 5
  · subst c5
    exact a_tableIn hd (by decide) (by decide) (off := 91) (by decide) (by decide) (k5 rfl)
  by_cases c6 : a = 6
  · subst c6
    exact a_tableIn hd (by decide) (by decide) (off := 103) (by decide) (by decide) (k6 rfl)
  refine a_tableOut hd ?_ (by decide) (kd c0 c1 c2 c3 c4 c5 c6)
  have hz : ∀ z : Int32, a ≠ z → a.toInt ≠ z.toInt := fun z h g => h (Int32.toInt_inj.mp g)
  have qc0 := hz 0 c0
  have qc1 := hz 1 c1
  have qc2 := hz 2 c2
  have qc3 := hz 3 c3
  have qc4 := hz 4 c4
  have qc5 := hz 5 c5
  have qc6 := hz 6 c6
  rw [show ((0 : Int32)).toInt = (0 : Int) from by decide] at qc0
  rw [show ((1 : Int32)).toInt = (1 : Int) from by decide] at qc1
  rw [show ((2 : Int32)).toInt = (2 : Int) from by decide] at qc2
  rw [show ((3 : Int32)).toInt = (3 : Int) from by decide] at qc3
  rw [show ((4 : Int32)).toInt = (4 : Int) from by decide] at qc4
  rw [show ((5 : Int32)).toInt = (5 : Int) from by decide] at qc5
  rw [show ((6 : Int32)).toInt = (6 : Int) from by decide] at qc6
  omega
theorem sX11_named_1 {a : Int32} (hd : decode m.2.1 1 = .ok (.lookupswitch 65 #[(0, 27), (1, 46)], 27)) (k0 : a = 0 → aV l m d D scr 28 lv st x Q) (k1 : a = 1 → aV l m d D scr 47 lv st x Q) (kd : ¬ a = 0 → ¬ a = 1 → aV l m d D scr 66 lv st x Q) : aV l m d D scr 1 lv (.int a :: st) x Q := by
  by_cases c0 : a = 0
  · subst c0
    exact a_lookup hd (by decide) (off := 27) (by decide) (by decide) (k0 rfl)
  by_cases c1 : a = 1
  · subst c1
    exact a_lookup hd (by decide) (off := 46) (by decide) (by decide) (k1 rfl)
  refine a_lookup hd (by decide) (off := 65) ?_ (by decide) (kd c0 c1)
  have hz : ∀ z : Int32, a ≠ z → a.toInt ≠ z.toInt := fun z h g => h (Int32.toInt_inj.mp g)
  have qc0 := hz 0 c0
  rw [show ((0 : Int32)).toInt = (0 : Int) from by decide] at qc0
  have qc1 := hz 1 c1
  rw [show ((1 : Int32)).toInt = (1 : Int) from by decide] at qc1
  simp [Op.lookupswitch.offset, Ne.symm qc0, Ne.symm qc1]
theorem sX11_undo_43 {a : Int32} (hd : decode m.2.1 43 = .ok (.lookupswitch 82 #[(0, 25), (1, 44)], 25)) (k0 : a = 0 → aV l m d D scr 68 lv st x Q) (k1 : a = 1 → aV l m d D scr 87 lv st x Q) (kd : ¬ a = 0 → ¬ a = 1 → aV l m d D scr 125 lv st x Q) : aV l m d D scr 43 lv (.int a :: st) x Q := by
  by_cases c0 : a = 0
  · subst c0
    exact a_lookup hd (by decide) (off := 25) (by decide) (by decide) (k0 rfl)
  by_cases c1 : a = 1
  · subst c1
    exact a_lookup hd (by decide) (off := 44) (by decide) (by decide) (k1 rfl)
  refine a_lookup hd (by decide) (off := 82) ?_ (by decide) (kd c0 c1)
  have hz : ∀ z : Int32, a ≠ z → a.toInt ≠ z.toInt := fun z h g => h (Int32.toInt_inj.mp g)
  have qc0 := hz 0 c0
  rw [show ((0 : Int32)).toInt = (0 : Int) from by decide] at qc0
  have qc1 := hz 1 c1
  rw [show ((1 : Int32)).toInt = (1 : Int) from by decide] at qc1
  simp [Op.lookupswitch.offset, Ne.symm qc0, Ne.symm qc1]
theorem sX12_ahead_65 {a : Int32} (hd : decode m.2.1 65 = .ok (.tableswitch 66 0 3 #[31, 43, 53, 60], 31)) (k0 : a = 0 → aV l m d D scr 96 lv st x Q) (k1 : a = 1 → aV l m d D scr 108 lv st x Q) (k2 : a = 2 → aV l m d D scr 118 lv st x Q) (k3 : a = 3 → aV l m d D scr 125 lv st x Q) (kd : ¬ a = 0 → ¬ a = 1 → ¬ a = 2 → ¬ a = 3 → aV l m d D scr 131 lv st x Q) : aV l m d D scr 65 lv (.int a :: st) x Q := by
  by_cases c0 : a = 0
  · subst c0
    exact a_tableIn hd (by decide) (by decide) (off := 31) (by decide) (by decide) (k0 rfl)
  by_cases c1 : a = 1
  · subst c1
    exact a_tableIn hd (by decide) (by decide) (off := 43) (by decide) (by decide) (k1 rfl)
  by_cases c2 : a = 2
  · subst c2
    exact a_tableIn hd (by decide) (by decide) (off := 53) (by decide) (by decide) (k2 rfl)
  by_cases c3 : a = 3
  · subst c3
    exact a_tableIn hd (by decide) (by decide) (off := 60) (by decide) (by decide) (k3 rfl)
  refine a_tableOut hd ?_ (by decide) (kd c0 c1 c2 c3)
  have hz : ∀ z : Int32, a ≠ z → a.toInt ≠ z.toInt := fun z h g => h (Int32.toInt_inj.mp g)
  have qc0 := hz 0 c0
  have qc1 := hz 1 c1
  have qc2 := hz 2 c2
  have qc3 := hz 3 c3
  rw [show ((0 : Int32)).toInt = (0 : Int) from by decide] at qc0
  rw [show ((1 : Int32)).toInt = (1 : Int) from by decide] at qc1
  rw [show ((2 : Int32)).toInt = (2 : Int) from by decide] at qc2
  rw [show ((3 : Int32)).toInt = (3 : Int) from by decide] at qc3
  omega
theorem sX12_compares_1 {a : Int32} (hd : decode m.2.1 1 = .ok (.tableswitch 95 5 9 #[35, 47, 59, 71, 83], 35)) (k0 : a = 5 → aV l m d D scr 36 lv st x Q) (k1 : a = 6 → aV l m d D scr 48 lv st x Q) (k2 : a = 7 → aV l m d D scr 60 lv st x Q) (k3 : a = 8 → aV l m d D scr 72 lv st x Q) (k4 : a = 9 → aV l m d D scr 84 lv st x Q) (kd : ¬ a = 5 → ¬ a = 6 → ¬ a = 7 → ¬ a = 8 → ¬ a = 9 → aV l m d D scr 96 lv st x Q) : aV l m d D scr 1 lv (.int a :: st) x Q := by
  by_cases c0 : a = 5
  · subst c0
    exact a_tableIn hd (by decide) (by decide) (off := 35) (by decide) (by decide) (k0 rfl)
  by_cases c1 : a = 6
  · subst c1
    exact a_tableIn hd (by decide) (by decide) (off := 47) (by decide) (by decide) (k1 rfl)
  by_cases c2 : a = 7
  · subst c2
    exact a_tableIn hd (by decide) (by decide) (off := 59) (by decide) (by decide) (k2 rfl)
  by_cases c3 : a = 8
  · subst c3
    exact a_tableIn hd (by decide) (by decide) (off := 71) (by decide) (by decide) (k3 rfl)
  by_cases c4 : a = 9
  · subst c4
    exact a_tableIn hd (by decide) (by decide) (off := 83) (by decide) (by decide) (k4 rfl)
  refine a_tableOut hd ?_ (by decide) (kd c0 c1 c2 c3 c4)
  have hz : ∀ z : Int32, a ≠ z → a.toInt ≠ z.toInt := fun z h g => h (Int32.toInt_inj.mp g)
  have qc0 := hz 5 c0
  have qc1 := hz 6 c1
  have qc2 := hz 7 c2
  have qc3 := hz 8 c3
  have qc4 := hz 9 c4
  rw [show ((5 : Int32)).toInt = (5 : Int) from by decide] at qc0
  rw [show ((6 : Int32)).toInt = (6 : Int) from by decide] at qc1
  rw [show ((7 : Int32)).toInt = (7 : Int) from by decide] at qc2
  rw [show ((8 : Int32)).toInt = (8 : Int) from by decide] at qc3
  rw [show ((9 : Int32)).toInt = (9 : Int) from by decide] at qc4
  omega
theorem sX12_count_8 {a : Int32} (hd : decode m.2.1 8 = .ok (.tableswitch 183 0 12 #[68, 73, 78, 83, 88, 95, 101, 128, 134, 141, 168, 173, 178], 68)) (k0 : a = 0 → aV l m d D scr 76 lv st x Q) (k1 : a = 1 → aV l m d D scr 81 lv st x Q) (k2 : a = 2 → aV l m d D scr 86 lv st x Q) (k3 : a = 3 → aV l m d D scr 91 lv st x Q) (k4 : a = 4 → aV l m d D scr 96 lv st x Q) (k5 : a = 5 → aV l m d D scr 103 lv st x Q) (k6 : a = 6 → aV l m d D scr 109 lv st x Q) (k7 : a = 7 → aV l m d D scr 136 lv st x Q) (k8 : a = 8 → aV l m d D scr 142 lv st x Q) (k9 : a = 9 → aV l m d D scr 149 lv st x Q) (k10 : a = 10 → aV l m d D scr 176 lv st x Q) (k11 : a = 11 → aV l m d D scr 181 lv st x Q) (k12 : a = 12 → aV l m d D scr 186 lv st x Q) (kd : ¬ a = 0 → ¬ a = 1 → ¬ a = 2 → ¬ a = 3 → ¬ a = 4 → ¬ a = 5 → ¬ a = 6 → ¬ a = 7 → ¬ a = 8 → ¬ a = 9 → ¬ a = 10 → ¬ a = 11 → ¬ a = 12 → aV l m d D scr 191 lv st x Q) : aV l m d D scr 8 lv (.int a :: st) x Q := by
  by_cases c0 : a = 0
  · subst c0
    exact a_tableIn hd (by decide) (by decide) (off := 68) (by decide) (by decide) (k0 rfl)
  by_cases c1 : a = 1
  · subst c1
    exact a_tableIn hd (by decide) (by decide) (off := 73) (by decide) (by decide) (k1 rfl)
  by_cases c2 : a = 2
  · subst c2
    exact a_tableIn hd (by decide) (by decide) (off := 78) (by decide) (by decide) (k2 rfl)
  by_cases c3 : a = 3
  · subst c3
    exact a_tableIn hd (by decide) (by decide) (off := 83) (by decide) (by decide) (k3 rfl)
  by_cases c4 : a = 4
  · subst c4
    exact a_tableIn hd (by decide) (by decide) (off := 88) (by decide) (by decide) (k4 rfl)
  by_cases c5 : a = 5
  · subst c5
    exact a_tableIn hd (by decide) (by decide) (off := 95) (by decide) (by decide) (k5 rfl)
  by_cases c6 : a = 6
  · subst c6
    exact a_tableIn hd (by decide) (by decide) (off := 101) (by decide) (by decide) (k6 rfl)
  by_cases c7 : a = 7
  · subst c7
    exact a_tableIn hd (by decide) (by decide) (off := 128) (by decide) (by decide) (k7 rfl)
  by_cases c8 : a = 8
  · subst c8
    exact a_tableIn hd (by decide) (by decide) (off := 134) (by decide) (by decide) (k8 rfl)
  by_cases c9 : a = 9
  · subst c9
    exact a_tableIn hd (by decide) (by decide) (off := 141) (by decide) (by decide) (k9 rfl)
  by_cases c10 : a = 10
  · subst c10
    exact a_tableIn hd (by decide) (by decide) (off := 168) (by decide) (by decide) (k10 rfl)
  by_cases c11 : a = 11
  · subst c11
    exact a_tableIn hd (by decide) (by decide) (off := 173) (by decide) (by decide) (k11 rfl)
  by_cases c12 : a = 12
  · subst c12
    exact a_tableIn hd (by decide) (by decide) (off := 178) (by decide) (by decide) (k12 rfl)
  refine a_tableOut hd ?_ (by decide) (kd c0 c1 c2 c3 c4 c5 c6 c7 c8 c9 c10 c11 c12)
  have hz : ∀ z : Int32, a ≠ z → a.toInt ≠ z.toInt := fun z h g => h (Int32.toInt_inj.mp g)
  have qc0 := hz 0 c0
  have qc1 := hz 1 c1
  have qc2 := hz 2 c2
  have qc3 := hz 3 c3
  have qc4 := hz 4 c4
  have qc5 := hz 5 c5
  have qc6 := hz 6 c6
  have qc7 := hz 7 c7
  have qc8 := hz 8 c8
  have qc9 := hz 9 c9
  have qc10 := hz 10 c10
  have qc11 := hz 11 c11
  have qc12 := hz 12 c12
  rw [show ((0 : Int32)).toInt = (0 : Int) from by decide] at qc0
  rw [show ((1 : Int32)).toInt = (1 : Int) from by decide] at qc1
  rw [show ((2 : Int32)).toInt = (2 : Int) from by decide] at qc2
  rw [show ((3 : Int32)).toInt = (3 : Int) from by decide] at qc3
  rw [show ((4 : Int32)).toInt = (4 : Int) from by decide] at qc4
  rw [show ((5 : Int32)).toInt = (5 : Int) from by decide] at qc5
  rw [show ((6 : Int32)).toInt = (6 : Int) from by decide] at qc6
  rw [show ((7 : Int32)).toInt = (7 : Int) from by decide] at qc7
  rw [show ((8 : Int32)).toInt = (8 : Int) from by decide] at qc8
  rw [show ((9 : Int32)).toInt = (9 : Int) from by decide] at qc9
  rw [show ((10 : Int32)).toInt = (10 : Int) from by decide] at qc10
  rw [show ((11 : Int32)).toInt = (11 : Int) from by decide] at qc11
  rw [show ((12 : Int32)).toInt = (12 : Int) from by decide] at qc12
  omega
theorem sX12_lineRead_27 {a : Int32} (hd : decode m.2.1 27 = .ok (.tableswitch 117 0 7 #[45, 53, 61, 70, 79, 87, 95, 106], 45)) (k0 : a = 0 → aV l m d D scr 72 lv st x Q) (k1 : a = 1 → aV l m d D scr 80 lv st x Q) (k2 : a = 2 → aV l m d D scr 88 lv st x Q) (k3 : a = 3 → aV l m d D scr 97 lv st x Q) (k4 : a = 4 → aV l m d D scr 106 lv st x Q) (k5 : a = 5 → aV l m d D scr 114 lv st x Q) (k6 : a = 6 → aV l m d D scr 122 lv st x Q) (k7 : a = 7 → aV l m d D scr 133 lv st x Q) (kd : ¬ a = 0 → ¬ a = 1 → ¬ a = 2 → ¬ a = 3 → ¬ a = 4 → ¬ a = 5 → ¬ a = 6 → ¬ a = 7 → aV l m d D scr 144 lv st x Q) : aV l m d D scr 27 lv (.int a :: st) x Q := by
  by_cases c0 : a = 0
  · subst c0
    exact a_tableIn hd (by decide) (by decide) (off := 45) (by decide) (by decide) (k0 rfl)
  by_cases c1 : a = 1
  · subst c1
    exact a_tableIn hd (by decide) (by decide) (off := 53) (by decide) (by decide) (k1 rfl)
  by_cases c2 : a = 2
  · subst c2
    exact a_tableIn hd (by decide) (by decide) (off := 61) (by decide) (by decide) (k2 rfl)
  by_cases c3 : a = 3
  · subst c3
    exact a_tableIn hd (by decide) (by decide) (off := 70) (by decide) (by decide) (k3 rfl)
  by_cases c4 : a = 4
  · subst c4
    exact a_tableIn hd (by decide) (by decide) (off := 79) (by decide) (by decide) (k4 rfl)
  by_cases c5 : a = 5
  · subst c5
    exact a_tableIn hd (by decide) (by decide) (off := 87) (by decide) (by decide) (k5 rfl)
  by_cases c6 : a = 6
  · subst c6
    exact a_tableIn hd (by decide) (by decide) (off := 95) (by decide) (by decide) (k6 rfl)
  by_cases c7 : a = 7
  · subst c7
    exact a_tableIn hd (by decide) (by decide) (off := 106) (by decide) (by decide) (k7 rfl)
  refine a_tableOut hd ?_ (by decide) (kd c0 c1 c2 c3 c4 c5 c6 c7)
  have hz : ∀ z : Int32, a ≠ z → a.toInt ≠ z.toInt := fun z h g => h (Int32.toInt_inj.mp g)
  have qc0 := hz 0 c0
  have qc1 := hz 1 c1
  have qc2 := hz 2 c2
  have qc3 := hz 3 c3
  have qc4 := hz 4 c4
  have qc5 := hz 5 c5
  have qc6 := hz 6 c6
  have qc7 := hz 7 c7
  rw [show ((0 : Int32)).toInt = (0 : Int) from by decide] at qc0
  rw [show ((1 : Int32)).toInt = (1 : Int) from by decide] at qc1
  rw [show ((2 : Int32)).toInt = (2 : Int) from by decide] at qc2
  rw [show ((3 : Int32)).toInt = (3 : Int) from by decide] at qc3
  rw [show ((4 : Int32)).toInt = (4 : Int) from by decide] at qc4
  rw [show ((5 : Int32)).toInt = (5 : Int) from by decide] at qc5
  rw [show ((6 : Int32)).toInt = (6 : Int) from by decide] at qc6
  rw [show ((7 : Int32)).toInt = (7 : Int) from by decide] at qc7
  omega
theorem sX12_man_20 {a : Int32} (hd : decode m.2.1 20 = .ok (.tableswitch 101 0 6 #[44, 51, 58, 65, 72, 79, 94], 44)) (k0 : a = 0 → aV l m d D scr 64 lv st x Q) (k1 : a = 1 → aV l m d D scr 71 lv st x Q) (k2 : a = 2 → aV l m d D scr 78 lv st x Q) (k3 : a = 3 → aV l m d D scr 85 lv st x Q) (k4 : a = 4 → aV l m d D scr 92 lv st x Q) (k5 : a = 5 → aV l m d D scr 99 lv st x Q) (k6 : a = 6 → aV l m d D scr 114 lv st x Q) (kd : ¬ a = 0 → ¬ a = 1 → ¬ a = 2 → ¬ a = 3 → ¬ a = 4 → ¬ a = 5 → ¬ a = 6 → aV l m d D scr 121 lv st x Q) : aV l m d D scr 20 lv (.int a :: st) x Q := by
  by_cases c0 : a = 0
  · subst c0
    exact a_tableIn hd (by decide) (by decide) (off := 44) (by decide) (by decide) (k0 rfl)
  by_cases c1 : a = 1
  · subst c1
    exact a_tableIn hd (by decide) (by decide) (off := 51) (by decide) (by decide) (k1 rfl)
  by_cases c2 : a = 2
  · subst c2
    exact a_tableIn hd (by decide) (by decide) (off := 58) (by decide) (by decide) (k2 rfl)
  by_cases c3 : a = 3
  · subst c3
    exact a_tableIn hd (by decide) (by decide) (off := 65) (by decide) (by decide) (k3 rfl)
  by_cases c4 : a = 4
  · subst c4
    exact a_tableIn hd (by decide) (by decide) (off := 72) (by decide) (by decide) (k4 rfl)
  by_cases c5 : a = 5
  · subst c5
    exact a_tableIn hd (by decide) (by decide) (off := 79) (by decide) (by decide) (k5 rfl)
  by_cases c6 : a = 6
  · subst c6
    exact a_tableIn hd (by decide) (by decide) (off := 94) (by decide) (by decide) (k6 rfl)
  refine a_tableOut hd ?_ (by decide) (kd c0 c1 c2 c3 c4 c5 c6)
  have hz : ∀ z : Int32, a ≠ z → a.toInt ≠ z.toInt := fun z h g => h (Int32.toInt_inj.mp g)
  have qc0 := hz 0 c0
  have qc1 := hz 1 c1
  have qc2 := hz 2 c2
  have qc3 := hz 3 c3
  have qc4 := hz 4 c4
  have qc5 := hz 5 c5
  have qc6 := hz 6 c6
  rw [show ((0 : Int32)).toInt = (0 : Int) from by decide] at qc0
  rw [show ((1 : Int32)).toInt = (1 : Int) from by decide] at qc1
  rw [show ((2 : Int32)).toInt = (2 : Int) from by decide] at qc2
  rw [show ((3 : Int32)).toInt = (3 : Int) from by decide] at qc3
  rw [show ((4 : Int32)).toInt = (4 : Int) from by decide] at qc4
  rw [show ((5 : Int32)).toInt = (5 : Int) from by decide] at qc5
  rw [show ((6 : Int32)).toInt = (6 : Int) from by decide] at qc6
  omega
theorem sX12_valueOf_92 {a : Int32} (hd : decode m.2.1 92 = .ok (.tableswitch 167 3 14 #[64, 83, 167, 167, 167, 167, 167, 167, 102, 111, 120, 128], 64)) (k0 : a = 3 → aV l m d D scr 156 lv st x Q) (k1 : a = 4 → aV l m d D scr 175 lv st x Q) (k2 : a = 11 → aV l m d D scr 194 lv st x Q) (k3 : a = 12 → aV l m d D scr 203 lv st x Q) (k4 : a = 13 → aV l m d D scr 212 lv st x Q) (k5 : a = 14 → aV l m d D scr 220 lv st x Q) (kd : ¬ a = 3 → ¬ a = 4 → ¬ a = 11 → ¬ a = 12 → ¬ a = 13 → ¬ a = 14 → aV l m d D scr 259 lv st x Q) : aV l m d D scr 92 lv (.int a :: st) x Q := by
  by_cases c0 : a = 3
  · subst c0
    exact a_tableIn hd (by decide) (by decide) (off := 64) (by decide) (by decide) (k0 rfl)
  by_cases c1 : a = 4
  · subst c1
    exact a_tableIn hd (by decide) (by decide) (off := 83) (by decide) (by decide) (k1 rfl)
  by_cases c2 : a = 11
  · subst c2
    exact a_tableIn hd (by decide) (by decide) (off := 102) (by decide) (by decide) (k2 rfl)
  by_cases c3 : a = 12
  · subst c3
    exact a_tableIn hd (by decide) (by decide) (off := 111) (by decide) (by decide) (k3 rfl)
  by_cases c4 : a = 13
  · subst c4
    exact a_tableIn hd (by decide) (by decide) (off := 120) (by decide) (by decide) (k4 rfl)
  by_cases c5 : a = 14
  · subst c5
    exact a_tableIn hd (by decide) (by decide) (off := 128) (by decide) (by decide) (k5 rfl)
  by_cases z5 : a = 5
  · subst z5
    exact a_tableIn hd (by decide) (by decide) (off := 167) (by decide) (by decide) (kd c0 c1 c2 c3 c4 c5)
  by_cases z6 : a = 6
  · subst z6
    exact a_tableIn hd (by decide) (by decide) (off := 167) (by decide) (by decide) (kd c0 c1 c2 c3 c4 c5)
  by_cases z7 : a = 7
  · subst z7
    exact a_tableIn hd (by decide) (by decide) (off := 167) (by decide) (by decide) (kd c0 c1 c2 c3 c4 c5)
  by_cases z8 : a = 8
  · subst z8
    exact a_tableIn hd (by decide) (by decide) (off := 167) (by decide) (by decide) (kd c0 c1 c2 c3 c4 c5)
  by_cases z9 : a = 9
  · subst z9
    exact a_tableIn hd (by decide) (by decide) (off := 167) (by decide) (by decide) (kd c0 c1 c2 c3 c4 c5)
  by_cases z10 : a = 10
  · subst z10
    exact a_tableIn hd (by decide) (by decide) (off := 167) (by decide) (by decide) (kd c0 c1 c2 c3 c4 c5)
  refine a_tableOut hd ?_ (by decide) (kd c0 c1 c2 c3 c4 c5)
  have hz : ∀ z : Int32, a ≠ z → a.toInt ≠ z.toInt := fun z h g => h (Int32.toInt_inj.mp g)
  have qc0 := hz 3 c0
  have qc1 := hz 4 c1
  have qc2 := hz 11 c2
  have qc3 := hz 12 c3
  have qc4 := hz 13 c4
  have qc5 := hz 14 c5
  have qz5 := hz 5 z5
  have qz6 := hz 6 z6
  have qz7 := hz 7 z7
  have qz8 := hz 8 z8
  have qz9 := hz 9 z9
  have qz10 := hz 10 z10
  rw [show ((3 : Int32)).toInt = (3 : Int) from by decide] at qc0
  rw [show ((4 : Int32)).toInt = (4 : Int) from by decide] at qc1
  rw [show ((11 : Int32)).toInt = (11 : Int) from by decide] at qc2
  rw [show ((12 : Int32)).toInt = (12 : Int) from by decide] at qc3
  rw [show ((13 : Int32)).toInt = (13 : Int) from by decide] at qc4
  rw [show ((14 : Int32)).toInt = (14 : Int) from by decide] at qc5
  rw [show ((5 : Int32)).toInt = (5 : Int) from by decide] at qz5
  rw [show ((6 : Int32)).toInt = (6 : Int) from by decide] at qz6
  rw [show ((7 : Int32)).toInt = (7 : Int) from by decide] at qz7
  rw [show ((8 : Int32)).toInt = (8 : Int) from by decide] at qz8
  rw [show ((9 : Int32)).toInt = (9 : Int) from by decide] at qz9
  rw [show ((10 : Int32)).toInt = (10 : Int) from by decide] at qz10
  omega
theorem sX2_compare_1 {a : Int32} (hd : decode m.2.1 1 = .ok (.tableswitch 219 12 31 #[95, 117, 219, 219, 219, 219, 219, 219, 219, 219, 219, 219, 219, 219, 219, 139, 155, 171, 187, 203], 95)) (k0 : a = 12 → aV l m d D scr 96 lv st x Q) (k1 : a = 13 → aV l m d D scr 118 lv st x Q) (k2 : a = 27 → aV l m d D scr 140 lv st x Q) (k3 : a = 28 → aV l m d D scr 156 lv st x Q) (k4 : a = 29 → aV l m d D scr 172 lv st x Q) (k5 : a = 30 → aV l m d D scr 188 lv st x Q) (k6 : a = 31 → aV l m d D scr 204 lv st x Q) (kd : ¬ a = 12 → ¬ a = 13 → ¬ a = 27 → ¬ a = 28 → ¬ a = 29 → ¬ a = 30 → ¬ a = 31 → aV l m d D scr 220 lv st x Q) : aV l m d D scr 1 lv (.int a :: st) x Q := by
  by_cases c0 : a = 12
  · subst c0
    exact a_tableIn hd (by decide) (by decide) (off := 95) (by decide) (by decide) (k0 rfl)
  by_cases c1 : a = 13
  · subst c1
    exact a_tableIn hd (by decide) (by decide) (off := 117) (by decide) (by decide) (k1 rfl)
  by_cases c2 : a = 27
  · subst c2
    exact a_tableIn hd (by decide) (by decide) (off := 139) (by decide) (by decide) (k2 rfl)
  by_cases c3 : a = 28
  · subst c3
    exact a_tableIn hd (by decide) (by decide) (off := 155) (by decide) (by decide) (k3 rfl)
  by_cases c4 : a = 29
  · subst c4
    exact a_tableIn hd (by decide) (by decide) (off := 171) (by decide) (by decide) (k4 rfl)
  by_cases c5 : a = 30
  · subst c5
    exact a_tableIn hd (by decide) (by decide) (off := 187) (by decide) (by decide) (k5 rfl)
  by_cases c6 : a = 31
  · subst c6
    exact a_tableIn hd (by decide) (by decide) (off := 203) (by decide) (by decide) (k6 rfl)
  by_cases z14 : a = 14
  · subst z14
    exact a_tableIn hd (by decide) (by decide) (off := 219) (by decide) (by decide) (kd c0 c1 c2 c3 c4 c5 c6)
  by_cases z15 : a = 15
  · subst z15
    exact a_tableIn hd (by decide) (by decide) (off := 219) (by decide) (by decide) (kd c0 c1 c2 c3 c4 c5 c6)
  by_cases z16 : a = 16
  · subst z16
    exact a_tableIn hd (by decide) (by decide) (off := 219) (by decide) (by decide) (kd c0 c1 c2 c3 c4 c5 c6)
  by_cases z17 : a = 17
  · subst z17
    exact a_tableIn hd (by decide) (by decide) (off := 219) (by decide) (by decide) (kd c0 c1 c2 c3 c4 c5 c6)
  by_cases z18 : a = 18
  · subst z18
    exact a_tableIn hd (by decide) (by decide) (off := 219) (by decide) (by decide) (kd c0 c1 c2 c3 c4 c5 c6)
  by_cases z19 : a = 19
  · subst z19
    exact a_tableIn hd (by decide) (by decide) (off := 219) (by decide) (by decide) (kd c0 c1 c2 c3 c4 c5 c6)
  by_cases z20 : a = 20
  · subst z20
    exact a_tableIn hd (by decide) (by decide) (off := 219) (by decide) (by decide) (kd c0 c1 c2 c3 c4 c5 c6)
  by_cases z21 : a = 21
  · subst z21
    exact a_tableIn hd (by decide) (by decide) (off := 219) (by decide) (by decide) (kd c0 c1 c2 c3 c4 c5 c6)
  by_cases z22 : a = 22
  · subst z22
    exact a_tableIn hd (by decide) (by decide) (off := 219) (by decide) (by decide) (kd c0 c1 c2 c3 c4 c5 c6)
  by_cases z23 : a = 23
  · subst z23
    exact a_tableIn hd (by decide) (by decide) (off := 219) (by decide) (by decide) (kd c0 c1 c2 c3 c4 c5 c6)
  by_cases z24 : a = 24
  · subst z24
    exact a_tableIn hd (by decide) (by decide) (off := 219) (by decide) (by decide) (kd c0 c1 c2 c3 c4 c5 c6)
  by_cases z25 : a = 25
  · subst z25
    exact a_tableIn hd (by decide) (by decide) (off := 219) (by decide) (by decide) (kd c0 c1 c2 c3 c4 c5 c6)
  by_cases z26 : a = 26
  · subst z26
    exact a_tableIn hd (by decide) (by decide) (off := 219) (by decide) (by decide) (kd c0 c1 c2 c3 c4 c5 c6)
  refine a_tableOut hd ?_ (by decide) (kd c0 c1 c2 c3 c4 c5 c6)
  have hz : ∀ z : Int32, a ≠ z → a.toInt ≠ z.toInt := fun z h g => h (Int32.toInt_inj.mp g)
  have qc0 := hz 12 c0
  have qc1 := hz 13 c1
  have qc2 := hz 27 c2
  have qc3 := hz 28 c3
  have qc4 := hz 29 c4
  have qc5 := hz 30 c5
  have qc6 := hz 31 c6
  have qz14 := hz 14 z14
  have qz15 := hz 15 z15
  have qz16 := hz 16 z16
  have qz17 := hz 17 z17
  have qz18 := hz 18 z18
  have qz19 := hz 19 z19
  have qz20 := hz 20 z20
  have qz21 := hz 21 z21
  have qz22 := hz 22 z22
  have qz23 := hz 23 z23
  have qz24 := hz 24 z24
  have qz25 := hz 25 z25
  have qz26 := hz 26 z26
  rw [show ((12 : Int32)).toInt = (12 : Int) from by decide] at qc0
  rw [show ((13 : Int32)).toInt = (13 : Int) from by decide] at qc1
  rw [show ((27 : Int32)).toInt = (27 : Int) from by decide] at qc2
  rw [show ((28 : Int32)).toInt = (28 : Int) from by decide] at qc3
  rw [show ((29 : Int32)).toInt = (29 : Int) from by decide] at qc4
  rw [show ((30 : Int32)).toInt = (30 : Int) from by decide] at qc5
  rw [show ((31 : Int32)).toInt = (31 : Int) from by decide] at qc6
  rw [show ((14 : Int32)).toInt = (14 : Int) from by decide] at qz14
  rw [show ((15 : Int32)).toInt = (15 : Int) from by decide] at qz15
  rw [show ((16 : Int32)).toInt = (16 : Int) from by decide] at qz16
  rw [show ((17 : Int32)).toInt = (17 : Int) from by decide] at qz17
  rw [show ((18 : Int32)).toInt = (18 : Int) from by decide] at qz18
  rw [show ((19 : Int32)).toInt = (19 : Int) from by decide] at qz19
  rw [show ((20 : Int32)).toInt = (20 : Int) from by decide] at qz20
  rw [show ((21 : Int32)).toInt = (21 : Int) from by decide] at qz21
  rw [show ((22 : Int32)).toInt = (22 : Int) from by decide] at qz22
  rw [show ((23 : Int32)).toInt = (23 : Int) from by decide] at qz23
  rw [show ((24 : Int32)).toInt = (24 : Int) from by decide] at qz24
  rw [show ((25 : Int32)).toInt = (25 : Int) from by decide] at qz25
  rw [show ((26 : Int32)).toInt = (26 : Int) from by decide] at qz26
  omega
theorem sX2_reckon_1 {a : Int32} (hd : decode m.2.1 1 = .ok (.tableswitch 93 33 35 #[27, 35, 43], 27)) (k0 : a = 33 → aV l m d D scr 28 lv st x Q) (k1 : a = 34 → aV l m d D scr 36 lv st x Q) (k2 : a = 35 → aV l m d D scr 44 lv st x Q) (kd : ¬ a = 33 → ¬ a = 34 → ¬ a = 35 → aV l m d D scr 94 lv st x Q) : aV l m d D scr 1 lv (.int a :: st) x Q := by
  by_cases c0 : a = 33
  · subst c0
    exact a_tableIn hd (by decide) (by decide) (off := 27) (by decide) (by decide) (k0 rfl)
  by_cases c1 : a = 34
  · subst c1
    exact a_tableIn hd (by decide) (by decide) (off := 35) (by decide) (by decide) (k1 rfl)
  by_cases c2 : a = 35
  · subst c2
    exact a_tableIn hd (by decide) (by decide) (off := 43) (by decide) (by decide) (k2 rfl)
  refine a_tableOut hd ?_ (by decide) (kd c0 c1 c2)
  have hz : ∀ z : Int32, a ≠ z → a.toInt ≠ z.toInt := fun z h g => h (Int32.toInt_inj.mp g)
  have qc0 := hz 33 c0
  have qc1 := hz 34 c1
  have qc2 := hz 35 c2
  rw [show ((33 : Int32)).toInt = (33 : Int) from by decide] at qc0
  rw [show ((34 : Int32)).toInt = (34 : Int) from by decide] at qc1
  rw [show ((35 : Int32)).toInt = (35 : Int) from by decide] at qc2
  omega
theorem sX3_binding_1 {a : Int32} (hd : decode m.2.1 1 = .ok (.tableswitch 126 12 36 #[115, 117, 119, 126, 126, 126, 126, 126, 126, 126, 126, 126, 126, 126, 126, 126, 126, 126, 126, 126, 126, 121, 121, 123, 123], 115)) (k0 : a = 12 → aV l m d D scr 116 lv st x Q) (k1 : a = 13 → aV l m d D scr 118 lv st x Q) (k2 : a = 14 → aV l m d D scr 120 lv st x Q) (k3 : a = 33 → aV l m d D scr 122 lv st x Q) (k4 : a = 34 → aV l m d D scr 122 lv st x Q) (k5 : a = 35 → aV l m d D scr 124 lv st x Q) (k6 : a = 36 → aV l m d D scr 124 lv st x Q) (kd : ¬ a = 12 → ¬ a = 13 → ¬ a = 14 → ¬ a = 33 → ¬ a = 34 → ¬ a = 35 → ¬ a = 36 → aV l m d D scr 127 lv st x Q) : aV l m d D scr 1 lv (.int a :: st) x Q := by
  by_cases c0 : a = 12
  · subst c0
    exact a_tableIn hd (by decide) (by decide) (off := 115) (by decide) (by decide) (k0 rfl)
  by_cases c1 : a = 13
  · subst c1
    exact a_tableIn hd (by decide) (by decide) (off := 117) (by decide) (by decide) (k1 rfl)
  by_cases c2 : a = 14
  · subst c2
    exact a_tableIn hd (by decide) (by decide) (off := 119) (by decide) (by decide) (k2 rfl)
  by_cases c3 : a = 33
  · subst c3
    exact a_tableIn hd (by decide) (by decide) (off := 121) (by decide) (by decide) (k3 rfl)
  by_cases c4 : a = 34
  · subst c4
    exact a_tableIn hd (by decide) (by decide) (off := 121) (by decide) (by decide) (k4 rfl)
  by_cases c5 : a = 35
  · subst c5
    exact a_tableIn hd (by decide) (by decide) (off := 123) (by decide) (by decide) (k5 rfl)
  by_cases c6 : a = 36
  · subst c6
    exact a_tableIn hd (by decide) (by decide) (off := 123) (by decide) (by decide) (k6 rfl)
  by_cases z15 : a = 15
  · subst z15
    exact a_tableIn hd (by decide) (by decide) (off := 126) (by decide) (by decide) (kd c0 c1 c2 c3 c4 c5 c6)
  by_cases z16 : a = 16
  · subst z16
    exact a_tableIn hd (by decide) (by decide) (off := 126) (by decide) (by decide) (kd c0 c1 c2 c3 c4 c5 c6)
  by_cases z17 : a = 17
  · subst z17
    exact a_tableIn hd (by decide) (by decide) (off := 126) (by decide) (by decide) (kd c0 c1 c2 c3 c4 c5 c6)
  by_cases z18 : a = 18
  · subst z18
    exact a_tableIn hd (by decide) (by decide) (off := 126) (by decide) (by decide) (kd c0 c1 c2 c3 c4 c5 c6)
  by_cases z19 : a = 19
  · subst z19
    exact a_tableIn hd (by decide) (by decide) (off := 126) (by decide) (by decide) (kd c0 c1 c2 c3 c4 c5 c6)
  by_cases z20 : a = 20
  · subst z20
    exact a_tableIn hd (by decide) (by decide) (off := 126) (by decide) (by decide) (kd c0 c1 c2 c3 c4 c5 c6)
  by_cases z21 : a = 21
  · subst z21
    exact a_tableIn hd (by decide) (by decide) (off := 126) (by decide) (by decide) (kd c0 c1 c2 c3 c4 c5 c6)
  by_cases z22 : a = 22
  · subst z22
    exact a_tableIn hd (by decide) (by decide) (off := 126) (by decide) (by decide) (kd c0 c1 c2 c3 c4 c5 c6)
  by_cases z23 : a = 23
  · subst z23
    exact a_tableIn hd (by decide) (by decide) (off := 126) (by decide) (by decide) (kd c0 c1 c2 c3 c4 c5 c6)
  by_cases z24 : a = 24
  · subst z24
    exact a_tableIn hd (by decide) (by decide) (off := 126) (by decide) (by decide) (kd c0 c1 c2 c3 c4 c5 c6)
  by_cases z25 : a = 25
  · subst z25
    exact a_tableIn hd (by decide) (by decide) (off := 126) (by decide) (by decide) (kd c0 c1 c2 c3 c4 c5 c6)
  by_cases z26 : a = 26
  · subst z26
    exact a_tableIn hd (by decide) (by decide) (off := 126) (by decide) (by decide) (kd c0 c1 c2 c3 c4 c5 c6)
  by_cases z27 : a = 27
  · subst z27
    exact a_tableIn hd (by decide) (by decide) (off := 126) (by decide) (by decide) (kd c0 c1 c2 c3 c4 c5 c6)
  by_cases z28 : a = 28
  · subst z28
    exact a_tableIn hd (by decide) (by decide) (off := 126) (by decide) (by decide) (kd c0 c1 c2 c3 c4 c5 c6)
  by_cases z29 : a = 29
  · subst z29
    exact a_tableIn hd (by decide) (by decide) (off := 126) (by decide) (by decide) (kd c0 c1 c2 c3 c4 c5 c6)
  by_cases z30 : a = 30
  · subst z30
    exact a_tableIn hd (by decide) (by decide) (off := 126) (by decide) (by decide) (kd c0 c1 c2 c3 c4 c5 c6)
  by_cases z31 : a = 31
  · subst z31
    exact a_tableIn hd (by decide) (by decide) (off := 126) (by decide) (by decide) (kd c0 c1 c2 c3 c4 c5 c6)
  by_cases z32 : a = 32
  · subst z32
    exact a_tableIn hd (by decide) (by decide) (off := 126) (by decide) (by decide) (kd c0 c1 c2 c3 c4 c5 c6)
  refine a_tableOut hd ?_ (by decide) (kd c0 c1 c2 c3 c4 c5 c6)
  have hz : ∀ z : Int32, a ≠ z → a.toInt ≠ z.toInt := fun z h g => h (Int32.toInt_inj.mp g)
  have qc0 := hz 12 c0
  have qc1 := hz 13 c1
  have qc2 := hz 14 c2
  have qc3 := hz 33 c3
  have qc4 := hz 34 c4
  have qc5 := hz 35 c5
  have qc6 := hz 36 c6
  have qz15 := hz 15 z15
  have qz16 := hz 16 z16
  have qz17 := hz 17 z17
  have qz18 := hz 18 z18
  have qz19 := hz 19 z19
  have qz20 := hz 20 z20
  have qz21 := hz 21 z21
  have qz22 := hz 22 z22
  have qz23 := hz 23 z23
  have qz24 := hz 24 z24
  have qz25 := hz 25 z25
  have qz26 := hz 26 z26
  have qz27 := hz 27 z27
  have qz28 := hz 28 z28
  have qz29 := hz 29 z29
  have qz30 := hz 30 z30
  have qz31 := hz 31 z31
  have qz32 := hz 32 z32
  rw [show ((12 : Int32)).toInt = (12 : Int) from by decide] at qc0
  rw [show ((13 : Int32)).toInt = (13 : Int) from by decide] at qc1
  rw [show ((14 : Int32)).toInt = (14 : Int) from by decide] at qc2
  rw [show ((33 : Int32)).toInt = (33 : Int) from by decide] at qc3
  rw [show ((34 : Int32)).toInt = (34 : Int) from by decide] at qc4
  rw [show ((35 : Int32)).toInt = (35 : Int) from by decide] at qc5
  rw [show ((36 : Int32)).toInt = (36 : Int) from by decide] at qc6
  rw [show ((15 : Int32)).toInt = (15 : Int) from by decide] at qz15
  rw [show ((16 : Int32)).toInt = (16 : Int) from by decide] at qz16
  rw [show ((17 : Int32)).toInt = (17 : Int) from by decide] at qz17
  rw [show ((18 : Int32)).toInt = (18 : Int) from by decide] at qz18
  rw [show ((19 : Int32)).toInt = (19 : Int) from by decide] at qz19
  rw [show ((20 : Int32)).toInt = (20 : Int) from by decide] at qz20
  rw [show ((21 : Int32)).toInt = (21 : Int) from by decide] at qz21
  rw [show ((22 : Int32)).toInt = (22 : Int) from by decide] at qz22
  rw [show ((23 : Int32)).toInt = (23 : Int) from by decide] at qz23
  rw [show ((24 : Int32)).toInt = (24 : Int) from by decide] at qz24
  rw [show ((25 : Int32)).toInt = (25 : Int) from by decide] at qz25
  rw [show ((26 : Int32)).toInt = (26 : Int) from by decide] at qz26
  rw [show ((27 : Int32)).toInt = (27 : Int) from by decide] at qz27
  rw [show ((28 : Int32)).toInt = (28 : Int) from by decide] at qz28
  rw [show ((29 : Int32)).toInt = (29 : Int) from by decide] at qz29
  rw [show ((30 : Int32)).toInt = (30 : Int) from by decide] at qz30
  rw [show ((31 : Int32)).toInt = (31 : Int) from by decide] at qz31
  rw [show ((32 : Int32)).toInt = (32 : Int) from by decide] at qz32
  omega
theorem sX3_read_70 {a : Int32} (hd : decode m.2.1 70 = .ok (.tableswitch 106 0 8 #[50, 57, 64, 64, 71, 78, 85, 92, 99], 50)) (k0 : a = 0 → aV l m d D scr 120 lv st x Q) (k1 : a = 1 → aV l m d D scr 127 lv st x Q) (k2 : a = 2 → aV l m d D scr 134 lv st x Q) (k3 : a = 3 → aV l m d D scr 134 lv st x Q) (k4 : a = 4 → aV l m d D scr 141 lv st x Q) (k5 : a = 5 → aV l m d D scr 148 lv st x Q) (k6 : a = 6 → aV l m d D scr 155 lv st x Q) (k7 : a = 7 → aV l m d D scr 162 lv st x Q) (k8 : a = 8 → aV l m d D scr 169 lv st x Q) (kd : ¬ a = 0 → ¬ a = 1 → ¬ a = 2 → ¬ a = 3 → ¬ a = 4 → ¬ a = 5 → ¬ a = 6 → ¬ a = 7 → ¬ a = 8 → aV l m d D scr 176 lv st x Q) : aV l m d D scr 70 lv (.int a :: st) x Q := by
  by_cases c0 : a = 0
  · subst c0
    exact a_tableIn hd (by decide) (by decide) (off := 50) (by decide) (by decide) (k0 rfl)
  by_cases c1 : a = 1
  · subst c1
    exact a_tableIn hd (by decide) (by decide) (off := 57) (by decide) (by decide) (k1 rfl)
  by_cases c2 : a = 2
  · subst c2
    exact a_tableIn hd (by decide) (by decide) (off := 64) (by decide) (by decide) (k2 rfl)
  by_cases c3 : a = 3
  · subst c3
    exact a_tableIn hd (by decide) (by decide) (off := 64) (by decide) (by decide) (k3 rfl)
  by_cases c4 : a = 4
  · subst c4
    exact a_tableIn hd (by decide) (by decide) (off := 71) (by decide) (by decide) (k4 rfl)
  by_cases c5 : a = 5
  · subst c5
    exact a_tableIn hd (by decide) (by decide) (off := 78) (by decide) (by decide) (k5 rfl)
  by_cases c6 : a = 6
  · subst c6
    exact a_tableIn hd (by decide) (by decide) (off := 85) (by decide) (by decide) (k6 rfl)
  by_cases c7 : a = 7
  · subst c7
    exact a_tableIn hd (by decide) (by decide) (off := 92) (by decide) (by decide) (k7 rfl)
  by_cases c8 : a = 8
  · subst c8
    exact a_tableIn hd (by decide) (by decide) (off := 99) (by decide) (by decide) (k8 rfl)
  refine a_tableOut hd ?_ (by decide) (kd c0 c1 c2 c3 c4 c5 c6 c7 c8)
  have hz : ∀ z : Int32, a ≠ z → a.toInt ≠ z.toInt := fun z h g => h (Int32.toInt_inj.mp g)
  have qc0 := hz 0 c0
  have qc1 := hz 1 c1
  have qc2 := hz 2 c2
  have qc3 := hz 3 c3
  have qc4 := hz 4 c4
  have qc5 := hz 5 c5
  have qc6 := hz 6 c6
  have qc7 := hz 7 c7
  have qc8 := hz 8 c8
  rw [show ((0 : Int32)).toInt = (0 : Int) from by decide] at qc0
  rw [show ((1 : Int32)).toInt = (1 : Int) from by decide] at qc1
  rw [show ((2 : Int32)).toInt = (2 : Int) from by decide] at qc2
  rw [show ((3 : Int32)).toInt = (3 : Int) from by decide] at qc3
  rw [show ((4 : Int32)).toInt = (4 : Int) from by decide] at qc4
  rw [show ((5 : Int32)).toInt = (5 : Int) from by decide] at qc5
  rw [show ((6 : Int32)).toInt = (6 : Int) from by decide] at qc6
  rw [show ((7 : Int32)).toInt = (7 : Int) from by decide] at qc7
  rw [show ((8 : Int32)).toInt = (8 : Int) from by decide] at qc8
  omega
theorem sX7_sign_1 {a : Int32} (hd : decode m.2.1 1 = .ok (.tableswitch 137 40 62 #[110, 113, 131, 125, 137, 128, 137, 134, 137, 137, 137, 137, 137, 137, 137, 137, 137, 137, 137, 107, 116, 119, 122], 107)) (k0 : a = 40 → aV l m d D scr 111 lv st x Q) (k1 : a = 41 → aV l m d D scr 114 lv st x Q) (k2 : a = 42 → aV l m d D scr 132 lv st x Q) (k3 : a = 43 → aV l m d D scr 126 lv st x Q) (k4 : a = 45 → aV l m d D scr 129 lv st x Q) (k5 : a = 47 → aV l m d D scr 135 lv st x Q) (k6 : a = 59 → aV l m d D scr 108 lv st x Q) (k7 : a = 60 → aV l m d D scr 117 lv st x Q) (k8 : a = 61 → aV l m d D scr 120 lv st x Q) (k9 : a = 62 → aV l m d D scr 123 lv st x Q) (kd : ¬ a = 40 → ¬ a = 41 → ¬ a = 42 → ¬ a = 43 → ¬ a = 45 → ¬ a = 47 → ¬ a = 59 → ¬ a = 60 → ¬ a = 61 → ¬ a = 62 → aV l m d D scr 138 lv st x Q) : aV l m d D scr 1 lv (.int a :: st) x Q := by
  by_cases c0 : a = 40
  · subst c0
    exact a_tableIn hd (by decide) (by decide) (off := 110) (by decide) (by decide) (k0 rfl)
  by_cases c1 : a = 41
  · subst c1
    exact a_tableIn hd (by decide) (by decide) (off := 113) (by decide) (by decide) (k1 rfl)
  by_cases c2 : a = 42
  · subst c2
    exact a_tableIn hd (by decide) (by decide) (off := 131) (by decide) (by decide) (k2 rfl)
  by_cases c3 : a = 43
  · subst c3
    exact a_tableIn hd (by decide) (by decide) (off := 125) (by decide) (by decide) (k3 rfl)
  by_cases c4 : a = 45
  · subst c4
    exact a_tableIn hd (by decide) (by decide) (off := 128) (by decide) (by decide) (k4 rfl)
  by_cases c5 : a = 47
  · subst c5
    exact a_tableIn hd (by decide) (by decide) (off := 134) (by decide) (by decide) (k5 rfl)
  by_cases c6 : a = 59
  · subst c6
    exact a_tableIn hd (by decide) (by decide) (off := 107) (by decide) (by decide) (k6 rfl)
  by_cases c7 : a = 60
  · subst c7
    exact a_tableIn hd (by decide) (by decide) (off := 116) (by decide) (by decide) (k7 rfl)
  by_cases c8 : a = 61
  · subst c8
    exact a_tableIn hd (by decide) (by decide) (off := 119) (by decide) (by decide) (k8 rfl)
  by_cases c9 : a = 62
  · subst c9
    exact a_tableIn hd (by decide) (by decide) (off := 122) (by decide) (by decide) (k9 rfl)
  by_cases z44 : a = 44
  · subst z44
    exact a_tableIn hd (by decide) (by decide) (off := 137) (by decide) (by decide) (kd c0 c1 c2 c3 c4 c5 c6 c7 c8 c9)
  by_cases z46 : a = 46
  · subst z46
    exact a_tableIn hd (by decide) (by decide) (off := 137) (by decide) (by decide) (kd c0 c1 c2 c3 c4 c5 c6 c7 c8 c9)
  by_cases z48 : a = 48
  · subst z48
    exact a_tableIn hd (by decide) (by decide) (off := 137) (by decide) (by decide) (kd c0 c1 c2 c3 c4 c5 c6 c7 c8 c9)
  by_cases z49 : a = 49
  · subst z49
    exact a_tableIn hd (by decide) (by decide) (off := 137) (by decide) (by decide) (kd c0 c1 c2 c3 c4 c5 c6 c7 c8 c9)
  by_cases z50 : a = 50
  · subst z50
    exact a_tableIn hd (by decide) (by decide) (off := 137) (by decide) (by decide) (kd c0 c1 c2 c3 c4 c5 c6 c7 c8 c9)
  by_cases z51 : a = 51
  · subst z51
    exact a_tableIn hd (by decide) (by decide) (off := 137) (by decide) (by decide) (kd c0 c1 c2 c3 c4 c5 c6 c7 c8 c9)
  by_cases z52 : a = 52
  · subst z52
    exact a_tableIn hd (by decide) (by decide) (off := 137) (by decide) (by decide) (kd c0 c1 c2 c3 c4 c5 c6 c7 c8 c9)
  by_cases z53 : a = 53
  · subst z53
    exact a_tableIn hd (by decide) (by decide) (off := 137) (by decide) (by decide) (kd c0 c1 c2 c3 c4 c5 c6 c7 c8 c9)
  by_cases z54 : a = 54
  · subst z54
    exact a_tableIn hd (by decide) (by decide) (off := 137) (by decide) (by decide) (kd c0 c1 c2 c3 c4 c5 c6 c7 c8 c9)
  by_cases z55 : a = 55
  · subst z55
    exact a_tableIn hd (by decide) (by decide) (off := 137) (by decide) (by decide) (kd c0 c1 c2 c3 c4 c5 c6 c7 c8 c9)
  by_cases z56 : a = 56
  · subst z56
    exact a_tableIn hd (by decide) (by decide) (off := 137) (by decide) (by decide) (kd c0 c1 c2 c3 c4 c5 c6 c7 c8 c9)
  by_cases z57 : a = 57
  · subst z57
    exact a_tableIn hd (by decide) (by decide) (off := 137) (by decide) (by decide) (kd c0 c1 c2 c3 c4 c5 c6 c7 c8 c9)
  by_cases z58 : a = 58
  · subst z58
    exact a_tableIn hd (by decide) (by decide) (off := 137) (by decide) (by decide) (kd c0 c1 c2 c3 c4 c5 c6 c7 c8 c9)
  refine a_tableOut hd ?_ (by decide) (kd c0 c1 c2 c3 c4 c5 c6 c7 c8 c9)
  have hz : ∀ z : Int32, a ≠ z → a.toInt ≠ z.toInt := fun z h g => h (Int32.toInt_inj.mp g)
  have qc0 := hz 40 c0
  have qc1 := hz 41 c1
  have qc2 := hz 42 c2
  have qc3 := hz 43 c3
  have qc4 := hz 45 c4
  have qc5 := hz 47 c5
  have qc6 := hz 59 c6
  have qc7 := hz 60 c7
  have qc8 := hz 61 c8
  have qc9 := hz 62 c9
  have qz44 := hz 44 z44
  have qz46 := hz 46 z46
  have qz48 := hz 48 z48
  have qz49 := hz 49 z49
  have qz50 := hz 50 z50
  have qz51 := hz 51 z51
  have qz52 := hz 52 z52
  have qz53 := hz 53 z53
  have qz54 := hz 54 z54
  have qz55 := hz 55 z55
  have qz56 := hz 56 z56
  have qz57 := hz 57 z57
  have qz58 := hz 58 z58
  rw [show ((40 : Int32)).toInt = (40 : Int) from by decide] at qc0
  rw [show ((41 : Int32)).toInt = (41 : Int) from by decide] at qc1
  rw [show ((42 : Int32)).toInt = (42 : Int) from by decide] at qc2
  rw [show ((43 : Int32)).toInt = (43 : Int) from by decide] at qc3
  rw [show ((45 : Int32)).toInt = (45 : Int) from by decide] at qc4
  rw [show ((47 : Int32)).toInt = (47 : Int) from by decide] at qc5
  rw [show ((59 : Int32)).toInt = (59 : Int) from by decide] at qc6
  rw [show ((60 : Int32)).toInt = (60 : Int) from by decide] at qc7
  rw [show ((61 : Int32)).toInt = (61 : Int) from by decide] at qc8
  rw [show ((62 : Int32)).toInt = (62 : Int) from by decide] at qc9
  rw [show ((44 : Int32)).toInt = (44 : Int) from by decide] at qz44
  rw [show ((46 : Int32)).toInt = (46 : Int) from by decide] at qz46
  rw [show ((48 : Int32)).toInt = (48 : Int) from by decide] at qz48
  rw [show ((49 : Int32)).toInt = (49 : Int) from by decide] at qz49
  rw [show ((50 : Int32)).toInt = (50 : Int) from by decide] at qz50
  rw [show ((51 : Int32)).toInt = (51 : Int) from by decide] at qz51
  rw [show ((52 : Int32)).toInt = (52 : Int) from by decide] at qz52
  rw [show ((53 : Int32)).toInt = (53 : Int) from by decide] at qz53
  rw [show ((54 : Int32)).toInt = (54 : Int) from by decide] at qz54
  rw [show ((55 : Int32)).toInt = (55 : Int) from by decide] at qz55
  rw [show ((56 : Int32)).toInt = (56 : Int) from by decide] at qz56
  rw [show ((57 : Int32)).toInt = (57 : Int) from by decide] at qz57
  rw [show ((58 : Int32)).toInt = (58 : Int) from by decide] at qz58
  omega
end aSwitch
