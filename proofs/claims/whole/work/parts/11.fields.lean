/-! fields: what a getfield or putfield links -/
theorem iwX0 : ∀ w ∈ u_ws RX0 TX0 5, w ∈ aTb := fun w h => List.mem_filter.mpr ((by decide +kernel : ∀ w ∈ u_ws RX0 TX0 5, w ∈ lw_tbl ∧ goodWord w = true) w h)
theorem iwX1 : ∀ w ∈ u_ws RX1 TX1 5, w ∈ aTb := fun w h => List.mem_filter.mpr ((by decide +kernel : ∀ w ∈ u_ws RX1 TX1 5, w ∈ lw_tbl ∧ goodWord w = true) w h)
theorem iwX2 : ∀ w ∈ u_ws RX2 TX2 4, w ∈ aTb := fun w h => List.mem_filter.mpr ((by decide +kernel : ∀ w ∈ u_ws RX2 TX2 4, w ∈ lw_tbl ∧ goodWord w = true) w h)
theorem iwX3 : ∀ w ∈ u_ws RX3 TX3 9, w ∈ aTb := fun w h => List.mem_filter.mpr ((by decide +kernel : ∀ w ∈ u_ws RX3 TX3 9, w ∈ lw_tbl ∧ goodWord w = true) w h)
theorem iwX4 : ∀ w ∈ u_ws RX4 TX4 8, w ∈ aTb := fun w h => List.mem_filter.mpr ((by decide +kernel : ∀ w ∈ u_ws RX4 TX4 8, w ∈ lw_tbl ∧ goodWord w = true) w h)
theorem iwX5 : ∀ w ∈ u_ws RX5 TX5 8, w ∈ aTb := fun w h => List.mem_filter.mpr ((by decide +kernel : ∀ w ∈ u_ws RX5 TX5 8, w ∈ lw_tbl ∧ goodWord w = true) w h)
theorem iwX6 : ∀ w ∈ u_ws RX6 TX6 12, w ∈ aTb := fun w h => List.mem_filter.mpr ((by decide +kernel : ∀ w ∈ u_ws RX6 TX6 12, w ∈ lw_tbl ∧ goodWord w = true) w h)
theorem iwX7 : ∀ w ∈ u_ws RX7 TX7 7, w ∈ aTb := fun w h => List.mem_filter.mpr ((by decide +kernel : ∀ w ∈ u_ws RX7 TX7 7, w ∈ lw_tbl ∧ goodWord w = true) w h)
theorem iwX8 : ∀ w ∈ u_ws RX8 TX8 22, w ∈ aTb := fun w h => List.mem_filter.mpr ((by decide +kernel : ∀ w ∈ u_ws RX8 TX8 22, w ∈ lw_tbl ∧ goodWord w = true) w h)
theorem iwX9 : ∀ w ∈ u_ws RX9 TX9 3, w ∈ aTb := fun w h => List.mem_filter.mpr ((by decide +kernel : ∀ w ∈ u_ws RX9 TX9 3, w ∈ lw_tbl ∧ goodWord w = true) w h)
theorem iwX10 : ∀ w ∈ u_ws RX10 TX10 2, w ∈ aTb := fun w h => List.mem_filter.mpr ((by decide +kernel : ∀ w ∈ u_ws RX10 TX10 2, w ∈ lw_tbl ∧ goodWord w = true) w h)
theorem iwX11 : ∀ w ∈ u_ws RX11 TX11 10, w ∈ aTb := fun w h => List.mem_filter.mpr ((by decide +kernel : ∀ w ∈ u_ws RX11 TX11 10, w ∈ lw_tbl ∧ goodWord w = true) w h)
theorem iwX12 : ∀ w ∈ u_ws RX12 TX12 90, w ∈ aTb := fun w h => List.mem_filter.mpr ((by decide +kernel : ∀ w ∈ u_ws RX12 TX12 90, w ∈ lw_tbl ∧ goodWord w = true) w h)
section aFields
variable {l : Launch} {m : aM} {d : Nat} {D : Nat → Bool} {scr : Option aSc} {pc : Nat} {lv : List (Nat × Value)} {st : List Value} {x : aS} {Q Q' : Option Value → aS → Prop}
theorem gX1_9 {n : Nat} (hm : m.1.cls = RX1) (hd : decode m.2.1 pc = .ok (.getfield 9, 3)) (hn : aIs D n 1 0) (k : aV l m d D scr (pc + 3) lv (.ref (n + 2) :: st) x Q) : aV l m d D scr pc lv (.ref n :: st) x Q :=
  a_get (ci := 1) (j := 1) hd rfl iwX1 rfl (by decide) (by decide) (by rw [hm]; exact aTb_tables_1_2 183 rfl rfl) hn k
theorem gX1_15 {n : Nat} (hm : m.1.cls = RX1) (hd : decode m.2.1 pc = .ok (.getfield 15, 3)) (hn : aIs D n 1 0) (k : aV l m d D scr (pc + 3) lv (.ref (n + 3) :: st) x Q) : aV l m d D scr pc lv (.ref n :: st) x Q :=
  a_get (ci := 1) (j := 2) hd rfl iwX1 rfl (by decide) (by decide) (by rw [hm]; exact aTb_tables_1_2 185 rfl rfl) hn k
theorem gX1_18 {n : Nat} (hm : m.1.cls = RX1) (hd : decode m.2.1 pc = .ok (.getfield 18, 3)) (hn : aIs D n 1 0) (k : aV l m d D scr (pc + 3) lv (.ref (n + 4) :: st) x Q) : aV l m d D scr pc lv (.ref n :: st) x Q :=
  a_get (ci := 1) (j := 3) hd rfl iwX1 rfl (by decide) (by decide) (by rw [hm]; exact aTb_tables_1_2 187 rfl rfl) hn k
theorem gX1_21 {n : Nat} (hm : m.1.cls = RX1) (hd : decode m.2.1 pc = .ok (.getfield 21, 3)) (hn : aIs D n 1 0) (k : aV l m d D scr (pc + 3) lv (.ref (n + 5) :: st) x Q) : aV l m d D scr pc lv (.ref n :: st) x Q :=
  a_get (ci := 1) (j := 4) hd rfl iwX1 rfl (by decide) (by decide) (by rw [hm]; exact aTb_tables_1_2 189 rfl rfl) hn k
theorem gX1_24 {n : Nat} (hm : m.1.cls = RX1) (hd : decode m.2.1 pc = .ok (.getfield 24, 3)) (hn : aIs D n 1 0) (k : aV l m d D scr (pc + 3) lv (.int (x.1 n 0) :: st) x Q) : aV l m d D scr pc lv (.ref n :: st) x Q :=
  a_get (ci := 1) (j := 0) hd rfl iwX1 rfl (by decide) (by decide) (by rw [hm]; exact aTb_tables_1_2 181 rfl rfl) hn k
theorem pX1_24 {n : Nat} {v : Int32} (hm : m.1.cls = RX1) (hd : decode m.2.1 pc = .ok (.putfield 24, 3)) (hn : aIs D n 1 0) (k : aV l m d D scr (pc + 3) lv st (aWr x n 0 v) Q) : aV l m d D scr pc lv (.int v :: .ref n :: st) x Q :=
  a_put (ci := 1) (j := 0) hd rfl iwX1 rfl (by decide) (by decide) (by rw [hm]; exact aTb_tables_1_2 181 rfl rfl) tyX1 tyX1_ok nmX1 rfl (by decide +kernel) (by decide) hn k
theorem gX10_9 {n : Nat} (hm : m.1.cls = RX10) (hd : decode m.2.1 pc = .ok (.getfield 9, 3)) (hn : aIs D n 10 0) (k : aV l m d D scr (pc + 3) lv (.ref (n + 1) :: st) x Q) : aV l m d D scr pc lv (.ref n :: st) x Q :=
  a_get (ci := 10) (j := 0) hd rfl iwX10 rfl (by decide) (by decide) (by rw [hm]; exact aTb_tables_1_2 133 rfl rfl) hn k
theorem gX10_15 {n : Nat} (hm : m.1.cls = RX10) (hd : decode m.2.1 pc = .ok (.getfield 15, 3)) (hn : aIs D n 10 0) (k : aV l m d D scr (pc + 3) lv (.ref (n + 2) :: st) x Q) : aV l m d D scr pc lv (.ref n :: st) x Q :=
  a_get (ci := 10) (j := 1) hd rfl iwX10 rfl (by decide) (by decide) (by rw [hm]; exact aTb_tables_1_2 134 rfl rfl) hn k
theorem gX10_26 {n : Nat} (hm : m.1.cls = RX10) (hd : decode m.2.1 pc = .ok (.getfield 26, 3)) (hn : aIs D n 8 0) (k : aV l m d D scr (pc + 3) lv (.int (x.1 n 4) :: st) x Q) : aV l m d D scr pc lv (.ref n :: st) x Q :=
  a_get (ci := 8) (j := 4) hd rfl iwX8 rfl (by decide) (by decide) (by rw [hm]; exact aTb_tables_1_1 164 rfl rfl) hn k
theorem gX10_46 {n : Nat} (hm : m.1.cls = RX10) (hd : decode m.2.1 pc = .ok (.getfield 46, 3)) (hn : aIs D n 6 0) (k : aV l m d D scr (pc + 3) lv (.int (x.1 n 0) :: st) x Q) : aV l m d D scr pc lv (.ref n :: st) x Q :=
  a_get (ci := 6) (j := 0) hd rfl iwX6 rfl (by decide) (by decide) (by rw [hm]; exact aTb_tables_1_2 69 rfl rfl) hn k
theorem pX10_46 {n : Nat} {v : Int32} (hm : m.1.cls = RX10) (hd : decode m.2.1 pc = .ok (.putfield 46, 3)) (hn : aIs D n 6 0) (k : aV l m d D scr (pc + 3) lv st (aWr x n 0 v) Q) : aV l m d D scr pc lv (.int v :: .ref n :: st) x Q :=
  a_put (ci := 6) (j := 0) hd rfl iwX6 rfl (by decide) (by decide) (by rw [hm]; exact aTb_tables_1_2 69 rfl rfl) tyX6 tyX6_ok nmX6 rfl (by decide +kernel) (by decide) hn k
theorem gX10_56 {n : Nat} (hm : m.1.cls = RX10) (hd : decode m.2.1 pc = .ok (.getfield 56, 3)) (hn : aIs D n 8 0) (k : aV l m d D scr (pc + 3) lv (.int (x.1 n 10) :: st) x Q) : aV l m d D scr pc lv (.ref n :: st) x Q :=
  a_get (ci := 8) (j := 10) hd rfl iwX8 rfl (by decide) (by decide) (by rw [hm]; exact aTb_tables_1_1 186 rfl rfl) hn k
theorem gX10_59 {n : Nat} (hm : m.1.cls = RX10) (hd : decode m.2.1 pc = .ok (.getfield 59, 3)) (hn : aIs D n 8 0) (k : aV l m d D scr (pc + 3) lv (.ref (n + 12) :: st) x Q) : aV l m d D scr pc lv (.ref n :: st) x Q :=
  a_get (ci := 8) (j := 11) hd rfl iwX8 rfl (by decide) (by decide) (by rw [hm]; exact aTb_tables_1_1 190 rfl rfl) hn k
theorem gX10_63 {n : Nat} (hm : m.1.cls = RX10) (hd : decode m.2.1 pc = .ok (.getfield 63, 3)) (hn : aIs D n 0 0) (k : aV l m d D scr (pc + 3) lv (.int (x.1 n 3) :: st) x Q) : aV l m d D scr pc lv (.ref n :: st) x Q :=
  a_get (ci := 0) (j := 3) hd rfl iwX0 rfl (by decide) (by decide) (by rw [hm]; exact aTb_tables_1_1 116 rfl rfl) hn k
theorem gX10_70 {n : Nat} (hm : m.1.cls = RX10) (hd : decode m.2.1 pc = .ok (.getfield 70, 3)) (hn : aIs D n 0 0) (k : aV l m d D scr (pc + 3) lv (.int (x.1 n 2) :: st) x Q) : aV l m d D scr pc lv (.ref n :: st) x Q :=
  a_get (ci := 0) (j := 2) hd rfl iwX0 rfl (by decide) (by decide) (by rw [hm]; exact aTb_tables_1_1 114 rfl rfl) hn k
theorem gX10_77 {n : Nat} (hm : m.1.cls = RX10) (hd : decode m.2.1 pc = .ok (.getfield 77, 3)) (hn : aIs D n 0 0) (k : aV l m d D scr (pc + 3) lv (.int (x.1 n 0) :: st) x Q) : aV l m d D scr pc lv (.ref n :: st) x Q :=
  a_get (ci := 0) (j := 0) hd rfl iwX0 rfl (by decide) (by decide) (by rw [hm]; exact aTb_tables_1_1 110 rfl rfl) hn k
theorem gX10_80 {n : Nat} (hm : m.1.cls = RX10) (hd : decode m.2.1 pc = .ok (.getfield 80, 3)) (hn : aIs D n 0 0) (k : aV l m d D scr (pc + 3) lv (.int (x.1 n 1) :: st) x Q) : aV l m d D scr pc lv (.ref n :: st) x Q :=
  a_get (ci := 0) (j := 1) hd rfl iwX0 rfl (by decide) (by decide) (by rw [hm]; exact aTb_tables_1_1 112 rfl rfl) hn k
theorem gX10_83 {n : Nat} (hm : m.1.cls = RX10) (hd : decode m.2.1 pc = .ok (.getfield 83, 3)) (hn : aIs D n 0 0) (k : aV l m d D scr (pc + 3) lv (.int (x.1 n 4) :: st) x Q) : aV l m d D scr pc lv (.ref n :: st) x Q :=
  a_get (ci := 0) (j := 4) hd rfl iwX0 rfl (by decide) (by decide) (by rw [hm]; exact aTb_tables_1_1 118 rfl rfl) hn k
theorem gX10_91 {n : Nat} (hm : m.1.cls = RX10) (hd : decode m.2.1 pc = .ok (.getfield 91, 3)) (hn : aIs D n 6 0) (k : aV l m d D scr (pc + 3) lv (.int (x.1 n 1) :: st) x Q) : aV l m d D scr pc lv (.ref n :: st) x Q :=
  a_get (ci := 6) (j := 1) hd rfl iwX6 rfl (by decide) (by decide) (by rw [hm]; exact aTb_tables_1_2 72 rfl rfl) hn k
theorem pX10_91 {n : Nat} {v : Int32} (hm : m.1.cls = RX10) (hd : decode m.2.1 pc = .ok (.putfield 91, 3)) (hn : aIs D n 6 0) (k : aV l m d D scr (pc + 3) lv st (aWr x n 1 v) Q) : aV l m d D scr pc lv (.int v :: .ref n :: st) x Q :=
  a_put (ci := 6) (j := 1) hd rfl iwX6 rfl (by decide) (by decide) (by rw [hm]; exact aTb_tables_1_2 72 rfl rfl) tyX6 tyX6_ok nmX6 rfl (by decide +kernel) (by decide) hn k
theorem gX10_94 {n : Nat} (hm : m.1.cls = RX10) (hd : decode m.2.1 pc = .ok (.getfield 94, 3)) (hn : aIs D n 8 0) (k : aV l m d D scr (pc + 3) lv (.int (x.1 n 12) :: st) x Q) : aV l m d D scr pc lv (.ref n :: st) x Q :=
  a_get (ci := 8) (j := 12) hd rfl iwX8 rfl (by decide) (by decide) (by rw [hm]; exact aTb_tables_1_1 193 rfl rfl) hn k
theorem gX10_97 {n : Nat} (hm : m.1.cls = RX10) (hd : decode m.2.1 pc = .ok (.getfield 97, 3)) (hn : aIs D n 8 0) (k : aV l m d D scr (pc + 3) lv (.ref (n + 14) :: st) x Q) : aV l m d D scr pc lv (.ref n :: st) x Q :=
  a_get (ci := 8) (j := 13) hd rfl iwX8 rfl (by decide) (by decide) (by rw [hm]; exact aTb_tables_1_1 196 rfl rfl) hn k
theorem gX10_101 {n : Nat} (hm : m.1.cls = RX10) (hd : decode m.2.1 pc = .ok (.getfield 101, 3)) (hn : aIs D n 9 0) (k : aV l m d D scr (pc + 3) lv (.int (x.1 n 2) :: st) x Q) : aV l m d D scr pc lv (.ref n :: st) x Q :=
  a_get (ci := 9) (j := 2) hd rfl iwX9 rfl (by decide) (by decide) (by rw [hm]; exact aTb_tables_1_1 140 rfl rfl) hn k
theorem gX10_104 {n : Nat} (hm : m.1.cls = RX10) (hd : decode m.2.1 pc = .ok (.getfield 104, 3)) (hn : aIs D n 9 0) (k : aV l m d D scr (pc + 3) lv (.int (x.1 n 0) :: st) x Q) : aV l m d D scr pc lv (.ref n :: st) x Q :=
  a_get (ci := 9) (j := 0) hd rfl iwX9 rfl (by decide) (by decide) (by rw [hm]; exact aTb_tables_1_1 136 rfl rfl) hn k
theorem gX10_107 {n : Nat} (hm : m.1.cls = RX10) (hd : decode m.2.1 pc = .ok (.getfield 107, 3)) (hn : aIs D n 9 0) (k : aV l m d D scr (pc + 3) lv (.int (x.1 n 1) :: st) x Q) : aV l m d D scr pc lv (.ref n :: st) x Q :=
  a_get (ci := 9) (j := 1) hd rfl iwX9 rfl (by decide) (by decide) (by rw [hm]; exact aTb_tables_1_1 138 rfl rfl) hn k
theorem gX10_121 {n : Nat} (hm : m.1.cls = RX10) (hd : decode m.2.1 pc = .ok (.getfield 121, 3)) (hn : aIs D n 8 0) (k : aV l m d D scr (pc + 3) lv (.ref (n + 131) :: st) x Q) : aV l m d D scr pc lv (.ref n :: st) x Q :=
  a_get (ci := 8) (j := 20) hd rfl iwX8 rfl (by decide) (by decide) (by rw [hm]; exact aTb_tables_1_1 216 rfl rfl) hn k
theorem gX10_131 {n : Nat} (hm : m.1.cls = RX10) (hd : decode m.2.1 pc = .ok (.getfield 131, 3)) (hn : aIs D n 8 0) (k : aV l m d D scr (pc + 3) lv (.ref (n + 132) :: st) x Q) : aV l m d D scr pc lv (.ref n :: st) x Q :=
  a_get (ci := 8) (j := 21) hd rfl iwX8 rfl (by decide) (by decide) (by rw [hm]; exact aTb_tables_1_1 220 rfl rfl) hn k
theorem gX10_134 {n : Nat} (hm : m.1.cls = RX10) (hd : decode m.2.1 pc = .ok (.getfield 134, 3)) (hn : aIs D n 6 0) (k : aV l m d D scr (pc + 3) lv (.ref (n + 12) :: st) x Q) : aV l m d D scr pc lv (.ref n :: st) x Q :=
  a_get (ci := 6) (j := 11) hd rfl iwX6 rfl (by decide) (by decide) (by rw [hm]; exact aTb_tables_1_2 99 rfl rfl) hn k
theorem gX10_143 {n : Nat} (hm : m.1.cls = RX10) (hd : decode m.2.1 pc = .ok (.getfield 143, 3)) (hn : aIs D n 6 0) (k : aV l m d D scr (pc + 3) lv (.ref (n + 11) :: st) x Q) : aV l m d D scr pc lv (.ref n :: st) x Q :=
  a_get (ci := 6) (j := 10) hd rfl iwX6 rfl (by decide) (by decide) (by rw [hm]; exact aTb_tables_1_2 96 rfl rfl) hn k
theorem gX10_146 {n : Nat} (hm : m.1.cls = RX10) (hd : decode m.2.1 pc = .ok (.getfield 146, 3)) (hn : aIs D n 8 0) (k : aV l m d D scr (pc + 3) lv (.int (x.1 n 16) :: st) x Q) : aV l m d D scr pc lv (.ref n :: st) x Q :=
  a_get (ci := 8) (j := 16) hd rfl iwX8 rfl (by decide) (by decide) (by rw [hm]; exact aTb_tables_1_1 203 rfl rfl) hn k
theorem gX10_156 {n : Nat} (hm : m.1.cls = RX10) (hd : decode m.2.1 pc = .ok (.getfield 156, 3)) (hn : aIs D n 6 0) (k : aV l m d D scr (pc + 3) lv (.ref (n + 7) :: st) x Q) : aV l m d D scr pc lv (.ref n :: st) x Q :=
  a_get (ci := 6) (j := 6) hd rfl iwX6 rfl (by decide) (by decide) (by rw [hm]; exact aTb_tables_1_2 82 rfl rfl) hn k
theorem gX10_159 {n : Nat} (hm : m.1.cls = RX10) (hd : decode m.2.1 pc = .ok (.getfield 159, 3)) (hn : aIs D n 8 0) (k : aV l m d D scr (pc + 3) lv (.ref (n + 130) :: st) x Q) : aV l m d D scr pc lv (.ref n :: st) x Q :=
  a_get (ci := 8) (j := 19) hd rfl iwX8 rfl (by decide) (by decide) (by rw [hm]; exact aTb_tables_1_1 213 rfl rfl) hn k
theorem gX10_162 {n : Nat} (hm : m.1.cls = RX10) (hd : decode m.2.1 pc = .ok (.getfield 162, 3)) (hn : aIs D n 8 0) (k : aV l m d D scr (pc + 3) lv (.ref (n + 9) :: st) x Q) : aV l m d D scr pc lv (.ref n :: st) x Q :=
  a_get (ci := 8) (j := 8) hd rfl iwX8 rfl (by decide) (by decide) (by rw [hm]; exact aTb_tables_1_1 181 rfl rfl) hn k
theorem gX10_165 {n : Nat} (hm : m.1.cls = RX10) (hd : decode m.2.1 pc = .ok (.getfield 165, 3)) (hn : aIs D n 6 0) (k : aV l m d D scr (pc + 3) lv (.ref (n + 10) :: st) x Q) : aV l m d D scr pc lv (.ref n :: st) x Q :=
  a_get (ci := 6) (j := 9) hd rfl iwX6 rfl (by decide) (by decide) (by rw [hm]; exact aTb_tables_1_2 93 rfl rfl) hn k
theorem gX11_14 {n : Nat} (hm : m.1.cls = RX11) (hd : decode m.2.1 pc = .ok (.getfield 14, 3)) (hn : aIs D n 11 0) (k : aV l m d D scr (pc + 3) lv (.ref bRd :: st) x Q) : aV l m d D scr pc lv (.ref n :: st) x Q :=
  a_get (ci := 11) (j := 0) hd rfl iwX11 rfl (by decide) (by decide) (by rw [hm]; exact aTb_tables_1_2 236 rfl rfl) hn k
theorem gX11_23 {n : Nat} (hm : m.1.cls = RX11) (hd : decode m.2.1 pc = .ok (.getfield 23, 3)) (hn : aIs D n 11 0) (k : aV l m d D scr (pc + 3) lv (.ref ((x.1 n 1).toNatClampNeg * 256) :: st) x Q) : aV l m d D scr pc lv (.ref n :: st) x Q :=
  a_get (ci := 11) (j := 1) hd rfl iwX11 rfl (by decide) (by decide) (by rw [hm]; exact aTb_tables_1_2 237 rfl rfl) hn k
theorem pX11_23 {n o : Nat} (hm : m.1.cls = RX11) (hd : decode m.2.1 pc = .ok (.putfield 23, 3)) (ho : o < 2 ^ 31) (hn : aIs D n 11 0) (k : aV l m d D scr (pc + 3) lv st (aWr x n 1 (nI o)) Q) : aV l m d D scr pc lv (.ref (o * 256) :: .ref n :: st) x Q :=
  a_putR (ci := 11) (j := 1) (cn := "LastHouse$Told") hd rfl iwX11 rfl (by decide) (by decide) (by rw [hm]; exact aTb_tables_1_2 237 rfl rfl) tyX11 tyX11_ok nmX11 rfl (by decide +kernel) (by decide) ho hn k
theorem gX11_30 {n : Nat} (hm : m.1.cls = RX11) (hd : decode m.2.1 pc = .ok (.getfield 30, 3)) (hn : aIs D n 11 0) (k : aV l m d D scr (pc + 3) lv (.ref bNow :: st) x Q) : aV l m d D scr pc lv (.ref n :: st) x Q :=
  a_get (ci := 11) (j := 2) hd rfl iwX11 rfl (by decide) (by decide) (by rw [hm]; exact aTb_tables_1_2 238 rfl rfl) hn k
theorem gX11_34 {n : Nat} (hm : m.1.cls = RX11) (hd : decode m.2.1 pc = .ok (.getfield 34, 3)) (hn : aIs D n 11 0) (k : aV l m d D scr (pc + 3) lv (.ref bIm :: st) x Q) : aV l m d D scr pc lv (.ref n :: st) x Q :=
  a_get (ci := 11) (j := 3) hd rfl iwX11 rfl (by decide) (by decide) (by rw [hm]; exact aTb_tables_1_2 239 rfl rfl) hn k
theorem gX11_37 {n : Nat} (hm : m.1.cls = RX11) (hd : decode m.2.1 pc = .ok (.getfield 37, 3)) (hn : aIs D n 11 0) (k : aV l m d D scr (pc + 3) lv (.ref bTr :: st) x Q) : aV l m d D scr pc lv (.ref n :: st) x Q :=
  a_get (ci := 11) (j := 4) hd rfl iwX11 rfl (by decide) (by decide) (by rw [hm]; exact aTb_tables_1_3 0 rfl rfl) hn k
theorem gX11_43 {n : Nat} (hm : m.1.cls = RX11) (hd : decode m.2.1 pc = .ok (.getfield 43, 3)) (hn : aIs D n 11 0) (k : aV l m d D scr (pc + 3) lv (.ref bYr :: st) x Q) : aV l m d D scr pc lv (.ref n :: st) x Q :=
  a_get (ci := 11) (j := 6) hd rfl iwX11 rfl (by decide) (by decide) (by rw [hm]; exact aTb_tables_1_3 2 rfl rfl) hn k
theorem gX11_50 {n : Nat} (hm : m.1.cls = RX11) (hd : decode m.2.1 pc = .ok (.getfield 50, 3)) (hn : aIs D n 11 0) (k : aV l m d D scr (pc + 3) lv (.ref bSn :: st) x Q) : aV l m d D scr pc lv (.ref n :: st) x Q :=
  a_get (ci := 11) (j := 7) hd rfl iwX11 rfl (by decide) (by decide) (by rw [hm]; exact aTb_tables_1_3 3 rfl rfl) hn k
theorem gX11_57 {n : Nat} (hm : m.1.cls = RX11) (hd : decode m.2.1 pc = .ok (.getfield 57, 3)) (hn : aIs D n 11 0) (k : aV l m d D scr (pc + 3) lv (.ref bDn :: st) x Q) : aV l m d D scr pc lv (.ref n :: st) x Q :=
  a_get (ci := 11) (j := 8) hd rfl iwX11 rfl (by decide) (by decide) (by rw [hm]; exact aTb_tables_1_3 4 rfl rfl) hn k
theorem gX11_64 {n : Nat} (hm : m.1.cls = RX11) (hd : decode m.2.1 pc = .ok (.getfield 64, 3)) (hn : aIs D n 11 0) (k : aV l m d D scr (pc + 3) lv (.ref bRk :: st) x Q) : aV l m d D scr pc lv (.ref n :: st) x Q :=
  a_get (ci := 11) (j := 9) hd rfl iwX11 rfl (by decide) (by decide) (by rw [hm]; exact aTb_tables_1_3 5 rfl rfl) hn k
theorem gX11_68 {n : Nat} (hm : m.1.cls = RX11) (hd : decode m.2.1 pc = .ok (.getfield 68, 3)) (hn : aIs D n 3 0) (k : aV l m d D scr (pc + 3) lv (.ref bTp :: st) x Q) : aV l m d D scr pc lv (.ref n :: st) x Q :=
  a_get (ci := 3) (j := 0) hd rfl iwX3 rfl (by decide) (by decide) (by rw [hm]; exact aTb_tables_1_2 29 rfl rfl) hn k
theorem gX11_72 {n : Nat} (hm : m.1.cls = RX11) (hd : decode m.2.1 pc = .ok (.getfield 72, 3)) (hn : aIs D n 7 0) (k : aV l m d D scr (pc + 3) lv (.int (x.1 n 0) :: st) x Q) : aV l m d D scr pc lv (.ref n :: st) x Q :=
  a_get (ci := 7) (j := 0) hd rfl iwX7 rfl (by decide) (by decide) (by rw [hm]; exact aTb_tables_1_1 48 rfl rfl) hn k
theorem pX11_72 {n : Nat} {v : Int32} (hm : m.1.cls = RX11) (hd : decode m.2.1 pc = .ok (.putfield 72, 3)) (hn : aIs D n 7 0) (k : aV l m d D scr (pc + 3) lv st (aWr x n 0 v) Q) : aV l m d D scr pc lv (.int v :: .ref n :: st) x Q :=
  a_put (ci := 7) (j := 0) hd rfl iwX7 rfl (by decide) (by decide) (by rw [hm]; exact aTb_tables_1_1 48 rfl rfl) tyX7 tyX7_ok nmX7 rfl (by decide +kernel) (by decide) hn k
theorem gX11_86 {n : Nat} (hm : m.1.cls = RX11) (hd : decode m.2.1 pc = .ok (.getfield 86, 3)) (hn : aIs D n 3 0) (k : aV l m d D scr (pc + 3) lv (.ref ((x.1 n 1).toNatClampNeg * 256) :: st) x Q) : aV l m d D scr pc lv (.ref n :: st) x Q :=
  a_get (ci := 3) (j := 1) hd rfl iwX3 rfl (by decide) (by decide) (by rw [hm]; exact aTb_tables_1_2 31 rfl rfl) hn k
theorem pX11_86 {n o : Nat} (hm : m.1.cls = RX11) (hd : decode m.2.1 pc = .ok (.putfield 86, 3)) (ho : o < 2 ^ 31) (hn : aIs D n 3 0) (k : aV l m d D scr (pc + 3) lv st (aWr x n 1 (nI o)) Q) : aV l m d D scr pc lv (.ref (o * 256) :: .ref n :: st) x Q :=
  a_putR (ci := 3) (j := 1) (cn := "LastHouse$Told") hd rfl iwX3 rfl (by decide) (by decide) (by rw [hm]; exact aTb_tables_1_2 31 rfl rfl) tyX3 tyX3_ok nmX3 rfl (by decide +kernel) (by decide) ho hn k
theorem gX11_94 {n : Nat} (hm : m.1.cls = RX11) (hd : decode m.2.1 pc = .ok (.getfield 94, 3)) (hn : aIs D n 1 0) (k : aV l m d D scr (pc + 3) lv (.int (x.1 n 0) :: st) x Q) : aV l m d D scr pc lv (.ref n :: st) x Q :=
  a_get (ci := 1) (j := 0) hd rfl iwX1 rfl (by decide) (by decide) (by rw [hm]; exact aTb_tables_1_2 182 rfl rfl) hn k
theorem pX11_94 {n : Nat} {v : Int32} (hm : m.1.cls = RX11) (hd : decode m.2.1 pc = .ok (.putfield 94, 3)) (hn : aIs D n 1 0) (k : aV l m d D scr (pc + 3) lv st (aWr x n 0 v) Q) : aV l m d D scr pc lv (.int v :: .ref n :: st) x Q :=
  a_put (ci := 1) (j := 0) hd rfl iwX1 rfl (by decide) (by decide) (by rw [hm]; exact aTb_tables_1_2 182 rfl rfl) tyX1 tyX1_ok nmX1 rfl (by decide +kernel) (by decide) hn k
theorem gX11_95 {n : Nat} (hm : m.1.cls = RX11) (hd : decode m.2.1 pc = .ok (.getfield 95, 3)) (hn : aIs D n 11 0) (k : aV l m d D scr (pc + 3) lv (.int (x.1 n 5) :: st) x Q) : aV l m d D scr pc lv (.ref n :: st) x Q :=
  a_get (ci := 11) (j := 5) hd rfl iwX11 rfl (by decide) (by decide) (by rw [hm]; exact aTb_tables_1_3 1 rfl rfl) hn k
theorem pX11_95 {n : Nat} {v : Int32} (hm : m.1.cls = RX11) (hd : decode m.2.1 pc = .ok (.putfield 95, 3)) (hn : aIs D n 11 0) (hb : v = 0 ∨ v = 1) (k : aV l m d D scr (pc + 3) lv st (aWr x n 5 v) Q) : aV l m d D scr pc lv (.int v :: .ref n :: st) x Q :=
  a_putZ (ci := 11) (j := 5) hd rfl iwX11 rfl (by decide) (by decide) (by rw [hm]; exact aTb_tables_1_3 1 rfl rfl) tyX11 tyX11_ok nmX11 rfl (by decide +kernel) (by decide) hb hn k
theorem gX11_99 {n : Nat} (hm : m.1.cls = RX11) (hd : decode m.2.1 pc = .ok (.getfield 99, 3)) (hn : aIs D n 8 0) (k : aV l m d D scr (pc + 3) lv (.int (x.1 n 0) :: st) x Q) : aV l m d D scr pc lv (.ref n :: st) x Q :=
  a_get (ci := 8) (j := 0) hd rfl iwX8 rfl (by decide) (by decide) (by rw [hm]; exact aTb_tables_1_1 151 rfl rfl) hn k
theorem gX11_102 {n : Nat} (hm : m.1.cls = RX11) (hd : decode m.2.1 pc = .ok (.getfield 102, 3)) (hn : aIs D n 3 0) (k : aV l m d D scr (pc + 3) lv (.int (x.1 n 7) :: st) x Q) : aV l m d D scr pc lv (.ref n :: st) x Q :=
  a_get (ci := 3) (j := 7) hd rfl iwX3 rfl (by decide) (by decide) (by rw [hm]; exact aTb_tables_1_2 38 rfl rfl) hn k
theorem gX11_105 {n : Nat} (hm : m.1.cls = RX11) (hd : decode m.2.1 pc = .ok (.getfield 105, 3)) (hn : aIs D n 3 0) (k : aV l m d D scr (pc + 3) lv (.int (x.1 n 8) :: st) x Q) : aV l m d D scr pc lv (.ref n :: st) x Q :=
  a_get (ci := 3) (j := 8) hd rfl iwX3 rfl (by decide) (by decide) (by rw [hm]; exact aTb_tables_1_2 40 rfl rfl) hn k
theorem gX11_108 {n : Nat} (hm : m.1.cls = RX11) (hd : decode m.2.1 pc = .ok (.getfield 108, 3)) (hn : aIs D n 8 0) (k : aV l m d D scr (pc + 3) lv (.ref (n + 3) :: st) x Q) : aV l m d D scr pc lv (.ref n :: st) x Q :=
  a_get (ci := 8) (j := 2) hd rfl iwX8 rfl (by decide) (by decide) (by rw [hm]; exact aTb_tables_1_1 159 rfl rfl) hn k
theorem gX11_112 {n : Nat} (hm : m.1.cls = RX11) (hd : decode m.2.1 pc = .ok (.getfield 112, 3)) (hn : aIs D n 8 0) (k : aV l m d D scr (pc + 3) lv (.int (x.1 n 1) :: st) x Q) : aV l m d D scr pc lv (.ref n :: st) x Q :=
  a_get (ci := 8) (j := 1) hd rfl iwX8 rfl (by decide) (by decide) (by rw [hm]; exact aTb_tables_1_1 156 rfl rfl) hn k
theorem gX11_119 {n : Nat} (hm : m.1.cls = RX11) (hd : decode m.2.1 pc = .ok (.getfield 119, 3)) (hn : aIs D n 8 0) (k : aV l m d D scr (pc + 3) lv (.ref (n + 6) :: st) x Q) : aV l m d D scr pc lv (.ref n :: st) x Q :=
  a_get (ci := 8) (j := 5) hd rfl iwX8 rfl (by decide) (by decide) (by rw [hm]; exact aTb_tables_1_1 170 rfl rfl) hn k
theorem gX11_122 {n : Nat} (hm : m.1.cls = RX11) (hd : decode m.2.1 pc = .ok (.getfield 122, 3)) (hn : aIs D n 8 0) (k : aV l m d D scr (pc + 3) lv (.int (x.1 n 4) :: st) x Q) : aV l m d D scr pc lv (.ref n :: st) x Q :=
  a_get (ci := 8) (j := 4) hd rfl iwX8 rfl (by decide) (by decide) (by rw [hm]; exact aTb_tables_1_1 167 rfl rfl) hn k
theorem gX11_135 {n : Nat} (hm : m.1.cls = RX11) (hd : decode m.2.1 pc = .ok (.getfield 135, 3)) (hn : aIs D n 6 0) (k : aV l m d D scr (pc + 3) lv (.ref (n + 10) :: st) x Q) : aV l m d D scr pc lv (.ref n :: st) x Q :=
  a_get (ci := 6) (j := 9) hd rfl iwX6 rfl (by decide) (by decide) (by rw [hm]; exact aTb_tables_1_2 92 rfl rfl) hn k
theorem gX11_138 {n : Nat} (hm : m.1.cls = RX11) (hd : decode m.2.1 pc = .ok (.getfield 138, 3)) (hn : aIs D n 8 0) (k : aV l m d D scr (pc + 3) lv (.ref (n + 8) :: st) x Q) : aV l m d D scr pc lv (.ref n :: st) x Q :=
  a_get (ci := 8) (j := 7) hd rfl iwX8 rfl (by decide) (by decide) (by rw [hm]; exact aTb_tables_1_1 177 rfl rfl) hn k
theorem gX11_141 {n : Nat} (hm : m.1.cls = RX11) (hd : decode m.2.1 pc = .ok (.getfield 141, 3)) (hn : aIs D n 8 0) (k : aV l m d D scr (pc + 3) lv (.ref (n + 9) :: st) x Q) : aV l m d D scr pc lv (.ref n :: st) x Q :=
  a_get (ci := 8) (j := 8) hd rfl iwX8 rfl (by decide) (by decide) (by rw [hm]; exact aTb_tables_1_1 180 rfl rfl) hn k
theorem gX11_144 {n : Nat} (hm : m.1.cls = RX11) (hd : decode m.2.1 pc = .ok (.getfield 144, 3)) (hn : aIs D n 6 0) (k : aV l m d D scr (pc + 3) lv (.ref (n + 11) :: st) x Q) : aV l m d D scr pc lv (.ref n :: st) x Q :=
  a_get (ci := 6) (j := 10) hd rfl iwX6 rfl (by decide) (by decide) (by rw [hm]; exact aTb_tables_1_2 97 rfl rfl) hn k
theorem gX11_147 {n : Nat} (hm : m.1.cls = RX11) (hd : decode m.2.1 pc = .ok (.getfield 147, 3)) (hn : aIs D n 6 0) (k : aV l m d D scr (pc + 3) lv (.ref (n + 12) :: st) x Q) : aV l m d D scr pc lv (.ref n :: st) x Q :=
  a_get (ci := 6) (j := 11) hd rfl iwX6 rfl (by decide) (by decide) (by rw [hm]; exact aTb_tables_1_2 100 rfl rfl) hn k
theorem gX11_150 {n : Nat} (hm : m.1.cls = RX11) (hd : decode m.2.1 pc = .ok (.getfield 150, 3)) (hn : aIs D n 6 0) (k : aV l m d D scr (pc + 3) lv (.int (x.1 n 3) :: st) x Q) : aV l m d D scr pc lv (.ref n :: st) x Q :=
  a_get (ci := 6) (j := 3) hd rfl iwX6 rfl (by decide) (by decide) (by rw [hm]; exact aTb_tables_1_2 77 rfl rfl) hn k
theorem gX11_173 {n : Nat} (hm : m.1.cls = RX11) (hd : decode m.2.1 pc = .ok (.getfield 173, 3)) (hn : aIs D n 6 0) (k : aV l m d D scr (pc + 3) lv (.ref (n + 7) :: st) x Q) : aV l m d D scr pc lv (.ref n :: st) x Q :=
  a_get (ci := 6) (j := 6) hd rfl iwX6 rfl (by decide) (by decide) (by rw [hm]; exact aTb_tables_1_2 83 rfl rfl) hn k
theorem gX11_176 {n : Nat} (hm : m.1.cls = RX11) (hd : decode m.2.1 pc = .ok (.getfield 176, 3)) (hn : aIs D n 6 0) (k : aV l m d D scr (pc + 3) lv (.ref (n + 8) :: st) x Q) : aV l m d D scr pc lv (.ref n :: st) x Q :=
  a_get (ci := 6) (j := 7) hd rfl iwX6 rfl (by decide) (by decide) (by rw [hm]; exact aTb_tables_1_2 86 rfl rfl) hn k
theorem gX11_179 {n : Nat} (hm : m.1.cls = RX11) (hd : decode m.2.1 pc = .ok (.getfield 179, 3)) (hn : aIs D n 6 0) (k : aV l m d D scr (pc + 3) lv (.ref (n + 9) :: st) x Q) : aV l m d D scr pc lv (.ref n :: st) x Q :=
  a_get (ci := 6) (j := 8) hd rfl iwX6 rfl (by decide) (by decide) (by rw [hm]; exact aTb_tables_1_2 89 rfl rfl) hn k
theorem gX11_186 {n : Nat} (hm : m.1.cls = RX11) (hd : decode m.2.1 pc = .ok (.getfield 186, 3)) (hn : aIs D n 8 0) (k : aV l m d D scr (pc + 3) lv (.int (x.1 n 10) :: st) x Q) : aV l m d D scr pc lv (.ref n :: st) x Q :=
  a_get (ci := 8) (j := 10) hd rfl iwX8 rfl (by decide) (by decide) (by rw [hm]; exact aTb_tables_1_1 188 rfl rfl) hn k
theorem gX11_195 {n : Nat} (hm : m.1.cls = RX11) (hd : decode m.2.1 pc = .ok (.getfield 195, 3)) (hn : aIs D n 8 0) (k : aV l m d D scr (pc + 3) lv (.ref (n + 131) :: st) x Q) : aV l m d D scr pc lv (.ref n :: st) x Q :=
  a_get (ci := 8) (j := 20) hd rfl iwX8 rfl (by decide) (by decide) (by rw [hm]; exact aTb_tables_1_1 217 rfl rfl) hn k
theorem gX11_203 {n : Nat} (hm : m.1.cls = RX11) (hd : decode m.2.1 pc = .ok (.getfield 203, 3)) (hn : aIs D n 8 0) (k : aV l m d D scr (pc + 3) lv (.ref (n + 132) :: st) x Q) : aV l m d D scr pc lv (.ref n :: st) x Q :=
  a_get (ci := 8) (j := 21) hd rfl iwX8 rfl (by decide) (by decide) (by rw [hm]; exact aTb_tables_1_1 221 rfl rfl) hn k
theorem gX11_218 {n : Nat} (hm : m.1.cls = RX11) (hd : decode m.2.1 pc = .ok (.getfield 218, 3)) (hn : aIs D n 8 0) (k : aV l m d D scr (pc + 3) lv (.int (x.1 n 18) :: st) x Q) : aV l m d D scr pc lv (.ref n :: st) x Q :=
  a_get (ci := 8) (j := 18) hd rfl iwX8 rfl (by decide) (by decide) (by rw [hm]; exact aTb_tables_1_1 211 rfl rfl) hn k
theorem gX11_221 {n : Nat} (hm : m.1.cls = RX11) (hd : decode m.2.1 pc = .ok (.getfield 221, 3)) (hn : aIs D n 6 0) (k : aV l m d D scr (pc + 3) lv (.int (x.1 n 0) :: st) x Q) : aV l m d D scr pc lv (.ref n :: st) x Q :=
  a_get (ci := 6) (j := 0) hd rfl iwX6 rfl (by decide) (by decide) (by rw [hm]; exact aTb_tables_1_2 70 rfl rfl) hn k
theorem gX11_234 {n : Nat} (hm : m.1.cls = RX11) (hd : decode m.2.1 pc = .ok (.getfield 234, 3)) (hn : aIs D n 6 0) (k : aV l m d D scr (pc + 3) lv (.int (x.1 n 1) :: st) x Q) : aV l m d D scr pc lv (.ref n :: st) x Q :=
  a_get (ci := 6) (j := 1) hd rfl iwX6 rfl (by decide) (by decide) (by rw [hm]; exact aTb_tables_1_2 73 rfl rfl) hn k
theorem gX11_240 {n : Nat} (hm : m.1.cls = RX11) (hd : decode m.2.1 pc = .ok (.getfield 240, 3)) (hn : aIs D n 5 0) (k : aV l m d D scr (pc + 3) lv (.int (x.1 n 0) :: st) x Q) : aV l m d D scr pc lv (.ref n :: st) x Q :=
  a_get (ci := 5) (j := 0) hd rfl iwX5 rfl (by decide) (by decide) (by rw [hm]; exact aTb_tables_1_2 148 rfl rfl) hn k
theorem gX11_256 {n : Nat} (hm : m.1.cls = RX11) (hd : decode m.2.1 pc = .ok (.getfield 256, 3)) (hn : aIs D n 1 0) (k : aV l m d D scr (pc + 3) lv (.ref (n + 2) :: st) x Q) : aV l m d D scr pc lv (.ref n :: st) x Q :=
  a_get (ci := 1) (j := 1) hd rfl iwX1 rfl (by decide) (by decide) (by rw [hm]; exact aTb_tables_1_2 184 rfl rfl) hn k
theorem gX11_259 {n : Nat} (hm : m.1.cls = RX11) (hd : decode m.2.1 pc = .ok (.getfield 259, 3)) (hn : aIs D n 1 0) (k : aV l m d D scr (pc + 3) lv (.ref (n + 3) :: st) x Q) : aV l m d D scr pc lv (.ref n :: st) x Q :=
  a_get (ci := 1) (j := 2) hd rfl iwX1 rfl (by decide) (by decide) (by rw [hm]; exact aTb_tables_1_2 186 rfl rfl) hn k
theorem gX11_262 {n : Nat} (hm : m.1.cls = RX11) (hd : decode m.2.1 pc = .ok (.getfield 262, 3)) (hn : aIs D n 1 0) (k : aV l m d D scr (pc + 3) lv (.ref (n + 4) :: st) x Q) : aV l m d D scr pc lv (.ref n :: st) x Q :=
  a_get (ci := 1) (j := 3) hd rfl iwX1 rfl (by decide) (by decide) (by rw [hm]; exact aTb_tables_1_2 188 rfl rfl) hn k
theorem gX11_265 {n : Nat} (hm : m.1.cls = RX11) (hd : decode m.2.1 pc = .ok (.getfield 265, 3)) (hn : aIs D n 1 0) (k : aV l m d D scr (pc + 3) lv (.ref (n + 5) :: st) x Q) : aV l m d D scr pc lv (.ref n :: st) x Q :=
  a_get (ci := 1) (j := 4) hd rfl iwX1 rfl (by decide) (by decide) (by rw [hm]; exact aTb_tables_1_2 190 rfl rfl) hn k
theorem gX11_287 {n : Nat} (hm : m.1.cls = RX11) (hd : decode m.2.1 pc = .ok (.getfield 287, 3)) (hn : aIs D n 6 0) (k : aV l m d D scr (pc + 3) lv (.int (x.1 n 2) :: st) x Q) : aV l m d D scr pc lv (.ref n :: st) x Q :=
  a_get (ci := 6) (j := 2) hd rfl iwX6 rfl (by decide) (by decide) (by rw [hm]; exact aTb_tables_1_2 75 rfl rfl) hn k
theorem pX11_287 {n : Nat} {v : Int32} (hm : m.1.cls = RX11) (hd : decode m.2.1 pc = .ok (.putfield 287, 3)) (hn : aIs D n 6 0) (k : aV l m d D scr (pc + 3) lv st (aWr x n 2 v) Q) : aV l m d D scr pc lv (.int v :: .ref n :: st) x Q :=
  a_put (ci := 6) (j := 2) hd rfl iwX6 rfl (by decide) (by decide) (by rw [hm]; exact aTb_tables_1_2 75 rfl rfl) tyX6 tyX6_ok nmX6 rfl (by decide +kernel) (by decide) hn k
theorem gX11_292 {n : Nat} (hm : m.1.cls = RX11) (hd : decode m.2.1 pc = .ok (.getfield 292, 3)) (hn : aIs D n 8 0) (k : aV l m d D scr (pc + 3) lv (.int (x.1 n 16) :: st) x Q) : aV l m d D scr pc lv (.ref n :: st) x Q :=
  a_get (ci := 8) (j := 16) hd rfl iwX8 rfl (by decide) (by decide) (by rw [hm]; exact aTb_tables_1_1 205 rfl rfl) hn k
theorem gX11_317 {n : Nat} (hm : m.1.cls = RX11) (hd : decode m.2.1 pc = .ok (.getfield 317, 3)) (hn : aIs D n 4 0) (k : aV l m d D scr (pc + 3) lv (.int (x.1 n 1) :: st) x Q) : aV l m d D scr pc lv (.ref n :: st) x Q :=
  a_get (ci := 4) (j := 1) hd rfl iwX4 rfl (by decide) (by decide) (by rw [hm]; exact aTb_tables_1_2 211 rfl rfl) hn k
theorem gX11_320 {n : Nat} (hm : m.1.cls = RX11) (hd : decode m.2.1 pc = .ok (.getfield 320, 3)) (hn : aIs D n 4 0) (k : aV l m d D scr (pc + 3) lv (.ref (n + 1) :: st) x Q) : aV l m d D scr pc lv (.ref n :: st) x Q :=
  a_get (ci := 4) (j := 0) hd rfl iwX4 rfl (by decide) (by decide) (by rw [hm]; exact aTb_tables_1_2 209 rfl rfl) hn k
theorem pX11_341 {n : Nat} {v : Int32} (hm : m.1.cls = RX11) (hd : decode m.2.1 pc = .ok (.putfield 341, 3)) (hn : aIs D n 5 0) (k : aV l m d D scr (pc + 3) lv st (aWr x n 1 v) Q) : aV l m d D scr pc lv (.int v :: .ref n :: st) x Q :=
  a_put (ci := 5) (j := 1) hd rfl iwX5 rfl (by decide) (by decide) (by rw [hm]; exact aTb_tables_1_2 150 rfl rfl) tyX5 tyX5_ok nmX5 rfl (by decide +kernel) (by decide) hn k
theorem gX11_360 {n : Nat} (hm : m.1.cls = RX11) (hd : decode m.2.1 pc = .ok (.getfield 360, 3)) (hn : aIs D n 4 0) (k : aV l m d D scr (pc + 3) lv (.ref (n + 3) :: st) x Q) : aV l m d D scr pc lv (.ref n :: st) x Q :=
  a_get (ci := 4) (j := 2) hd rfl iwX4 rfl (by decide) (by decide) (by rw [hm]; exact aTb_tables_1_2 213 rfl rfl) hn k
theorem gX12_7 {n : Nat} (hm : m.1.cls = RX12) (hd : decode m.2.1 pc = .ok (.getfield 7, 3)) (hn : aIs D n 12 0) (k : aV l m d D scr (pc + 3) lv (.ref (n + 1) :: st) x Q) : aV l m d D scr pc lv (.ref n :: st) x Q :=
  a_get (ci := 12) (j := 0) hd rfl iwX12 rfl (by decide) (by decide) (by rw [hm]; exact aTb_tables_1_6 89 rfl rfl) hn k
theorem gX12_13 {n : Nat} (hm : m.1.cls = RX12) (hd : decode m.2.1 pc = .ok (.getfield 13, 3)) (hn : aIs D n 12 0) (k : aV l m d D scr (pc + 3) lv (.ref (n + 4) :: st) x Q) : aV l m d D scr pc lv (.ref n :: st) x Q :=
  a_get (ci := 12) (j := 3) hd rfl iwX12 rfl (by decide) (by decide) (by rw [hm]; exact aTb_tables_1_6 92 rfl rfl) hn k
theorem gX12_16 {n : Nat} (hm : m.1.cls = RX12) (hd : decode m.2.1 pc = .ok (.getfield 16, 3)) (hn : aIs D n 12 0) (k : aV l m d D scr (pc + 3) lv (.int (x.1 n 5) :: st) x Q) : aV l m d D scr pc lv (.ref n :: st) x Q :=
  a_get (ci := 12) (j := 5) hd rfl iwX12 rfl (by decide) (by decide) (by rw [hm]; exact aTb_tables_1_6 94 rfl rfl) hn k
theorem pX12_16 {n : Nat} {v : Int32} (hm : m.1.cls = RX12) (hd : decode m.2.1 pc = .ok (.putfield 16, 3)) (hn : aIs D n 12 0) (k : aV l m d D scr (pc + 3) lv st (aWr x n 5 v) Q) : aV l m d D scr pc lv (.int v :: .ref n :: st) x Q :=
  a_put (ci := 12) (j := 5) hd rfl iwX12 rfl (by decide) (by decide) (by rw [hm]; exact aTb_tables_1_6 94 rfl rfl) tyX12 tyX12_ok nmX12 rfl (by decide +kernel) (by decide) hn k
theorem gX12_20 {n : Nat} (hm : m.1.cls = RX12) (hd : decode m.2.1 pc = .ok (.getfield 20, 3)) (hn : aIs D n 12 0) (k : aV l m d D scr (pc + 3) lv (.ref (n + 25) :: st) x Q) : aV l m d D scr pc lv (.ref n :: st) x Q :=
  a_get (ci := 12) (j := 24) hd rfl iwX12 rfl (by decide) (by decide) (by rw [hm]; exact aTb_tables_1_6 113 rfl rfl) hn k
theorem gX12_24 {n : Nat} (hm : m.1.cls = RX12) (hd : decode m.2.1 pc = .ok (.getfield 24, 3)) (hn : aIs D n 12 0) (k : aV l m d D scr (pc + 3) lv (.ref (n + 26) :: st) x Q) : aV l m d D scr pc lv (.ref n :: st) x Q :=
  a_get (ci := 12) (j := 25) hd rfl iwX12 rfl (by decide) (by decide) (by rw [hm]; exact aTb_tables_1_6 114 rfl rfl) hn k
theorem gX12_27 {n : Nat} (hm : m.1.cls = RX12) (hd : decode m.2.1 pc = .ok (.getfield 27, 3)) (hn : aIs D n 12 0) (k : aV l m d D scr (pc + 3) lv (.ref (n + 27) :: st) x Q) : aV l m d D scr pc lv (.ref n :: st) x Q :=
  a_get (ci := 12) (j := 26) hd rfl iwX12 rfl (by decide) (by decide) (by rw [hm]; exact aTb_tables_1_6 115 rfl rfl) hn k
theorem gX12_30 {n : Nat} (hm : m.1.cls = RX12) (hd : decode m.2.1 pc = .ok (.getfield 30, 3)) (hn : aIs D n 12 0) (k : aV l m d D scr (pc + 3) lv (.ref (n + 28) :: st) x Q) : aV l m d D scr pc lv (.ref n :: st) x Q :=
  a_get (ci := 12) (j := 27) hd rfl iwX12 rfl (by decide) (by decide) (by rw [hm]; exact aTb_tables_1_6 116 rfl rfl) hn k
theorem gX12_33 {n : Nat} (hm : m.1.cls = RX12) (hd : decode m.2.1 pc = .ok (.getfield 33, 3)) (hn : aIs D n 12 0) (k : aV l m d D scr (pc + 3) lv (.ref (n + 29) :: st) x Q) : aV l m d D scr pc lv (.ref n :: st) x Q :=
  a_get (ci := 12) (j := 28) hd rfl iwX12 rfl (by decide) (by decide) (by rw [hm]; exact aTb_tables_1_6 117 rfl rfl) hn k
theorem gX12_36 {n : Nat} (hm : m.1.cls = RX12) (hd : decode m.2.1 pc = .ok (.getfield 36, 3)) (hn : aIs D n 12 0) (k : aV l m d D scr (pc + 3) lv (.ref (n + 30) :: st) x Q) : aV l m d D scr pc lv (.ref n :: st) x Q :=
  a_get (ci := 12) (j := 29) hd rfl iwX12 rfl (by decide) (by decide) (by rw [hm]; exact aTb_tables_1_6 118 rfl rfl) hn k
theorem gX12_39 {n : Nat} (hm : m.1.cls = RX12) (hd : decode m.2.1 pc = .ok (.getfield 39, 3)) (hn : aIs D n 12 0) (k : aV l m d D scr (pc + 3) lv (.ref (n + 31) :: st) x Q) : aV l m d D scr pc lv (.ref n :: st) x Q :=
  a_get (ci := 12) (j := 30) hd rfl iwX12 rfl (by decide) (by decide) (by rw [hm]; exact aTb_tables_1_6 119 rfl rfl) hn k
theorem gX12_42 {n : Nat} (hm : m.1.cls = RX12) (hd : decode m.2.1 pc = .ok (.getfield 42, 3)) (hn : aIs D n 12 0) (k : aV l m d D scr (pc + 3) lv (.ref (n + 32) :: st) x Q) : aV l m d D scr pc lv (.ref n :: st) x Q :=
  a_get (ci := 12) (j := 31) hd rfl iwX12 rfl (by decide) (by decide) (by rw [hm]; exact aTb_tables_1_6 120 rfl rfl) hn k
theorem gX12_45 {n : Nat} (hm : m.1.cls = RX12) (hd : decode m.2.1 pc = .ok (.getfield 45, 3)) (hn : aIs D n 12 0) (k : aV l m d D scr (pc + 3) lv (.ref (n + 33) :: st) x Q) : aV l m d D scr pc lv (.ref n :: st) x Q :=
  a_get (ci := 12) (j := 32) hd rfl iwX12 rfl (by decide) (by decide) (by rw [hm]; exact aTb_tables_1_6 121 rfl rfl) hn k
theorem gX12_48 {n : Nat} (hm : m.1.cls = RX12) (hd : decode m.2.1 pc = .ok (.getfield 48, 3)) (hn : aIs D n 12 0) (k : aV l m d D scr (pc + 3) lv (.ref (n + 34) :: st) x Q) : aV l m d D scr pc lv (.ref n :: st) x Q :=
  a_get (ci := 12) (j := 33) hd rfl iwX12 rfl (by decide) (by decide) (by rw [hm]; exact aTb_tables_1_6 122 rfl rfl) hn k
theorem gX12_51 {n : Nat} (hm : m.1.cls = RX12) (hd : decode m.2.1 pc = .ok (.getfield 51, 3)) (hn : aIs D n 12 0) (k : aV l m d D scr (pc + 3) lv (.ref (n + 35) :: st) x Q) : aV l m d D scr pc lv (.ref n :: st) x Q :=
  a_get (ci := 12) (j := 34) hd rfl iwX12 rfl (by decide) (by decide) (by rw [hm]; exact aTb_tables_1_6 123 rfl rfl) hn k
theorem gX12_54 {n : Nat} (hm : m.1.cls = RX12) (hd : decode m.2.1 pc = .ok (.getfield 54, 3)) (hn : aIs D n 12 0) (k : aV l m d D scr (pc + 3) lv (.ref (n + 36) :: st) x Q) : aV l m d D scr pc lv (.ref n :: st) x Q :=
  a_get (ci := 12) (j := 35) hd rfl iwX12 rfl (by decide) (by decide) (by rw [hm]; exact aTb_tables_1_6 124 rfl rfl) hn k
theorem gX12_57 {n : Nat} (hm : m.1.cls = RX12) (hd : decode m.2.1 pc = .ok (.getfield 57, 3)) (hn : aIs D n 12 0) (k : aV l m d D scr (pc + 3) lv (.ref (n + 37) :: st) x Q) : aV l m d D scr pc lv (.ref n :: st) x Q :=
  a_get (ci := 12) (j := 36) hd rfl iwX12 rfl (by decide) (by decide) (by rw [hm]; exact aTb_tables_1_6 125 rfl rfl) hn k
theorem gX12_60 {n : Nat} (hm : m.1.cls = RX12) (hd : decode m.2.1 pc = .ok (.getfield 60, 3)) (hn : aIs D n 12 0) (k : aV l m d D scr (pc + 3) lv (.ref (n + 38) :: st) x Q) : aV l m d D scr pc lv (.ref n :: st) x Q :=
  a_get (ci := 12) (j := 37) hd rfl iwX12 rfl (by decide) (by decide) (by rw [hm]; exact aTb_tables_1_6 126 rfl rfl) hn k
theorem gX12_63 {n : Nat} (hm : m.1.cls = RX12) (hd : decode m.2.1 pc = .ok (.getfield 63, 3)) (hn : aIs D n 12 0) (k : aV l m d D scr (pc + 3) lv (.ref (n + 39) :: st) x Q) : aV l m d D scr pc lv (.ref n :: st) x Q :=
  a_get (ci := 12) (j := 38) hd rfl iwX12 rfl (by decide) (by decide) (by rw [hm]; exact aTb_tables_1_6 127 rfl rfl) hn k
theorem gX12_66 {n : Nat} (hm : m.1.cls = RX12) (hd : decode m.2.1 pc = .ok (.getfield 66, 3)) (hn : aIs D n 12 0) (k : aV l m d D scr (pc + 3) lv (.ref (n + 40) :: st) x Q) : aV l m d D scr pc lv (.ref n :: st) x Q :=
  a_get (ci := 12) (j := 39) hd rfl iwX12 rfl (by decide) (by decide) (by rw [hm]; exact aTb_tables_1_6 128 rfl rfl) hn k
theorem gX12_69 {n : Nat} (hm : m.1.cls = RX12) (hd : decode m.2.1 pc = .ok (.getfield 69, 3)) (hn : aIs D n 12 0) (k : aV l m d D scr (pc + 3) lv (.ref (n + 41) :: st) x Q) : aV l m d D scr pc lv (.ref n :: st) x Q :=
  a_get (ci := 12) (j := 40) hd rfl iwX12 rfl (by decide) (by decide) (by rw [hm]; exact aTb_tables_1_6 129 rfl rfl) hn k
theorem gX12_72 {n : Nat} (hm : m.1.cls = RX12) (hd : decode m.2.1 pc = .ok (.getfield 72, 3)) (hn : aIs D n 12 0) (k : aV l m d D scr (pc + 3) lv (.ref (n + 42) :: st) x Q) : aV l m d D scr pc lv (.ref n :: st) x Q :=
  a_get (ci := 12) (j := 41) hd rfl iwX12 rfl (by decide) (by decide) (by rw [hm]; exact aTb_tables_1_6 130 rfl rfl) hn k
theorem gX12_75 {n : Nat} (hm : m.1.cls = RX12) (hd : decode m.2.1 pc = .ok (.getfield 75, 3)) (hn : aIs D n 12 0) (k : aV l m d D scr (pc + 3) lv (.ref (n + 43) :: st) x Q) : aV l m d D scr pc lv (.ref n :: st) x Q :=
  a_get (ci := 12) (j := 42) hd rfl iwX12 rfl (by decide) (by decide) (by rw [hm]; exact aTb_tables_1_6 131 rfl rfl) hn k
theorem gX12_78 {n : Nat} (hm : m.1.cls = RX12) (hd : decode m.2.1 pc = .ok (.getfield 78, 3)) (hn : aIs D n 12 0) (k : aV l m d D scr (pc + 3) lv (.ref (n + 44) :: st) x Q) : aV l m d D scr pc lv (.ref n :: st) x Q :=
  a_get (ci := 12) (j := 43) hd rfl iwX12 rfl (by decide) (by decide) (by rw [hm]; exact aTb_tables_1_6 132 rfl rfl) hn k
theorem gX12_81 {n : Nat} (hm : m.1.cls = RX12) (hd : decode m.2.1 pc = .ok (.getfield 81, 3)) (hn : aIs D n 12 0) (k : aV l m d D scr (pc + 3) lv (.ref (n + 45) :: st) x Q) : aV l m d D scr pc lv (.ref n :: st) x Q :=
  a_get (ci := 12) (j := 44) hd rfl iwX12 rfl (by decide) (by decide) (by rw [hm]; exact aTb_tables_1_6 133 rfl rfl) hn k
theorem gX12_84 {n : Nat} (hm : m.1.cls = RX12) (hd : decode m.2.1 pc = .ok (.getfield 84, 3)) (hn : aIs D n 12 0) (k : aV l m d D scr (pc + 3) lv (.ref (n + 46) :: st) x Q) : aV l m d D scr pc lv (.ref n :: st) x Q :=
  a_get (ci := 12) (j := 45) hd rfl iwX12 rfl (by decide) (by decide) (by rw [hm]; exact aTb_tables_1_6 134 rfl rfl) hn k
theorem gX12_87 {n : Nat} (hm : m.1.cls = RX12) (hd : decode m.2.1 pc = .ok (.getfield 87, 3)) (hn : aIs D n 12 0) (k : aV l m d D scr (pc + 3) lv (.ref (n + 47) :: st) x Q) : aV l m d D scr pc lv (.ref n :: st) x Q :=
  a_get (ci := 12) (j := 46) hd rfl iwX12 rfl (by decide) (by decide) (by rw [hm]; exact aTb_tables_1_6 135 rfl rfl) hn k
theorem gX12_90 {n : Nat} (hm : m.1.cls = RX12) (hd : decode m.2.1 pc = .ok (.getfield 90, 3)) (hn : aIs D n 12 0) (k : aV l m d D scr (pc + 3) lv (.ref (n + 48) :: st) x Q) : aV l m d D scr pc lv (.ref n :: st) x Q :=
  a_get (ci := 12) (j := 47) hd rfl iwX12 rfl (by decide) (by decide) (by rw [hm]; exact aTb_tables_1_6 136 rfl rfl) hn k
theorem gX12_93 {n : Nat} (hm : m.1.cls = RX12) (hd : decode m.2.1 pc = .ok (.getfield 93, 3)) (hn : aIs D n 12 0) (k : aV l m d D scr (pc + 3) lv (.ref (n + 49) :: st) x Q) : aV l m d D scr pc lv (.ref n :: st) x Q :=
  a_get (ci := 12) (j := 48) hd rfl iwX12 rfl (by decide) (by decide) (by rw [hm]; exact aTb_tables_1_6 137 rfl rfl) hn k
theorem gX12_96 {n : Nat} (hm : m.1.cls = RX12) (hd : decode m.2.1 pc = .ok (.getfield 96, 3)) (hn : aIs D n 12 0) (k : aV l m d D scr (pc + 3) lv (.ref (n + 50) :: st) x Q) : aV l m d D scr pc lv (.ref n :: st) x Q :=
  a_get (ci := 12) (j := 49) hd rfl iwX12 rfl (by decide) (by decide) (by rw [hm]; exact aTb_tables_1_6 138 rfl rfl) hn k
theorem gX12_99 {n : Nat} (hm : m.1.cls = RX12) (hd : decode m.2.1 pc = .ok (.getfield 99, 3)) (hn : aIs D n 12 0) (k : aV l m d D scr (pc + 3) lv (.ref (n + 57) :: st) x Q) : aV l m d D scr pc lv (.ref n :: st) x Q :=
  a_get (ci := 12) (j := 56) hd rfl iwX12 rfl (by decide) (by decide) (by rw [hm]; exact aTb_tables_1_6 145 rfl rfl) hn k
theorem gX12_103 {n : Nat} (hm : m.1.cls = RX12) (hd : decode m.2.1 pc = .ok (.getfield 103, 3)) (hn : aIs D n 12 0) (k : aV l m d D scr (pc + 3) lv (.ref (n + 58) :: st) x Q) : aV l m d D scr pc lv (.ref n :: st) x Q :=
  a_get (ci := 12) (j := 57) hd rfl iwX12 rfl (by decide) (by decide) (by rw [hm]; exact aTb_tables_1_6 146 rfl rfl) hn k
theorem gX12_106 {n : Nat} (hm : m.1.cls = RX12) (hd : decode m.2.1 pc = .ok (.getfield 106, 3)) (hn : aIs D n 12 0) (k : aV l m d D scr (pc + 3) lv (.ref (n + 60) :: st) x Q) : aV l m d D scr pc lv (.ref n :: st) x Q :=
  a_get (ci := 12) (j := 59) hd rfl iwX12 rfl (by decide) (by decide) (by rw [hm]; exact aTb_tables_1_6 148 rfl rfl) hn k
theorem gX12_109 {n : Nat} (hm : m.1.cls = RX12) (hd : decode m.2.1 pc = .ok (.getfield 109, 3)) (hn : aIs D n 12 0) (k : aV l m d D scr (pc + 3) lv (.ref (n + 61) :: st) x Q) : aV l m d D scr pc lv (.ref n :: st) x Q :=
  a_get (ci := 12) (j := 60) hd rfl iwX12 rfl (by decide) (by decide) (by rw [hm]; exact aTb_tables_1_6 149 rfl rfl) hn k
theorem gX12_112 {n : Nat} (hm : m.1.cls = RX12) (hd : decode m.2.1 pc = .ok (.getfield 112, 3)) (hn : aIs D n 12 0) (k : aV l m d D scr (pc + 3) lv (.ref (n + 62) :: st) x Q) : aV l m d D scr pc lv (.ref n :: st) x Q :=
  a_get (ci := 12) (j := 61) hd rfl iwX12 rfl (by decide) (by decide) (by rw [hm]; exact aTb_tables_1_6 150 rfl rfl) hn k
theorem gX12_115 {n : Nat} (hm : m.1.cls = RX12) (hd : decode m.2.1 pc = .ok (.getfield 115, 3)) (hn : aIs D n 12 0) (k : aV l m d D scr (pc + 3) lv (.ref (n + 63) :: st) x Q) : aV l m d D scr pc lv (.ref n :: st) x Q :=
  a_get (ci := 12) (j := 62) hd rfl iwX12 rfl (by decide) (by decide) (by rw [hm]; exact aTb_tables_1_6 151 rfl rfl) hn k
theorem gX12_118 {n : Nat} (hm : m.1.cls = RX12) (hd : decode m.2.1 pc = .ok (.getfield 118, 3)) (hn : aIs D n 12 0) (k : aV l m d D scr (pc + 3) lv (.ref (n + 64) :: st) x Q) : aV l m d D scr pc lv (.ref n :: st) x Q :=
  a_get (ci := 12) (j := 63) hd rfl iwX12 rfl (by decide) (by decide) (by rw [hm]; exact aTb_tables_1_6 152 rfl rfl) hn k
theorem gX12_121 {n : Nat} (hm : m.1.cls = RX12) (hd : decode m.2.1 pc = .ok (.getfield 121, 3)) (hn : aIs D n 12 0) (k : aV l m d D scr (pc + 3) lv (.ref (n + 65) :: st) x Q) : aV l m d D scr pc lv (.ref n :: st) x Q :=
  a_get (ci := 12) (j := 64) hd rfl iwX12 rfl (by decide) (by decide) (by rw [hm]; exact aTb_tables_1_6 153 rfl rfl) hn k
theorem gX12_124 {n : Nat} (hm : m.1.cls = RX12) (hd : decode m.2.1 pc = .ok (.getfield 124, 3)) (hn : aIs D n 12 0) (k : aV l m d D scr (pc + 3) lv (.ref (n + 66) :: st) x Q) : aV l m d D scr pc lv (.ref n :: st) x Q :=
  a_get (ci := 12) (j := 65) hd rfl iwX12 rfl (by decide) (by decide) (by rw [hm]; exact aTb_tables_1_6 154 rfl rfl) hn k
theorem gX12_127 {n : Nat} (hm : m.1.cls = RX12) (hd : decode m.2.1 pc = .ok (.getfield 127, 3)) (hn : aIs D n 12 0) (k : aV l m d D scr (pc + 3) lv (.ref (n + 67) :: st) x Q) : aV l m d D scr pc lv (.ref n :: st) x Q :=
  a_get (ci := 12) (j := 66) hd rfl iwX12 rfl (by decide) (by decide) (by rw [hm]; exact aTb_tables_1_6 155 rfl rfl) hn k
theorem gX12_130 {n : Nat} (hm : m.1.cls = RX12) (hd : decode m.2.1 pc = .ok (.getfield 130, 3)) (hn : aIs D n 12 0) (k : aV l m d D scr (pc + 3) lv (.ref (n + 68) :: st) x Q) : aV l m d D scr pc lv (.ref n :: st) x Q :=
  a_get (ci := 12) (j := 67) hd rfl iwX12 rfl (by decide) (by decide) (by rw [hm]; exact aTb_tables_1_6 156 rfl rfl) hn k
theorem gX12_133 {n : Nat} (hm : m.1.cls = RX12) (hd : decode m.2.1 pc = .ok (.getfield 133, 3)) (hn : aIs D n 12 0) (k : aV l m d D scr (pc + 3) lv (.ref (n + 69) :: st) x Q) : aV l m d D scr pc lv (.ref n :: st) x Q :=
  a_get (ci := 12) (j := 68) hd rfl iwX12 rfl (by decide) (by decide) (by rw [hm]; exact aTb_tables_1_6 157 rfl rfl) hn k
theorem gX12_136 {n : Nat} (hm : m.1.cls = RX12) (hd : decode m.2.1 pc = .ok (.getfield 136, 3)) (hn : aIs D n 12 0) (k : aV l m d D scr (pc + 3) lv (.ref (n + 76) :: st) x Q) : aV l m d D scr pc lv (.ref n :: st) x Q :=
  a_get (ci := 12) (j := 75) hd rfl iwX12 rfl (by decide) (by decide) (by rw [hm]; exact aTb_tables_1_6 164 rfl rfl) hn k
theorem gX12_139 {n : Nat} (hm : m.1.cls = RX12) (hd : decode m.2.1 pc = .ok (.getfield 139, 3)) (hn : aIs D n 12 0) (k : aV l m d D scr (pc + 3) lv (.ref (n + 77) :: st) x Q) : aV l m d D scr pc lv (.ref n :: st) x Q :=
  a_get (ci := 12) (j := 76) hd rfl iwX12 rfl (by decide) (by decide) (by rw [hm]; exact aTb_tables_1_6 165 rfl rfl) hn k
theorem gX12_142 {n : Nat} (hm : m.1.cls = RX12) (hd : decode m.2.1 pc = .ok (.getfield 142, 3)) (hn : aIs D n 12 0) (k : aV l m d D scr (pc + 3) lv (.ref (n + 78) :: st) x Q) : aV l m d D scr pc lv (.ref n :: st) x Q :=
  a_get (ci := 12) (j := 77) hd rfl iwX12 rfl (by decide) (by decide) (by rw [hm]; exact aTb_tables_1_6 166 rfl rfl) hn k
theorem gX12_145 {n : Nat} (hm : m.1.cls = RX12) (hd : decode m.2.1 pc = .ok (.getfield 145, 3)) (hn : aIs D n 12 0) (k : aV l m d D scr (pc + 3) lv (.int (x.1 n 79) :: st) x Q) : aV l m d D scr pc lv (.ref n :: st) x Q :=
  a_get (ci := 12) (j := 79) hd rfl iwX12 rfl (by decide) (by decide) (by rw [hm]; exact aTb_tables_1_6 168 rfl rfl) hn k
theorem pX12_145 {n : Nat} {v : Int32} (hm : m.1.cls = RX12) (hd : decode m.2.1 pc = .ok (.putfield 145, 3)) (hn : aIs D n 12 0) (k : aV l m d D scr (pc + 3) lv st (aWr x n 79 v) Q) : aV l m d D scr pc lv (.int v :: .ref n :: st) x Q :=
  a_put (ci := 12) (j := 79) hd rfl iwX12 rfl (by decide) (by decide) (by rw [hm]; exact aTb_tables_1_6 168 rfl rfl) tyX12 tyX12_ok nmX12 rfl (by decide +kernel) (by decide) hn k
theorem gX12_148 {n : Nat} (hm : m.1.cls = RX12) (hd : decode m.2.1 pc = .ok (.getfield 148, 3)) (hn : aIs D n 12 0) (k : aV l m d D scr (pc + 3) lv (.ref (n + 81) :: st) x Q) : aV l m d D scr pc lv (.ref n :: st) x Q :=
  a_get (ci := 12) (j := 80) hd rfl iwX12 rfl (by decide) (by decide) (by rw [hm]; exact aTb_tables_1_6 169 rfl rfl) hn k
theorem gX12_151 {n : Nat} (hm : m.1.cls = RX12) (hd : decode m.2.1 pc = .ok (.getfield 151, 3)) (hn : aIs D n 12 0) (k : aV l m d D scr (pc + 3) lv (.ref (n + 82) :: st) x Q) : aV l m d D scr pc lv (.ref n :: st) x Q :=
  a_get (ci := 12) (j := 81) hd rfl iwX12 rfl (by decide) (by decide) (by rw [hm]; exact aTb_tables_1_6 170 rfl rfl) hn k
theorem gX12_154 {n : Nat} (hm : m.1.cls = RX12) (hd : decode m.2.1 pc = .ok (.getfield 154, 3)) (hn : aIs D n 12 0) (k : aV l m d D scr (pc + 3) lv (.ref (n + 83) :: st) x Q) : aV l m d D scr pc lv (.ref n :: st) x Q :=
  a_get (ci := 12) (j := 82) hd rfl iwX12 rfl (by decide) (by decide) (by rw [hm]; exact aTb_tables_1_6 171 rfl rfl) hn k
theorem gX12_157 {n : Nat} (hm : m.1.cls = RX12) (hd : decode m.2.1 pc = .ok (.getfield 157, 3)) (hn : aIs D n 12 0) (k : aV l m d D scr (pc + 3) lv (.ref (n + 85) :: st) x Q) : aV l m d D scr pc lv (.ref n :: st) x Q :=
  a_get (ci := 12) (j := 84) hd rfl iwX12 rfl (by decide) (by decide) (by rw [hm]; exact aTb_tables_1_6 173 rfl rfl) hn k
theorem gX12_160 {n : Nat} (hm : m.1.cls = RX12) (hd : decode m.2.1 pc = .ok (.getfield 160, 3)) (hn : aIs D n 12 0) (k : aV l m d D scr (pc + 3) lv (.ref (n + 87) :: st) x Q) : aV l m d D scr pc lv (.ref n :: st) x Q :=
  a_get (ci := 12) (j := 86) hd rfl iwX12 rfl (by decide) (by decide) (by rw [hm]; exact aTb_tables_1_6 175 rfl rfl) hn k
theorem gX12_163 {n : Nat} (hm : m.1.cls = RX12) (hd : decode m.2.1 pc = .ok (.getfield 163, 3)) (hn : aIs D n 12 0) (k : aV l m d D scr (pc + 3) lv (.ref (n + 88) :: st) x Q) : aV l m d D scr pc lv (.ref n :: st) x Q :=
  a_get (ci := 12) (j := 87) hd rfl iwX12 rfl (by decide) (by decide) (by rw [hm]; exact aTb_tables_1_6 176 rfl rfl) hn k
theorem gX12_166 {n : Nat} (hm : m.1.cls = RX12) (hd : decode m.2.1 pc = .ok (.getfield 166, 3)) (hn : aIs D n 12 0) (k : aV l m d D scr (pc + 3) lv (.ref (n + 89) :: st) x Q) : aV l m d D scr pc lv (.ref n :: st) x Q :=
  a_get (ci := 12) (j := 88) hd rfl iwX12 rfl (by decide) (by decide) (by rw [hm]; exact aTb_tables_1_6 177 rfl rfl) hn k
theorem gX12_175 {n : Nat} (hm : m.1.cls = RX12) (hd : decode m.2.1 pc = .ok (.getfield 175, 3)) (hn : aIs D n 12 0) (k : aV l m d D scr (pc + 3) lv (.int (x.1 n 2) :: st) x Q) : aV l m d D scr pc lv (.ref n :: st) x Q :=
  a_get (ci := 12) (j := 2) hd rfl iwX12 rfl (by decide) (by decide) (by rw [hm]; exact aTb_tables_1_6 91 rfl rfl) hn k
theorem pX12_175 {n : Nat} {v : Int32} (hm : m.1.cls = RX12) (hd : decode m.2.1 pc = .ok (.putfield 175, 3)) (hn : aIs D n 12 0) (k : aV l m d D scr (pc + 3) lv st (aWr x n 2 v) Q) : aV l m d D scr pc lv (.int v :: .ref n :: st) x Q :=
  a_put (ci := 12) (j := 2) hd rfl iwX12 rfl (by decide) (by decide) (by rw [hm]; exact aTb_tables_1_6 91 rfl rfl) tyX12 tyX12_ok nmX12 rfl (by decide +kernel) (by decide) hn k
theorem gX12_178 {n : Nat} (hm : m.1.cls = RX12) (hd : decode m.2.1 pc = .ok (.getfield 178, 3)) (hn : aIs D n 12 0) (k : aV l m d D scr (pc + 3) lv (.int (x.1 n 1) :: st) x Q) : aV l m d D scr pc lv (.ref n :: st) x Q :=
  a_get (ci := 12) (j := 1) hd rfl iwX12 rfl (by decide) (by decide) (by rw [hm]; exact aTb_tables_1_6 90 rfl rfl) hn k
theorem pX12_178 {n : Nat} {v : Int32} (hm : m.1.cls = RX12) (hd : decode m.2.1 pc = .ok (.putfield 178, 3)) (hn : aIs D n 12 0) (k : aV l m d D scr (pc + 3) lv st (aWr x n 1 v) Q) : aV l m d D scr pc lv (.int v :: .ref n :: st) x Q :=
  a_put (ci := 12) (j := 1) hd rfl iwX12 rfl (by decide) (by decide) (by rw [hm]; exact aTb_tables_1_6 90 rfl rfl) tyX12 tyX12_ok nmX12 rfl (by decide +kernel) (by decide) hn k
theorem gX12_181 {n : Nat} (hm : m.1.cls = RX12) (hd : decode m.2.1 pc = .ok (.getfield 181, 3)) (hn : aIs D n 12 0) (k : aV l m d D scr (pc + 3) lv (.int (x.1 n 4) :: st) x Q) : aV l m d D scr pc lv (.ref n :: st) x Q :=
  a_get (ci := 12) (j := 4) hd rfl iwX12 rfl (by decide) (by decide) (by rw [hm]; exact aTb_tables_1_6 93 rfl rfl) hn k
theorem pX12_181 {n : Nat} {v : Int32} (hm : m.1.cls = RX12) (hd : decode m.2.1 pc = .ok (.putfield 181, 3)) (hn : aIs D n 12 0) (k : aV l m d D scr (pc + 3) lv st (aWr x n 4 v) Q) : aV l m d D scr pc lv (.int v :: .ref n :: st) x Q :=
  a_put (ci := 12) (j := 4) hd rfl iwX12 rfl (by decide) (by decide) (by rw [hm]; exact aTb_tables_1_6 93 rfl rfl) tyX12 tyX12_ok nmX12 rfl (by decide +kernel) (by decide) hn k
theorem gX12_184 {n : Nat} (hm : m.1.cls = RX12) (hd : decode m.2.1 pc = .ok (.getfield 184, 3)) (hn : aIs D n 12 0) (k : aV l m d D scr (pc + 3) lv (.int (x.1 n 10) :: st) x Q) : aV l m d D scr pc lv (.ref n :: st) x Q :=
  a_get (ci := 12) (j := 10) hd rfl iwX12 rfl (by decide) (by decide) (by rw [hm]; exact aTb_tables_1_6 99 rfl rfl) hn k
theorem pX12_184 {n : Nat} {v : Int32} (hm : m.1.cls = RX12) (hd : decode m.2.1 pc = .ok (.putfield 184, 3)) (hn : aIs D n 12 0) (k : aV l m d D scr (pc + 3) lv st (aWr x n 10 v) Q) : aV l m d D scr pc lv (.int v :: .ref n :: st) x Q :=
  a_put (ci := 12) (j := 10) hd rfl iwX12 rfl (by decide) (by decide) (by rw [hm]; exact aTb_tables_1_6 99 rfl rfl) tyX12 tyX12_ok nmX12 rfl (by decide +kernel) (by decide) hn k
theorem gX12_187 {n : Nat} (hm : m.1.cls = RX12) (hd : decode m.2.1 pc = .ok (.getfield 187, 3)) (hn : aIs D n 12 0) (k : aV l m d D scr (pc + 3) lv (.int (x.1 n 6) :: st) x Q) : aV l m d D scr pc lv (.ref n :: st) x Q :=
  a_get (ci := 12) (j := 6) hd rfl iwX12 rfl (by decide) (by decide) (by rw [hm]; exact aTb_tables_1_6 95 rfl rfl) hn k
theorem pX12_187 {n : Nat} {v : Int32} (hm : m.1.cls = RX12) (hd : decode m.2.1 pc = .ok (.putfield 187, 3)) (hn : aIs D n 12 0) (k : aV l m d D scr (pc + 3) lv st (aWr x n 6 v) Q) : aV l m d D scr pc lv (.int v :: .ref n :: st) x Q :=
  a_put (ci := 12) (j := 6) hd rfl iwX12 rfl (by decide) (by decide) (by rw [hm]; exact aTb_tables_1_6 95 rfl rfl) tyX12 tyX12_ok nmX12 rfl (by decide +kernel) (by decide) hn k
theorem gX12_190 {n : Nat} (hm : m.1.cls = RX12) (hd : decode m.2.1 pc = .ok (.getfield 190, 3)) (hn : aIs D n 12 0) (k : aV l m d D scr (pc + 3) lv (.int (x.1 n 7) :: st) x Q) : aV l m d D scr pc lv (.ref n :: st) x Q :=
  a_get (ci := 12) (j := 7) hd rfl iwX12 rfl (by decide) (by decide) (by rw [hm]; exact aTb_tables_1_6 96 rfl rfl) hn k
theorem pX12_190 {n : Nat} {v : Int32} (hm : m.1.cls = RX12) (hd : decode m.2.1 pc = .ok (.putfield 190, 3)) (hn : aIs D n 12 0) (k : aV l m d D scr (pc + 3) lv st (aWr x n 7 v) Q) : aV l m d D scr pc lv (.int v :: .ref n :: st) x Q :=
  a_put (ci := 12) (j := 7) hd rfl iwX12 rfl (by decide) (by decide) (by rw [hm]; exact aTb_tables_1_6 96 rfl rfl) tyX12 tyX12_ok nmX12 rfl (by decide +kernel) (by decide) hn k
theorem gX12_193 {n : Nat} (hm : m.1.cls = RX12) (hd : decode m.2.1 pc = .ok (.getfield 193, 3)) (hn : aIs D n 12 0) (k : aV l m d D scr (pc + 3) lv (.int (x.1 n 8) :: st) x Q) : aV l m d D scr pc lv (.ref n :: st) x Q :=
  a_get (ci := 12) (j := 8) hd rfl iwX12 rfl (by decide) (by decide) (by rw [hm]; exact aTb_tables_1_6 97 rfl rfl) hn k
theorem pX12_193 {n : Nat} {v : Int32} (hm : m.1.cls = RX12) (hd : decode m.2.1 pc = .ok (.putfield 193, 3)) (hn : aIs D n 12 0) (k : aV l m d D scr (pc + 3) lv st (aWr x n 8 v) Q) : aV l m d D scr pc lv (.int v :: .ref n :: st) x Q :=
  a_put (ci := 12) (j := 8) hd rfl iwX12 rfl (by decide) (by decide) (by rw [hm]; exact aTb_tables_1_6 97 rfl rfl) tyX12 tyX12_ok nmX12 rfl (by decide +kernel) (by decide) hn k
theorem gX12_204 {n : Nat} (hm : m.1.cls = RX12) (hd : decode m.2.1 pc = .ok (.getfield 204, 3)) (hn : aIs D n 12 0) (k : aV l m d D scr (pc + 3) lv (.int (x.1 n 9) :: st) x Q) : aV l m d D scr pc lv (.ref n :: st) x Q :=
  a_get (ci := 12) (j := 9) hd rfl iwX12 rfl (by decide) (by decide) (by rw [hm]; exact aTb_tables_1_6 98 rfl rfl) hn k
theorem pX12_204 {n : Nat} {v : Int32} (hm : m.1.cls = RX12) (hd : decode m.2.1 pc = .ok (.putfield 204, 3)) (hn : aIs D n 12 0) (k : aV l m d D scr (pc + 3) lv st (aWr x n 9 v) Q) : aV l m d D scr pc lv (.int v :: .ref n :: st) x Q :=
  a_put (ci := 12) (j := 9) hd rfl iwX12 rfl (by decide) (by decide) (by rw [hm]; exact aTb_tables_1_6 98 rfl rfl) tyX12 tyX12_ok nmX12 rfl (by decide +kernel) (by decide) hn k
theorem gX12_224 {n : Nat} (hm : m.1.cls = RX12) (hd : decode m.2.1 pc = .ok (.getfield 224, 3)) (hn : aIs D n 12 0) (k : aV l m d D scr (pc + 3) lv (.int (x.1 n 11) :: st) x Q) : aV l m d D scr pc lv (.ref n :: st) x Q :=
  a_get (ci := 12) (j := 11) hd rfl iwX12 rfl (by decide) (by decide) (by rw [hm]; exact aTb_tables_1_6 100 rfl rfl) hn k
theorem pX12_224 {n : Nat} {v : Int32} (hm : m.1.cls = RX12) (hd : decode m.2.1 pc = .ok (.putfield 224, 3)) (hn : aIs D n 12 0) (k : aV l m d D scr (pc + 3) lv st (aWr x n 11 v) Q) : aV l m d D scr pc lv (.int v :: .ref n :: st) x Q :=
  a_put (ci := 12) (j := 11) hd rfl iwX12 rfl (by decide) (by decide) (by rw [hm]; exact aTb_tables_1_6 100 rfl rfl) tyX12 tyX12_ok nmX12 rfl (by decide +kernel) (by decide) hn k
theorem gX12_237 {n : Nat} (hm : m.1.cls = RX12) (hd : decode m.2.1 pc = .ok (.getfield 237, 3)) (hn : aIs D n 12 0) (k : aV l m d D scr (pc + 3) lv (.int (x.1 n 18) :: st) x Q) : aV l m d D scr pc lv (.ref n :: st) x Q :=
  a_get (ci := 12) (j := 18) hd rfl iwX12 rfl (by decide) (by decide) (by rw [hm]; exact aTb_tables_1_6 107 rfl rfl) hn k
theorem pX12_237 {n : Nat} {v : Int32} (hm : m.1.cls = RX12) (hd : decode m.2.1 pc = .ok (.putfield 237, 3)) (hn : aIs D n 12 0) (k : aV l m d D scr (pc + 3) lv st (aWr x n 18 v) Q) : aV l m d D scr pc lv (.int v :: .ref n :: st) x Q :=
  a_put (ci := 12) (j := 18) hd rfl iwX12 rfl (by decide) (by decide) (by rw [hm]; exact aTb_tables_1_6 107 rfl rfl) tyX12 tyX12_ok nmX12 rfl (by decide +kernel) (by decide) hn k
theorem gX12_240 {n : Nat} (hm : m.1.cls = RX12) (hd : decode m.2.1 pc = .ok (.getfield 240, 3)) (hn : aIs D n 12 0) (k : aV l m d D scr (pc + 3) lv (.int (x.1 n 19) :: st) x Q) : aV l m d D scr pc lv (.ref n :: st) x Q :=
  a_get (ci := 12) (j := 19) hd rfl iwX12 rfl (by decide) (by decide) (by rw [hm]; exact aTb_tables_1_6 108 rfl rfl) hn k
theorem pX12_240 {n : Nat} {v : Int32} (hm : m.1.cls = RX12) (hd : decode m.2.1 pc = .ok (.putfield 240, 3)) (hn : aIs D n 12 0) (k : aV l m d D scr (pc + 3) lv st (aWr x n 19 v) Q) : aV l m d D scr pc lv (.int v :: .ref n :: st) x Q :=
  a_put (ci := 12) (j := 19) hd rfl iwX12 rfl (by decide) (by decide) (by rw [hm]; exact aTb_tables_1_6 108 rfl rfl) tyX12 tyX12_ok nmX12 rfl (by decide +kernel) (by decide) hn k
theorem gX12_243 {n : Nat} (hm : m.1.cls = RX12) (hd : decode m.2.1 pc = .ok (.getfield 243, 3)) (hn : aIs D n 12 0) (k : aV l m d D scr (pc + 3) lv (.int (x.1 n 20) :: st) x Q) : aV l m d D scr pc lv (.ref n :: st) x Q :=
  a_get (ci := 12) (j := 20) hd rfl iwX12 rfl (by decide) (by decide) (by rw [hm]; exact aTb_tables_1_6 109 rfl rfl) hn k
theorem pX12_243 {n : Nat} {v : Int32} (hm : m.1.cls = RX12) (hd : decode m.2.1 pc = .ok (.putfield 243, 3)) (hn : aIs D n 12 0) (k : aV l m d D scr (pc + 3) lv st (aWr x n 20 v) Q) : aV l m d D scr pc lv (.int v :: .ref n :: st) x Q :=
  a_put (ci := 12) (j := 20) hd rfl iwX12 rfl (by decide) (by decide) (by rw [hm]; exact aTb_tables_1_6 109 rfl rfl) tyX12 tyX12_ok nmX12 rfl (by decide +kernel) (by decide) hn k
theorem gX12_246 {n : Nat} (hm : m.1.cls = RX12) (hd : decode m.2.1 pc = .ok (.getfield 246, 3)) (hn : aIs D n 12 0) (k : aV l m d D scr (pc + 3) lv (.int (x.1 n 21) :: st) x Q) : aV l m d D scr pc lv (.ref n :: st) x Q :=
  a_get (ci := 12) (j := 21) hd rfl iwX12 rfl (by decide) (by decide) (by rw [hm]; exact aTb_tables_1_6 110 rfl rfl) hn k
theorem pX12_246 {n : Nat} {v : Int32} (hm : m.1.cls = RX12) (hd : decode m.2.1 pc = .ok (.putfield 246, 3)) (hn : aIs D n 12 0) (k : aV l m d D scr (pc + 3) lv st (aWr x n 21 v) Q) : aV l m d D scr pc lv (.int v :: .ref n :: st) x Q :=
  a_put (ci := 12) (j := 21) hd rfl iwX12 rfl (by decide) (by decide) (by rw [hm]; exact aTb_tables_1_6 110 rfl rfl) tyX12 tyX12_ok nmX12 rfl (by decide +kernel) (by decide) hn k
theorem gX12_249 {n : Nat} (hm : m.1.cls = RX12) (hd : decode m.2.1 pc = .ok (.getfield 249, 3)) (hn : aIs D n 12 0) (k : aV l m d D scr (pc + 3) lv (.int (x.1 n 22) :: st) x Q) : aV l m d D scr pc lv (.ref n :: st) x Q :=
  a_get (ci := 12) (j := 22) hd rfl iwX12 rfl (by decide) (by decide) (by rw [hm]; exact aTb_tables_1_6 111 rfl rfl) hn k
theorem pX12_249 {n : Nat} {v : Int32} (hm : m.1.cls = RX12) (hd : decode m.2.1 pc = .ok (.putfield 249, 3)) (hn : aIs D n 12 0) (k : aV l m d D scr (pc + 3) lv st (aWr x n 22 v) Q) : aV l m d D scr pc lv (.int v :: .ref n :: st) x Q :=
  a_put (ci := 12) (j := 22) hd rfl iwX12 rfl (by decide) (by decide) (by rw [hm]; exact aTb_tables_1_6 111 rfl rfl) tyX12 tyX12_ok nmX12 rfl (by decide +kernel) (by decide) hn k
theorem gX12_252 {n : Nat} (hm : m.1.cls = RX12) (hd : decode m.2.1 pc = .ok (.getfield 252, 3)) (hn : aIs D n 12 0) (k : aV l m d D scr (pc + 3) lv (.int (x.1 n 23) :: st) x Q) : aV l m d D scr pc lv (.ref n :: st) x Q :=
  a_get (ci := 12) (j := 23) hd rfl iwX12 rfl (by decide) (by decide) (by rw [hm]; exact aTb_tables_1_6 112 rfl rfl) hn k
theorem pX12_252 {n : Nat} {v : Int32} (hm : m.1.cls = RX12) (hd : decode m.2.1 pc = .ok (.putfield 252, 3)) (hn : aIs D n 12 0) (k : aV l m d D scr (pc + 3) lv st (aWr x n 23 v) Q) : aV l m d D scr pc lv (.int v :: .ref n :: st) x Q :=
  a_put (ci := 12) (j := 23) hd rfl iwX12 rfl (by decide) (by decide) (by rw [hm]; exact aTb_tables_1_6 112 rfl rfl) tyX12 tyX12_ok nmX12 rfl (by decide +kernel) (by decide) hn k
theorem gX12_255 {n : Nat} (hm : m.1.cls = RX12) (hd : decode m.2.1 pc = .ok (.getfield 255, 3)) (hn : aIs D n 12 0) (k : aV l m d D scr (pc + 3) lv (.int (x.1 n 53) :: st) x Q) : aV l m d D scr pc lv (.ref n :: st) x Q :=
  a_get (ci := 12) (j := 53) hd rfl iwX12 rfl (by decide) (by decide) (by rw [hm]; exact aTb_tables_1_6 142 rfl rfl) hn k
theorem pX12_255 {n : Nat} {v : Int32} (hm : m.1.cls = RX12) (hd : decode m.2.1 pc = .ok (.putfield 255, 3)) (hn : aIs D n 12 0) (k : aV l m d D scr (pc + 3) lv st (aWr x n 53 v) Q) : aV l m d D scr pc lv (.int v :: .ref n :: st) x Q :=
  a_put (ci := 12) (j := 53) hd rfl iwX12 rfl (by decide) (by decide) (by rw [hm]; exact aTb_tables_1_6 142 rfl rfl) tyX12 tyX12_ok nmX12 rfl (by decide +kernel) (by decide) hn k
theorem gX12_258 {n : Nat} (hm : m.1.cls = RX12) (hd : decode m.2.1 pc = .ok (.getfield 258, 3)) (hn : aIs D n 12 0) (k : aV l m d D scr (pc + 3) lv (.int (x.1 n 12) :: st) x Q) : aV l m d D scr pc lv (.ref n :: st) x Q :=
  a_get (ci := 12) (j := 12) hd rfl iwX12 rfl (by decide) (by decide) (by rw [hm]; exact aTb_tables_1_6 101 rfl rfl) hn k
theorem pX12_258 {n : Nat} {v : Int32} (hm : m.1.cls = RX12) (hd : decode m.2.1 pc = .ok (.putfield 258, 3)) (hn : aIs D n 12 0) (k : aV l m d D scr (pc + 3) lv st (aWr x n 12 v) Q) : aV l m d D scr pc lv (.int v :: .ref n :: st) x Q :=
  a_put (ci := 12) (j := 12) hd rfl iwX12 rfl (by decide) (by decide) (by rw [hm]; exact aTb_tables_1_6 101 rfl rfl) tyX12 tyX12_ok nmX12 rfl (by decide +kernel) (by decide) hn k
theorem gX12_261 {n : Nat} (hm : m.1.cls = RX12) (hd : decode m.2.1 pc = .ok (.getfield 261, 3)) (hn : aIs D n 12 0) (k : aV l m d D scr (pc + 3) lv (.int (x.1 n 13) :: st) x Q) : aV l m d D scr pc lv (.ref n :: st) x Q :=
  a_get (ci := 12) (j := 13) hd rfl iwX12 rfl (by decide) (by decide) (by rw [hm]; exact aTb_tables_1_6 102 rfl rfl) hn k
theorem pX12_261 {n : Nat} {v : Int32} (hm : m.1.cls = RX12) (hd : decode m.2.1 pc = .ok (.putfield 261, 3)) (hn : aIs D n 12 0) (k : aV l m d D scr (pc + 3) lv st (aWr x n 13 v) Q) : aV l m d D scr pc lv (.int v :: .ref n :: st) x Q :=
  a_put (ci := 12) (j := 13) hd rfl iwX12 rfl (by decide) (by decide) (by rw [hm]; exact aTb_tables_1_6 102 rfl rfl) tyX12 tyX12_ok nmX12 rfl (by decide +kernel) (by decide) hn k
theorem gX12_264 {n : Nat} (hm : m.1.cls = RX12) (hd : decode m.2.1 pc = .ok (.getfield 264, 3)) (hn : aIs D n 12 0) (k : aV l m d D scr (pc + 3) lv (.int (x.1 n 14) :: st) x Q) : aV l m d D scr pc lv (.ref n :: st) x Q :=
  a_get (ci := 12) (j := 14) hd rfl iwX12 rfl (by decide) (by decide) (by rw [hm]; exact aTb_tables_1_6 103 rfl rfl) hn k
theorem pX12_264 {n : Nat} {v : Int32} (hm : m.1.cls = RX12) (hd : decode m.2.1 pc = .ok (.putfield 264, 3)) (hn : aIs D n 12 0) (k : aV l m d D scr (pc + 3) lv st (aWr x n 14 v) Q) : aV l m d D scr pc lv (.int v :: .ref n :: st) x Q :=
  a_put (ci := 12) (j := 14) hd rfl iwX12 rfl (by decide) (by decide) (by rw [hm]; exact aTb_tables_1_6 103 rfl rfl) tyX12 tyX12_ok nmX12 rfl (by decide +kernel) (by decide) hn k
theorem gX12_267 {n : Nat} (hm : m.1.cls = RX12) (hd : decode m.2.1 pc = .ok (.getfield 267, 3)) (hn : aIs D n 12 0) (k : aV l m d D scr (pc + 3) lv (.int (x.1 n 15) :: st) x Q) : aV l m d D scr pc lv (.ref n :: st) x Q :=
  a_get (ci := 12) (j := 15) hd rfl iwX12 rfl (by decide) (by decide) (by rw [hm]; exact aTb_tables_1_6 104 rfl rfl) hn k
theorem pX12_267 {n : Nat} {v : Int32} (hm : m.1.cls = RX12) (hd : decode m.2.1 pc = .ok (.putfield 267, 3)) (hn : aIs D n 12 0) (k : aV l m d D scr (pc + 3) lv st (aWr x n 15 v) Q) : aV l m d D scr pc lv (.int v :: .ref n :: st) x Q :=
  a_put (ci := 12) (j := 15) hd rfl iwX12 rfl (by decide) (by decide) (by rw [hm]; exact aTb_tables_1_6 104 rfl rfl) tyX12 tyX12_ok nmX12 rfl (by decide +kernel) (by decide) hn k
theorem gX12_270 {n : Nat} (hm : m.1.cls = RX12) (hd : decode m.2.1 pc = .ok (.getfield 270, 3)) (hn : aIs D n 12 0) (k : aV l m d D scr (pc + 3) lv (.int (x.1 n 16) :: st) x Q) : aV l m d D scr pc lv (.ref n :: st) x Q :=
  a_get (ci := 12) (j := 16) hd rfl iwX12 rfl (by decide) (by decide) (by rw [hm]; exact aTb_tables_1_6 105 rfl rfl) hn k
theorem pX12_270 {n : Nat} {v : Int32} (hm : m.1.cls = RX12) (hd : decode m.2.1 pc = .ok (.putfield 270, 3)) (hn : aIs D n 12 0) (k : aV l m d D scr (pc + 3) lv st (aWr x n 16 v) Q) : aV l m d D scr pc lv (.int v :: .ref n :: st) x Q :=
  a_put (ci := 12) (j := 16) hd rfl iwX12 rfl (by decide) (by decide) (by rw [hm]; exact aTb_tables_1_6 105 rfl rfl) tyX12 tyX12_ok nmX12 rfl (by decide +kernel) (by decide) hn k
theorem gX12_273 {n : Nat} (hm : m.1.cls = RX12) (hd : decode m.2.1 pc = .ok (.getfield 273, 3)) (hn : aIs D n 12 0) (k : aV l m d D scr (pc + 3) lv (.int (x.1 n 17) :: st) x Q) : aV l m d D scr pc lv (.ref n :: st) x Q :=
  a_get (ci := 12) (j := 17) hd rfl iwX12 rfl (by decide) (by decide) (by rw [hm]; exact aTb_tables_1_6 106 rfl rfl) hn k
theorem pX12_273 {n : Nat} {v : Int32} (hm : m.1.cls = RX12) (hd : decode m.2.1 pc = .ok (.putfield 273, 3)) (hn : aIs D n 12 0) (k : aV l m d D scr (pc + 3) lv st (aWr x n 17 v) Q) : aV l m d D scr pc lv (.int v :: .ref n :: st) x Q :=
  a_put (ci := 12) (j := 17) hd rfl iwX12 rfl (by decide) (by decide) (by rw [hm]; exact aTb_tables_1_6 106 rfl rfl) tyX12 tyX12_ok nmX12 rfl (by decide +kernel) (by decide) hn k
theorem gX12_319 {n : Nat} (hm : m.1.cls = RX12) (hd : decode m.2.1 pc = .ok (.getfield 319, 3)) (hn : aIs D n 12 0) (k : aV l m d D scr (pc + 3) lv (.int (x.1 n 51) :: st) x Q) : aV l m d D scr pc lv (.ref n :: st) x Q :=
  a_get (ci := 12) (j := 51) hd rfl iwX12 rfl (by decide) (by decide) (by rw [hm]; exact aTb_tables_1_6 140 rfl rfl) hn k
theorem pX12_319 {n : Nat} {v : Int32} (hm : m.1.cls = RX12) (hd : decode m.2.1 pc = .ok (.putfield 319, 3)) (hn : aIs D n 12 0) (k : aV l m d D scr (pc + 3) lv st (aWr x n 51 v) Q) : aV l m d D scr pc lv (.int v :: .ref n :: st) x Q :=
  a_put (ci := 12) (j := 51) hd rfl iwX12 rfl (by decide) (by decide) (by rw [hm]; exact aTb_tables_1_6 140 rfl rfl) tyX12 tyX12_ok nmX12 rfl (by decide +kernel) (by decide) hn k
theorem gX12_322 {n : Nat} (hm : m.1.cls = RX12) (hd : decode m.2.1 pc = .ok (.getfield 322, 3)) (hn : aIs D n 12 0) (k : aV l m d D scr (pc + 3) lv (.int (x.1 n 50) :: st) x Q) : aV l m d D scr pc lv (.ref n :: st) x Q :=
  a_get (ci := 12) (j := 50) hd rfl iwX12 rfl (by decide) (by decide) (by rw [hm]; exact aTb_tables_1_6 139 rfl rfl) hn k
theorem pX12_322 {n : Nat} {v : Int32} (hm : m.1.cls = RX12) (hd : decode m.2.1 pc = .ok (.putfield 322, 3)) (hn : aIs D n 12 0) (k : aV l m d D scr (pc + 3) lv st (aWr x n 50 v) Q) : aV l m d D scr pc lv (.int v :: .ref n :: st) x Q :=
  a_put (ci := 12) (j := 50) hd rfl iwX12 rfl (by decide) (by decide) (by rw [hm]; exact aTb_tables_1_6 139 rfl rfl) tyX12 tyX12_ok nmX12 rfl (by decide +kernel) (by decide) hn k
theorem gX12_337 {n : Nat} (hm : m.1.cls = RX12) (hd : decode m.2.1 pc = .ok (.getfield 337, 3)) (hn : aIs D n 12 0) (k : aV l m d D scr (pc + 3) lv (.int (x.1 n 52) :: st) x Q) : aV l m d D scr pc lv (.ref n :: st) x Q :=
  a_get (ci := 12) (j := 52) hd rfl iwX12 rfl (by decide) (by decide) (by rw [hm]; exact aTb_tables_1_6 141 rfl rfl) hn k
theorem pX12_337 {n : Nat} {v : Int32} (hm : m.1.cls = RX12) (hd : decode m.2.1 pc = .ok (.putfield 337, 3)) (hn : aIs D n 12 0) (k : aV l m d D scr (pc + 3) lv st (aWr x n 52 v) Q) : aV l m d D scr pc lv (.int v :: .ref n :: st) x Q :=
  a_put (ci := 12) (j := 52) hd rfl iwX12 rfl (by decide) (by decide) (by rw [hm]; exact aTb_tables_1_6 141 rfl rfl) tyX12 tyX12_ok nmX12 rfl (by decide +kernel) (by decide) hn k
theorem gX12_344 {n : Nat} (hm : m.1.cls = RX12) (hd : decode m.2.1 pc = .ok (.getfield 344, 3)) (hn : aIs D n 12 0) (k : aV l m d D scr (pc + 3) lv (.int (x.1 n 55) :: st) x Q) : aV l m d D scr pc lv (.ref n :: st) x Q :=
  a_get (ci := 12) (j := 55) hd rfl iwX12 rfl (by decide) (by decide) (by rw [hm]; exact aTb_tables_1_6 144 rfl rfl) hn k
theorem pX12_344 {n : Nat} {v : Int32} (hm : m.1.cls = RX12) (hd : decode m.2.1 pc = .ok (.putfield 344, 3)) (hn : aIs D n 12 0) (hb : v = 0 ∨ v = 1) (k : aV l m d D scr (pc + 3) lv st (aWr x n 55 v) Q) : aV l m d D scr pc lv (.int v :: .ref n :: st) x Q :=
  a_putZ (ci := 12) (j := 55) hd rfl iwX12 rfl (by decide) (by decide) (by rw [hm]; exact aTb_tables_1_6 144 rfl rfl) tyX12 tyX12_ok nmX12 rfl (by decide +kernel) (by decide) hb hn k
theorem gX12_357 {n : Nat} (hm : m.1.cls = RX12) (hd : decode m.2.1 pc = .ok (.getfield 357, 3)) (hn : aIs D n 12 0) (k : aV l m d D scr (pc + 3) lv (.int (x.1 n 54) :: st) x Q) : aV l m d D scr pc lv (.ref n :: st) x Q :=
  a_get (ci := 12) (j := 54) hd rfl iwX12 rfl (by decide) (by decide) (by rw [hm]; exact aTb_tables_1_6 143 rfl rfl) hn k
theorem pX12_357 {n : Nat} {v : Int32} (hm : m.1.cls = RX12) (hd : decode m.2.1 pc = .ok (.putfield 357, 3)) (hn : aIs D n 12 0) (hb : v = 0 ∨ v = 1) (k : aV l m d D scr (pc + 3) lv st (aWr x n 54 v) Q) : aV l m d D scr pc lv (.int v :: .ref n :: st) x Q :=
  a_putZ (ci := 12) (j := 54) hd rfl iwX12 rfl (by decide) (by decide) (by rw [hm]; exact aTb_tables_1_6 143 rfl rfl) tyX12 tyX12_ok nmX12 rfl (by decide +kernel) (by decide) hb hn k
theorem gX12_369 {n : Nat} (hm : m.1.cls = RX12) (hd : decode m.2.1 pc = .ok (.getfield 369, 3)) (hn : aIs D n 12 0) (k : aV l m d D scr (pc + 3) lv (.int (x.1 n 58) :: st) x Q) : aV l m d D scr pc lv (.ref n :: st) x Q :=
  a_get (ci := 12) (j := 58) hd rfl iwX12 rfl (by decide) (by decide) (by rw [hm]; exact aTb_tables_1_6 147 rfl rfl) hn k
theorem pX12_369 {n : Nat} {v : Int32} (hm : m.1.cls = RX12) (hd : decode m.2.1 pc = .ok (.putfield 369, 3)) (hn : aIs D n 12 0) (hb : v = 0 ∨ v = 1) (k : aV l m d D scr (pc + 3) lv st (aWr x n 58 v) Q) : aV l m d D scr pc lv (.int v :: .ref n :: st) x Q :=
  a_putZ (ci := 12) (j := 58) hd rfl iwX12 rfl (by decide) (by decide) (by rw [hm]; exact aTb_tables_1_6 147 rfl rfl) tyX12 tyX12_ok nmX12 rfl (by decide +kernel) (by decide) hb hn k
theorem gX12_391 {n : Nat} (hm : m.1.cls = RX12) (hd : decode m.2.1 pc = .ok (.getfield 391, 3)) (hn : aIs D n 12 0) (k : aV l m d D scr (pc + 3) lv (.long (x.2 n 69) :: st) x Q) : aV l m d D scr pc lv (.ref n :: st) x Q :=
  a_get (ci := 12) (j := 69) hd rfl iwX12 rfl (by decide) (by decide) (by rw [hm]; exact aTb_tables_1_6 158 rfl rfl) hn k
theorem pX12_391 {n : Nat} {v : Int64} (hm : m.1.cls = RX12) (hd : decode m.2.1 pc = .ok (.putfield 391, 3)) (hn : aIs D n 12 0) (k : aV l m d D scr (pc + 3) lv st (aWl x n 69 v) Q) : aV l m d D scr pc lv (.long v :: .ref n :: st) x Q :=
  a_putJ (ci := 12) (j := 69) hd rfl iwX12 rfl (by decide) (by decide) (by rw [hm]; exact aTb_tables_1_6 158 rfl rfl) tyX12 tyX12_ok nmX12 rfl (by decide +kernel) (by decide) hn k
theorem gX12_398 {n : Nat} (hm : m.1.cls = RX12) (hd : decode m.2.1 pc = .ok (.getfield 398, 3)) (hn : aIs D n 12 0) (k : aV l m d D scr (pc + 3) lv (.int (x.1 n 78) :: st) x Q) : aV l m d D scr pc lv (.ref n :: st) x Q :=
  a_get (ci := 12) (j := 78) hd rfl iwX12 rfl (by decide) (by decide) (by rw [hm]; exact aTb_tables_1_6 167 rfl rfl) hn k
theorem pX12_398 {n : Nat} {v : Int32} (hm : m.1.cls = RX12) (hd : decode m.2.1 pc = .ok (.putfield 398, 3)) (hn : aIs D n 12 0) (k : aV l m d D scr (pc + 3) lv st (aWr x n 78 v) Q) : aV l m d D scr pc lv (.int v :: .ref n :: st) x Q :=
  a_put (ci := 12) (j := 78) hd rfl iwX12 rfl (by decide) (by decide) (by rw [hm]; exact aTb_tables_1_6 167 rfl rfl) tyX12 tyX12_ok nmX12 rfl (by decide +kernel) (by decide) hn k
theorem gX12_401 {n : Nat} (hm : m.1.cls = RX12) (hd : decode m.2.1 pc = .ok (.getfield 401, 3)) (hn : aIs D n 12 0) (k : aV l m d D scr (pc + 3) lv (.int (x.1 n 83) :: st) x Q) : aV l m d D scr pc lv (.ref n :: st) x Q :=
  a_get (ci := 12) (j := 83) hd rfl iwX12 rfl (by decide) (by decide) (by rw [hm]; exact aTb_tables_1_6 172 rfl rfl) hn k
theorem pX12_401 {n : Nat} {v : Int32} (hm : m.1.cls = RX12) (hd : decode m.2.1 pc = .ok (.putfield 401, 3)) (hn : aIs D n 12 0) (k : aV l m d D scr (pc + 3) lv st (aWr x n 83 v) Q) : aV l m d D scr pc lv (.int v :: .ref n :: st) x Q :=
  a_put (ci := 12) (j := 83) hd rfl iwX12 rfl (by decide) (by decide) (by rw [hm]; exact aTb_tables_1_6 172 rfl rfl) tyX12 tyX12_ok nmX12 rfl (by decide +kernel) (by decide) hn k
theorem gX12_404 {n : Nat} (hm : m.1.cls = RX12) (hd : decode m.2.1 pc = .ok (.getfield 404, 3)) (hn : aIs D n 12 0) (k : aV l m d D scr (pc + 3) lv (.int (x.1 n 85) :: st) x Q) : aV l m d D scr pc lv (.ref n :: st) x Q :=
  a_get (ci := 12) (j := 85) hd rfl iwX12 rfl (by decide) (by decide) (by rw [hm]; exact aTb_tables_1_6 174 rfl rfl) hn k
theorem pX12_404 {n : Nat} {v : Int32} (hm : m.1.cls = RX12) (hd : decode m.2.1 pc = .ok (.putfield 404, 3)) (hn : aIs D n 12 0) (hb : v = 0 ∨ v = 1) (k : aV l m d D scr (pc + 3) lv st (aWr x n 85 v) Q) : aV l m d D scr pc lv (.int v :: .ref n :: st) x Q :=
  a_putZ (ci := 12) (j := 85) hd rfl iwX12 rfl (by decide) (by decide) (by rw [hm]; exact aTb_tables_1_6 174 rfl rfl) tyX12 tyX12_ok nmX12 rfl (by decide +kernel) (by decide) hb hn k
theorem gX12_411 {n : Nat} (hm : m.1.cls = RX12) (hd : decode m.2.1 pc = .ok (.getfield 411, 3)) (hn : aIs D n 12 0) (k : aV l m d D scr (pc + 3) lv (.int (x.1 n 70) :: st) x Q) : aV l m d D scr pc lv (.ref n :: st) x Q :=
  a_get (ci := 12) (j := 70) hd rfl iwX12 rfl (by decide) (by decide) (by rw [hm]; exact aTb_tables_1_6 159 rfl rfl) hn k
theorem pX12_411 {n : Nat} {v : Int32} (hm : m.1.cls = RX12) (hd : decode m.2.1 pc = .ok (.putfield 411, 3)) (hn : aIs D n 12 0) (hb : v = 0 ∨ v = 1) (k : aV l m d D scr (pc + 3) lv st (aWr x n 70 v) Q) : aV l m d D scr pc lv (.int v :: .ref n :: st) x Q :=
  a_putZ (ci := 12) (j := 70) hd rfl iwX12 rfl (by decide) (by decide) (by rw [hm]; exact aTb_tables_1_6 159 rfl rfl) tyX12 tyX12_ok nmX12 rfl (by decide +kernel) (by decide) hb hn k
theorem gX12_414 {n : Nat} (hm : m.1.cls = RX12) (hd : decode m.2.1 pc = .ok (.getfield 414, 3)) (hn : aIs D n 12 0) (k : aV l m d D scr (pc + 3) lv (.int (x.1 n 71) :: st) x Q) : aV l m d D scr pc lv (.ref n :: st) x Q :=
  a_get (ci := 12) (j := 71) hd rfl iwX12 rfl (by decide) (by decide) (by rw [hm]; exact aTb_tables_1_6 160 rfl rfl) hn k
theorem pX12_414 {n : Nat} {v : Int32} (hm : m.1.cls = RX12) (hd : decode m.2.1 pc = .ok (.putfield 414, 3)) (hn : aIs D n 12 0) (hb : v = 0 ∨ v = 1) (k : aV l m d D scr (pc + 3) lv st (aWr x n 71 v) Q) : aV l m d D scr pc lv (.int v :: .ref n :: st) x Q :=
  a_putZ (ci := 12) (j := 71) hd rfl iwX12 rfl (by decide) (by decide) (by rw [hm]; exact aTb_tables_1_6 160 rfl rfl) tyX12 tyX12_ok nmX12 rfl (by decide +kernel) (by decide) hb hn k
theorem gX12_417 {n : Nat} (hm : m.1.cls = RX12) (hd : decode m.2.1 pc = .ok (.getfield 417, 3)) (hn : aIs D n 12 0) (k : aV l m d D scr (pc + 3) lv (.int (x.1 n 72) :: st) x Q) : aV l m d D scr pc lv (.ref n :: st) x Q :=
  a_get (ci := 12) (j := 72) hd rfl iwX12 rfl (by decide) (by decide) (by rw [hm]; exact aTb_tables_1_6 161 rfl rfl) hn k
theorem pX12_417 {n : Nat} {v : Int32} (hm : m.1.cls = RX12) (hd : decode m.2.1 pc = .ok (.putfield 417, 3)) (hn : aIs D n 12 0) (hb : v = 0 ∨ v = 1) (k : aV l m d D scr (pc + 3) lv st (aWr x n 72 v) Q) : aV l m d D scr pc lv (.int v :: .ref n :: st) x Q :=
  a_putZ (ci := 12) (j := 72) hd rfl iwX12 rfl (by decide) (by decide) (by rw [hm]; exact aTb_tables_1_6 161 rfl rfl) tyX12 tyX12_ok nmX12 rfl (by decide +kernel) (by decide) hb hn k
theorem gX12_420 {n : Nat} (hm : m.1.cls = RX12) (hd : decode m.2.1 pc = .ok (.getfield 420, 3)) (hn : aIs D n 12 0) (k : aV l m d D scr (pc + 3) lv (.int (x.1 n 73) :: st) x Q) : aV l m d D scr pc lv (.ref n :: st) x Q :=
  a_get (ci := 12) (j := 73) hd rfl iwX12 rfl (by decide) (by decide) (by rw [hm]; exact aTb_tables_1_6 162 rfl rfl) hn k
theorem pX12_420 {n : Nat} {v : Int32} (hm : m.1.cls = RX12) (hd : decode m.2.1 pc = .ok (.putfield 420, 3)) (hn : aIs D n 12 0) (hb : v = 0 ∨ v = 1) (k : aV l m d D scr (pc + 3) lv st (aWr x n 73 v) Q) : aV l m d D scr pc lv (.int v :: .ref n :: st) x Q :=
  a_putZ (ci := 12) (j := 73) hd rfl iwX12 rfl (by decide) (by decide) (by rw [hm]; exact aTb_tables_1_6 162 rfl rfl) tyX12 tyX12_ok nmX12 rfl (by decide +kernel) (by decide) hb hn k
theorem gX12_423 {n : Nat} (hm : m.1.cls = RX12) (hd : decode m.2.1 pc = .ok (.getfield 423, 3)) (hn : aIs D n 12 0) (k : aV l m d D scr (pc + 3) lv (.int (x.1 n 74) :: st) x Q) : aV l m d D scr pc lv (.ref n :: st) x Q :=
  a_get (ci := 12) (j := 74) hd rfl iwX12 rfl (by decide) (by decide) (by rw [hm]; exact aTb_tables_1_6 163 rfl rfl) hn k
theorem pX12_423 {n : Nat} {v : Int32} (hm : m.1.cls = RX12) (hd : decode m.2.1 pc = .ok (.putfield 423, 3)) (hn : aIs D n 12 0) (hb : v = 0 ∨ v = 1) (k : aV l m d D scr (pc + 3) lv st (aWr x n 74 v) Q) : aV l m d D scr pc lv (.int v :: .ref n :: st) x Q :=
  a_putZ (ci := 12) (j := 74) hd rfl iwX12 rfl (by decide) (by decide) (by rw [hm]; exact aTb_tables_1_6 163 rfl rfl) tyX12 tyX12_ok nmX12 rfl (by decide +kernel) (by decide) hb hn k
theorem gX12_577 {n : Nat} (hm : m.1.cls = RX12) (hd : decode m.2.1 pc = .ok (.getfield 577, 3)) (hn : aIs D n 12 0) (k : aV l m d D scr (pc + 3) lv (.long (x.2 n 89) :: st) x Q) : aV l m d D scr pc lv (.ref n :: st) x Q :=
  a_get (ci := 12) (j := 89) hd rfl iwX12 rfl (by decide) (by decide) (by rw [hm]; exact aTb_tables_1_6 178 rfl rfl) hn k
theorem pX12_577 {n : Nat} {v : Int64} (hm : m.1.cls = RX12) (hd : decode m.2.1 pc = .ok (.putfield 577, 3)) (hn : aIs D n 12 0) (k : aV l m d D scr (pc + 3) lv st (aWl x n 89 v) Q) : aV l m d D scr pc lv (.long v :: .ref n :: st) x Q :=
  a_putJ (ci := 12) (j := 89) hd rfl iwX12 rfl (by decide) (by decide) (by rw [hm]; exact aTb_tables_1_6 178 rfl rfl) tyX12 tyX12_ok nmX12 rfl (by decide +kernel) (by decide) hn k
theorem gX2_9 {n : Nat} (hm : m.1.cls = RX2) (hd : decode m.2.1 pc = .ok (.getfield 9, 3)) (hn : aIs D n 2 0) (k : aV l m d D scr (pc + 3) lv (.ref (n + 10) :: st) x Q) : aV l m d D scr pc lv (.ref n :: st) x Q :=
  a_get (ci := 2) (j := 2) hd rfl iwX2 rfl (by decide) (by decide) (by rw [hm]; exact aTb_tables_1_1 93 rfl rfl) hn k
theorem gX2_15 {n : Nat} (hm : m.1.cls = RX2) (hd : decode m.2.1 pc = .ok (.getfield 15, 3)) (hn : aIs D n 2 0) (k : aV l m d D scr (pc + 3) lv (.ref (n + 20) :: st) x Q) : aV l m d D scr pc lv (.ref n :: st) x Q :=
  a_get (ci := 2) (j := 3) hd rfl iwX2 rfl (by decide) (by decide) (by rw [hm]; exact aTb_tables_1_1 94 rfl rfl) hn k
theorem pX2_18 {n : Nat} {v : Int32} (hm : m.1.cls = RX2) (hd : decode m.2.1 pc = .ok (.putfield 18, 3)) (hn : aIs D n 2 0) (hb : v = 0 ∨ v = 1) (k : aV l m d D scr (pc + 3) lv st (aWr x n 0 v) Q) : aV l m d D scr pc lv (.int v :: .ref n :: st) x Q :=
  a_putZ (ci := 2) (j := 0) hd rfl iwX2 rfl (by decide) (by decide) (by rw [hm]; exact aTb_tables_1_1 90 rfl rfl) tyX2 tyX2_ok nmX2 rfl (by decide +kernel) (by decide) hb hn k
theorem gX2_22 {n : Nat} (hm : m.1.cls = RX2) (hd : decode m.2.1 pc = .ok (.getfield 22, 3)) (hn : aIs D n 2 0) (k : aV l m d D scr (pc + 3) lv (.int (x.1 n 1) :: st) x Q) : aV l m d D scr pc lv (.ref n :: st) x Q :=
  a_get (ci := 2) (j := 1) hd rfl iwX2 rfl (by decide) (by decide) (by rw [hm]; exact aTb_tables_1_1 92 rfl rfl) hn k
theorem pX2_22 {n : Nat} {v : Int32} (hm : m.1.cls = RX2) (hd : decode m.2.1 pc = .ok (.putfield 22, 3)) (hn : aIs D n 2 0) (k : aV l m d D scr (pc + 3) lv st (aWr x n 1 v) Q) : aV l m d D scr pc lv (.int v :: .ref n :: st) x Q :=
  a_put (ci := 2) (j := 1) hd rfl iwX2 rfl (by decide) (by decide) (by rw [hm]; exact aTb_tables_1_1 92 rfl rfl) tyX2 tyX2_ok nmX2 rfl (by decide +kernel) (by decide) hn k
theorem gX3_12 {n : Nat} (hm : m.1.cls = RX3) (hd : decode m.2.1 pc = .ok (.getfield 12, 3)) (hn : aIs D n 3 0) (k : aV l m d D scr (pc + 3) lv (.ref bTp :: st) x Q) : aV l m d D scr pc lv (.ref n :: st) x Q :=
  a_get (ci := 3) (j := 0) hd rfl iwX3 rfl (by decide) (by decide) (by rw [hm]; exact aTb_tables_1_2 28 rfl rfl) hn k
theorem gX3_21 {n : Nat} (hm : m.1.cls = RX3) (hd : decode m.2.1 pc = .ok (.getfield 21, 3)) (hn : aIs D n 3 0) (k : aV l m d D scr (pc + 3) lv (.ref ((x.1 n 1).toNatClampNeg * 256) :: st) x Q) : aV l m d D scr pc lv (.ref n :: st) x Q :=
  a_get (ci := 3) (j := 1) hd rfl iwX3 rfl (by decide) (by decide) (by rw [hm]; exact aTb_tables_1_2 30 rfl rfl) hn k
theorem pX3_21 {n o : Nat} (hm : m.1.cls = RX3) (hd : decode m.2.1 pc = .ok (.putfield 21, 3)) (ho : o < 2 ^ 31) (hn : aIs D n 3 0) (k : aV l m d D scr (pc + 3) lv st (aWr x n 1 (nI o)) Q) : aV l m d D scr pc lv (.ref (o * 256) :: .ref n :: st) x Q :=
  a_putR (ci := 3) (j := 1) (cn := "LastHouse$Told") hd rfl iwX3 rfl (by decide) (by decide) (by rw [hm]; exact aTb_tables_1_2 30 rfl rfl) tyX3 tyX3_ok nmX3 rfl (by decide +kernel) (by decide) ho hn k
theorem gX3_25 {n : Nat} (hm : m.1.cls = RX3) (hd : decode m.2.1 pc = .ok (.getfield 25, 3)) (hn : aIs D n 3 0) (k : aV l m d D scr (pc + 3) lv (.ref (n + 5) :: st) x Q) : aV l m d D scr pc lv (.ref n :: st) x Q :=
  a_get (ci := 3) (j := 4) hd rfl iwX3 rfl (by decide) (by decide) (by rw [hm]; exact aTb_tables_1_2 34 rfl rfl) hn k
theorem pX3_29 {n : Nat} {v : Int32} (hm : m.1.cls = RX3) (hd : decode m.2.1 pc = .ok (.putfield 29, 3)) (hn : aIs D n 3 0) (k : aV l m d D scr (pc + 3) lv st (aWr x n 8 v) Q) : aV l m d D scr pc lv (.int v :: .ref n :: st) x Q :=
  a_put (ci := 3) (j := 8) hd rfl iwX3 rfl (by decide) (by decide) (by rw [hm]; exact aTb_tables_1_2 39 rfl rfl) tyX3 tyX3_ok nmX3 rfl (by decide +kernel) (by decide) hn k
theorem gX3_36 {n : Nat} (hm : m.1.cls = RX3) (hd : decode m.2.1 pc = .ok (.getfield 36, 3)) (hn : aIs D n 3 0) (k : aV l m d D scr (pc + 3) lv (.int (x.1 n 2) :: st) x Q) : aV l m d D scr pc lv (.ref n :: st) x Q :=
  a_get (ci := 3) (j := 2) hd rfl iwX3 rfl (by decide) (by decide) (by rw [hm]; exact aTb_tables_1_2 32 rfl rfl) hn k
theorem pX3_36 {n : Nat} {v : Int32} (hm : m.1.cls = RX3) (hd : decode m.2.1 pc = .ok (.putfield 36, 3)) (hn : aIs D n 3 0) (hb : v = 0 ∨ v = 1) (k : aV l m d D scr (pc + 3) lv st (aWr x n 2 v) Q) : aV l m d D scr pc lv (.int v :: .ref n :: st) x Q :=
  a_putZ (ci := 3) (j := 2) hd rfl iwX3 rfl (by decide) (by decide) (by rw [hm]; exact aTb_tables_1_2 32 rfl rfl) tyX3 tyX3_ok nmX3 rfl (by decide +kernel) (by decide) hb hn k
theorem gX3_40 {n : Nat} (hm : m.1.cls = RX3) (hd : decode m.2.1 pc = .ok (.getfield 40, 3)) (hn : aIs D n 3 0) (k : aV l m d D scr (pc + 3) lv (.int (x.1 n 3) :: st) x Q) : aV l m d D scr pc lv (.ref n :: st) x Q :=
  a_get (ci := 3) (j := 3) hd rfl iwX3 rfl (by decide) (by decide) (by rw [hm]; exact aTb_tables_1_2 33 rfl rfl) hn k
theorem pX3_40 {n : Nat} {v : Int32} (hm : m.1.cls = RX3) (hd : decode m.2.1 pc = .ok (.putfield 40, 3)) (hn : aIs D n 3 0) (hb : v = 0 ∨ v = 1) (k : aV l m d D scr (pc + 3) lv st (aWr x n 3 v) Q) : aV l m d D scr pc lv (.int v :: .ref n :: st) x Q :=
  a_putZ (ci := 3) (j := 3) hd rfl iwX3 rfl (by decide) (by decide) (by rw [hm]; exact aTb_tables_1_2 33 rfl rfl) tyX3 tyX3_ok nmX3 rfl (by decide +kernel) (by decide) hb hn k
theorem gX3_43 {n : Nat} (hm : m.1.cls = RX3) (hd : decode m.2.1 pc = .ok (.getfield 43, 3)) (hn : aIs D n 3 0) (k : aV l m d D scr (pc + 3) lv (.int (x.1 n 7) :: st) x Q) : aV l m d D scr pc lv (.ref n :: st) x Q :=
  a_get (ci := 3) (j := 7) hd rfl iwX3 rfl (by decide) (by decide) (by rw [hm]; exact aTb_tables_1_2 37 rfl rfl) hn k
theorem pX3_43 {n : Nat} {v : Int32} (hm : m.1.cls = RX3) (hd : decode m.2.1 pc = .ok (.putfield 43, 3)) (hn : aIs D n 3 0) (k : aV l m d D scr (pc + 3) lv st (aWr x n 7 v) Q) : aV l m d D scr pc lv (.int v :: .ref n :: st) x Q :=
  a_put (ci := 3) (j := 7) hd rfl iwX3 rfl (by decide) (by decide) (by rw [hm]; exact aTb_tables_1_2 37 rfl rfl) tyX3 tyX3_ok nmX3 rfl (by decide +kernel) (by decide) hn k
theorem gX3_50 {n : Nat} (hm : m.1.cls = RX3) (hd : decode m.2.1 pc = .ok (.getfield 50, 3)) (hn : aIs D n 7 0) (k : aV l m d D scr (pc + 3) lv (.int (x.1 n 4) :: st) x Q) : aV l m d D scr pc lv (.ref n :: st) x Q :=
  a_get (ci := 7) (j := 4) hd rfl iwX7 rfl (by decide) (by decide) (by rw [hm]; exact aTb_tables_1_1 53 rfl rfl) hn k
theorem gX3_86 {n : Nat} (hm : m.1.cls = RX3) (hd : decode m.2.1 pc = .ok (.getfield 86, 3)) (hn : aIs D n 8 0) (k : aV l m d D scr (pc + 3) lv (.int (x.1 n 0) :: st) x Q) : aV l m d D scr pc lv (.ref n :: st) x Q :=
  a_get (ci := 8) (j := 0) hd rfl iwX8 rfl (by decide) (by decide) (by rw [hm]; exact aTb_tables_1_1 150 rfl rfl) hn k
theorem pX3_86 {n : Nat} {v : Int32} (hm : m.1.cls = RX3) (hd : decode m.2.1 pc = .ok (.putfield 86, 3)) (hn : aIs D n 8 0) (k : aV l m d D scr (pc + 3) lv st (aWr x n 0 v) Q) : aV l m d D scr pc lv (.int v :: .ref n :: st) x Q :=
  a_put (ci := 8) (j := 0) hd rfl iwX8 rfl (by decide) (by decide) (by rw [hm]; exact aTb_tables_1_1 150 rfl rfl) tyX8 tyX8_ok nmX8 rfl (by decide +kernel) (by decide) hn k
theorem gX3_89 {n : Nat} (hm : m.1.cls = RX3) (hd : decode m.2.1 pc = .ok (.getfield 89, 3)) (hn : aIs D n 7 0) (k : aV l m d D scr (pc + 3) lv (.int (x.1 n 5) :: st) x Q) : aV l m d D scr pc lv (.ref n :: st) x Q :=
  a_get (ci := 7) (j := 5) hd rfl iwX7 rfl (by decide) (by decide) (by rw [hm]; exact aTb_tables_1_1 54 rfl rfl) hn k
theorem gX3_92 {n : Nat} (hm : m.1.cls = RX3) (hd : decode m.2.1 pc = .ok (.getfield 92, 3)) (hn : aIs D n 8 0) (k : aV l m d D scr (pc + 3) lv (.int (x.1 n 1) :: st) x Q) : aV l m d D scr pc lv (.ref n :: st) x Q :=
  a_get (ci := 8) (j := 1) hd rfl iwX8 rfl (by decide) (by decide) (by rw [hm]; exact aTb_tables_1_1 155 rfl rfl) hn k
theorem pX3_92 {n : Nat} {v : Int32} (hm : m.1.cls = RX3) (hd : decode m.2.1 pc = .ok (.putfield 92, 3)) (hn : aIs D n 8 0) (k : aV l m d D scr (pc + 3) lv st (aWr x n 1 v) Q) : aV l m d D scr pc lv (.int v :: .ref n :: st) x Q :=
  a_put (ci := 8) (j := 1) hd rfl iwX8 rfl (by decide) (by decide) (by rw [hm]; exact aTb_tables_1_1 155 rfl rfl) tyX8 tyX8_ok nmX8 rfl (by decide +kernel) (by decide) hn k
theorem gX3_95 {n : Nat} (hm : m.1.cls = RX3) (hd : decode m.2.1 pc = .ok (.getfield 95, 3)) (hn : aIs D n 8 0) (k : aV l m d D scr (pc + 3) lv (.ref (n + 3) :: st) x Q) : aV l m d D scr pc lv (.ref n :: st) x Q :=
  a_get (ci := 8) (j := 2) hd rfl iwX8 rfl (by decide) (by decide) (by rw [hm]; exact aTb_tables_1_1 158 rfl rfl) hn k
theorem gX3_102 {n : Nat} (hm : m.1.cls = RX3) (hd : decode m.2.1 pc = .ok (.getfield 102, 3)) (hn : aIs D n 7 0) (k : aV l m d D scr (pc + 3) lv (.int (x.1 n 6) :: st) x Q) : aV l m d D scr pc lv (.ref n :: st) x Q :=
  a_get (ci := 7) (j := 6) hd rfl iwX7 rfl (by decide) (by decide) (by rw [hm]; exact aTb_tables_1_1 57 rfl rfl) hn k
theorem gX3_105 {n : Nat} (hm : m.1.cls = RX3) (hd : decode m.2.1 pc = .ok (.getfield 105, 3)) (hn : aIs D n 8 0) (k : aV l m d D scr (pc + 3) lv (.ref (n + 4) :: st) x Q) : aV l m d D scr pc lv (.ref n :: st) x Q :=
  a_get (ci := 8) (j := 3) hd rfl iwX8 rfl (by decide) (by decide) (by rw [hm]; exact aTb_tables_1_1 162 rfl rfl) hn k
theorem gX3_112 {n : Nat} (hm : m.1.cls = RX3) (hd : decode m.2.1 pc = .ok (.getfield 112, 3)) (hn : aIs D n 8 0) (k : aV l m d D scr (pc + 3) lv (.int (x.1 n 4) :: st) x Q) : aV l m d D scr pc lv (.ref n :: st) x Q :=
  a_get (ci := 8) (j := 4) hd rfl iwX8 rfl (by decide) (by decide) (by rw [hm]; exact aTb_tables_1_1 168 rfl rfl) hn k
theorem pX3_112 {n : Nat} {v : Int32} (hm : m.1.cls = RX3) (hd : decode m.2.1 pc = .ok (.putfield 112, 3)) (hn : aIs D n 8 0) (k : aV l m d D scr (pc + 3) lv st (aWr x n 4 v) Q) : aV l m d D scr pc lv (.int v :: .ref n :: st) x Q :=
  a_put (ci := 8) (j := 4) hd rfl iwX8 rfl (by decide) (by decide) (by rw [hm]; exact aTb_tables_1_1 168 rfl rfl) tyX8 tyX8_ok nmX8 rfl (by decide +kernel) (by decide) hn k
theorem gX3_115 {n : Nat} (hm : m.1.cls = RX3) (hd : decode m.2.1 pc = .ok (.getfield 115, 3)) (hn : aIs D n 8 0) (k : aV l m d D scr (pc + 3) lv (.ref (n + 6) :: st) x Q) : aV l m d D scr pc lv (.ref n :: st) x Q :=
  a_get (ci := 8) (j := 5) hd rfl iwX8 rfl (by decide) (by decide) (by rw [hm]; exact aTb_tables_1_1 171 rfl rfl) hn k
theorem gX3_118 {n : Nat} (hm : m.1.cls = RX3) (hd : decode m.2.1 pc = .ok (.getfield 118, 3)) (hn : aIs D n 8 0) (k : aV l m d D scr (pc + 3) lv (.ref (n + 7) :: st) x Q) : aV l m d D scr pc lv (.ref n :: st) x Q :=
  a_get (ci := 8) (j := 6) hd rfl iwX8 rfl (by decide) (by decide) (by rw [hm]; exact aTb_tables_1_1 174 rfl rfl) hn k
theorem gX3_125 {n : Nat} (hm : m.1.cls = RX3) (hd : decode m.2.1 pc = .ok (.getfield 125, 3)) (hn : aIs D n 8 0) (k : aV l m d D scr (pc + 3) lv (.ref (n + 8) :: st) x Q) : aV l m d D scr pc lv (.ref n :: st) x Q :=
  a_get (ci := 8) (j := 7) hd rfl iwX8 rfl (by decide) (by decide) (by rw [hm]; exact aTb_tables_1_1 176 rfl rfl) hn k
theorem gX3_128 {n : Nat} (hm : m.1.cls = RX3) (hd : decode m.2.1 pc = .ok (.getfield 128, 3)) (hn : aIs D n 8 0) (k : aV l m d D scr (pc + 3) lv (.ref (n + 9) :: st) x Q) : aV l m d D scr pc lv (.ref n :: st) x Q :=
  a_get (ci := 8) (j := 8) hd rfl iwX8 rfl (by decide) (by decide) (by rw [hm]; exact aTb_tables_1_1 179 rfl rfl) hn k
theorem gX3_131 {n : Nat} (hm : m.1.cls = RX3) (hd : decode m.2.1 pc = .ok (.getfield 131, 3)) (hn : aIs D n 8 0) (k : aV l m d D scr (pc + 3) lv (.ref (n + 10) :: st) x Q) : aV l m d D scr pc lv (.ref n :: st) x Q :=
  a_get (ci := 8) (j := 9) hd rfl iwX8 rfl (by decide) (by decide) (by rw [hm]; exact aTb_tables_1_1 184 rfl rfl) hn k
theorem gX3_134 {n : Nat} (hm : m.1.cls = RX3) (hd : decode m.2.1 pc = .ok (.getfield 134, 3)) (hn : aIs D n 8 0) (k : aV l m d D scr (pc + 3) lv (.int (x.1 n 10) :: st) x Q) : aV l m d D scr pc lv (.ref n :: st) x Q :=
  a_get (ci := 8) (j := 10) hd rfl iwX8 rfl (by decide) (by decide) (by rw [hm]; exact aTb_tables_1_1 187 rfl rfl) hn k
theorem pX3_134 {n : Nat} {v : Int32} (hm : m.1.cls = RX3) (hd : decode m.2.1 pc = .ok (.putfield 134, 3)) (hn : aIs D n 8 0) (k : aV l m d D scr (pc + 3) lv st (aWr x n 10 v) Q) : aV l m d D scr pc lv (.int v :: .ref n :: st) x Q :=
  a_put (ci := 8) (j := 10) hd rfl iwX8 rfl (by decide) (by decide) (by rw [hm]; exact aTb_tables_1_1 187 rfl rfl) tyX8 tyX8_ok nmX8 rfl (by decide +kernel) (by decide) hn k
theorem gX3_137 {n : Nat} (hm : m.1.cls = RX3) (hd : decode m.2.1 pc = .ok (.getfield 137, 3)) (hn : aIs D n 8 0) (k : aV l m d D scr (pc + 3) lv (.ref (n + 12) :: st) x Q) : aV l m d D scr pc lv (.ref n :: st) x Q :=
  a_get (ci := 8) (j := 11) hd rfl iwX8 rfl (by decide) (by decide) (by rw [hm]; exact aTb_tables_1_1 191 rfl rfl) hn k
theorem pX3_141 {n : Nat} {v : Int32} (hm : m.1.cls = RX3) (hd : decode m.2.1 pc = .ok (.putfield 141, 3)) (hn : aIs D n 0 0) (hb : v = 0 ∨ v = 1) (k : aV l m d D scr (pc + 3) lv st (aWr x n 4 v) Q) : aV l m d D scr pc lv (.int v :: .ref n :: st) x Q :=
  a_putZ (ci := 0) (j := 4) hd rfl iwX0 rfl (by decide) (by decide) (by rw [hm]; exact aTb_tables_1_1 119 rfl rfl) tyX0 tyX0_ok nmX0 rfl (by decide +kernel) (by decide) hb hn k
theorem pX3_146 {n : Nat} {v : Int32} (hm : m.1.cls = RX3) (hd : decode m.2.1 pc = .ok (.putfield 146, 3)) (hn : aIs D n 0 0) (k : aV l m d D scr (pc + 3) lv st (aWr x n 0 v) Q) : aV l m d D scr pc lv (.int v :: .ref n :: st) x Q :=
  a_put (ci := 0) (j := 0) hd rfl iwX0 rfl (by decide) (by decide) (by rw [hm]; exact aTb_tables_1_1 111 rfl rfl) tyX0 tyX0_ok nmX0 rfl (by decide +kernel) (by decide) hn k
theorem pX3_149 {n : Nat} {v : Int32} (hm : m.1.cls = RX3) (hd : decode m.2.1 pc = .ok (.putfield 149, 3)) (hn : aIs D n 0 0) (k : aV l m d D scr (pc + 3) lv st (aWr x n 1 v) Q) : aV l m d D scr pc lv (.int v :: .ref n :: st) x Q :=
  a_put (ci := 0) (j := 1) hd rfl iwX0 rfl (by decide) (by decide) (by rw [hm]; exact aTb_tables_1_1 113 rfl rfl) tyX0 tyX0_ok nmX0 rfl (by decide +kernel) (by decide) hn k
theorem pX3_152 {n : Nat} {v : Int32} (hm : m.1.cls = RX3) (hd : decode m.2.1 pc = .ok (.putfield 152, 3)) (hn : aIs D n 0 0) (k : aV l m d D scr (pc + 3) lv st (aWr x n 2 v) Q) : aV l m d D scr pc lv (.int v :: .ref n :: st) x Q :=
  a_put (ci := 0) (j := 2) hd rfl iwX0 rfl (by decide) (by decide) (by rw [hm]; exact aTb_tables_1_1 115 rfl rfl) tyX0 tyX0_ok nmX0 rfl (by decide +kernel) (by decide) hn k
theorem pX3_155 {n : Nat} {v : Int32} (hm : m.1.cls = RX3) (hd : decode m.2.1 pc = .ok (.putfield 155, 3)) (hn : aIs D n 0 0) (k : aV l m d D scr (pc + 3) lv st (aWr x n 3 v) Q) : aV l m d D scr pc lv (.int v :: .ref n :: st) x Q :=
  a_put (ci := 0) (j := 3) hd rfl iwX0 rfl (by decide) (by decide) (by rw [hm]; exact aTb_tables_1_1 117 rfl rfl) tyX0 tyX0_ok nmX0 rfl (by decide +kernel) (by decide) hn k
theorem gX3_158 {n : Nat} (hm : m.1.cls = RX3) (hd : decode m.2.1 pc = .ok (.getfield 158, 3)) (hn : aIs D n 8 0) (k : aV l m d D scr (pc + 3) lv (.int (x.1 n 12) :: st) x Q) : aV l m d D scr pc lv (.ref n :: st) x Q :=
  a_get (ci := 8) (j := 12) hd rfl iwX8 rfl (by decide) (by decide) (by rw [hm]; exact aTb_tables_1_1 194 rfl rfl) hn k
theorem pX3_158 {n : Nat} {v : Int32} (hm : m.1.cls = RX3) (hd : decode m.2.1 pc = .ok (.putfield 158, 3)) (hn : aIs D n 8 0) (k : aV l m d D scr (pc + 3) lv st (aWr x n 12 v) Q) : aV l m d D scr pc lv (.int v :: .ref n :: st) x Q :=
  a_put (ci := 8) (j := 12) hd rfl iwX8 rfl (by decide) (by decide) (by rw [hm]; exact aTb_tables_1_1 194 rfl rfl) tyX8 tyX8_ok nmX8 rfl (by decide +kernel) (by decide) hn k
theorem gX3_161 {n : Nat} (hm : m.1.cls = RX3) (hd : decode m.2.1 pc = .ok (.getfield 161, 3)) (hn : aIs D n 8 0) (k : aV l m d D scr (pc + 3) lv (.ref (n + 14) :: st) x Q) : aV l m d D scr pc lv (.ref n :: st) x Q :=
  a_get (ci := 8) (j := 13) hd rfl iwX8 rfl (by decide) (by decide) (by rw [hm]; exact aTb_tables_1_1 197 rfl rfl) hn k
theorem pX3_165 {n : Nat} {v : Int32} (hm : m.1.cls = RX3) (hd : decode m.2.1 pc = .ok (.putfield 165, 3)) (hn : aIs D n 9 0) (k : aV l m d D scr (pc + 3) lv st (aWr x n 0 v) Q) : aV l m d D scr pc lv (.int v :: .ref n :: st) x Q :=
  a_put (ci := 9) (j := 0) hd rfl iwX9 rfl (by decide) (by decide) (by rw [hm]; exact aTb_tables_1_1 137 rfl rfl) tyX9 tyX9_ok nmX9 rfl (by decide +kernel) (by decide) hn k
theorem pX3_170 {n : Nat} {v : Int32} (hm : m.1.cls = RX3) (hd : decode m.2.1 pc = .ok (.putfield 170, 3)) (hn : aIs D n 9 0) (k : aV l m d D scr (pc + 3) lv st (aWr x n 1 v) Q) : aV l m d D scr pc lv (.int v :: .ref n :: st) x Q :=
  a_put (ci := 9) (j := 1) hd rfl iwX9 rfl (by decide) (by decide) (by rw [hm]; exact aTb_tables_1_1 139 rfl rfl) tyX9 tyX9_ok nmX9 rfl (by decide +kernel) (by decide) hn k
theorem pX3_173 {n : Nat} {v : Int32} (hm : m.1.cls = RX3) (hd : decode m.2.1 pc = .ok (.putfield 173, 3)) (hn : aIs D n 9 0) (k : aV l m d D scr (pc + 3) lv st (aWr x n 2 v) Q) : aV l m d D scr pc lv (.int v :: .ref n :: st) x Q :=
  a_put (ci := 9) (j := 2) hd rfl iwX9 rfl (by decide) (by decide) (by rw [hm]; exact aTb_tables_1_1 141 rfl rfl) tyX9 tyX9_ok nmX9 rfl (by decide +kernel) (by decide) hn k
theorem gX3_174 {n : Nat} (hm : m.1.cls = RX3) (hd : decode m.2.1 pc = .ok (.getfield 174, 3)) (hn : aIs D n 8 0) (k : aV l m d D scr (pc + 3) lv (.int (x.1 n 14) :: st) x Q) : aV l m d D scr pc lv (.ref n :: st) x Q :=
  a_get (ci := 8) (j := 14) hd rfl iwX8 rfl (by decide) (by decide) (by rw [hm]; exact aTb_tables_1_1 199 rfl rfl) hn k
theorem pX3_174 {n : Nat} {v : Int32} (hm : m.1.cls = RX3) (hd : decode m.2.1 pc = .ok (.putfield 174, 3)) (hn : aIs D n 8 0) (k : aV l m d D scr (pc + 3) lv st (aWr x n 14 v) Q) : aV l m d D scr pc lv (.int v :: .ref n :: st) x Q :=
  a_put (ci := 8) (j := 14) hd rfl iwX8 rfl (by decide) (by decide) (by rw [hm]; exact aTb_tables_1_1 199 rfl rfl) tyX8 tyX8_ok nmX8 rfl (by decide +kernel) (by decide) hn k
theorem gX3_177 {n : Nat} (hm : m.1.cls = RX3) (hd : decode m.2.1 pc = .ok (.getfield 177, 3)) (hn : aIs D n 8 0) (k : aV l m d D scr (pc + 3) lv (.ref (n + 16) :: st) x Q) : aV l m d D scr pc lv (.ref n :: st) x Q :=
  a_get (ci := 8) (j := 15) hd rfl iwX8 rfl (by decide) (by decide) (by rw [hm]; exact aTb_tables_1_1 201 rfl rfl) hn k
theorem pX3_180 {n : Nat} {v : Int32} (hm : m.1.cls = RX3) (hd : decode m.2.1 pc = .ok (.putfield 180, 3)) (hn : aIs D n 8 0) (k : aV l m d D scr (pc + 3) lv st (aWr x n 16 v) Q) : aV l m d D scr pc lv (.int v :: .ref n :: st) x Q :=
  a_put (ci := 8) (j := 16) hd rfl iwX8 rfl (by decide) (by decide) (by rw [hm]; exact aTb_tables_1_1 204 rfl rfl) tyX8 tyX8_ok nmX8 rfl (by decide +kernel) (by decide) hn k
theorem pX3_184 {n : Nat} {v : Int32} (hm : m.1.cls = RX3) (hd : decode m.2.1 pc = .ok (.putfield 184, 3)) (hn : aIs D n 8 0) (k : aV l m d D scr (pc + 3) lv st (aWr x n 17 v) Q) : aV l m d D scr pc lv (.int v :: .ref n :: st) x Q :=
  a_put (ci := 8) (j := 17) hd rfl iwX8 rfl (by decide) (by decide) (by rw [hm]; exact aTb_tables_1_1 208 rfl rfl) tyX8 tyX8_ok nmX8 rfl (by decide +kernel) (by decide) hn k
theorem gX3_191 {n : Nat} (hm : m.1.cls = RX3) (hd : decode m.2.1 pc = .ok (.getfield 191, 3)) (hn : aIs D n 8 0) (k : aV l m d D scr (pc + 3) lv (.ref (n + 130) :: st) x Q) : aV l m d D scr pc lv (.ref n :: st) x Q :=
  a_get (ci := 8) (j := 19) hd rfl iwX8 rfl (by decide) (by decide) (by rw [hm]; exact aTb_tables_1_1 214 rfl rfl) hn k
theorem gX3_195 {n : Nat} (hm : m.1.cls = RX3) (hd : decode m.2.1 pc = .ok (.getfield 195, 3)) (hn : aIs D n 8 0) (k : aV l m d D scr (pc + 3) lv (.ref (n + 131) :: st) x Q) : aV l m d D scr pc lv (.ref n :: st) x Q :=
  a_get (ci := 8) (j := 20) hd rfl iwX8 rfl (by decide) (by decide) (by rw [hm]; exact aTb_tables_1_1 218 rfl rfl) hn k
theorem gX3_198 {n : Nat} (hm : m.1.cls = RX3) (hd : decode m.2.1 pc = .ok (.getfield 198, 3)) (hn : aIs D n 8 0) (k : aV l m d D scr (pc + 3) lv (.ref (n + 132) :: st) x Q) : aV l m d D scr pc lv (.ref n :: st) x Q :=
  a_get (ci := 8) (j := 21) hd rfl iwX8 rfl (by decide) (by decide) (by rw [hm]; exact aTb_tables_1_1 222 rfl rfl) hn k
theorem gX3_201 {n : Nat} (hm : m.1.cls = RX3) (hd : decode m.2.1 pc = .ok (.getfield 201, 3)) (hn : aIs D n 2 0) (k : aV l m d D scr (pc + 3) lv (.int (x.1 n 0) :: st) x Q) : aV l m d D scr pc lv (.ref n :: st) x Q :=
  a_get (ci := 2) (j := 0) hd rfl iwX2 rfl (by decide) (by decide) (by rw [hm]; exact aTb_tables_1_1 91 rfl rfl) hn k
theorem pX3_201 {n : Nat} {v : Int32} (hm : m.1.cls = RX3) (hd : decode m.2.1 pc = .ok (.putfield 201, 3)) (hn : aIs D n 2 0) (hb : v = 0 ∨ v = 1) (k : aV l m d D scr (pc + 3) lv st (aWr x n 0 v) Q) : aV l m d D scr pc lv (.int v :: .ref n :: st) x Q :=
  a_putZ (ci := 2) (j := 0) hd rfl iwX2 rfl (by decide) (by decide) (by rw [hm]; exact aTb_tables_1_1 91 rfl rfl) tyX2 tyX2_ok nmX2 rfl (by decide +kernel) (by decide) hb hn k
theorem gX3_210 {n : Nat} (hm : m.1.cls = RX3) (hd : decode m.2.1 pc = .ok (.getfield 210, 3)) (hn : aIs D n 3 0) (k : aV l m d D scr (pc + 3) lv (.int (x.1 n 5) :: st) x Q) : aV l m d D scr pc lv (.ref n :: st) x Q :=
  a_get (ci := 3) (j := 5) hd rfl iwX3 rfl (by decide) (by decide) (by rw [hm]; exact aTb_tables_1_2 35 rfl rfl) hn k
theorem pX3_210 {n : Nat} {v : Int32} (hm : m.1.cls = RX3) (hd : decode m.2.1 pc = .ok (.putfield 210, 3)) (hn : aIs D n 3 0) (k : aV l m d D scr (pc + 3) lv st (aWr x n 5 v) Q) : aV l m d D scr pc lv (.int v :: .ref n :: st) x Q :=
  a_put (ci := 3) (j := 5) hd rfl iwX3 rfl (by decide) (by decide) (by rw [hm]; exact aTb_tables_1_2 35 rfl rfl) tyX3 tyX3_ok nmX3 rfl (by decide +kernel) (by decide) hn k
theorem gX3_213 {n : Nat} (hm : m.1.cls = RX3) (hd : decode m.2.1 pc = .ok (.getfield 213, 3)) (hn : aIs D n 3 0) (k : aV l m d D scr (pc + 3) lv (.int (x.1 n 6) :: st) x Q) : aV l m d D scr pc lv (.ref n :: st) x Q :=
  a_get (ci := 3) (j := 6) hd rfl iwX3 rfl (by decide) (by decide) (by rw [hm]; exact aTb_tables_1_2 36 rfl rfl) hn k
theorem pX3_213 {n : Nat} {v : Int32} (hm : m.1.cls = RX3) (hd : decode m.2.1 pc = .ok (.putfield 213, 3)) (hn : aIs D n 3 0) (k : aV l m d D scr (pc + 3) lv st (aWr x n 6 v) Q) : aV l m d D scr pc lv (.int v :: .ref n :: st) x Q :=
  a_put (ci := 3) (j := 6) hd rfl iwX3 rfl (by decide) (by decide) (by rw [hm]; exact aTb_tables_1_2 36 rfl rfl) tyX3 tyX3_ok nmX3 rfl (by decide +kernel) (by decide) hn k
theorem gX3_237 {n : Nat} (hm : m.1.cls = RX3) (hd : decode m.2.1 pc = .ok (.getfield 237, 3)) (hn : aIs D n 8 0) (k : aV l m d D scr (pc + 3) lv (.int (x.1 n 18) :: st) x Q) : aV l m d D scr pc lv (.ref n :: st) x Q :=
  a_get (ci := 8) (j := 18) hd rfl iwX8 rfl (by decide) (by decide) (by rw [hm]; exact aTb_tables_1_1 210 rfl rfl) hn k
theorem pX3_237 {n : Nat} {v : Int32} (hm : m.1.cls = RX3) (hd : decode m.2.1 pc = .ok (.putfield 237, 3)) (hn : aIs D n 8 0) (k : aV l m d D scr (pc + 3) lv st (aWr x n 18 v) Q) : aV l m d D scr pc lv (.int v :: .ref n :: st) x Q :=
  a_put (ci := 8) (j := 18) hd rfl iwX8 rfl (by decide) (by decide) (by rw [hm]; exact aTb_tables_1_1 210 rfl rfl) tyX8 tyX8_ok nmX8 rfl (by decide +kernel) (by decide) hn k
theorem gX4_9 {n : Nat} (hm : m.1.cls = RX4) (hd : decode m.2.1 pc = .ok (.getfield 9, 3)) (hn : aIs D n 4 0) (k : aV l m d D scr (pc + 3) lv (.ref (n + 1) :: st) x Q) : aV l m d D scr pc lv (.ref n :: st) x Q :=
  a_get (ci := 4) (j := 0) hd rfl iwX4 rfl (by decide) (by decide) (by rw [hm]; exact aTb_tables_1_2 208 rfl rfl) hn k
theorem gX4_18 {n : Nat} (hm : m.1.cls = RX4) (hd : decode m.2.1 pc = .ok (.getfield 18, 3)) (hn : aIs D n 4 0) (k : aV l m d D scr (pc + 3) lv (.ref (n + 4) :: st) x Q) : aV l m d D scr pc lv (.ref n :: st) x Q :=
  a_get (ci := 4) (j := 3) hd rfl iwX4 rfl (by decide) (by decide) (by rw [hm]; exact aTb_tables_1_2 214 rfl rfl) hn k
theorem gX4_21 {n : Nat} (hm : m.1.cls = RX4) (hd : decode m.2.1 pc = .ok (.getfield 21, 3)) (hn : aIs D n 4 0) (k : aV l m d D scr (pc + 3) lv (.ref (n + 5) :: st) x Q) : aV l m d D scr pc lv (.ref n :: st) x Q :=
  a_get (ci := 4) (j := 4) hd rfl iwX4 rfl (by decide) (by decide) (by rw [hm]; exact aTb_tables_1_2 215 rfl rfl) hn k
theorem gX4_24 {n : Nat} (hm : m.1.cls = RX4) (hd : decode m.2.1 pc = .ok (.getfield 24, 3)) (hn : aIs D n 4 0) (k : aV l m d D scr (pc + 3) lv (.ref (n + 6) :: st) x Q) : aV l m d D scr pc lv (.ref n :: st) x Q :=
  a_get (ci := 4) (j := 5) hd rfl iwX4 rfl (by decide) (by decide) (by rw [hm]; exact aTb_tables_1_2 216 rfl rfl) hn k
theorem gX4_27 {n : Nat} (hm : m.1.cls = RX4) (hd : decode m.2.1 pc = .ok (.getfield 27, 3)) (hn : aIs D n 4 0) (k : aV l m d D scr (pc + 3) lv (.ref (n + 7) :: st) x Q) : aV l m d D scr pc lv (.ref n :: st) x Q :=
  a_get (ci := 4) (j := 6) hd rfl iwX4 rfl (by decide) (by decide) (by rw [hm]; exact aTb_tables_1_2 217 rfl rfl) hn k
theorem gX4_30 {n : Nat} (hm : m.1.cls = RX4) (hd : decode m.2.1 pc = .ok (.getfield 30, 3)) (hn : aIs D n 4 0) (k : aV l m d D scr (pc + 3) lv (.ref (n + 8) :: st) x Q) : aV l m d D scr pc lv (.ref n :: st) x Q :=
  a_get (ci := 4) (j := 7) hd rfl iwX4 rfl (by decide) (by decide) (by rw [hm]; exact aTb_tables_1_2 218 rfl rfl) hn k
theorem gX4_34 {n : Nat} (hm : m.1.cls = RX4) (hd : decode m.2.1 pc = .ok (.getfield 34, 3)) (hn : aIs D n 6 0) (k : aV l m d D scr (pc + 3) lv (.ref (n + 10) :: st) x Q) : aV l m d D scr pc lv (.ref n :: st) x Q :=
  a_get (ci := 6) (j := 9) hd rfl iwX6 rfl (by decide) (by decide) (by rw [hm]; exact aTb_tables_1_2 91 rfl rfl) hn k
theorem gX4_39 {n : Nat} (hm : m.1.cls = RX4) (hd : decode m.2.1 pc = .ok (.getfield 39, 3)) (hn : aIs D n 6 0) (k : aV l m d D scr (pc + 3) lv (.ref (n + 7) :: st) x Q) : aV l m d D scr pc lv (.ref n :: st) x Q :=
  a_get (ci := 6) (j := 6) hd rfl iwX6 rfl (by decide) (by decide) (by rw [hm]; exact aTb_tables_1_2 81 rfl rfl) hn k
theorem gX4_46 {n : Nat} (hm : m.1.cls = RX4) (hd : decode m.2.1 pc = .ok (.getfield 46, 3)) (hn : aIs D n 6 0) (k : aV l m d D scr (pc + 3) lv (.ref (n + 11) :: st) x Q) : aV l m d D scr pc lv (.ref n :: st) x Q :=
  a_get (ci := 6) (j := 10) hd rfl iwX6 rfl (by decide) (by decide) (by rw [hm]; exact aTb_tables_1_2 95 rfl rfl) hn k
theorem gX4_61 {n : Nat} (hm : m.1.cls = RX4) (hd : decode m.2.1 pc = .ok (.getfield 61, 3)) (hn : aIs D n 6 0) (k : aV l m d D scr (pc + 3) lv (.ref (n + 8) :: st) x Q) : aV l m d D scr pc lv (.ref n :: st) x Q :=
  a_get (ci := 6) (j := 7) hd rfl iwX6 rfl (by decide) (by decide) (by rw [hm]; exact aTb_tables_1_2 85 rfl rfl) hn k
theorem gX4_64 {n : Nat} (hm : m.1.cls = RX4) (hd : decode m.2.1 pc = .ok (.getfield 64, 3)) (hn : aIs D n 6 0) (k : aV l m d D scr (pc + 3) lv (.ref (n + 9) :: st) x Q) : aV l m d D scr pc lv (.ref n :: st) x Q :=
  a_get (ci := 6) (j := 8) hd rfl iwX6 rfl (by decide) (by decide) (by rw [hm]; exact aTb_tables_1_2 88 rfl rfl) hn k
theorem gX4_75 {n : Nat} (hm : m.1.cls = RX4) (hd : decode m.2.1 pc = .ok (.getfield 75, 3)) (hn : aIs D n 8 0) (k : aV l m d D scr (pc + 3) lv (.int (x.1 n 1) :: st) x Q) : aV l m d D scr pc lv (.ref n :: st) x Q :=
  a_get (ci := 8) (j := 1) hd rfl iwX8 rfl (by decide) (by decide) (by rw [hm]; exact aTb_tables_1_1 154 rfl rfl) hn k
theorem gX4_79 {n : Nat} (hm : m.1.cls = RX4) (hd : decode m.2.1 pc = .ok (.getfield 79, 3)) (hn : aIs D n 8 0) (k : aV l m d D scr (pc + 3) lv (.int (x.1 n 4) :: st) x Q) : aV l m d D scr pc lv (.ref n :: st) x Q :=
  a_get (ci := 8) (j := 4) hd rfl iwX8 rfl (by decide) (by decide) (by rw [hm]; exact aTb_tables_1_1 166 rfl rfl) hn k
theorem pX4_93 {n : Nat} {v : Int32} (hm : m.1.cls = RX4) (hd : decode m.2.1 pc = .ok (.putfield 93, 3)) (hn : aIs D n 4 0) (k : aV l m d D scr (pc + 3) lv st (aWr x n 1 v) Q) : aV l m d D scr pc lv (.int v :: .ref n :: st) x Q :=
  a_put (ci := 4) (j := 1) hd rfl iwX4 rfl (by decide) (by decide) (by rw [hm]; exact aTb_tables_1_2 210 rfl rfl) tyX4 tyX4_ok nmX4 rfl (by decide +kernel) (by decide) hn k
theorem gX5_9 {n : Nat} (hm : m.1.cls = RX5) (hd : decode m.2.1 pc = .ok (.getfield 9, 3)) (hn : aIs D n 5 0) (k : aV l m d D scr (pc + 3) lv (.int (x.1 n 1) :: st) x Q) : aV l m d D scr pc lv (.ref n :: st) x Q :=
  a_get (ci := 5) (j := 1) hd rfl iwX5 rfl (by decide) (by decide) (by rw [hm]; exact aTb_tables_1_2 149 rfl rfl) hn k
theorem pX5_9 {n : Nat} {v : Int32} (hm : m.1.cls = RX5) (hd : decode m.2.1 pc = .ok (.putfield 9, 3)) (hn : aIs D n 5 0) (k : aV l m d D scr (pc + 3) lv st (aWr x n 1 v) Q) : aV l m d D scr pc lv (.int v :: .ref n :: st) x Q :=
  a_put (ci := 5) (j := 1) hd rfl iwX5 rfl (by decide) (by decide) (by rw [hm]; exact aTb_tables_1_2 149 rfl rfl) tyX5 tyX5_ok nmX5 rfl (by decide +kernel) (by decide) hn k
theorem gX5_15 {n : Nat} (hm : m.1.cls = RX5) (hd : decode m.2.1 pc = .ok (.getfield 15, 3)) (hn : aIs D n 5 0) (k : aV l m d D scr (pc + 3) lv (.ref (n + 3) :: st) x Q) : aV l m d D scr pc lv (.ref n :: st) x Q :=
  a_get (ci := 5) (j := 2) hd rfl iwX5 rfl (by decide) (by decide) (by rw [hm]; exact aTb_tables_1_2 151 rfl rfl) hn k
theorem gX5_19 {n : Nat} (hm : m.1.cls = RX5) (hd : decode m.2.1 pc = .ok (.getfield 19, 3)) (hn : aIs D n 5 0) (k : aV l m d D scr (pc + 3) lv (.ref (n + 4) :: st) x Q) : aV l m d D scr pc lv (.ref n :: st) x Q :=
  a_get (ci := 5) (j := 3) hd rfl iwX5 rfl (by decide) (by decide) (by rw [hm]; exact aTb_tables_1_2 152 rfl rfl) hn k
theorem gX5_22 {n : Nat} (hm : m.1.cls = RX5) (hd : decode m.2.1 pc = .ok (.getfield 22, 3)) (hn : aIs D n 5 0) (k : aV l m d D scr (pc + 3) lv (.ref (n + 5) :: st) x Q) : aV l m d D scr pc lv (.ref n :: st) x Q :=
  a_get (ci := 5) (j := 4) hd rfl iwX5 rfl (by decide) (by decide) (by rw [hm]; exact aTb_tables_1_2 153 rfl rfl) hn k
theorem gX5_25 {n : Nat} (hm : m.1.cls = RX5) (hd : decode m.2.1 pc = .ok (.getfield 25, 3)) (hn : aIs D n 5 0) (k : aV l m d D scr (pc + 3) lv (.ref (n + 6) :: st) x Q) : aV l m d D scr pc lv (.ref n :: st) x Q :=
  a_get (ci := 5) (j := 5) hd rfl iwX5 rfl (by decide) (by decide) (by rw [hm]; exact aTb_tables_1_2 154 rfl rfl) hn k
theorem gX5_29 {n : Nat} (hm : m.1.cls = RX5) (hd : decode m.2.1 pc = .ok (.getfield 29, 3)) (hn : aIs D n 5 0) (k : aV l m d D scr (pc + 3) lv (.ref (n + 7) :: st) x Q) : aV l m d D scr pc lv (.ref n :: st) x Q :=
  a_get (ci := 5) (j := 6) hd rfl iwX5 rfl (by decide) (by decide) (by rw [hm]; exact aTb_tables_1_2 155 rfl rfl) hn k
theorem gX5_32 {n : Nat} (hm : m.1.cls = RX5) (hd : decode m.2.1 pc = .ok (.getfield 32, 3)) (hn : aIs D n 5 0) (k : aV l m d D scr (pc + 3) lv (.ref (n + 8) :: st) x Q) : aV l m d D scr pc lv (.ref n :: st) x Q :=
  a_get (ci := 5) (j := 7) hd rfl iwX5 rfl (by decide) (by decide) (by rw [hm]; exact aTb_tables_1_2 156 rfl rfl) hn k
theorem gX5_35 {n : Nat} (hm : m.1.cls = RX5) (hd : decode m.2.1 pc = .ok (.getfield 35, 3)) (hn : aIs D n 5 0) (k : aV l m d D scr (pc + 3) lv (.int (x.1 n 0) :: st) x Q) : aV l m d D scr pc lv (.ref n :: st) x Q :=
  a_get (ci := 5) (j := 0) hd rfl iwX5 rfl (by decide) (by decide) (by rw [hm]; exact aTb_tables_1_2 147 rfl rfl) hn k
theorem pX5_35 {n : Nat} {v : Int32} (hm : m.1.cls = RX5) (hd : decode m.2.1 pc = .ok (.putfield 35, 3)) (hn : aIs D n 5 0) (k : aV l m d D scr (pc + 3) lv st (aWr x n 0 v) Q) : aV l m d D scr pc lv (.int v :: .ref n :: st) x Q :=
  a_put (ci := 5) (j := 0) hd rfl iwX5 rfl (by decide) (by decide) (by rw [hm]; exact aTb_tables_1_2 147 rfl rfl) tyX5 tyX5_ok nmX5 rfl (by decide +kernel) (by decide) hn k
theorem gX5_52 {n : Nat} (hm : m.1.cls = RX5) (hd : decode m.2.1 pc = .ok (.getfield 52, 3)) (hn : aIs D n 6 0) (k : aV l m d D scr (pc + 3) lv (.ref (n + 12) :: st) x Q) : aV l m d D scr pc lv (.ref n :: st) x Q :=
  a_get (ci := 6) (j := 11) hd rfl iwX6 rfl (by decide) (by decide) (by rw [hm]; exact aTb_tables_1_2 101 rfl rfl) hn k
theorem gX6_9 {n : Nat} (hm : m.1.cls = RX6) (hd : decode m.2.1 pc = .ok (.getfield 9, 3)) (hn : aIs D n 6 0) (k : aV l m d D scr (pc + 3) lv (.ref (n + 5) :: st) x Q) : aV l m d D scr pc lv (.ref n :: st) x Q :=
  a_get (ci := 6) (j := 4) hd rfl iwX6 rfl (by decide) (by decide) (by rw [hm]; exact aTb_tables_1_2 78 rfl rfl) hn k
theorem gX6_15 {n : Nat} (hm : m.1.cls = RX6) (hd : decode m.2.1 pc = .ok (.getfield 15, 3)) (hn : aIs D n 6 0) (k : aV l m d D scr (pc + 3) lv (.ref (n + 6) :: st) x Q) : aV l m d D scr pc lv (.ref n :: st) x Q :=
  a_get (ci := 6) (j := 5) hd rfl iwX6 rfl (by decide) (by decide) (by rw [hm]; exact aTb_tables_1_2 79 rfl rfl) hn k
theorem gX6_18 {n : Nat} (hm : m.1.cls = RX6) (hd : decode m.2.1 pc = .ok (.getfield 18, 3)) (hn : aIs D n 6 0) (k : aV l m d D scr (pc + 3) lv (.ref (n + 7) :: st) x Q) : aV l m d D scr pc lv (.ref n :: st) x Q :=
  a_get (ci := 6) (j := 6) hd rfl iwX6 rfl (by decide) (by decide) (by rw [hm]; exact aTb_tables_1_2 80 rfl rfl) hn k
theorem gX6_21 {n : Nat} (hm : m.1.cls = RX6) (hd : decode m.2.1 pc = .ok (.getfield 21, 3)) (hn : aIs D n 6 0) (k : aV l m d D scr (pc + 3) lv (.ref (n + 8) :: st) x Q) : aV l m d D scr pc lv (.ref n :: st) x Q :=
  a_get (ci := 6) (j := 7) hd rfl iwX6 rfl (by decide) (by decide) (by rw [hm]; exact aTb_tables_1_2 84 rfl rfl) hn k
theorem gX6_24 {n : Nat} (hm : m.1.cls = RX6) (hd : decode m.2.1 pc = .ok (.getfield 24, 3)) (hn : aIs D n 6 0) (k : aV l m d D scr (pc + 3) lv (.ref (n + 9) :: st) x Q) : aV l m d D scr pc lv (.ref n :: st) x Q :=
  a_get (ci := 6) (j := 8) hd rfl iwX6 rfl (by decide) (by decide) (by rw [hm]; exact aTb_tables_1_2 87 rfl rfl) hn k
theorem gX6_27 {n : Nat} (hm : m.1.cls = RX6) (hd : decode m.2.1 pc = .ok (.getfield 27, 3)) (hn : aIs D n 6 0) (k : aV l m d D scr (pc + 3) lv (.ref (n + 10) :: st) x Q) : aV l m d D scr pc lv (.ref n :: st) x Q :=
  a_get (ci := 6) (j := 9) hd rfl iwX6 rfl (by decide) (by decide) (by rw [hm]; exact aTb_tables_1_2 90 rfl rfl) hn k
theorem gX6_30 {n : Nat} (hm : m.1.cls = RX6) (hd : decode m.2.1 pc = .ok (.getfield 30, 3)) (hn : aIs D n 6 0) (k : aV l m d D scr (pc + 3) lv (.ref (n + 11) :: st) x Q) : aV l m d D scr pc lv (.ref n :: st) x Q :=
  a_get (ci := 6) (j := 10) hd rfl iwX6 rfl (by decide) (by decide) (by rw [hm]; exact aTb_tables_1_2 94 rfl rfl) hn k
theorem gX6_33 {n : Nat} (hm : m.1.cls = RX6) (hd : decode m.2.1 pc = .ok (.getfield 33, 3)) (hn : aIs D n 6 0) (k : aV l m d D scr (pc + 3) lv (.ref (n + 12) :: st) x Q) : aV l m d D scr pc lv (.ref n :: st) x Q :=
  a_get (ci := 6) (j := 11) hd rfl iwX6 rfl (by decide) (by decide) (by rw [hm]; exact aTb_tables_1_2 98 rfl rfl) hn k
theorem gX6_36 {n : Nat} (hm : m.1.cls = RX6) (hd : decode m.2.1 pc = .ok (.getfield 36, 3)) (hn : aIs D n 6 0) (k : aV l m d D scr (pc + 3) lv (.int (x.1 n 0) :: st) x Q) : aV l m d D scr pc lv (.ref n :: st) x Q :=
  a_get (ci := 6) (j := 0) hd rfl iwX6 rfl (by decide) (by decide) (by rw [hm]; exact aTb_tables_1_2 68 rfl rfl) hn k
theorem pX6_36 {n : Nat} {v : Int32} (hm : m.1.cls = RX6) (hd : decode m.2.1 pc = .ok (.putfield 36, 3)) (hn : aIs D n 6 0) (k : aV l m d D scr (pc + 3) lv st (aWr x n 0 v) Q) : aV l m d D scr pc lv (.int v :: .ref n :: st) x Q :=
  a_put (ci := 6) (j := 0) hd rfl iwX6 rfl (by decide) (by decide) (by rw [hm]; exact aTb_tables_1_2 68 rfl rfl) tyX6 tyX6_ok nmX6 rfl (by decide +kernel) (by decide) hn k
theorem gX6_40 {n : Nat} (hm : m.1.cls = RX6) (hd : decode m.2.1 pc = .ok (.getfield 40, 3)) (hn : aIs D n 6 0) (k : aV l m d D scr (pc + 3) lv (.int (x.1 n 1) :: st) x Q) : aV l m d D scr pc lv (.ref n :: st) x Q :=
  a_get (ci := 6) (j := 1) hd rfl iwX6 rfl (by decide) (by decide) (by rw [hm]; exact aTb_tables_1_2 71 rfl rfl) hn k
theorem pX6_40 {n : Nat} {v : Int32} (hm : m.1.cls = RX6) (hd : decode m.2.1 pc = .ok (.putfield 40, 3)) (hn : aIs D n 6 0) (k : aV l m d D scr (pc + 3) lv st (aWr x n 1 v) Q) : aV l m d D scr pc lv (.int v :: .ref n :: st) x Q :=
  a_put (ci := 6) (j := 1) hd rfl iwX6 rfl (by decide) (by decide) (by rw [hm]; exact aTb_tables_1_2 71 rfl rfl) tyX6 tyX6_ok nmX6 rfl (by decide +kernel) (by decide) hn k
theorem gX6_43 {n : Nat} (hm : m.1.cls = RX6) (hd : decode m.2.1 pc = .ok (.getfield 43, 3)) (hn : aIs D n 8 0) (k : aV l m d D scr (pc + 3) lv (.int (x.1 n 17) :: st) x Q) : aV l m d D scr pc lv (.ref n :: st) x Q :=
  a_get (ci := 8) (j := 17) hd rfl iwX8 rfl (by decide) (by decide) (by rw [hm]; exact aTb_tables_1_1 206 rfl rfl) hn k
theorem gX6_48 {n : Nat} (hm : m.1.cls = RX6) (hd : decode m.2.1 pc = .ok (.getfield 48, 3)) (hn : aIs D n 6 0) (k : aV l m d D scr (pc + 3) lv (.int (x.1 n 2) :: st) x Q) : aV l m d D scr pc lv (.ref n :: st) x Q :=
  a_get (ci := 6) (j := 2) hd rfl iwX6 rfl (by decide) (by decide) (by rw [hm]; exact aTb_tables_1_2 74 rfl rfl) hn k
theorem pX6_48 {n : Nat} {v : Int32} (hm : m.1.cls = RX6) (hd : decode m.2.1 pc = .ok (.putfield 48, 3)) (hn : aIs D n 6 0) (k : aV l m d D scr (pc + 3) lv st (aWr x n 2 v) Q) : aV l m d D scr pc lv (.int v :: .ref n :: st) x Q :=
  a_put (ci := 6) (j := 2) hd rfl iwX6 rfl (by decide) (by decide) (by rw [hm]; exact aTb_tables_1_2 74 rfl rfl) tyX6 tyX6_ok nmX6 rfl (by decide +kernel) (by decide) hn k
theorem gX6_51 {n : Nat} (hm : m.1.cls = RX6) (hd : decode m.2.1 pc = .ok (.getfield 51, 3)) (hn : aIs D n 6 0) (k : aV l m d D scr (pc + 3) lv (.int (x.1 n 3) :: st) x Q) : aV l m d D scr pc lv (.ref n :: st) x Q :=
  a_get (ci := 6) (j := 3) hd rfl iwX6 rfl (by decide) (by decide) (by rw [hm]; exact aTb_tables_1_2 76 rfl rfl) hn k
theorem pX6_51 {n : Nat} {v : Int32} (hm : m.1.cls = RX6) (hd : decode m.2.1 pc = .ok (.putfield 51, 3)) (hn : aIs D n 6 0) (k : aV l m d D scr (pc + 3) lv st (aWr x n 3 v) Q) : aV l m d D scr pc lv (.int v :: .ref n :: st) x Q :=
  a_put (ci := 6) (j := 3) hd rfl iwX6 rfl (by decide) (by decide) (by rw [hm]; exact aTb_tables_1_2 76 rfl rfl) tyX6 tyX6_ok nmX6 rfl (by decide +kernel) (by decide) hn k
theorem gX6_58 {n : Nat} (hm : m.1.cls = RX6) (hd : decode m.2.1 pc = .ok (.getfield 58, 3)) (hn : aIs D n 8 0) (k : aV l m d D scr (pc + 3) lv (.int (x.1 n 4) :: st) x Q) : aV l m d D scr pc lv (.ref n :: st) x Q :=
  a_get (ci := 8) (j := 4) hd rfl iwX8 rfl (by decide) (by decide) (by rw [hm]; exact aTb_tables_1_1 165 rfl rfl) hn k
theorem gX6_61 {n : Nat} (hm : m.1.cls = RX6) (hd : decode m.2.1 pc = .ok (.getfield 61, 3)) (hn : aIs D n 8 0) (k : aV l m d D scr (pc + 3) lv (.ref (n + 7) :: st) x Q) : aV l m d D scr pc lv (.ref n :: st) x Q :=
  a_get (ci := 8) (j := 6) hd rfl iwX8 rfl (by decide) (by decide) (by rw [hm]; exact aTb_tables_1_1 173 rfl rfl) hn k
theorem gX6_64 {n : Nat} (hm : m.1.cls = RX6) (hd : decode m.2.1 pc = .ok (.getfield 64, 3)) (hn : aIs D n 8 0) (k : aV l m d D scr (pc + 3) lv (.ref (n + 10) :: st) x Q) : aV l m d D scr pc lv (.ref n :: st) x Q :=
  a_get (ci := 8) (j := 9) hd rfl iwX8 rfl (by decide) (by decide) (by rw [hm]; exact aTb_tables_1_1 183 rfl rfl) hn k
theorem gX6_73 {n : Nat} (hm : m.1.cls = RX6) (hd : decode m.2.1 pc = .ok (.getfield 73, 3)) (hn : aIs D n 8 0) (k : aV l m d D scr (pc + 3) lv (.int (x.1 n 1) :: st) x Q) : aV l m d D scr pc lv (.ref n :: st) x Q :=
  a_get (ci := 8) (j := 1) hd rfl iwX8 rfl (by decide) (by decide) (by rw [hm]; exact aTb_tables_1_1 153 rfl rfl) hn k
theorem gX6_80 {n : Nat} (hm : m.1.cls = RX6) (hd : decode m.2.1 pc = .ok (.getfield 80, 3)) (hn : aIs D n 8 0) (k : aV l m d D scr (pc + 3) lv (.ref (n + 4) :: st) x Q) : aV l m d D scr pc lv (.ref n :: st) x Q :=
  a_get (ci := 8) (j := 3) hd rfl iwX8 rfl (by decide) (by decide) (by rw [hm]; exact aTb_tables_1_1 161 rfl rfl) hn k
theorem gX7_9 {n : Nat} (hm : m.1.cls = RX7) (hd : decode m.2.1 pc = .ok (.getfield 9, 3)) (hn : aIs D n 7 0) (k : aV l m d D scr (pc + 3) lv (.ref (n + 2) :: st) x Q) : aV l m d D scr pc lv (.ref n :: st) x Q :=
  a_get (ci := 7) (j := 1) hd rfl iwX7 rfl (by decide) (by decide) (by rw [hm]; exact aTb_tables_1_1 49 rfl rfl) hn k
theorem gX7_15 {n : Nat} (hm : m.1.cls = RX7) (hd : decode m.2.1 pc = .ok (.getfield 15, 3)) (hn : aIs D n 7 0) (k : aV l m d D scr (pc + 3) lv (.int (x.1 n 4) :: st) x Q) : aV l m d D scr pc lv (.ref n :: st) x Q :=
  a_get (ci := 7) (j := 4) hd rfl iwX7 rfl (by decide) (by decide) (by rw [hm]; exact aTb_tables_1_1 52 rfl rfl) hn k
theorem pX7_15 {n : Nat} {v : Int32} (hm : m.1.cls = RX7) (hd : decode m.2.1 pc = .ok (.putfield 15, 3)) (hn : aIs D n 7 0) (k : aV l m d D scr (pc + 3) lv st (aWr x n 4 v) Q) : aV l m d D scr pc lv (.int v :: .ref n :: st) x Q :=
  a_put (ci := 7) (j := 4) hd rfl iwX7 rfl (by decide) (by decide) (by rw [hm]; exact aTb_tables_1_1 52 rfl rfl) tyX7 tyX7_ok nmX7 rfl (by decide +kernel) (by decide) hn k
theorem gX7_19 {n : Nat} (hm : m.1.cls = RX7) (hd : decode m.2.1 pc = .ok (.getfield 19, 3)) (hn : aIs D n 7 0) (k : aV l m d D scr (pc + 3) lv (.int (x.1 n 0) :: st) x Q) : aV l m d D scr pc lv (.ref n :: st) x Q :=
  a_get (ci := 7) (j := 0) hd rfl iwX7 rfl (by decide) (by decide) (by rw [hm]; exact aTb_tables_1_1 47 rfl rfl) hn k
theorem pX7_19 {n : Nat} {v : Int32} (hm : m.1.cls = RX7) (hd : decode m.2.1 pc = .ok (.putfield 19, 3)) (hn : aIs D n 7 0) (k : aV l m d D scr (pc + 3) lv st (aWr x n 0 v) Q) : aV l m d D scr pc lv (.int v :: .ref n :: st) x Q :=
  a_put (ci := 7) (j := 0) hd rfl iwX7 rfl (by decide) (by decide) (by rw [hm]; exact aTb_tables_1_1 47 rfl rfl) tyX7 tyX7_ok nmX7 rfl (by decide +kernel) (by decide) hn k
theorem gX7_28 {n : Nat} (hm : m.1.cls = RX7) (hd : decode m.2.1 pc = .ok (.getfield 28, 3)) (hn : aIs D n 7 0) (k : aV l m d D scr (pc + 3) lv (.int (x.1 n 2) :: st) x Q) : aV l m d D scr pc lv (.ref n :: st) x Q :=
  a_get (ci := 7) (j := 2) hd rfl iwX7 rfl (by decide) (by decide) (by rw [hm]; exact aTb_tables_1_1 50 rfl rfl) hn k
theorem pX7_28 {n : Nat} {v : Int32} (hm : m.1.cls = RX7) (hd : decode m.2.1 pc = .ok (.putfield 28, 3)) (hn : aIs D n 7 0) (k : aV l m d D scr (pc + 3) lv st (aWr x n 2 v) Q) : aV l m d D scr pc lv (.int v :: .ref n :: st) x Q :=
  a_put (ci := 7) (j := 2) hd rfl iwX7 rfl (by decide) (by decide) (by rw [hm]; exact aTb_tables_1_1 50 rfl rfl) tyX7 tyX7_ok nmX7 rfl (by decide +kernel) (by decide) hn k
theorem gX7_31 {n : Nat} (hm : m.1.cls = RX7) (hd : decode m.2.1 pc = .ok (.getfield 31, 3)) (hn : aIs D n 7 0) (k : aV l m d D scr (pc + 3) lv (.int (x.1 n 3) :: st) x Q) : aV l m d D scr pc lv (.ref n :: st) x Q :=
  a_get (ci := 7) (j := 3) hd rfl iwX7 rfl (by decide) (by decide) (by rw [hm]; exact aTb_tables_1_1 51 rfl rfl) hn k
theorem pX7_31 {n : Nat} {v : Int32} (hm : m.1.cls = RX7) (hd : decode m.2.1 pc = .ok (.putfield 31, 3)) (hn : aIs D n 7 0) (k : aV l m d D scr (pc + 3) lv st (aWr x n 3 v) Q) : aV l m d D scr pc lv (.int v :: .ref n :: st) x Q :=
  a_put (ci := 7) (j := 3) hd rfl iwX7 rfl (by decide) (by decide) (by rw [hm]; exact aTb_tables_1_1 51 rfl rfl) tyX7 tyX7_ok nmX7 rfl (by decide +kernel) (by decide) hn k
theorem pX7_37 {n : Nat} {v : Int32} (hm : m.1.cls = RX7) (hd : decode m.2.1 pc = .ok (.putfield 37, 3)) (hn : aIs D n 7 0) (k : aV l m d D scr (pc + 3) lv st (aWr x n 5 v) Q) : aV l m d D scr pc lv (.int v :: .ref n :: st) x Q :=
  a_put (ci := 7) (j := 5) hd rfl iwX7 rfl (by decide) (by decide) (by rw [hm]; exact aTb_tables_1_1 55 rfl rfl) tyX7 tyX7_ok nmX7 rfl (by decide +kernel) (by decide) hn k
theorem gX7_40 {n : Nat} (hm : m.1.cls = RX7) (hd : decode m.2.1 pc = .ok (.getfield 40, 3)) (hn : aIs D n 7 0) (k : aV l m d D scr (pc + 3) lv (.int (x.1 n 6) :: st) x Q) : aV l m d D scr pc lv (.ref n :: st) x Q :=
  a_get (ci := 7) (j := 6) hd rfl iwX7 rfl (by decide) (by decide) (by rw [hm]; exact aTb_tables_1_1 56 rfl rfl) hn k
theorem pX7_40 {n : Nat} {v : Int32} (hm : m.1.cls = RX7) (hd : decode m.2.1 pc = .ok (.putfield 40, 3)) (hn : aIs D n 7 0) (k : aV l m d D scr (pc + 3) lv st (aWr x n 6 v) Q) : aV l m d D scr pc lv (.int v :: .ref n :: st) x Q :=
  a_put (ci := 7) (j := 6) hd rfl iwX7 rfl (by decide) (by decide) (by rw [hm]; exact aTb_tables_1_1 56 rfl rfl) tyX7 tyX7_ok nmX7 rfl (by decide +kernel) (by decide) hn k
theorem gX8_24 {n : Nat} (hm : m.1.cls = RX8) (hd : decode m.2.1 pc = .ok (.getfield 24, 3)) (hn : aIs D n 8 0) (k : aV l m d D scr (pc + 3) lv (.ref (n + 8) :: st) x Q) : aV l m d D scr pc lv (.ref n :: st) x Q :=
  a_get (ci := 8) (j := 7) hd rfl iwX8 rfl (by decide) (by decide) (by rw [hm]; exact aTb_tables_1_1 175 rfl rfl) hn k
theorem gX8_27 {n : Nat} (hm : m.1.cls = RX8) (hd : decode m.2.1 pc = .ok (.getfield 27, 3)) (hn : aIs D n 8 0) (k : aV l m d D scr (pc + 3) lv (.ref (n + 9) :: st) x Q) : aV l m d D scr pc lv (.ref n :: st) x Q :=
  a_get (ci := 8) (j := 8) hd rfl iwX8 rfl (by decide) (by decide) (by rw [hm]; exact aTb_tables_1_1 178 rfl rfl) hn k
theorem gX8_35 {n : Nat} (hm : m.1.cls = RX8) (hd : decode m.2.1 pc = .ok (.getfield 35, 3)) (hn : aIs D n 8 0) (k : aV l m d D scr (pc + 3) lv (.ref (n + 12) :: st) x Q) : aV l m d D scr pc lv (.ref n :: st) x Q :=
  a_get (ci := 8) (j := 11) hd rfl iwX8 rfl (by decide) (by decide) (by rw [hm]; exact aTb_tables_1_1 189 rfl rfl) hn k
theorem gX8_41 {n : Nat} (hm : m.1.cls = RX8) (hd : decode m.2.1 pc = .ok (.getfield 41, 3)) (hn : aIs D n 8 0) (k : aV l m d D scr (pc + 3) lv (.ref (n + 14) :: st) x Q) : aV l m d D scr pc lv (.ref n :: st) x Q :=
  a_get (ci := 8) (j := 13) hd rfl iwX8 rfl (by decide) (by decide) (by rw [hm]; exact aTb_tables_1_1 195 rfl rfl) hn k
theorem gX8_45 {n : Nat} (hm : m.1.cls = RX8) (hd : decode m.2.1 pc = .ok (.getfield 45, 3)) (hn : aIs D n 8 0) (k : aV l m d D scr (pc + 3) lv (.ref (n + 16) :: st) x Q) : aV l m d D scr pc lv (.ref n :: st) x Q :=
  a_get (ci := 8) (j := 15) hd rfl iwX8 rfl (by decide) (by decide) (by rw [hm]; exact aTb_tables_1_1 200 rfl rfl) hn k
theorem gX8_51 {n : Nat} (hm : m.1.cls = RX8) (hd : decode m.2.1 pc = .ok (.getfield 51, 3)) (hn : aIs D n 8 0) (k : aV l m d D scr (pc + 3) lv (.ref (n + 130) :: st) x Q) : aV l m d D scr pc lv (.ref n :: st) x Q :=
  a_get (ci := 8) (j := 19) hd rfl iwX8 rfl (by decide) (by decide) (by rw [hm]; exact aTb_tables_1_1 212 rfl rfl) hn k
theorem gX8_55 {n : Nat} (hm : m.1.cls = RX8) (hd : decode m.2.1 pc = .ok (.getfield 55, 3)) (hn : aIs D n 8 0) (k : aV l m d D scr (pc + 3) lv (.ref (n + 131) :: st) x Q) : aV l m d D scr pc lv (.ref n :: st) x Q :=
  a_get (ci := 8) (j := 20) hd rfl iwX8 rfl (by decide) (by decide) (by rw [hm]; exact aTb_tables_1_1 215 rfl rfl) hn k
theorem gX8_58 {n : Nat} (hm : m.1.cls = RX8) (hd : decode m.2.1 pc = .ok (.getfield 58, 3)) (hn : aIs D n 8 0) (k : aV l m d D scr (pc + 3) lv (.ref (n + 132) :: st) x Q) : aV l m d D scr pc lv (.ref n :: st) x Q :=
  a_get (ci := 8) (j := 21) hd rfl iwX8 rfl (by decide) (by decide) (by rw [hm]; exact aTb_tables_1_1 219 rfl rfl) hn k
theorem pX8_63 {n : Nat} {v : Int32} (hm : m.1.cls = RX8) (hd : decode m.2.1 pc = .ok (.putfield 63, 3)) (hn : aIs D n 8 0) (k : aV l m d D scr (pc + 3) lv st (aWr x n 0 v) Q) : aV l m d D scr pc lv (.int v :: .ref n :: st) x Q :=
  a_put (ci := 8) (j := 0) hd rfl iwX8 rfl (by decide) (by decide) (by rw [hm]; exact aTb_tables_1_1 149 rfl rfl) tyX8 tyX8_ok nmX8 rfl (by decide +kernel) (by decide) hn k
theorem pX8_67 {n : Nat} {v : Int32} (hm : m.1.cls = RX8) (hd : decode m.2.1 pc = .ok (.putfield 67, 3)) (hn : aIs D n 8 0) (k : aV l m d D scr (pc + 3) lv st (aWr x n 1 v) Q) : aV l m d D scr pc lv (.int v :: .ref n :: st) x Q :=
  a_put (ci := 8) (j := 1) hd rfl iwX8 rfl (by decide) (by decide) (by rw [hm]; exact aTb_tables_1_1 152 rfl rfl) tyX8 tyX8_ok nmX8 rfl (by decide +kernel) (by decide) hn k
theorem pX8_70 {n : Nat} {v : Int32} (hm : m.1.cls = RX8) (hd : decode m.2.1 pc = .ok (.putfield 70, 3)) (hn : aIs D n 8 0) (k : aV l m d D scr (pc + 3) lv st (aWr x n 4 v) Q) : aV l m d D scr pc lv (.int v :: .ref n :: st) x Q :=
  a_put (ci := 8) (j := 4) hd rfl iwX8 rfl (by decide) (by decide) (by rw [hm]; exact aTb_tables_1_1 163 rfl rfl) tyX8 tyX8_ok nmX8 rfl (by decide +kernel) (by decide) hn k
theorem pX8_73 {n : Nat} {v : Int32} (hm : m.1.cls = RX8) (hd : decode m.2.1 pc = .ok (.putfield 73, 3)) (hn : aIs D n 8 0) (k : aV l m d D scr (pc + 3) lv st (aWr x n 10 v) Q) : aV l m d D scr pc lv (.int v :: .ref n :: st) x Q :=
  a_put (ci := 8) (j := 10) hd rfl iwX8 rfl (by decide) (by decide) (by rw [hm]; exact aTb_tables_1_1 185 rfl rfl) tyX8 tyX8_ok nmX8 rfl (by decide +kernel) (by decide) hn k
theorem pX8_76 {n : Nat} {v : Int32} (hm : m.1.cls = RX8) (hd : decode m.2.1 pc = .ok (.putfield 76, 3)) (hn : aIs D n 8 0) (k : aV l m d D scr (pc + 3) lv st (aWr x n 12 v) Q) : aV l m d D scr pc lv (.int v :: .ref n :: st) x Q :=
  a_put (ci := 8) (j := 12) hd rfl iwX8 rfl (by decide) (by decide) (by rw [hm]; exact aTb_tables_1_1 192 rfl rfl) tyX8 tyX8_ok nmX8 rfl (by decide +kernel) (by decide) hn k
theorem gX8_79 {n : Nat} (hm : m.1.cls = RX8) (hd : decode m.2.1 pc = .ok (.getfield 79, 3)) (hn : aIs D n 8 0) (k : aV l m d D scr (pc + 3) lv (.int (x.1 n 14) :: st) x Q) : aV l m d D scr pc lv (.ref n :: st) x Q :=
  a_get (ci := 8) (j := 14) hd rfl iwX8 rfl (by decide) (by decide) (by rw [hm]; exact aTb_tables_1_1 198 rfl rfl) hn k
theorem pX8_79 {n : Nat} {v : Int32} (hm : m.1.cls = RX8) (hd : decode m.2.1 pc = .ok (.putfield 79, 3)) (hn : aIs D n 8 0) (k : aV l m d D scr (pc + 3) lv st (aWr x n 14 v) Q) : aV l m d D scr pc lv (.int v :: .ref n :: st) x Q :=
  a_put (ci := 8) (j := 14) hd rfl iwX8 rfl (by decide) (by decide) (by rw [hm]; exact aTb_tables_1_1 198 rfl rfl) tyX8 tyX8_ok nmX8 rfl (by decide +kernel) (by decide) hn k
theorem pX8_82 {n : Nat} {v : Int32} (hm : m.1.cls = RX8) (hd : decode m.2.1 pc = .ok (.putfield 82, 3)) (hn : aIs D n 8 0) (k : aV l m d D scr (pc + 3) lv st (aWr x n 16 v) Q) : aV l m d D scr pc lv (.int v :: .ref n :: st) x Q :=
  a_put (ci := 8) (j := 16) hd rfl iwX8 rfl (by decide) (by decide) (by rw [hm]; exact aTb_tables_1_1 202 rfl rfl) tyX8 tyX8_ok nmX8 rfl (by decide +kernel) (by decide) hn k
theorem pX8_85 {n : Nat} {v : Int32} (hm : m.1.cls = RX8) (hd : decode m.2.1 pc = .ok (.putfield 85, 3)) (hn : aIs D n 8 0) (k : aV l m d D scr (pc + 3) lv st (aWr x n 17 v) Q) : aV l m d D scr pc lv (.int v :: .ref n :: st) x Q :=
  a_put (ci := 8) (j := 17) hd rfl iwX8 rfl (by decide) (by decide) (by rw [hm]; exact aTb_tables_1_1 207 rfl rfl) tyX8 tyX8_ok nmX8 rfl (by decide +kernel) (by decide) hn k
theorem pX8_88 {n : Nat} {v : Int32} (hm : m.1.cls = RX8) (hd : decode m.2.1 pc = .ok (.putfield 88, 3)) (hn : aIs D n 8 0) (k : aV l m d D scr (pc + 3) lv st (aWr x n 18 v) Q) : aV l m d D scr pc lv (.int v :: .ref n :: st) x Q :=
  a_put (ci := 8) (j := 18) hd rfl iwX8 rfl (by decide) (by decide) (by rw [hm]; exact aTb_tables_1_1 209 rfl rfl) tyX8 tyX8_ok nmX8 rfl (by decide +kernel) (by decide) hn k
end aFields
