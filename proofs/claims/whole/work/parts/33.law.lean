/-! LastHouse$Law: compare, reckon, worth -/
def wErr : Int64 := -9223372036854775808
def wSo (k : Int32) (a b : Int64) : Bool := if k = 12 then decide (a ≠ 0 ∨ b ≠ 0) else if k = 13 then decide (a ≠ 0 ∧ b ≠ 0) else if k = 27 then decide (a < b) else if k = 28 then decide (a ≤ b) else if k = 29 then decide (a = b) else if k = 30 then decide (a ≠ b) else if k = 31 then decide (b ≤ a) else decide (b < a)
def wCmp (k : Int32) (a b : Int64) : Int64 := if wSo k a b then 1 else 0
theorem l_not_lt {a b : Int64} : ¬ a < b ↔ b ≤ a := Int64.not_lt
theorem l_not_le {a b : Int64} : ¬ a ≤ b ↔ b < a := Int64.not_le
set_option maxHeartbeats 4000000 in
set_option maxRecDepth 100000 in
theorem c_X2_compare {l : Launch} {d : Nat} {D : Nat → Bool} {k : Int32} {a b : Int64} {x : aS} : aDJ l mX2_compare d D [.int k, .long a, .long b] x (wCmp k a b) x := by
  refine a_metJ (by decide) (Nat.le_of_ble_eq_true rfl) rfl ?_
  refine a_iload_n (i := 0) dX2_compare_0 rfl rfl ?_
  refine sX2_compare_1 dX2_compare_1 (fun s_1 => ?_) (fun s_1 => ?_) (fun s_1 => ?_) (fun s_1 => ?_) (fun s_1 => ?_) (fun s_1 => ?_) (fun s_1 => ?_) (fun s_1_0 s_1_1 s_1_2 s_1_3 s_1_4 s_1_5 s_1_6 => ?_)
  · refine a_lload_n (i := 1) dX2_compare_96 rfl rfl ?_
    refine a_lconst (v := 0) dX2_compare_97 (by decide) ?_
    refine a_lcmp dX2_compare_98 ?_
    refine a_if_ne (tg := 108) dX2_compare_99 (by decide) (fun c_99 => ?_) (fun c_99 => ?_)
    · refine a_iconst (v := 1) dX2_compare_108 (by decide) ?_
      refine a_goto (tg := 113) dX2_compare_109 (by decide) ?_
      refine a_istore (i := 5) dX2_compare_113 (by decide) ?_
      refine a_goto (tg := 233) dX2_compare_115 (by decide) ?_
      refine a_iload (i := 5) dX2_compare_233 rfl ?_
      refine a_if_eq (tg := 242) dX2_compare_235 (by decide) (fun c_235 => ?_) (fun c_235 => ?_)
      · refine a_lconst (v := 0) dX2_compare_242 (by decide) ?_
        exact a_lret dX2_compare_243 (by first | exact absurd c_235 (by decide) | exact absurd rfl c_235 | (clear c_235; simp_all [wCmp, wSo, lg_cmp_eq, lg_cmp_lt, lg_cmp_le, lg_cmp_gt, lg_cmp_ge, l_not_lt, l_not_le]))
      · refine a_lconst (v := 1) dX2_compare_238 (by decide) ?_
        refine a_goto (tg := 243) dX2_compare_239 (by decide) ?_
        exact a_lret dX2_compare_243 (by first | exact absurd c_235 (by decide) | exact absurd rfl c_235 | (clear c_235; simp_all [wCmp, wSo, lg_cmp_eq, lg_cmp_lt, lg_cmp_le, lg_cmp_gt, lg_cmp_ge, l_not_lt, l_not_le]))
    · refine a_lload_n (i := 3) dX2_compare_102 rfl rfl ?_
      refine a_lconst (v := 0) dX2_compare_103 (by decide) ?_
      refine a_lcmp dX2_compare_104 ?_
      refine a_if_eq (tg := 112) dX2_compare_105 (by decide) (fun c_105 => ?_) (fun c_105 => ?_)
      · refine a_iconst (v := 0) dX2_compare_112 (by decide) ?_
        refine a_istore (i := 5) dX2_compare_113 (by decide) ?_
        refine a_goto (tg := 233) dX2_compare_115 (by decide) ?_
        refine a_iload (i := 5) dX2_compare_233 rfl ?_
        refine a_if_eq (tg := 242) dX2_compare_235 (by decide) (fun c_235 => ?_) (fun c_235 => ?_)
        · refine a_lconst (v := 0) dX2_compare_242 (by decide) ?_
          exact a_lret dX2_compare_243 (by first | exact absurd c_235 (by decide) | exact absurd rfl c_235 | (clear c_235; simp_all [wCmp, wSo, lg_cmp_eq, lg_cmp_lt, lg_cmp_le, lg_cmp_gt, lg_cmp_ge, l_not_lt, l_not_le]))
        · refine a_lconst (v := 1) dX2_compare_238 (by decide) ?_
          refine a_goto (tg := 243) dX2_compare_239 (by decide) ?_
          exact a_lret dX2_compare_243 (by first | exact absurd c_235 (by decide) | exact absurd rfl c_235 | (clear c_235; simp_all [wCmp, wSo, lg_cmp_eq, lg_cmp_lt, lg_cmp_le, lg_cmp_gt, lg_cmp_ge, l_not_lt, l_not_le]))
      · refine a_iconst (v := 1) dX2_compare_108 (by decide) ?_
        refine a_goto (tg := 113) dX2_compare_109 (by decide) ?_
        refine a_istore (i := 5) dX2_compare_113 (by decide) ?_
        refine a_goto (tg := 233) dX2_compare_115 (by decide) ?_
        refine a_iload (i := 5) dX2_compare_233 rfl ?_
        refine a_if_eq (tg := 242) dX2_compare_235 (by decide) (fun c_235 => ?_) (fun c_235 => ?_)
        · refine a_lconst (v := 0) dX2_compare_242 (by decide) ?_
          exact a_lret dX2_compare_243 (by first | exact absurd c_235 (by decide) | exact absurd rfl c_235 | (clear c_235; simp_all [wCmp, wSo, lg_cmp_eq, lg_cmp_lt, lg_cmp_le, lg_cmp_gt, lg_cmp_ge, l_not_lt, l_not_le]))
        · refine a_lconst (v := 1) dX2_compare_238 (by decide) ?_
          refine a_goto (tg := 243) dX2_compare_239 (by decide) ?_
          exact a_lret dX2_compare_243 (by first | exact absurd c_235 (by decide) | exact absurd rfl c_235 | (clear c_235; simp_all [wCmp, wSo, lg_cmp_eq, lg_cmp_lt, lg_cmp_le, lg_cmp_gt, lg_cmp_ge, l_not_lt, l_not_le]))
  · refine a_lload_n (i := 1) dX2_compare_118 rfl rfl ?_
    refine a_lconst (v := 0) dX2_compare_119 (by decide) ?_
    refine a_lcmp dX2_compare_120 ?_
    refine a_if_eq (tg := 134) dX2_compare_121 (by decide) (fun c_121 => ?_) (fun c_121 => ?_)
    · refine a_iconst (v := 0) dX2_compare_134 (by decide) ?_
      refine a_istore (i := 5) dX2_compare_135 (by decide) ?_
      refine a_goto (tg := 233) dX2_compare_137 (by decide) ?_
      refine a_iload (i := 5) dX2_compare_233 rfl ?_
      refine a_if_eq (tg := 242) dX2_compare_235 (by decide) (fun c_235 => ?_) (fun c_235 => ?_)
      · refine a_lconst (v := 0) dX2_compare_242 (by decide) ?_
        exact a_lret dX2_compare_243 (by first | exact absurd c_235 (by decide) | exact absurd rfl c_235 | (clear c_235; simp_all [wCmp, wSo, lg_cmp_eq, lg_cmp_lt, lg_cmp_le, lg_cmp_gt, lg_cmp_ge, l_not_lt, l_not_le]))
      · refine a_lconst (v := 1) dX2_compare_238 (by decide) ?_
        refine a_goto (tg := 243) dX2_compare_239 (by decide) ?_
        exact a_lret dX2_compare_243 (by first | exact absurd c_235 (by decide) | exact absurd rfl c_235 | (clear c_235; simp_all [wCmp, wSo, lg_cmp_eq, lg_cmp_lt, lg_cmp_le, lg_cmp_gt, lg_cmp_ge, l_not_lt, l_not_le]))
    · refine a_lload_n (i := 3) dX2_compare_124 rfl rfl ?_
      refine a_lconst (v := 0) dX2_compare_125 (by decide) ?_
      refine a_lcmp dX2_compare_126 ?_
      refine a_if_eq (tg := 134) dX2_compare_127 (by decide) (fun c_127 => ?_) (fun c_127 => ?_)
      · refine a_iconst (v := 0) dX2_compare_134 (by decide) ?_
        refine a_istore (i := 5) dX2_compare_135 (by decide) ?_
        refine a_goto (tg := 233) dX2_compare_137 (by decide) ?_
        refine a_iload (i := 5) dX2_compare_233 rfl ?_
        refine a_if_eq (tg := 242) dX2_compare_235 (by decide) (fun c_235 => ?_) (fun c_235 => ?_)
        · refine a_lconst (v := 0) dX2_compare_242 (by decide) ?_
          exact a_lret dX2_compare_243 (by first | exact absurd c_235 (by decide) | exact absurd rfl c_235 | (clear c_235; simp_all [wCmp, wSo, lg_cmp_eq, lg_cmp_lt, lg_cmp_le, lg_cmp_gt, lg_cmp_ge, l_not_lt, l_not_le]))
        · refine a_lconst (v := 1) dX2_compare_238 (by decide) ?_
          refine a_goto (tg := 243) dX2_compare_239 (by decide) ?_
          exact a_lret dX2_compare_243 (by first | exact absurd c_235 (by decide) | exact absurd rfl c_235 | (clear c_235; simp_all [wCmp, wSo, lg_cmp_eq, lg_cmp_lt, lg_cmp_le, lg_cmp_gt, lg_cmp_ge, l_not_lt, l_not_le]))
      · refine a_iconst (v := 1) dX2_compare_130 (by decide) ?_
        refine a_goto (tg := 135) dX2_compare_131 (by decide) ?_
        refine a_istore (i := 5) dX2_compare_135 (by decide) ?_
        refine a_goto (tg := 233) dX2_compare_137 (by decide) ?_
        refine a_iload (i := 5) dX2_compare_233 rfl ?_
        refine a_if_eq (tg := 242) dX2_compare_235 (by decide) (fun c_235 => ?_) (fun c_235 => ?_)
        · refine a_lconst (v := 0) dX2_compare_242 (by decide) ?_
          exact a_lret dX2_compare_243 (by first | exact absurd c_235 (by decide) | exact absurd rfl c_235 | (clear c_235; simp_all [wCmp, wSo, lg_cmp_eq, lg_cmp_lt, lg_cmp_le, lg_cmp_gt, lg_cmp_ge, l_not_lt, l_not_le]))
        · refine a_lconst (v := 1) dX2_compare_238 (by decide) ?_
          refine a_goto (tg := 243) dX2_compare_239 (by decide) ?_
          exact a_lret dX2_compare_243 (by first | exact absurd c_235 (by decide) | exact absurd rfl c_235 | (clear c_235; simp_all [wCmp, wSo, lg_cmp_eq, lg_cmp_lt, lg_cmp_le, lg_cmp_gt, lg_cmp_ge, l_not_lt, l_not_le]))
  · refine a_lload_n (i := 1) dX2_compare_140 rfl rfl ?_
    refine a_lload_n (i := 3) dX2_compare_141 rfl rfl ?_
    refine a_lcmp dX2_compare_142 ?_
    refine a_if_ge (tg := 150) dX2_compare_143 (by decide) (fun c_143 => ?_) (fun c_143 => ?_)
    · refine a_iconst (v := 0) dX2_compare_150 (by decide) ?_
      refine a_istore (i := 5) dX2_compare_151 (by decide) ?_
      refine a_goto (tg := 233) dX2_compare_153 (by decide) ?_
      refine a_iload (i := 5) dX2_compare_233 rfl ?_
      refine a_if_eq (tg := 242) dX2_compare_235 (by decide) (fun c_235 => ?_) (fun c_235 => ?_)
      · refine a_lconst (v := 0) dX2_compare_242 (by decide) ?_
        exact a_lret dX2_compare_243 (by first | exact absurd c_235 (by decide) | exact absurd rfl c_235 | (clear c_235; simp_all [wCmp, wSo, lg_cmp_eq, lg_cmp_lt, lg_cmp_le, lg_cmp_gt, lg_cmp_ge, l_not_lt, l_not_le]))
      · refine a_lconst (v := 1) dX2_compare_238 (by decide) ?_
        refine a_goto (tg := 243) dX2_compare_239 (by decide) ?_
        exact a_lret dX2_compare_243 (by first | exact absurd c_235 (by decide) | exact absurd rfl c_235 | (clear c_235; simp_all [wCmp, wSo, lg_cmp_eq, lg_cmp_lt, lg_cmp_le, lg_cmp_gt, lg_cmp_ge, l_not_lt, l_not_le]))
    · refine a_iconst (v := 1) dX2_compare_146 (by decide) ?_
      refine a_goto (tg := 151) dX2_compare_147 (by decide) ?_
      refine a_istore (i := 5) dX2_compare_151 (by decide) ?_
      refine a_goto (tg := 233) dX2_compare_153 (by decide) ?_
      refine a_iload (i := 5) dX2_compare_233 rfl ?_
      refine a_if_eq (tg := 242) dX2_compare_235 (by decide) (fun c_235 => ?_) (fun c_235 => ?_)
      · refine a_lconst (v := 0) dX2_compare_242 (by decide) ?_
        exact a_lret dX2_compare_243 (by first | exact absurd c_235 (by decide) | exact absurd rfl c_235 | (clear c_235; simp_all [wCmp, wSo, lg_cmp_eq, lg_cmp_lt, lg_cmp_le, lg_cmp_gt, lg_cmp_ge, l_not_lt, l_not_le]))
      · refine a_lconst (v := 1) dX2_compare_238 (by decide) ?_
        refine a_goto (tg := 243) dX2_compare_239 (by decide) ?_
        exact a_lret dX2_compare_243 (by first | exact absurd c_235 (by decide) | exact absurd rfl c_235 | (clear c_235; simp_all [wCmp, wSo, lg_cmp_eq, lg_cmp_lt, lg_cmp_le, lg_cmp_gt, lg_cmp_ge, l_not_lt, l_not_le]))
  · refine a_lload_n (i := 1) dX2_compare_156 rfl rfl ?_
    refine a_lload_n (i := 3) dX2_compare_157 rfl rfl ?_
    refine a_lcmp dX2_compare_158 ?_
    refine a_if_gt (tg := 166) dX2_compare_159 (by decide) (fun c_159 => ?_) (fun c_159 => ?_)
    · refine a_iconst (v := 0) dX2_compare_166 (by decide) ?_
      refine a_istore (i := 5) dX2_compare_167 (by decide) ?_
      refine a_goto (tg := 233) dX2_compare_169 (by decide) ?_
      refine a_iload (i := 5) dX2_compare_233 rfl ?_
      refine a_if_eq (tg := 242) dX2_compare_235 (by decide) (fun c_235 => ?_) (fun c_235 => ?_)
      · refine a_lconst (v := 0) dX2_compare_242 (by decide) ?_
        exact a_lret dX2_compare_243 (by first | exact absurd c_235 (by decide) | exact absurd rfl c_235 | (clear c_235; simp_all [wCmp, wSo, lg_cmp_eq, lg_cmp_lt, lg_cmp_le, lg_cmp_gt, lg_cmp_ge, l_not_lt, l_not_le]))
      · refine a_lconst (v := 1) dX2_compare_238 (by decide) ?_
        refine a_goto (tg := 243) dX2_compare_239 (by decide) ?_
        exact a_lret dX2_compare_243 (by first | exact absurd c_235 (by decide) | exact absurd rfl c_235 | (clear c_235; simp_all [wCmp, wSo, lg_cmp_eq, lg_cmp_lt, lg_cmp_le, lg_cmp_gt, lg_cmp_ge, l_not_lt, l_not_le]))
    · refine a_iconst (v := 1) dX2_compare_162 (by decide) ?_
      refine a_goto (tg := 167) dX2_compare_163 (by decide) ?_
      refine a_istore (i := 5) dX2_compare_167 (by decide) ?_
      refine a_goto (tg := 233) dX2_compare_169 (by decide) ?_
      refine a_iload (i := 5) dX2_compare_233 rfl ?_
      refine a_if_eq (tg := 242) dX2_compare_235 (by decide) (fun c_235 => ?_) (fun c_235 => ?_)
      · refine a_lconst (v := 0) dX2_compare_242 (by decide) ?_
        exact a_lret dX2_compare_243 (by first | exact absurd c_235 (by decide) | exact absurd rfl c_235 | (clear c_235; simp_all [wCmp, wSo, lg_cmp_eq, lg_cmp_lt, lg_cmp_le, lg_cmp_gt, lg_cmp_ge, l_not_lt, l_not_le]))
      · refine a_lconst (v := 1) dX2_compare_238 (by decide) ?_
        refine a_goto (tg := 243) dX2_compare_239 (by decide) ?_
        exact a_lret dX2_compare_243 (by first | exact absurd c_235 (by decide) | exact absurd rfl c_235 | (clear c_235; simp_all [wCmp, wSo, lg_cmp_eq, lg_cmp_lt, lg_cmp_le, lg_cmp_gt, lg_cmp_ge, l_not_lt, l_not_le]))
  · refine a_lload_n (i := 1) dX2_compare_172 rfl rfl ?_
    refine a_lload_n (i := 3) dX2_compare_173 rfl rfl ?_
    refine a_lcmp dX2_compare_174 ?_
    refine a_if_ne (tg := 182) dX2_compare_175 (by decide) (fun c_175 => ?_) (fun c_175 => ?_)
    · refine a_iconst (v := 0) dX2_compare_182 (by decide) ?_
      refine a_istore (i := 5) dX2_compare_183 (by decide) ?_
      refine a_goto (tg := 233) dX2_compare_185 (by decide) ?_
      refine a_iload (i := 5) dX2_compare_233 rfl ?_
      refine a_if_eq (tg := 242) dX2_compare_235 (by decide) (fun c_235 => ?_) (fun c_235 => ?_)
      · refine a_lconst (v := 0) dX2_compare_242 (by decide) ?_
        exact a_lret dX2_compare_243 (by first | exact absurd c_235 (by decide) | exact absurd rfl c_235 | (clear c_235; simp_all [wCmp, wSo, lg_cmp_eq, lg_cmp_lt, lg_cmp_le, lg_cmp_gt, lg_cmp_ge, l_not_lt, l_not_le]))
      · refine a_lconst (v := 1) dX2_compare_238 (by decide) ?_
        refine a_goto (tg := 243) dX2_compare_239 (by decide) ?_
        exact a_lret dX2_compare_243 (by first | exact absurd c_235 (by decide) | exact absurd rfl c_235 | (clear c_235; simp_all [wCmp, wSo, lg_cmp_eq, lg_cmp_lt, lg_cmp_le, lg_cmp_gt, lg_cmp_ge, l_not_lt, l_not_le]))
    · refine a_iconst (v := 1) dX2_compare_178 (by decide) ?_
      refine a_goto (tg := 183) dX2_compare_179 (by decide) ?_
      refine a_istore (i := 5) dX2_compare_183 (by decide) ?_
      refine a_goto (tg := 233) dX2_compare_185 (by decide) ?_
      refine a_iload (i := 5) dX2_compare_233 rfl ?_
      refine a_if_eq (tg := 242) dX2_compare_235 (by decide) (fun c_235 => ?_) (fun c_235 => ?_)
      · refine a_lconst (v := 0) dX2_compare_242 (by decide) ?_
        exact a_lret dX2_compare_243 (by first | exact absurd c_235 (by decide) | exact absurd rfl c_235 | (clear c_235; simp_all [wCmp, wSo, lg_cmp_eq, lg_cmp_lt, lg_cmp_le, lg_cmp_gt, lg_cmp_ge, l_not_lt, l_not_le]))
      · refine a_lconst (v := 1) dX2_compare_238 (by decide) ?_
        refine a_goto (tg := 243) dX2_compare_239 (by decide) ?_
        exact a_lret dX2_compare_243 (by first | exact absurd c_235 (by decide) | exact absurd rfl c_235 | (clear c_235; simp_all [wCmp, wSo, lg_cmp_eq, lg_cmp_lt, lg_cmp_le, lg_cmp_gt, lg_cmp_ge, l_not_lt, l_not_le]))
  · refine a_lload_n (i := 1) dX2_compare_188 rfl rfl ?_
    refine a_lload_n (i := 3) dX2_compare_189 rfl rfl ?_
    refine a_lcmp dX2_compare_190 ?_
    refine a_if_eq (tg := 198) dX2_compare_191 (by decide) (fun c_191 => ?_) (fun c_191 => ?_)
    · refine a_iconst (v := 0) dX2_compare_198 (by decide) ?_
      refine a_istore (i := 5) dX2_compare_199 (by decide) ?_
      refine a_goto (tg := 233) dX2_compare_201 (by decide) ?_
      refine a_iload (i := 5) dX2_compare_233 rfl ?_
      refine a_if_eq (tg := 242) dX2_compare_235 (by decide) (fun c_235 => ?_) (fun c_235 => ?_)
      · refine a_lconst (v := 0) dX2_compare_242 (by decide) ?_
        exact a_lret dX2_compare_243 (by first | exact absurd c_235 (by decide) | exact absurd rfl c_235 | (clear c_235; simp_all [wCmp, wSo, lg_cmp_eq, lg_cmp_lt, lg_cmp_le, lg_cmp_gt, lg_cmp_ge, l_not_lt, l_not_le]))
      · refine a_lconst (v := 1) dX2_compare_238 (by decide) ?_
        refine a_goto (tg := 243) dX2_compare_239 (by decide) ?_
        exact a_lret dX2_compare_243 (by first | exact absurd c_235 (by decide) | exact absurd rfl c_235 | (clear c_235; simp_all [wCmp, wSo, lg_cmp_eq, lg_cmp_lt, lg_cmp_le, lg_cmp_gt, lg_cmp_ge, l_not_lt, l_not_le]))
    · refine a_iconst (v := 1) dX2_compare_194 (by decide) ?_
      refine a_goto (tg := 199) dX2_compare_195 (by decide) ?_
      refine a_istore (i := 5) dX2_compare_199 (by decide) ?_
      refine a_goto (tg := 233) dX2_compare_201 (by decide) ?_
      refine a_iload (i := 5) dX2_compare_233 rfl ?_
      refine a_if_eq (tg := 242) dX2_compare_235 (by decide) (fun c_235 => ?_) (fun c_235 => ?_)
      · refine a_lconst (v := 0) dX2_compare_242 (by decide) ?_
        exact a_lret dX2_compare_243 (by first | exact absurd c_235 (by decide) | exact absurd rfl c_235 | (clear c_235; simp_all [wCmp, wSo, lg_cmp_eq, lg_cmp_lt, lg_cmp_le, lg_cmp_gt, lg_cmp_ge, l_not_lt, l_not_le]))
      · refine a_lconst (v := 1) dX2_compare_238 (by decide) ?_
        refine a_goto (tg := 243) dX2_compare_239 (by decide) ?_
        exact a_lret dX2_compare_243 (by first | exact absurd c_235 (by decide) | exact absurd rfl c_235 | (clear c_235; simp_all [wCmp, wSo, lg_cmp_eq, lg_cmp_lt, lg_cmp_le, lg_cmp_gt, lg_cmp_ge, l_not_lt, l_not_le]))
  · refine a_lload_n (i := 1) dX2_compare_204 rfl rfl ?_
    refine a_lload_n (i := 3) dX2_compare_205 rfl rfl ?_
    refine a_lcmp dX2_compare_206 ?_
    refine a_if_lt (tg := 214) dX2_compare_207 (by decide) (fun c_207 => ?_) (fun c_207 => ?_)
    · refine a_iconst (v := 0) dX2_compare_214 (by decide) ?_
      refine a_istore (i := 5) dX2_compare_215 (by decide) ?_
      refine a_goto (tg := 233) dX2_compare_217 (by decide) ?_
      refine a_iload (i := 5) dX2_compare_233 rfl ?_
      refine a_if_eq (tg := 242) dX2_compare_235 (by decide) (fun c_235 => ?_) (fun c_235 => ?_)
      · refine a_lconst (v := 0) dX2_compare_242 (by decide) ?_
        exact a_lret dX2_compare_243 (by first | exact absurd c_235 (by decide) | exact absurd rfl c_235 | (clear c_235; simp_all [wCmp, wSo, lg_cmp_eq, lg_cmp_lt, lg_cmp_le, lg_cmp_gt, lg_cmp_ge, l_not_lt, l_not_le]))
      · refine a_lconst (v := 1) dX2_compare_238 (by decide) ?_
        refine a_goto (tg := 243) dX2_compare_239 (by decide) ?_
        exact a_lret dX2_compare_243 (by first | exact absurd c_235 (by decide) | exact absurd rfl c_235 | (clear c_235; simp_all [wCmp, wSo, lg_cmp_eq, lg_cmp_lt, lg_cmp_le, lg_cmp_gt, lg_cmp_ge, l_not_lt, l_not_le]))
    · refine a_iconst (v := 1) dX2_compare_210 (by decide) ?_
      refine a_goto (tg := 215) dX2_compare_211 (by decide) ?_
      refine a_istore (i := 5) dX2_compare_215 (by decide) ?_
      refine a_goto (tg := 233) dX2_compare_217 (by decide) ?_
      refine a_iload (i := 5) dX2_compare_233 rfl ?_
      refine a_if_eq (tg := 242) dX2_compare_235 (by decide) (fun c_235 => ?_) (fun c_235 => ?_)
      · refine a_lconst (v := 0) dX2_compare_242 (by decide) ?_
        exact a_lret dX2_compare_243 (by first | exact absurd c_235 (by decide) | exact absurd rfl c_235 | (clear c_235; simp_all [wCmp, wSo, lg_cmp_eq, lg_cmp_lt, lg_cmp_le, lg_cmp_gt, lg_cmp_ge, l_not_lt, l_not_le]))
      · refine a_lconst (v := 1) dX2_compare_238 (by decide) ?_
        refine a_goto (tg := 243) dX2_compare_239 (by decide) ?_
        exact a_lret dX2_compare_243 (by first | exact absurd c_235 (by decide) | exact absurd rfl c_235 | (clear c_235; simp_all [wCmp, wSo, lg_cmp_eq, lg_cmp_lt, lg_cmp_le, lg_cmp_gt, lg_cmp_ge, l_not_lt, l_not_le]))
  · refine a_lload_n (i := 1) dX2_compare_220 rfl rfl ?_
    refine a_lload_n (i := 3) dX2_compare_221 rfl rfl ?_
    refine a_lcmp dX2_compare_222 ?_
    refine a_if_le (tg := 230) dX2_compare_223 (by decide) (fun c_223 => ?_) (fun c_223 => ?_)
    · refine a_iconst (v := 0) dX2_compare_230 (by decide) ?_
      refine a_istore (i := 5) dX2_compare_231 (by decide) ?_
      refine a_iload (i := 5) dX2_compare_233 rfl ?_
      refine a_if_eq (tg := 242) dX2_compare_235 (by decide) (fun c_235 => ?_) (fun c_235 => ?_)
      · refine a_lconst (v := 0) dX2_compare_242 (by decide) ?_
        exact a_lret dX2_compare_243 (by first | exact absurd c_235 (by decide) | exact absurd rfl c_235 | (clear c_235; simp_all [wCmp, wSo, lg_cmp_eq, lg_cmp_lt, lg_cmp_le, lg_cmp_gt, lg_cmp_ge, l_not_lt, l_not_le]))
      · refine a_lconst (v := 1) dX2_compare_238 (by decide) ?_
        refine a_goto (tg := 243) dX2_compare_239 (by decide) ?_
        exact a_lret dX2_compare_243 (by first | exact absurd c_235 (by decide) | exact absurd rfl c_235 | (clear c_235; simp_all [wCmp, wSo, lg_cmp_eq, lg_cmp_lt, lg_cmp_le, lg_cmp_gt, lg_cmp_ge, l_not_lt, l_not_le]))
    · refine a_iconst (v := 1) dX2_compare_226 (by decide) ?_
      refine a_goto (tg := 231) dX2_compare_227 (by decide) ?_
      refine a_istore (i := 5) dX2_compare_231 (by decide) ?_
      refine a_iload (i := 5) dX2_compare_233 rfl ?_
      refine a_if_eq (tg := 242) dX2_compare_235 (by decide) (fun c_235 => ?_) (fun c_235 => ?_)
      · refine a_lconst (v := 0) dX2_compare_242 (by decide) ?_
        exact a_lret dX2_compare_243 (by first | exact absurd c_235 (by decide) | exact absurd rfl c_235 | (clear c_235; simp_all [wCmp, wSo, lg_cmp_eq, lg_cmp_lt, lg_cmp_le, lg_cmp_gt, lg_cmp_ge, l_not_lt, l_not_le]))
      · refine a_lconst (v := 1) dX2_compare_238 (by decide) ?_
        refine a_goto (tg := 243) dX2_compare_239 (by decide) ?_
        exact a_lret dX2_compare_243 (by first | exact absurd c_235 (by decide) | exact absurd rfl c_235 | (clear c_235; simp_all [wCmp, wSo, lg_cmp_eq, lg_cmp_lt, lg_cmp_le, lg_cmp_gt, lg_cmp_ge, l_not_lt, l_not_le]))
def labs (a : Int64) : Int64 := if a < 0 then -a else a
def wBig (r : Int64) : Int64 := if 1000000000000 < r ∨ r < -1000000000000 then wErr else r
def wRek (k : Int32) (a b : Int64) : Int64 :=
  if k = 33 then wBig (a + b) else if k = 34 then wBig (a - b) else if k = 35 then (if a ≠ 0 ∧ 1000000000000 / labs a < labs b then wErr else wBig (a * b)) else if b = 0 then wErr else wBig (a / b)
theorem labs_ne {a : Int64} (h : ¬ a = 0) : ¬ labs a = 0 := by
  unfold labs
  split
  · intro g
    exact h (by have := congrArg (fun z => -z) g; simpa using this)
  · exact h
set_option maxHeartbeats 4000000 in
set_option maxRecDepth 100000 in
theorem c_X2_reckon {l : Launch} {d : Nat} {D : Nat → Bool} {k : Int32} {a b : Int64} {x : aS} : aDJ l mX2_reckon d D [.int k, .long a, .long b] x (wRek k a b) x := by
  have L : ∀ r : Int64, aV l mX2_reckon d D none 109 [(5, .long r)] [] x (fun v z => v = some (.long (wBig r)) ∧ z = x) := by
    intro r
    refine a_lload (i := 5) dX2_reckon_109 rfl ?_
    refine a_ldc2 (v := 1000000000000) dX2_reckon_111 (oX2_35 rfl) ?_
    refine a_lcmp dX2_reckon_114 ?_
    refine a_if_gt (tg := 127) dX2_reckon_115 (by decide) (fun c_115 => ?_) (fun c_115 => ?_)
    · have hq : wBig r = wErr := if_pos (Or.inl ((lg_cmp_gt _ _).mp c_115))
      refine a_ldc2 (v := (-9223372036854775808)) dX2_reckon_127 (oX2_26 rfl) ?_
      refine a_goto (tg := 135) dX2_reckon_130 (by decide) ?_
      exact a_lret dX2_reckon_135 (by rw [hq]; exact ⟨rfl, rfl⟩)
    · refine a_lload (i := 5) dX2_reckon_118 rfl ?_
      refine a_ldc2 (v := (-1000000000000)) dX2_reckon_120 (oX2_37 rfl) ?_
      refine a_lcmp dX2_reckon_123 ?_
      refine a_if_ge (tg := 133) dX2_reckon_124 (by decide) (fun c_124 => ?_) (fun c_124 => ?_)
      · have hq : wBig r = r := if_neg (fun h => h.elim (fun g => c_115 ((lg_cmp_gt _ _).mpr g)) (fun g => absurd g (l_not_lt.mpr ((lg_cmp_ge _ _).mp c_124))))
        refine a_lload (i := 5) dX2_reckon_133 rfl ?_
        exact a_lret dX2_reckon_135 (by rw [hq]; exact ⟨rfl, rfl⟩)
      · have hq : wBig r = wErr := if_pos (Or.inr (l_not_le.mp (fun h => c_124 ((lg_cmp_ge _ _).mpr h))))
        refine a_ldc2 (v := (-9223372036854775808)) dX2_reckon_127 (oX2_26 rfl) ?_
        refine a_goto (tg := 135) dX2_reckon_130 (by decide) ?_
        exact a_lret dX2_reckon_135 (by rw [hq]; exact ⟨rfl, rfl⟩)
  have T : aV l mX2_reckon d D none 44 [(1, .long a), (3, .long b)] [] x (fun v z => v = some (.long (if a ≠ 0 ∧ 1000000000000 / labs a < labs b then wErr else wBig (a * b))) ∧ z = x) := by
    refine a_lload_n (i := 1) dX2_reckon_44 rfl rfl ?_
    refine a_lconst (v := 0) dX2_reckon_45 (by decide) ?_
    refine a_lcmp dX2_reckon_46 ?_
    refine a_if_eq (tg := 86) dX2_reckon_47 (by decide) (fun c_47 => ?_) (fun c_47 => ?_)
    · have hq : ¬ (a ≠ 0 ∧ 1000000000000 / labs a < labs b) := fun h => h.1 ((lg_cmp_eq a 0).mp c_47)
      refine a_lload_n (i := 1) dX2_reckon_86 rfl rfl ?_
      refine a_lload_n (i := 3) dX2_reckon_87 rfl rfl ?_
      refine a_lmul dX2_reckon_88 ?_
      refine a_lstore (i := 5) dX2_reckon_89 (by decide) ?_
      refine a_goto (tg := 109) dX2_reckon_91 (by decide) ?_
      rw [if_neg hq]; exact a_loc _ rfl (L (a * b))
    · refine a_lload_n (i := 3) dX2_reckon_50 rfl rfl ?_
      refine a_lconst (v := 0) dX2_reckon_51 (by decide) ?_
      refine a_lcmp dX2_reckon_52 ?_
      refine a_if_ge (tg := 61) dX2_reckon_53 (by decide) (fun c_53 => ?_) (fun c_53 => ?_)
      · have eb : labs b = b := if_neg (l_not_lt.mpr ((lg_cmp_ge b 0).mp c_53))
        refine a_lload_n (i := 3) dX2_reckon_61 rfl rfl ?_
        refine a_ldc2 (v := 1000000000000) dX2_reckon_62 (oX2_35 rfl) ?_
        refine a_lload_n (i := 1) dX2_reckon_65 rfl rfl ?_
        refine a_lconst (v := 0) dX2_reckon_66 (by decide) ?_
        refine a_lcmp dX2_reckon_67 ?_
        refine a_if_ge (tg := 76) dX2_reckon_68 (by decide) (fun c_68 => ?_) (fun c_68 => ?_)
        · have ea : labs a = a := if_neg (l_not_lt.mpr ((lg_cmp_ge a 0).mp c_68))
          refine a_lload_n (i := 1) dX2_reckon_76 rfl rfl ?_
          refine a_ldiv dX2_reckon_77 (by intro g; exact labs_ne (fun h => c_47 ((lg_cmp_eq a 0).mpr h)) (ea.trans g)) ?_
          refine a_lcmp dX2_reckon_78 ?_
          refine a_if_le (tg := 86) dX2_reckon_79 (by decide) (fun c_79 => ?_) (fun c_79 => ?_)
          · have hq : ¬ (a ≠ 0 ∧ 1000000000000 / labs a < labs b) := fun h => absurd h.2 (l_not_lt.mpr (by rw [ea, eb]; exact (lg_cmp_le _ _).mp c_79))
            refine a_lload_n (i := 1) dX2_reckon_86 rfl rfl ?_
            refine a_lload_n (i := 3) dX2_reckon_87 rfl rfl ?_
            refine a_lmul dX2_reckon_88 ?_
            refine a_lstore (i := 5) dX2_reckon_89 (by decide) ?_
            refine a_goto (tg := 109) dX2_reckon_91 (by decide) ?_
            rw [if_neg hq]; exact a_loc _ rfl (L (a * b))
          · refine a_ldc2 (v := (-9223372036854775808)) dX2_reckon_82 (oX2_26 rfl) ?_
            exact a_lret dX2_reckon_85 (by rw [if_pos ⟨fun h => c_47 ((lg_cmp_eq a 0).mpr h), by rw [ea, eb]; exact l_not_le.mp (fun h => c_79 ((lg_cmp_le _ _).mpr h))⟩]; exact ⟨rfl, rfl⟩)
        · have ea : labs a = -a := if_pos (l_not_le.mp (fun h => c_68 ((lg_cmp_ge a 0).mpr h)))
          refine a_lload_n (i := 1) dX2_reckon_71 rfl rfl ?_
          refine a_lneg dX2_reckon_72 ?_
          refine a_goto (tg := 77) dX2_reckon_73 (by decide) ?_
          refine a_ldiv dX2_reckon_77 (by intro g; exact labs_ne (fun h => c_47 ((lg_cmp_eq a 0).mpr h)) (ea.trans g)) ?_
          refine a_lcmp dX2_reckon_78 ?_
          refine a_if_le (tg := 86) dX2_reckon_79 (by decide) (fun c_79 => ?_) (fun c_79 => ?_)
          · have hq : ¬ (a ≠ 0 ∧ 1000000000000 / labs a < labs b) := fun h => absurd h.2 (l_not_lt.mpr (by rw [ea, eb]; exact (lg_cmp_le _ _).mp c_79))
            refine a_lload_n (i := 1) dX2_reckon_86 rfl rfl ?_
            refine a_lload_n (i := 3) dX2_reckon_87 rfl rfl ?_
            refine a_lmul dX2_reckon_88 ?_
            refine a_lstore (i := 5) dX2_reckon_89 (by decide) ?_
            refine a_goto (tg := 109) dX2_reckon_91 (by decide) ?_
            rw [if_neg hq]; exact a_loc _ rfl (L (a * b))
          · refine a_ldc2 (v := (-9223372036854775808)) dX2_reckon_82 (oX2_26 rfl) ?_
            exact a_lret dX2_reckon_85 (by rw [if_pos ⟨fun h => c_47 ((lg_cmp_eq a 0).mpr h), by rw [ea, eb]; exact l_not_le.mp (fun h => c_79 ((lg_cmp_le _ _).mpr h))⟩]; exact ⟨rfl, rfl⟩)
      · have eb : labs b = -b := if_pos (l_not_le.mp (fun h => c_53 ((lg_cmp_ge b 0).mpr h)))
        refine a_lload_n (i := 3) dX2_reckon_56 rfl rfl ?_
        refine a_lneg dX2_reckon_57 ?_
        refine a_goto (tg := 62) dX2_reckon_58 (by decide) ?_
        refine a_ldc2 (v := 1000000000000) dX2_reckon_62 (oX2_35 rfl) ?_
        refine a_lload_n (i := 1) dX2_reckon_65 rfl rfl ?_
        refine a_lconst (v := 0) dX2_reckon_66 (by decide) ?_
        refine a_lcmp dX2_reckon_67 ?_
        refine a_if_ge (tg := 76) dX2_reckon_68 (by decide) (fun c_68 => ?_) (fun c_68 => ?_)
        · have ea : labs a = a := if_neg (l_not_lt.mpr ((lg_cmp_ge a 0).mp c_68))
          refine a_lload_n (i := 1) dX2_reckon_76 rfl rfl ?_
          refine a_ldiv dX2_reckon_77 (by intro g; exact labs_ne (fun h => c_47 ((lg_cmp_eq a 0).mpr h)) (ea.trans g)) ?_
          refine a_lcmp dX2_reckon_78 ?_
          refine a_if_le (tg := 86) dX2_reckon_79 (by decide) (fun c_79 => ?_) (fun c_79 => ?_)
          · have hq : ¬ (a ≠ 0 ∧ 1000000000000 / labs a < labs b) := fun h => absurd h.2 (l_not_lt.mpr (by rw [ea, eb]; exact (lg_cmp_le _ _).mp c_79))
            refine a_lload_n (i := 1) dX2_reckon_86 rfl rfl ?_
            refine a_lload_n (i := 3) dX2_reckon_87 rfl rfl ?_
            refine a_lmul dX2_reckon_88 ?_
            refine a_lstore (i := 5) dX2_reckon_89 (by decide) ?_
            refine a_goto (tg := 109) dX2_reckon_91 (by decide) ?_
            rw [if_neg hq]; exact a_loc _ rfl (L (a * b))
          · refine a_ldc2 (v := (-9223372036854775808)) dX2_reckon_82 (oX2_26 rfl) ?_
            exact a_lret dX2_reckon_85 (by rw [if_pos ⟨fun h => c_47 ((lg_cmp_eq a 0).mpr h), by rw [ea, eb]; exact l_not_le.mp (fun h => c_79 ((lg_cmp_le _ _).mpr h))⟩]; exact ⟨rfl, rfl⟩)
        · have ea : labs a = -a := if_pos (l_not_le.mp (fun h => c_68 ((lg_cmp_ge a 0).mpr h)))
          refine a_lload_n (i := 1) dX2_reckon_71 rfl rfl ?_
          refine a_lneg dX2_reckon_72 ?_
          refine a_goto (tg := 77) dX2_reckon_73 (by decide) ?_
          refine a_ldiv dX2_reckon_77 (by intro g; exact labs_ne (fun h => c_47 ((lg_cmp_eq a 0).mpr h)) (ea.trans g)) ?_
          refine a_lcmp dX2_reckon_78 ?_
          refine a_if_le (tg := 86) dX2_reckon_79 (by decide) (fun c_79 => ?_) (fun c_79 => ?_)
          · have hq : ¬ (a ≠ 0 ∧ 1000000000000 / labs a < labs b) := fun h => absurd h.2 (l_not_lt.mpr (by rw [ea, eb]; exact (lg_cmp_le _ _).mp c_79))
            refine a_lload_n (i := 1) dX2_reckon_86 rfl rfl ?_
            refine a_lload_n (i := 3) dX2_reckon_87 rfl rfl ?_
            refine a_lmul dX2_reckon_88 ?_
            refine a_lstore (i := 5) dX2_reckon_89 (by decide) ?_
            refine a_goto (tg := 109) dX2_reckon_91 (by decide) ?_
            rw [if_neg hq]; exact a_loc _ rfl (L (a * b))
          · refine a_ldc2 (v := (-9223372036854775808)) dX2_reckon_82 (oX2_26 rfl) ?_
            exact a_lret dX2_reckon_85 (by rw [if_pos ⟨fun h => c_47 ((lg_cmp_eq a 0).mpr h), by rw [ea, eb]; exact l_not_le.mp (fun h => c_79 ((lg_cmp_le _ _).mpr h))⟩]; exact ⟨rfl, rfl⟩)
  refine a_metJ (by decide) (Nat.le_of_ble_eq_true rfl) rfl ?_
  refine a_iload_n (i := 0) dX2_reckon_0 rfl rfl ?_
  refine sX2_reckon_1 dX2_reckon_1 (fun s_1 => ?_) (fun s_1 => ?_) (fun s_1 => ?_) (fun s_1_0 s_1_1 s_1_2 => ?_)
  · rw [show wRek k a b = wBig (a + b) from by simp [wRek, s_1]]
    refine a_lload_n (i := 1) dX2_reckon_28 rfl rfl ?_
    refine a_lload_n (i := 3) dX2_reckon_29 rfl rfl ?_
    refine a_ladd dX2_reckon_30 ?_
    refine a_lstore (i := 5) dX2_reckon_31 (by decide) ?_
    refine a_goto (tg := 109) dX2_reckon_33 (by decide) ?_
    exact a_loc _ rfl (L _)
  · rw [show wRek k a b = wBig (a - b) from by simp [wRek, s_1]]
    refine a_lload_n (i := 1) dX2_reckon_36 rfl rfl ?_
    refine a_lload_n (i := 3) dX2_reckon_37 rfl rfl ?_
    refine a_lsub dX2_reckon_38 ?_
    refine a_lstore (i := 5) dX2_reckon_39 (by decide) ?_
    refine a_goto (tg := 109) dX2_reckon_41 (by decide) ?_
    exact a_loc _ rfl (L _)
  · rw [show wRek k a b = (if a ≠ 0 ∧ 1000000000000 / labs a < labs b then wErr else wBig (a * b)) from by simp [wRek, s_1]]
    exact a_loc _ rfl T
  · refine a_lload_n (i := 3) dX2_reckon_94 rfl rfl ?_
    refine a_lconst (v := 0) dX2_reckon_95 (by decide) ?_
    refine a_lcmp dX2_reckon_96 ?_
    refine a_if_ne (tg := 104) dX2_reckon_97 (by decide) (fun c_97 => ?_) (fun c_97 => ?_)
    · rw [show wRek k a b = wBig (a / b) from by simp_all [wRek, lg_cmp_eq]]
      refine a_lload_n (i := 1) dX2_reckon_104 rfl rfl ?_
      refine a_lload_n (i := 3) dX2_reckon_105 rfl rfl ?_
      refine a_ldiv dX2_reckon_106 (by simpa [lg_cmp_eq] using c_97) ?_
      refine a_lstore (i := 5) dX2_reckon_107 (by decide) ?_
      exact a_loc _ rfl (L _)
    · refine a_ldc2 (v := (-9223372036854775808)) dX2_reckon_100 (oX2_26 rfl) ?_
      exact a_lret dX2_reckon_103 (by simp_all [wRek, wErr, lg_cmp_eq])
/-- memory with one row of longs in place -/
def aRw (x : aS) (c : Nat) (row : Nat → Int64) : aS := (x.1, fun a => if a = c then row else x.2 a)
theorem aRw_wl (x : aS) (c j : Nat) (row : Nat → Int64) (v : Int64) : aWl (aRw x c row) c j v = aRw x c (vp_updL row j v) := by
  unfold aWl aRw vp_updL
  simp only [if_true]
  congr 1
  funext a
  by_cases h : a = c
  · simp [h]
  · simp [h]
theorem aRw_at (x : aS) (c : Nat) (row : Nat → Int64) : (aRw x c row).2 c = row := by simp [aRw]
theorem aRw_self (x : aS) (c : Nat) : aRw x c (x.2 c) = x := by
  unfold aRw
  have : (fun a => if a = c then x.2 c else x.2 a) = x.2 := by
    funext a
    by_cases h : a = c <;> simp [h]
  rw [this]
def wStep (k v : Int32) (nm : Nat → Int32) (q : Nat × (Nat → Int64)) : Option (Nat × (Nat → Int64)) :=
  if k = 23 then some (q.1 + 1, vp_updL q.2 q.1 v.toInt64)
  else if 15 ≤ k ∧ k ≤ 21 then some (q.1 + 1, vp_updL q.2 q.1 (nm (k - 15).toNatClampNeg).toInt64)
  else if k = 14 then (if q.1 < 1 then none else some (q.1, vp_updL q.2 (q.1 - 1) (if q.2 (q.1 - 1) = 0 then 1 else 0)))
  else if q.1 < 2 then none
  else if (if k < 33 then wCmp k (q.2 (q.1 - 2)) (q.2 (q.1 - 1)) else wRek k (q.2 (q.1 - 2)) (q.2 (q.1 - 1))) = wErr then none
  else some (q.1 - 1, vp_updL q.2 (q.1 - 2) (if k < 33 then wCmp k (q.2 (q.1 - 2)) (q.2 (q.1 - 1)) else wRek k (q.2 (q.1 - 2)) (q.2 (q.1 - 1))))
def wOut (o : Option (Nat × (Nat → Int64))) : Int64 := match o with
  | none => wErr
  | some q => if q.1 = 1 then q.2 0 else wErr
def wGo (x : aS) (n : Nat) (i : Nat) (o : Option (Nat × (Nat → Int64))) : Option (Nat × (Nat → Int64)) := o.bind (wStep (x.1 (n + 10) i) (x.1 (n + 20) i) (x.1 (bYr + 1)))
def wWorth (x : aS) (n s : Nat) : Int64 := wOut (lp (wGo x n) 0 s (some (0, x.2 (bYr + 2))))
theorem wGo_none (x : aS) (n : Nat) : ∀ (k i : Nat), lp (wGo x n) i k none = none := by
  intro k
  induction k with
  | zero => intro i; rfl
  | succ k ih => intro i; exact ih (i + 1)
theorem k15 {k : Int32} (h1 : ¬ k < 15) (h2 : ¬ 21 < k) : ∃ j : Nat, j < 7 ∧ k - 15 = nI j := by
  obtain ⟨j, hj, e⟩ := nI_of2 (x := k) (M := 21) (n := 21) (by decide) (fun h => h1 (Int32.lt_trans h (by decide))) (Int32.not_lt.mp h2)
  subst e
  have h3 : 15 ≤ j := by
    rcases Nat.lt_or_ge j 15 with g | g
    · exact absurd (nI_lt g (by decide)) h1
    · exact g
  exact ⟨j - 15, by omega, by rw [show (15 : Int32) = nI 15 from rfl, pk_sub h3]⟩
set_option maxHeartbeats 4000000 in
set_option maxRecDepth 100000 in
theorem c_X2_worth {l : Launch} {d : Nat} {D : Nat → Bool} {n s : Nat} {x : aS} (hD : aDC D) (hn : aIs D n 2 0) (h1 : aIs D (n + 10) 14 64) (h2 : aIs D (n + 20) 14 64) (hs : x.1 n 1 = nI s) (hs64 : s ≤ 64) : aCt l mX2_worth (d + 1) D [.ref n, .ref (bYr + 1), .ref (bYr + 2)] x (fun v y => v = some (.long (wWorth x n s)) ∧ ∃ row, y = aRw x (bYr + 2) row) := by
  have L : ∀ (k i : Nat), i + k = s → ∀ (T : Nat) (row : Nat → Int64), T ≤ i → aV l mX2_worth (d + 1) D none 5 [(0, .ref n), (1, .ref (bYr + 1)), (2, .ref (bYr + 2)), (3, .int (nI T)), (4, .int (nI i))] [] (aRw x (bYr + 2) row) (fun v y => v = some (.long (wOut (lp (wGo x n) i k (some (T, row))))) ∧ ∃ row, y = aRw x (bYr + 2) row) := by
    intro k
    induction k with
    | zero =>
      intro i hi T row hT
      rw [Nat.add_zero] at hi
      subst hi
      refine a_iload (i := 4) dX2_worth_5 rfl ?_
      refine a_aload_n (i := 0) dX2_worth_7 rfl rfl ?_
      refine gX2_22 rfl dX2_worth_8 (hn) ?_
      rw [show (aRw x (bYr + 2) row).1 n 1 = nI i from hs]
      refine a_icmp_ge (tg := 198) dX2_worth_11 (by decide) (fun c_11 => ?_) (fun c_11 => ?_)
      · refine a_iload_n (i := 3) dX2_worth_198 rfl rfl ?_
        refine a_iconst (v := 1) dX2_worth_199 (by decide) ?_
        refine a_icmp_ne (tg := 209) dX2_worth_200 (by decide) (fun c_200 => ?_) (fun c_200 => ?_)
        · have hT1 : ¬ T = 1 := fun h => c_200 (by rw [h]; rfl)
          refine a_ldc2 (v := (-9223372036854775808)) dX2_worth_209 (oX2_26 rfl) ?_
          exact a_lret dX2_worth_212 (by refine ⟨?_, row, rfl⟩; simp [lp, wOut, hT1, wErr])
        · have hT1 : T = 1 := (nI_eq (by omega) (by decide)).mp c_200
          refine a_aload_n (i := 2) dX2_worth_203 rfl rfl ?_
          refine a_iconst (v := 0) dX2_worth_204 (by decide) ?_
          refine a_laldN dX2_worth_205 (isYr_2 hD) (by first | exact (show (0 : Int32) = nI 0 from rfl) | with_reducible exact rfl | with_reducible exact ix8 _ _ | with_reducible exact ix12 _ _ | exact rfl) (by omega) (by decide) ?_
          rw [aRw_at]
          refine a_goto (tg := 212) dX2_worth_206 (by decide) ?_
          exact a_lret dX2_worth_212 (by refine ⟨?_, row, rfl⟩; simp [lp, wOut, hT1, wErr])
      · exact absurd (Int32.le_refl _) c_11
    | succ k ih =>
      intro i hi T row hT
      have hstep : lp (wGo x n) i (k + 1) (some (T, row)) = lp (wGo x n) (i + 1) k (wStep (x.1 (n + 10) i) (x.1 (n + 20) i) (x.1 (bYr + 1)) (T, row)) := rfl
      rw [hstep]
      obtain ⟨K, hK⟩ : ∃ K, x.1 (n + 10) i = K := ⟨_, rfl⟩
      obtain ⟨V, hV⟩ : ∃ V, x.1 (n + 20) i = V := ⟨_, rfl⟩
      have rr : ∀ (row : Nat → Int64) (c j : Nat), (aRw x (bYr + 2) row).1 c j = x.1 c j := fun _ _ _ => rfl
      rw [hK, hV]
      have J : ∀ (T' : Nat) (row' : Nat → Int64), T' ≤ i + 1 → wStep K V (x.1 (bYr + 1)) (T, row) = some (T', row') → aV l mX2_worth (d + 1) D none 192 [(0, .ref n), (1, .ref (bYr + 1)), (2, .ref (bYr + 2)), (3, .int (nI T')), (4, .int (nI i))] [] (aRw x (bYr + 2) row') (fun v y => v = some (.long (wOut (lp (wGo x n) (i + 1) k (wStep K V (x.1 (bYr + 1)) (T, row))))) ∧ ∃ row, y = aRw x (bYr + 2) row) := by
        intro T' row' hT' e
        rw [e]
        refine a_iincK (i := 4) (u := 1) dX2_worth_192 rfl (by decide) (by decide) ?_
        refine a_goto (tg := 5) dX2_worth_195 (by decide) ?_
        rw [nI_1]; exact a_loc _ rfl (ih (i + 1) (by omega) T' row' hT')
      have E : wStep K V (x.1 (bYr + 1)) (T, row) = none → ∀ row', (∃ v : Int64, v = wErr ∧ some (Value.long v) = some (.long (wOut (lp (wGo x n) (i + 1) k (wStep K V (x.1 (bYr + 1)) (T, row)))))) ∧ ∃ row, aRw x (bYr + 2) row' = aRw x (bYr + 2) row := by
        intro e row'
        rw [e, wGo_none]
        exact ⟨⟨wErr, rfl, rfl⟩, row', rfl⟩
      have R : wStep K V (x.1 (bYr + 1)) (T, row) = none → some (Value.long (-9223372036854775808)) = some (.long (wOut (lp (wGo x n) (i + 1) k (wStep K V (x.1 (bYr + 1)) (T, row))))) := by
        intro e
        rw [e, wGo_none]
        rfl
      have B : ¬ K = 23 → (K < 15 ∨ 21 < K) → aV l mX2_worth (d + 1) D none 84 [(0, .ref n), (1, .ref (bYr + 1)), (2, .ref (bYr + 2)), (3, .int (nI T)), (4, .int (nI i)), (5, .int K)] [] (aRw x (bYr + 2) row) (fun v y => v = some (.long (wOut (lp (wGo x n) (i + 1) k (wStep K V (x.1 (bYr + 1)) (T, row))))) ∧ ∃ row, y = aRw x (bYr + 2) row) := by
        intro c_33 c_b
        have hb : ¬ (15 ≤ K ∧ K ≤ 21) := fun h => c_b.elim (fun g => absurd h.1 (Int32.not_le.mpr g)) (fun g => absurd h.2 (Int32.not_le.mpr g))
        by_cases h14 : K = 14
        · by_cases hT1 : T < 1
          · have e : wStep K V (x.1 (bYr + 1)) (T, row) = none := by simp [wStep, c_33, hb, h14, hT1]
            refine a_iload (i := 5) dX2_worth_84 rfl ?_
            refine a_bipush (v := 14) dX2_worth_86 (by decide) ?_
            refine a_icmp_ne (tg := 123) dX2_worth_88 (by decide) (fun c_88 => ?_) (fun c_88 => ?_)
            · exact absurd h14 c_88
            · refine a_iload_n (i := 3) dX2_worth_91 rfl rfl ?_
              refine a_iconst (v := 1) dX2_worth_92 (by decide) ?_
              refine a_icmp_ge (tg := 100) dX2_worth_93 (by decide) (fun c_93 => ?_) (fun c_93 => ?_)
              · exact absurd c_93 (nI_ge hT1 (by decide))
              · refine a_ldc2 (v := (-9223372036854775808)) dX2_worth_96 (oX2_26 rfl) ?_
                exact a_lret dX2_worth_99 (by exact ⟨R e, row, rfl⟩)
          · obtain ⟨T', rfl⟩ : ∃ T', T = T' + 1 := ⟨T - 1, by omega⟩
            have e : wStep K V (x.1 (bYr + 1)) (T' + 1, row) = some (T' + 1, vp_updL row T' (if row T' = 0 then 1 else 0)) := by simp [wStep, c_33, hb, h14]
            refine a_iload (i := 5) dX2_worth_84 rfl ?_
            refine a_bipush (v := 14) dX2_worth_86 (by decide) ?_
            refine a_icmp_ne (tg := 123) dX2_worth_88 (by decide) (fun c_88 => ?_) (fun c_88 => ?_)
            · exact absurd h14 c_88
            · refine a_iload_n (i := 3) dX2_worth_91 rfl rfl ?_
              refine a_iconst (v := 1) dX2_worth_92 (by decide) ?_
              refine a_icmp_ge (tg := 100) dX2_worth_93 (by decide) (fun c_93 => ?_) (fun c_93 => ?_)
              · refine a_aload_n (i := 2) dX2_worth_100 rfl rfl ?_
                refine a_iload_n (i := 3) dX2_worth_101 rfl rfl ?_
                refine a_iconst (v := 1) dX2_worth_102 (by decide) ?_
                refine a_isub dX2_worth_103 ?_
                refine a_aload_n (i := 2) dX2_worth_104 rfl rfl ?_
                refine a_iload_n (i := 3) dX2_worth_105 rfl rfl ?_
                refine a_iconst (v := 1) dX2_worth_106 (by decide) ?_
                refine a_isub dX2_worth_107 ?_
                refine a_laldN dX2_worth_108 (isYr_2 hD) (by first | exact nI_pred _ | with_reducible exact rfl | with_reducible exact ix8 _ _ | with_reducible exact ix12 _ _ | exact rfl) (by omega) (by decide) ?_
                rw [aRw_at]
                refine a_lconst (v := 0) dX2_worth_109 (by decide) ?_
                refine a_lcmp dX2_worth_110 ?_
                refine a_if_ne (tg := 118) dX2_worth_111 (by decide) (fun c_111 => ?_) (fun c_111 => ?_)
                · rw [lg_cmp_eq] at c_111
                  refine a_lconst (v := 0) dX2_worth_118 (by decide) ?_
                  refine a_lastN dX2_worth_119 (isYr_2 hD) (by first | exact nI_pred _ | with_reducible exact rfl | with_reducible exact ix8 _ _ | with_reducible exact ix12 _ _ | exact rfl) (by omega) (by decide) ?_
                  rw [aRw_wl]
                  refine a_goto (tg := 192) dX2_worth_120 (by decide) ?_
                  refine a_loc _ rfl (J _ _ (by omega) ?_); rw [e]; simp [c_111]
                · rw [lg_cmp_eq] at c_111
                  refine a_lconst (v := 1) dX2_worth_114 (by decide) ?_
                  refine a_goto (tg := 119) dX2_worth_115 (by decide) ?_
                  refine a_lastN dX2_worth_119 (isYr_2 hD) (by first | exact nI_pred _ | with_reducible exact rfl | with_reducible exact ix8 _ _ | with_reducible exact ix12 _ _ | exact rfl) (by omega) (by decide) ?_
                  rw [aRw_wl]
                  refine a_goto (tg := 192) dX2_worth_120 (by decide) ?_
                  refine a_loc _ rfl (J _ _ (by omega) ?_); rw [e]; simp [c_111]
              · exact absurd (nI_le (show 1 ≤ T' + 1 by omega) (by omega)) c_93
        · by_cases hT2 : T < 2
          · have e : wStep K V (x.1 (bYr + 1)) (T, row) = none := by simp [wStep, c_33, hb, h14, hT2]
            refine a_iload (i := 5) dX2_worth_84 rfl ?_
            refine a_bipush (v := 14) dX2_worth_86 (by decide) ?_
            refine a_icmp_ne (tg := 123) dX2_worth_88 (by decide) (fun c_88 => ?_) (fun c_88 => ?_)
            · refine a_iload_n (i := 3) dX2_worth_123 rfl rfl ?_
              refine a_iconst (v := 2) dX2_worth_124 (by decide) ?_
              refine a_icmp_ge (tg := 132) dX2_worth_125 (by decide) (fun c_125 => ?_) (fun c_125 => ?_)
              · exact absurd c_125 (nI_ge hT2 (by decide))
              · refine a_ldc2 (v := (-9223372036854775808)) dX2_worth_128 (oX2_26 rfl) ?_
                exact a_lret dX2_worth_131 (by exact ⟨R e, row, rfl⟩)
            · exact absurd c_88 h14
          · obtain ⟨T', rfl⟩ : ∃ T', T = T' + 2 := ⟨T - 2, by omega⟩
            obtain ⟨r, hr⟩ : ∃ r, (if K < 33 then wCmp K (row T') (row (T' + 1)) else wRek K (row T') (row (T' + 1))) = r := ⟨_, rfl⟩
            have Z : aV l mX2_worth (d + 1) D none 175 [(0, .ref n), (1, .ref (bYr + 1)), (2, .ref (bYr + 2)), (3, .int (nI (T' + 1))), (4, .int (nI i)), (5, .int K)] [.long r, .int (nI (T' + 1) - 1), .ref (bYr + 2)] (aRw x (bYr + 2) row) (fun v y => v = some (.long (wOut (lp (wGo x n) (i + 1) k (wStep K V (x.1 (bYr + 1)) (T' + 2, row))))) ∧ ∃ row, y = aRw x (bYr + 2) row) := by
              by_cases hre : r = wErr
              · have e : wStep K V (x.1 (bYr + 1)) (T' + 2, row) = none := by simp [wStep, c_33, hb, h14, hr, hre]
                refine a_lastN dX2_worth_175 (isYr_2 hD) (by exact nI_pred _) (by omega) (by decide) ?_
                rw [aRw_wl]
                refine a_aload_n (i := 2) dX2_worth_176 rfl rfl ?_
                refine a_iload_n (i := 3) dX2_worth_177 rfl rfl ?_
                refine a_iconst (v := 1) dX2_worth_178 (by decide) ?_
                refine a_isub dX2_worth_179 ?_
                refine a_laldN dX2_worth_180 (isYr_2 hD) (by first | exact nI_pred _ | with_reducible exact rfl | with_reducible exact ix8 _ _ | with_reducible exact ix12 _ _ | exact rfl) (by omega) (by decide) ?_
                rw [aRw_at, show vp_updL row T' r T' = r from by simp [vp_updL]]
                refine a_ldc2 (v := (-9223372036854775808)) dX2_worth_181 (oX2_26 rfl) ?_
                refine a_lcmp dX2_worth_184 ?_
                refine a_if_ne (tg := 192) dX2_worth_185 (by decide) (fun c_185 => ?_) (fun c_185 => ?_)
                · exact absurd ((lg_cmp_eq _ _).mpr hre) c_185
                · refine a_ldc2 (v := (-9223372036854775808)) dX2_worth_188 (oX2_26 rfl) ?_
                  exact a_lret dX2_worth_191 (by exact ⟨R e, _, rfl⟩)
              · have e : wStep K V (x.1 (bYr + 1)) (T' + 2, row) = some (T' + 1, vp_updL row T' r) := by simp [wStep, c_33, hb, h14, hr, hre]
                refine a_lastN dX2_worth_175 (isYr_2 hD) (by exact nI_pred _) (by omega) (by decide) ?_
                rw [aRw_wl]
                refine a_aload_n (i := 2) dX2_worth_176 rfl rfl ?_
                refine a_iload_n (i := 3) dX2_worth_177 rfl rfl ?_
                refine a_iconst (v := 1) dX2_worth_178 (by decide) ?_
                refine a_isub dX2_worth_179 ?_
                refine a_laldN dX2_worth_180 (isYr_2 hD) (by first | exact nI_pred _ | with_reducible exact rfl | with_reducible exact ix8 _ _ | with_reducible exact ix12 _ _ | exact rfl) (by omega) (by decide) ?_
                rw [aRw_at, show vp_updL row T' r T' = r from by simp [vp_updL]]
                refine a_ldc2 (v := (-9223372036854775808)) dX2_worth_181 (oX2_26 rfl) ?_
                refine a_lcmp dX2_worth_184 ?_
                refine a_if_ne (tg := 192) dX2_worth_185 (by decide) (fun c_185 => ?_) (fun c_185 => ?_)
                · exact a_loc _ rfl (J _ _ (by omega) e)
                · exact absurd ((lg_cmp_eq _ _).mp c_185) hre
            refine a_iload (i := 5) dX2_worth_84 rfl ?_
            refine a_bipush (v := 14) dX2_worth_86 (by decide) ?_
            refine a_icmp_ne (tg := 123) dX2_worth_88 (by decide) (fun c_88 => ?_) (fun c_88 => ?_)
            · refine a_iload_n (i := 3) dX2_worth_123 rfl rfl ?_
              refine a_iconst (v := 2) dX2_worth_124 (by decide) ?_
              refine a_icmp_ge (tg := 132) dX2_worth_125 (by decide) (fun c_125 => ?_) (fun c_125 => ?_)
              · refine a_iincK (i := 3) (u := (-1)) dX2_worth_132 rfl (by decide) (by decide) ?_
                rw [show nI (T' + 2) + -1 = nI (T' + 1) from pk_m1 (T' + 1)]
                refine a_aload_n (i := 2) dX2_worth_135 rfl rfl ?_
                refine a_iload_n (i := 3) dX2_worth_136 rfl rfl ?_
                refine a_iconst (v := 1) dX2_worth_137 (by decide) ?_
                refine a_isub dX2_worth_138 ?_
                refine a_iload (i := 5) dX2_worth_139 rfl ?_
                refine a_bipush (v := 33) dX2_worth_141 (by decide) ?_
                refine a_icmp_ge (tg := 162) dX2_worth_143 (by decide) (fun c_143 => ?_) (fun c_143 => ?_)
                · rw [if_neg (Int32.not_lt.mpr c_143)] at hr
                  refine a_iload (i := 5) dX2_worth_162 rfl ?_
                  refine a_aload_n (i := 2) dX2_worth_164 rfl rfl ?_
                  refine a_iload_n (i := 3) dX2_worth_165 rfl rfl ?_
                  refine a_iconst (v := 1) dX2_worth_166 (by decide) ?_
                  refine a_isub dX2_worth_167 ?_
                  refine a_laldN dX2_worth_168 (isYr_2 hD) (by first | exact nI_pred _ | with_reducible exact rfl | with_reducible exact ix8 _ _ | with_reducible exact ix12 _ _ | exact rfl) (by omega) (by decide) ?_
                  rw [aRw_at]
                  refine a_aload_n (i := 2) dX2_worth_169 rfl rfl ?_
                  refine a_iload_n (i := 3) dX2_worth_170 rfl rfl ?_
                  refine a_laldN dX2_worth_171 (isYr_2 hD) (by first | exact nI_pred _ | with_reducible exact rfl | with_reducible exact ix8 _ _ | with_reducible exact ix12 _ _ | exact rfl) (by omega) (by decide) ?_
                  rw [aRw_at]
                  refine kX2_32 rfl dX2_worth_172 (Nat.le_of_ble_eq_true rfl) (c_X2_reckon) ?_
                  rw [hr]; exact a_loc _ rfl Z
                · rw [if_pos (Int32.not_le.mp c_143)] at hr
                  refine a_iload (i := 5) dX2_worth_146 rfl ?_
                  refine a_aload_n (i := 2) dX2_worth_148 rfl rfl ?_
                  refine a_iload_n (i := 3) dX2_worth_149 rfl rfl ?_
                  refine a_iconst (v := 1) dX2_worth_150 (by decide) ?_
                  refine a_isub dX2_worth_151 ?_
                  refine a_laldN dX2_worth_152 (isYr_2 hD) (by first | exact nI_pred _ | with_reducible exact rfl | with_reducible exact ix8 _ _ | with_reducible exact ix12 _ _ | exact rfl) (by omega) (by decide) ?_
                  rw [aRw_at]
                  refine a_aload_n (i := 2) dX2_worth_153 rfl rfl ?_
                  refine a_iload_n (i := 3) dX2_worth_154 rfl rfl ?_
                  refine a_laldN dX2_worth_155 (isYr_2 hD) (by first | exact nI_pred _ | with_reducible exact rfl | with_reducible exact ix8 _ _ | with_reducible exact ix12 _ _ | exact rfl) (by omega) (by decide) ?_
                  rw [aRw_at]
                  refine kX2_28 rfl dX2_worth_156 (Nat.le_of_ble_eq_true rfl) (c_X2_compare) ?_
                  refine a_goto (tg := 175) dX2_worth_159 (by decide) ?_
                  rw [hr]; exact a_loc _ rfl Z
              · exact absurd (nI_le (show 2 ≤ T' + 2 by omega) (by omega)) c_125
            · exact absurd c_88 h14
      refine a_iload (i := 4) dX2_worth_5 rfl ?_
      refine a_aload_n (i := 0) dX2_worth_7 rfl rfl ?_
      refine gX2_22 rfl dX2_worth_8 (hn) ?_
      rw [rr, hs]
      refine a_icmp_ge (tg := 198) dX2_worth_11 (by decide) (fun c_11 => ?_) (fun c_11 => ?_)
      · exact absurd c_11 (nI_ge (show i < s by omega) (by omega))
      · refine a_iload_n (i := 3) dX2_worth_14 rfl rfl ?_
        refine a_aload_n (i := 2) dX2_worth_15 rfl rfl ?_
        refine a_alenJ dX2_worth_16 (isYr_2 hD) ?_
        refine a_icmp_ge (tg := 198) dX2_worth_17 (by decide) (fun c_17 => ?_) (fun c_17 => ?_)
        · exact absurd c_17 (nI_ge (show T < 64 by omega) (by decide))
        · refine a_aload_n (i := 0) dX2_worth_20 rfl rfl ?_
          refine gX2_9 rfl dX2_worth_21 (hn) ?_
          refine a_iload (i := 4) dX2_worth_24 rfl ?_
          refine a_ialdN dX2_worth_26 (by exact h1) (by first | with_reducible exact rfl | with_reducible exact ix8 _ _ | with_reducible exact ix12 _ _ | exact rfl) (by omega) (by decide) ?_
          rw [rr, hK]
          refine a_istore (i := 5) dX2_worth_27 (by decide) ?_
          refine a_iload (i := 5) dX2_worth_29 rfl ?_
          refine a_bipush (v := 23) dX2_worth_31 (by decide) ?_
          refine a_icmp_ne (tg := 53) dX2_worth_33 (by decide) (fun c_33 => ?_) (fun c_33 => ?_)
          · refine a_iload (i := 5) dX2_worth_53 rfl ?_
            refine a_bipush (v := 15) dX2_worth_55 (by decide) ?_
            refine a_icmp_lt (tg := 84) dX2_worth_57 (by decide) (fun c_57 => ?_) (fun c_57 => ?_)
            · first | exact a_loc _ rfl (B c_33 (Or.inl c_57)) | exact a_loc _ rfl (B c_33 (Or.inr c_64))
            · refine a_iload (i := 5) dX2_worth_60 rfl ?_
              refine a_bipush (v := 21) dX2_worth_62 (by decide) ?_
              refine a_icmp_gt (tg := 84) dX2_worth_64 (by decide) (fun c_64 => ?_) (fun c_64 => ?_)
              · first | exact a_loc _ rfl (B c_33 (Or.inl c_57)) | exact a_loc _ rfl (B c_33 (Or.inr c_64))
              · obtain ⟨j, hj, ej⟩ := k15 c_57 c_64
                have e : wStep K V (x.1 (bYr + 1)) (T, row) = some (T + 1, vp_updL row T (x.1 (bYr + 1) j).toInt64) := by simp [wStep, c_33, Int32.not_lt.mp c_57, Int32.not_lt.mp c_64, ej, nI_clamp (show j < 2 ^ 31 by omega)]
                refine a_aload_n (i := 2) dX2_worth_67 rfl rfl ?_
                refine a_iload_n (i := 3) dX2_worth_68 rfl rfl ?_
                refine a_aload_n (i := 1) dX2_worth_69 rfl rfl ?_
                refine a_iload (i := 5) dX2_worth_70 rfl ?_
                refine a_bipush (v := 15) dX2_worth_72 (by decide) ?_
                refine a_isub dX2_worth_74 ?_
                refine a_ialdN dX2_worth_75 (isYr_1 hD) (by first | exact ej | with_reducible exact rfl | with_reducible exact ix8 _ _ | with_reducible exact ix12 _ _ | exact rfl) (by omega) (by decide) ?_
                rw [rr]
                refine a_i2l dX2_worth_76 ?_
                refine a_lastN dX2_worth_77 (isYr_2 hD) (by first | with_reducible exact rfl | with_reducible exact ix8 _ _ | with_reducible exact ix12 _ _ | exact rfl) (by omega) (by decide) ?_
                rw [aRw_wl]
                refine a_iincK (i := 3) (u := 1) dX2_worth_78 rfl (by decide) (by decide) ?_
                refine a_goto (tg := 192) dX2_worth_81 (by decide) ?_
                rw [nI_1]; exact a_loc _ rfl (J _ _ (by omega) e)
          · have e : wStep K V (x.1 (bYr + 1)) (T, row) = some (T + 1, vp_updL row T V.toInt64) := by simp [wStep, c_33]
            refine a_aload_n (i := 2) dX2_worth_36 rfl rfl ?_
            refine a_iload_n (i := 3) dX2_worth_37 rfl rfl ?_
            refine a_aload_n (i := 0) dX2_worth_38 rfl rfl ?_
            refine gX2_15 rfl dX2_worth_39 (hn) ?_
            refine a_iload (i := 4) dX2_worth_42 rfl ?_
            refine a_ialdN dX2_worth_44 (by exact h2) (by first | with_reducible exact rfl | with_reducible exact ix8 _ _ | with_reducible exact ix12 _ _ | exact rfl) (by omega) (by decide) ?_
            rw [rr, hV]
            refine a_i2l dX2_worth_45 ?_
            refine a_lastN dX2_worth_46 (isYr_2 hD) (by first | with_reducible exact rfl | with_reducible exact ix8 _ _ | with_reducible exact ix12 _ _ | exact rfl) (by omega) (by decide) ?_
            rw [aRw_wl]
            refine a_iincK (i := 3) (u := 1) dX2_worth_47 rfl (by decide) (by decide) ?_
            refine a_goto (tg := 192) dX2_worth_50 (by decide) ?_
            rw [nI_1]; exact a_loc _ rfl (J _ _ (by omega) e)
  refine a_met (by decide) (Nat.le_of_ble_eq_true rfl) (fun v y q => Or.inr (Or.inr (Or.inl ⟨rfl, _, q.1⟩))) ?_
  refine a_iconst (v := 0) dX2_worth_0 (by decide) ?_
  refine a_istore_n (i := 3) dX2_worth_1 rfl (by decide) ?_
  refine a_iconst (v := 0) dX2_worth_2 (by decide) ?_
  refine a_istore (i := 4) dX2_worth_3 (by decide) ?_
  have := L s 0 (Nat.zero_add s) 0 (x.2 (bYr + 2)) (Nat.le_refl 0)
  rw [aRw_self] at this
  exact a_loc _ rfl this
