/-! match: the model -/
theorem il256 (h z : Nat) : 256 * nI h + nI z = nI (256 * h + z) := by rw [show (256 : Int32) = nI 256 from rfl, pk_mul, nI_add]
theorem mT_s {ff : Nat → Nat → Nat} {H F e g : Nat} : mT ff H F (e + 1) g = lp (fun m p => if g.testBit m = true then p else mStep (ff (H - (e + 1)) m) (mT ff H F e (g ||| 2 ^ m)) p) 0 F (mT ff H F e g) := by rw [mT]
section qX
variable {l : Launch} {d : Nat} {D : Nat → Bool} {T : zT} {W : Nat → zL} {Z : zS} {t : Nat} {x : aS} {ff : Nat → Nat → Nat} {H F M : Nat}
set_option maxHeartbeats 4000000 in
set_option maxRecDepth 100000 in
theorem c_X12_matchAt {h g : Nat} : aDI l mX12_matchAt d D [.ref bM, .int (nI h), .int (nI g)] x (nI (256 * h + g)) x := by
  refine a_metI (by decide) (Nat.le_of_ble_eq_true rfl) rfl ?_
  refine a_sipush (v := 256) dX12_matchAt_0 (by decide) ?_
  refine a_iload_n (i := 1) dX12_matchAt_3 rfl rfl ?_
  refine a_imul dX12_matchAt_4 ?_
  refine a_iload_n (i := 2) dX12_matchAt_5 rfl rfl ?_
  refine a_iadd dX12_matchAt_6 ?_
  exact a_iret dX12_matchAt_7 (by rw [il256]; exact ⟨rfl, rfl⟩)
def fR (T : zT) (ff : Nat → Nat → Nat) (y : aS) : Prop := ∀ h, h < T.1 0 → ∀ m, m < T.1 1 → y.1 (bM + 78) (8 * h + m) = nI (ff h m)
def tR (T : zT) (ff : Nat → Nat → Nat) (k : Nat) (y : aS) : Prop := ∀ j, k ≤ j → j ≤ T.1 0 → ∀ g, g < 256 → y.1 (bM + 76) (256 * j + g) = nI (mT ff (T.1 0) (T.1 1) (T.1 0 - j) g).1 ∧ y.1 (bM + 77) (256 * j + g) = nI (mT ff (T.1 0) (T.1 1) (T.1 0 - j) g).2
/-- frame: rows of the match alone -/
def mMt (x y : aS) : Prop := (∀ n, n ≠ bM + 76 → n ≠ bM + 77 → n ≠ bM + 78 → y.1 n = x.1 n) ∧ y.2 = x.2
theorem mMt_w {y : aS} {n j : Nat} {v : Int32} (h : mMt x y) (hn : n = bM + 76 ∨ n = bM + 77 ∨ n = bM + 78) : mMt x (aWr y n j v) := ⟨fun m a b c => by rw [aWr_n _ _ _ (by omega), h.1 m a b c], h.2⟩
theorem mMt_R {y : aS} (hF : mMt x y) (h : mR T W Z x) : mR T W Z y := mR_F ⟨fun n j g => by rw [hF.1 n (fun e => g (Or.inr (Or.inr (Or.inl e)))) (fun e => g (Or.inr (Or.inr (Or.inr (Or.inl e))))) (fun e => g (Or.inr (Or.inr (Or.inr (Or.inr (Or.inl e))))))], fun n _ _ => by rw [hF.2]⟩ h
set_option maxHeartbeats 4000000 in
set_option maxRecDepth 100000 in
theorem c_X12_layMatch (hM : D 12 = true) (hR : mR T W Z x) (hm : mOk T Z ff) : aCt l mX12_layMatch (d + 3) D [.ref bM] x (fun v y => v = none ∧ fR T ff y ∧ tR T ff 0 y ∧ mMt x y) := by
  have ok := hR.1
  have hZ := hR.2.1
  have h6 := ok.1
  have h8 := ok.2.1
  have hf : ∀ h, h < T.1 0 → ∀ m, m < T.1 1 → ff h m ≤ 160000000 := fun h hh m hm2 => (hm h hh m hm2).2
  have hb := mT_b (F := T.1 1) hf
  have gT : ∀ y, mMt x y → y.1 bM 12 = nI (T.1 0) ∧ y.1 bM 13 = nI (T.1 1) := fun y hy => ⟨(mMt_R hy hR).2.2.1.1, (mMt_R hy hR).2.2.1.2.1⟩
  refine a_met (by decide) (Nat.le_of_ble_eq_true rfl) (fun v y q => Or.inr (Or.inr (Or.inr ⟨rfl, q.1⟩))) ?_
  have B : ∀ (k : Nat), k ≤ T.1 0 → ∀ y : aS, fR T ff y → tR T ff k y → mMt x y → aV l mX12_layMatch (d + 3) D none 103 [(0, .ref bM), (1, .int (nI k - 1))] [] y (fun v y => v = none ∧ fR T ff y ∧ tR T ff 0 y ∧ mMt x y) := by
    intro k
    induction k with
    | zero =>
      intro _ y h1 h3 h4
      refine a_iload_n (i := 1) dX12_layMatch_103 rfl rfl ?_
      refine a_if_lt (tg := 313) dX12_layMatch_104 (by decide) (fun c_104 => ?_) (fun c_104 => ?_)
      · exact a_vret dX12_layMatch_313 (by exact ⟨rfl, h1, h3, h4⟩)
      · exact absurd (by decide) c_104
    | succ k ih =>
      intro hk y h1 h3 h4
      rw [nI_pred]
      obtain ⟨e, he⟩ : ∃ e, T.1 0 - k = e + 1 := ⟨T.1 0 - k - 1, by omega⟩
      have he2 : T.1 0 - (k + 1) = e := by omega
      have hek : T.1 0 - (e + 1) = k := by omega
      have G : ∀ (f g : Nat), g + f = 256 → ∀ z : aS, fR T ff z → tR T ff (k + 1) z → (∀ q, q < g → z.1 (bM + 76) (256 * k + q) = nI (mT ff (T.1 0) (T.1 1) (e + 1) q).1 ∧ z.1 (bM + 77) (256 * k + q) = nI (mT ff (T.1 0) (T.1 1) (e + 1) q).2) → mMt x z → aV l mX12_layMatch (d + 3) D none 109 [(0, .ref bM), (1, .int (nI k)), (2, .int (nI g))] [] z (fun v y => v = none ∧ fR T ff y ∧ tR T ff 0 y ∧ mMt x y) := by
        intro f
        induction f with
        | zero =>
          intro g hg z g1 g3 gq g4
          rw [Nat.add_zero] at hg
          subst hg
          have ih2 := ih (by omega) z g1 (fun j hj hj2 q hq => by
            by_cases ej : j = k
            · subst ej; rw [he]; exact gq q hq
            · exact g3 j (by omega) hj2 q hq) g4
          rw [show nI k - 1 = nI k + (-1) from Int32.sub_eq_add_neg _ _] at ih2
          refine a_iload_n (i := 2) dX12_layMatch_109 rfl rfl ?_
          refine a_sipush (v := 256) dX12_layMatch_110 (by decide) ?_
          refine a_icmp_ge (tg := 307) dX12_layMatch_113 (by decide) (fun c_113 => ?_) (fun c_113 => ?_)
          · refine a_iincK (i := 1) (u := (-1)) dX12_layMatch_307 rfl (by decide) (by decide) ?_
            refine a_goto (tg := 103) dX12_layMatch_310 (by decide) ?_
            exact a_loc _ rfl ih2
          · exact absurd (Int32.le_refl _) c_113
        | succ f ihg =>
          intro g hg z g1 g3 gq g4
          have C : ∀ (p m : Nat), m + p = T.1 1 → ∀ (P : Nat × Nat), P.1 ≤ e + 1 → P.2 ≤ (e + 1) * 160000000 → lp (fun m p => if g.testBit m = true then p else mStep (ff (T.1 0 - (e + 1)) m) (mT ff (T.1 0) (T.1 1) e (g ||| 2 ^ m)) p) m p P = mT ff (T.1 0) (T.1 1) (e + 1) g → ∀ w : aS, fR T ff w → tR T ff (k + 1) w → (∀ q, q < g → w.1 (bM + 76) (256 * k + q) = nI (mT ff (T.1 0) (T.1 1) (e + 1) q).1 ∧ w.1 (bM + 77) (256 * k + q) = nI (mT ff (T.1 0) (T.1 1) (e + 1) q).2) → w.1 (bM + 76) (256 * k + g) = nI P.1 → w.1 (bM + 77) (256 * k + g) = nI P.2 → mMt x w → aV l mX12_layMatch (d + 3) D none 164 [(0, .ref bM), (1, .int (nI k)), (2, .int (nI g)), (3, .int (nI (256 * k + g))), (4, .int (nI m))] [] w (fun v y => v = none ∧ fR T ff y ∧ tR T ff 0 y ∧ mMt x y) := by
            intro p
            induction p with
            | zero =>
              intro m hmp P P1 P2 hP w w1 w3 wq wa wb w4
              rw [Nat.add_zero] at hmp
              have e1 := (gT w w4).2
              subst hmp
              have hP2 : P = mT ff (T.1 0) (T.1 1) (e + 1) g := hP
              have ih2 := ihg (g + 1) (by omega) w w1 w3 (fun q hq => by
                by_cases eq : q = g
                · subst eq; rw [← hP2]; exact ⟨wa, wb⟩
                · exact wq q (by omega)) w4
              refine a_iload (i := 4) dX12_layMatch_164 rfl ?_
              refine a_aload_n (i := 0) dX12_layMatch_166 rfl rfl ?_
              refine gX12_261 rfl dX12_layMatch_167 (isM_0 hM) ?_
              rw [e1]
              refine a_icmp_ge (tg := 301) dX12_layMatch_170 (by decide) (fun c_170 => ?_) (fun c_170 => ?_)
              · refine a_iincK (i := 2) (u := 1) dX12_layMatch_301 rfl (by decide) (by decide) ?_
                refine a_goto (tg := 109) dX12_layMatch_304 (by decide) ?_
                rw [nI_1]; exact a_loc _ rfl ih2
              · exact absurd (Int32.le_refl _) c_170
            | succ p ihp =>
              intro m hmp P P1 P2 hP w w1 w3 wq wa wb w4
              have e1 := (gT w w4).2
              have mF : m < T.1 1 := by omega
              have jt : (if jbit (nI g) m = true then (1 : Int32) else 0) = bI (g.testBit m) := by rw [jbit_t (by omega) (by omega)]; rfl
              have hP' : lp (fun m p => if g.testBit m = true then p else mStep (ff (T.1 0 - (e + 1)) m) (mT ff (T.1 0) (T.1 1) e (g ||| 2 ^ m)) p) (m + 1) p (if g.testBit m = true then P else mStep (ff (T.1 0 - (e + 1)) m) (mT ff (T.1 0) (T.1 1) e (g ||| 2 ^ m)) P) = mT ff (T.1 0) (T.1 1) (e + 1) g := hP
              rcases tb_cases g m with hbm | hbm
              · rw [if_pos hbm] at hP'
                refine a_iload (i := 4) dX12_layMatch_164 rfl ?_
                refine a_aload_n (i := 0) dX12_layMatch_166 rfl rfl ?_
                refine gX12_261 rfl dX12_layMatch_167 (isM_0 hM) ?_
                rw [e1]
                refine a_icmp_ge (tg := 301) dX12_layMatch_170 (by decide) (fun c_170 => ?_) (fun c_170 => ?_)
                · exact absurd c_170 (nI_ge mF (by omega))
                · refine a_iload_n (i := 2) dX12_layMatch_173 rfl rfl ?_
                  refine a_iload (i := 4) dX12_layMatch_174 rfl ?_
                  refine kX12_426 rfl dX12_layMatch_176 (Nat.le_of_ble_eq_true rfl) (c_X12_isOf) ?_
                  rw [jt, hbm]
                  refine a_if_eq (tg := 185) dX12_layMatch_179 (by decide) (fun c_179 => ?_) (fun c_179 => ?_)
                  · exact absurd c_179 (by decide)
                  · refine a_goto (tg := 295) dX12_layMatch_182 (by decide) ?_
                    refine a_iincK (i := 4) (u := 1) dX12_layMatch_295 rfl (by decide) (by decide) ?_
                    refine a_goto (tg := 164) dX12_layMatch_298 (by decide) ?_
                    rw [nI_1]; exact a_loc _ rfl (ihp (m + 1) (by omega) P P1 P2 hP' w w1 w3 wq wa wb w4)
              · rw [if_neg (by rw [hbm]; decide)] at hP'
                have es0 : mStep (ff (T.1 0 - (e + 1)) m) (mT ff (T.1 0) (T.1 1) e (g ||| 2 ^ m)) P = if (mT ff (T.1 0) (T.1 1) e (g ||| 2 ^ m)).1 + 1 < P.1 ∨ ((mT ff (T.1 0) (T.1 1) e (g ||| 2 ^ m)).1 + 1 = P.1 ∧ P.2 ≤ (mT ff (T.1 0) (T.1 1) e (g ||| 2 ^ m)).2 + ff k m) then P else ((mT ff (T.1 0) (T.1 1) e (g ||| 2 ^ m)).1 + 1, (mT ff (T.1 0) (T.1 1) e (g ||| 2 ^ m)).2 + ff k m) := by rw [hek]; rfl
                rw [es0] at hP'
                obtain ⟨u1, u2⟩ := pc_up g (by omega) m (by omega) hbm
                obtain ⟨r1, r2⟩ := w3 (k + 1) (Nat.le_refl _) (by omega) (g ||| 2 ^ m) u2
                rw [he2] at r1 r2
                obtain ⟨b1, b2⟩ := hb e (by omega) (g ||| 2 ^ m)
                have f1 := hf k (by omega) m mF
                have rf := w1 k (by omega) m mF
                have go := g_or g (by omega) m (by omega)
                generalize hq : mT ff (T.1 0) (T.1 1) e (g ||| 2 ^ m) = q at *
                generalize hG : g ||| 2 ^ m = G at *
                have e5 : e ≤ 5 := by omega
                have es : nI q.2 + nI (ff k m) = nI (q.2 + ff k m) := nI_add _ _
                by_cases s1 : q.1 + 1 < P.1 ∨ (q.1 + 1 = P.1 ∧ P.2 ≤ q.2 + ff k m)
                · rw [if_pos s1] at hP'
                  have ih2 := ihp (m + 1) (by omega) P P1 P2 hP' w w1 w3 wq wa wb w4
                  refine a_iload (i := 4) dX12_layMatch_164 rfl ?_
                  refine a_aload_n (i := 0) dX12_layMatch_166 rfl rfl ?_
                  refine gX12_261 rfl dX12_layMatch_167 (isM_0 hM) ?_
                  rw [e1]
                  refine a_icmp_ge (tg := 301) dX12_layMatch_170 (by decide) (fun c_170 => ?_) (fun c_170 => ?_)
                  · exact absurd c_170 (nI_ge mF (by omega))
                  · refine a_iload_n (i := 2) dX12_layMatch_173 rfl rfl ?_
                    refine a_iload (i := 4) dX12_layMatch_174 rfl ?_
                    refine kX12_426 rfl dX12_layMatch_176 (Nat.le_of_ble_eq_true rfl) (c_X12_isOf) ?_
                    rw [jt, hbm]
                    refine a_if_eq (tg := 185) dX12_layMatch_179 (by decide) (fun c_179 => ?_) (fun c_179 => ?_)
                    · refine a_aload_n (i := 0) dX12_layMatch_185 rfl rfl ?_
                      refine a_iload_n (i := 1) dX12_layMatch_186 rfl rfl ?_
                      refine a_iconst (v := 1) dX12_layMatch_187 (by decide) ?_
                      refine a_iadd dX12_layMatch_188 ?_
                      rw [nI_1]
                      refine a_iload_n (i := 2) dX12_layMatch_189 rfl rfl ?_
                      refine a_iconst (v := 1) dX12_layMatch_190 (by decide) ?_
                      refine a_iload (i := 4) dX12_layMatch_191 rfl ?_
                      refine a_ishl dX12_layMatch_193 ?_
                      refine a_ior dX12_layMatch_194 ?_
                      rw [go]
                      refine kX12_534 rfl dX12_layMatch_195 (Nat.le_of_ble_eq_true rfl) (isM_0 hM) (c_X12_matchAt) ?_
                      refine a_istore (i := 5) dX12_layMatch_198 (by decide) ?_
                      refine a_aload_n (i := 0) dX12_layMatch_200 rfl rfl ?_
                      refine gX12_139 rfl dX12_layMatch_201 (isM_0 hM) ?_
                      refine a_iload (i := 5) dX12_layMatch_204 rfl ?_
                      refine a_ialdN dX12_layMatch_206 (isM_77 hM) (by first | with_reducible exact rfl | with_reducible exact ix8 _ _ | with_reducible exact ix12 _ _ | exact rfl) (by omega) (by decide) ?_
                      rw [r2]
                      refine a_aload_n (i := 0) dX12_layMatch_207 rfl rfl ?_
                      refine gX12_142 rfl dX12_layMatch_208 (isM_0 hM) ?_
                      refine a_bipush (v := 8) dX12_layMatch_211 (by decide) ?_
                      refine a_iload_n (i := 1) dX12_layMatch_213 rfl rfl ?_
                      refine a_imul dX12_layMatch_214 ?_
                      refine a_iload (i := 4) dX12_layMatch_215 rfl ?_
                      refine a_iadd dX12_layMatch_217 ?_
                      refine a_ialdN dX12_layMatch_218 (isM_78 hM) (by first | exact il8 _ _ | with_reducible exact rfl | with_reducible exact ix8 _ _ | with_reducible exact ix12 _ _ | exact rfl) (by omega) (by decide) ?_
                      rw [rf]
                      refine a_iadd dX12_layMatch_219 ?_
                      rw [es]
                      refine a_istore (i := 6) dX12_layMatch_220 (by decide) ?_
                      refine a_aload_n (i := 0) dX12_layMatch_222 rfl rfl ?_
                      refine gX12_136 rfl dX12_layMatch_223 (isM_0 hM) ?_
                      refine a_iload (i := 5) dX12_layMatch_226 rfl ?_
                      refine a_ialdN dX12_layMatch_228 (isM_76 hM) (by first | with_reducible exact rfl | with_reducible exact ix8 _ _ | with_reducible exact ix12 _ _ | exact rfl) (by omega) (by decide) ?_
                      rw [r1]
                      refine a_iconst (v := 1) dX12_layMatch_229 (by decide) ?_
                      refine a_iadd dX12_layMatch_230 ?_
                      rw [nI_1]
                      refine a_aload_n (i := 0) dX12_layMatch_231 rfl rfl ?_
                      refine gX12_136 rfl dX12_layMatch_232 (isM_0 hM) ?_
                      refine a_iload_n (i := 3) dX12_layMatch_235 rfl rfl ?_
                      refine a_ialdN dX12_layMatch_236 (isM_76 hM) (by first | with_reducible exact rfl | with_reducible exact ix8 _ _ | with_reducible exact ix12 _ _ | exact rfl) (by omega) (by decide) ?_
                      rw [wa]
                      refine a_icmp_lt (tg := 295) dX12_layMatch_237 (by decide) (fun c_237 => ?_) (fun c_237 => ?_)
                      · refine a_iincK (i := 4) (u := 1) dX12_layMatch_295 rfl (by decide) (by decide) ?_
                        refine a_goto (tg := 164) dX12_layMatch_298 (by decide) ?_
                        rw [nI_1]; exact a_loc _ rfl ih2
                      · have n237 : ¬ q.1 + 1 < P.1 := fun z => c_237 (nI_lt z (by omega))
                        refine a_aload_n (i := 0) dX12_layMatch_240 rfl rfl ?_
                        refine gX12_136 rfl dX12_layMatch_241 (isM_0 hM) ?_
                        refine a_iload (i := 5) dX12_layMatch_244 rfl ?_
                        refine a_ialdN dX12_layMatch_246 (isM_76 hM) (by first | with_reducible exact rfl | with_reducible exact ix8 _ _ | with_reducible exact ix12 _ _ | exact rfl) (by omega) (by decide) ?_
                        rw [r1]
                        refine a_iconst (v := 1) dX12_layMatch_247 (by decide) ?_
                        refine a_iadd dX12_layMatch_248 ?_
                        rw [nI_1]
                        refine a_aload_n (i := 0) dX12_layMatch_249 rfl rfl ?_
                        refine gX12_136 rfl dX12_layMatch_250 (isM_0 hM) ?_
                        refine a_iload_n (i := 3) dX12_layMatch_253 rfl rfl ?_
                        refine a_ialdN dX12_layMatch_254 (isM_76 hM) (by first | with_reducible exact rfl | with_reducible exact ix8 _ _ | with_reducible exact ix12 _ _ | exact rfl) (by omega) (by decide) ?_
                        rw [wa]
                        refine a_icmp_ne (tg := 272) dX12_layMatch_255 (by decide) (fun c_255 => ?_) (fun c_255 => ?_)
                        · exact absurd ((nI_eq (by omega) (by omega)).mpr (show q.1 + 1 = P.1 by omega)) c_255
                        · refine a_iload (i := 6) dX12_layMatch_258 rfl ?_
                          refine a_aload_n (i := 0) dX12_layMatch_260 rfl rfl ?_
                          refine gX12_139 rfl dX12_layMatch_261 (isM_0 hM) ?_
                          refine a_iload_n (i := 3) dX12_layMatch_264 rfl rfl ?_
                          refine a_ialdN dX12_layMatch_265 (isM_77 hM) (by first | with_reducible exact rfl | with_reducible exact ix8 _ _ | with_reducible exact ix12 _ _ | exact rfl) (by omega) (by decide) ?_
                          rw [wb]
                          refine a_icmp_lt (tg := 272) dX12_layMatch_266 (by decide) (fun c_266 => ?_) (fun c_266 => ?_)
                          · exact absurd c_266 (nI_nlt (show P.2 ≤ q.2 + ff k m by omega) (by omega))
                          · refine a_goto (tg := 295) dX12_layMatch_269 (by decide) ?_
                            refine a_iincK (i := 4) (u := 1) dX12_layMatch_295 rfl (by decide) (by decide) ?_
                            refine a_goto (tg := 164) dX12_layMatch_298 (by decide) ?_
                            rw [nI_1]; exact a_loc _ rfl ih2
                    · exact absurd rfl c_179
                · rw [if_neg s1] at hP'
                  have ih2 := ihp (m + 1) (by omega) (q.1 + 1, q.2 + ff k m) (by simp only; omega) (by simp only; omega) hP' (aWr (aWr w (bM + 76) (256 * k + g) (nI (q.1 + 1))) (bM + 77) (256 * k + g) (nI (q.2 + ff k m))) (fun h hh m hm => by rw [aWr_n _ _ _ (by decide), aWr_n _ _ _ (by decide)]; exact w1 h hh m hm) (fun j hj hj2 c hc => by rw [aWr_n _ _ _ (by decide), aWr_j _ _ _ (by omega), aWr_j _ _ _ (by omega), aWr_n _ _ _ (by decide)]; exact w3 j hj hj2 c hc) (fun c hc => by rw [aWr_n _ _ _ (by decide), aWr_j _ _ _ (by omega), aWr_j _ _ _ (by omega), aWr_n _ _ _ (by decide)]; exact wq c hc) (by rw [aWr_n _ _ _ (by decide), aWr_s]) (by rw [aWr_s]) (mMt_w (mMt_w w4 (Or.inl rfl)) (Or.inr (Or.inl rfl)))
                  refine a_iload (i := 4) dX12_layMatch_164 rfl ?_
                  refine a_aload_n (i := 0) dX12_layMatch_166 rfl rfl ?_
                  refine gX12_261 rfl dX12_layMatch_167 (isM_0 hM) ?_
                  rw [e1]
                  refine a_icmp_ge (tg := 301) dX12_layMatch_170 (by decide) (fun c_170 => ?_) (fun c_170 => ?_)
                  · exact absurd c_170 (nI_ge mF (by omega))
                  · refine a_iload_n (i := 2) dX12_layMatch_173 rfl rfl ?_
                    refine a_iload (i := 4) dX12_layMatch_174 rfl ?_
                    refine kX12_426 rfl dX12_layMatch_176 (Nat.le_of_ble_eq_true rfl) (c_X12_isOf) ?_
                    rw [jt, hbm]
                    refine a_if_eq (tg := 185) dX12_layMatch_179 (by decide) (fun c_179 => ?_) (fun c_179 => ?_)
                    · refine a_aload_n (i := 0) dX12_layMatch_185 rfl rfl ?_
                      refine a_iload_n (i := 1) dX12_layMatch_186 rfl rfl ?_
                      refine a_iconst (v := 1) dX12_layMatch_187 (by decide) ?_
                      refine a_iadd dX12_layMatch_188 ?_
                      rw [nI_1]
                      refine a_iload_n (i := 2) dX12_layMatch_189 rfl rfl ?_
                      refine a_iconst (v := 1) dX12_layMatch_190 (by decide) ?_
                      refine a_iload (i := 4) dX12_layMatch_191 rfl ?_
                      refine a_ishl dX12_layMatch_193 ?_
                      refine a_ior dX12_layMatch_194 ?_
                      rw [go]
                      refine kX12_534 rfl dX12_layMatch_195 (Nat.le_of_ble_eq_true rfl) (isM_0 hM) (c_X12_matchAt) ?_
                      refine a_istore (i := 5) dX12_layMatch_198 (by decide) ?_
                      refine a_aload_n (i := 0) dX12_layMatch_200 rfl rfl ?_
                      refine gX12_139 rfl dX12_layMatch_201 (isM_0 hM) ?_
                      refine a_iload (i := 5) dX12_layMatch_204 rfl ?_
                      refine a_ialdN dX12_layMatch_206 (isM_77 hM) (by first | with_reducible exact rfl | with_reducible exact ix8 _ _ | with_reducible exact ix12 _ _ | exact rfl) (by omega) (by decide) ?_
                      rw [r2]
                      refine a_aload_n (i := 0) dX12_layMatch_207 rfl rfl ?_
                      refine gX12_142 rfl dX12_layMatch_208 (isM_0 hM) ?_
                      refine a_bipush (v := 8) dX12_layMatch_211 (by decide) ?_
                      refine a_iload_n (i := 1) dX12_layMatch_213 rfl rfl ?_
                      refine a_imul dX12_layMatch_214 ?_
                      refine a_iload (i := 4) dX12_layMatch_215 rfl ?_
                      refine a_iadd dX12_layMatch_217 ?_
                      refine a_ialdN dX12_layMatch_218 (isM_78 hM) (by first | exact il8 _ _ | with_reducible exact rfl | with_reducible exact ix8 _ _ | with_reducible exact ix12 _ _ | exact rfl) (by omega) (by decide) ?_
                      rw [rf]
                      refine a_iadd dX12_layMatch_219 ?_
                      rw [es]
                      refine a_istore (i := 6) dX12_layMatch_220 (by decide) ?_
                      refine a_aload_n (i := 0) dX12_layMatch_222 rfl rfl ?_
                      refine gX12_136 rfl dX12_layMatch_223 (isM_0 hM) ?_
                      refine a_iload (i := 5) dX12_layMatch_226 rfl ?_
                      refine a_ialdN dX12_layMatch_228 (isM_76 hM) (by first | with_reducible exact rfl | with_reducible exact ix8 _ _ | with_reducible exact ix12 _ _ | exact rfl) (by omega) (by decide) ?_
                      rw [r1]
                      refine a_iconst (v := 1) dX12_layMatch_229 (by decide) ?_
                      refine a_iadd dX12_layMatch_230 ?_
                      rw [nI_1]
                      refine a_aload_n (i := 0) dX12_layMatch_231 rfl rfl ?_
                      refine gX12_136 rfl dX12_layMatch_232 (isM_0 hM) ?_
                      refine a_iload_n (i := 3) dX12_layMatch_235 rfl rfl ?_
                      refine a_ialdN dX12_layMatch_236 (isM_76 hM) (by first | with_reducible exact rfl | with_reducible exact ix8 _ _ | with_reducible exact ix12 _ _ | exact rfl) (by omega) (by decide) ?_
                      rw [wa]
                      refine a_icmp_lt (tg := 295) dX12_layMatch_237 (by decide) (fun c_237 => ?_) (fun c_237 => ?_)
                      · exact absurd ((nI_ltI (by omega) (by omega)).mp c_237) (by omega)
                      · refine a_aload_n (i := 0) dX12_layMatch_240 rfl rfl ?_
                        refine gX12_136 rfl dX12_layMatch_241 (isM_0 hM) ?_
                        refine a_iload (i := 5) dX12_layMatch_244 rfl ?_
                        refine a_ialdN dX12_layMatch_246 (isM_76 hM) (by first | with_reducible exact rfl | with_reducible exact ix8 _ _ | with_reducible exact ix12 _ _ | exact rfl) (by omega) (by decide) ?_
                        rw [r1]
                        refine a_iconst (v := 1) dX12_layMatch_247 (by decide) ?_
                        refine a_iadd dX12_layMatch_248 ?_
                        rw [nI_1]
                        refine a_aload_n (i := 0) dX12_layMatch_249 rfl rfl ?_
                        refine gX12_136 rfl dX12_layMatch_250 (isM_0 hM) ?_
                        refine a_iload_n (i := 3) dX12_layMatch_253 rfl rfl ?_
                        refine a_ialdN dX12_layMatch_254 (isM_76 hM) (by first | with_reducible exact rfl | with_reducible exact ix8 _ _ | with_reducible exact ix12 _ _ | exact rfl) (by omega) (by decide) ?_
                        rw [wa]
                        refine a_icmp_ne (tg := 272) dX12_layMatch_255 (by decide) (fun c_255 => ?_) (fun c_255 => ?_)
                        · refine a_aload_n (i := 0) dX12_layMatch_272 rfl rfl ?_
                          refine gX12_136 rfl dX12_layMatch_273 (isM_0 hM) ?_
                          refine a_iload_n (i := 3) dX12_layMatch_276 rfl rfl ?_
                          refine a_aload_n (i := 0) dX12_layMatch_277 rfl rfl ?_
                          refine gX12_136 rfl dX12_layMatch_278 (isM_0 hM) ?_
                          refine a_iload (i := 5) dX12_layMatch_281 rfl ?_
                          refine a_ialdN dX12_layMatch_283 (isM_76 hM) (by first | with_reducible exact rfl | with_reducible exact ix8 _ _ | with_reducible exact ix12 _ _ | exact rfl) (by omega) (by decide) ?_
                          rw [r1]
                          refine a_iconst (v := 1) dX12_layMatch_284 (by decide) ?_
                          refine a_iadd dX12_layMatch_285 ?_
                          rw [nI_1]
                          refine a_iastN dX12_layMatch_286 (isM_76 hM) (by first | with_reducible exact rfl | with_reducible exact ix8 _ _ | with_reducible exact ix12 _ _ | exact rfl) (by omega) (by decide) ?_
                          refine a_aload_n (i := 0) dX12_layMatch_287 rfl rfl ?_
                          refine gX12_139 rfl dX12_layMatch_288 (isM_0 hM) ?_
                          refine a_iload_n (i := 3) dX12_layMatch_291 rfl rfl ?_
                          refine a_iload (i := 6) dX12_layMatch_292 rfl ?_
                          refine a_iastN dX12_layMatch_294 (isM_77 hM) (by first | with_reducible exact rfl | with_reducible exact ix8 _ _ | with_reducible exact ix12 _ _ | exact rfl) (by omega) (by decide) ?_
                          refine a_iincK (i := 4) (u := 1) dX12_layMatch_295 rfl (by decide) (by decide) ?_
                          refine a_goto (tg := 164) dX12_layMatch_298 (by decide) ?_
                          rw [nI_1]; exact a_loc _ rfl ih2
                        · refine a_iload (i := 6) dX12_layMatch_258 rfl ?_
                          refine a_aload_n (i := 0) dX12_layMatch_260 rfl rfl ?_
                          refine gX12_139 rfl dX12_layMatch_261 (isM_0 hM) ?_
                          refine a_iload_n (i := 3) dX12_layMatch_264 rfl rfl ?_
                          refine a_ialdN dX12_layMatch_265 (isM_77 hM) (by first | with_reducible exact rfl | with_reducible exact ix8 _ _ | with_reducible exact ix12 _ _ | exact rfl) (by omega) (by decide) ?_
                          rw [wb]
                          refine a_icmp_lt (tg := 272) dX12_layMatch_266 (by decide) (fun c_266 => ?_) (fun c_266 => ?_)
                          · refine a_aload_n (i := 0) dX12_layMatch_272 rfl rfl ?_
                            refine gX12_136 rfl dX12_layMatch_273 (isM_0 hM) ?_
                            refine a_iload_n (i := 3) dX12_layMatch_276 rfl rfl ?_
                            refine a_aload_n (i := 0) dX12_layMatch_277 rfl rfl ?_
                            refine gX12_136 rfl dX12_layMatch_278 (isM_0 hM) ?_
                            refine a_iload (i := 5) dX12_layMatch_281 rfl ?_
                            refine a_ialdN dX12_layMatch_283 (isM_76 hM) (by first | with_reducible exact rfl | with_reducible exact ix8 _ _ | with_reducible exact ix12 _ _ | exact rfl) (by omega) (by decide) ?_
                            rw [r1]
                            refine a_iconst (v := 1) dX12_layMatch_284 (by decide) ?_
                            refine a_iadd dX12_layMatch_285 ?_
                            rw [nI_1]
                            refine a_iastN dX12_layMatch_286 (isM_76 hM) (by first | with_reducible exact rfl | with_reducible exact ix8 _ _ | with_reducible exact ix12 _ _ | exact rfl) (by omega) (by decide) ?_
                            refine a_aload_n (i := 0) dX12_layMatch_287 rfl rfl ?_
                            refine gX12_139 rfl dX12_layMatch_288 (isM_0 hM) ?_
                            refine a_iload_n (i := 3) dX12_layMatch_291 rfl rfl ?_
                            refine a_iload (i := 6) dX12_layMatch_292 rfl ?_
                            refine a_iastN dX12_layMatch_294 (isM_77 hM) (by first | with_reducible exact rfl | with_reducible exact ix8 _ _ | with_reducible exact ix12 _ _ | exact rfl) (by omega) (by decide) ?_
                            refine a_iincK (i := 4) (u := 1) dX12_layMatch_295 rfl (by decide) (by decide) ?_
                            refine a_goto (tg := 164) dX12_layMatch_298 (by decide) ?_
                            rw [nI_1]; exact a_loc _ rfl ih2
                          · exact absurd (nI_lt (show q.2 + ff k m < P.2 by have := (nI_eq (a := q.1 + 1) (b := P.1) (by omega) (by omega)).mp c_255; omega) (by omega)) c_266
                    · exact absurd rfl c_179
          obtain ⟨r1, r2⟩ := g3 (k + 1) (Nat.le_refl _) (by omega) g (by omega)
          rw [he2] at r1 r2
          obtain ⟨b1, b2⟩ := hb e (by omega) g
          have C0 := C (T.1 1) 0 (Nat.zero_add _) (mT ff (T.1 0) (T.1 1) e g) (Nat.le_succ_of_le b1) (Nat.le_trans b2 (Nat.mul_le_mul_right _ (Nat.le_succ e))) mT_s.symm (aWr (aWr z (bM + 76) (256 * k + g) (nI (mT ff (T.1 0) (T.1 1) e g).1)) (bM + 77) (256 * k + g) (nI (mT ff (T.1 0) (T.1 1) e g).2)) (fun h hh m hm => by rw [aWr_n _ _ _ (by decide), aWr_n _ _ _ (by decide)]; exact g1 h hh m hm) (fun j hj hj2 c hc => by rw [aWr_n _ _ _ (by decide), aWr_j _ _ _ (by omega), aWr_j _ _ _ (by omega), aWr_n _ _ _ (by decide)]; exact g3 j hj hj2 c hc) (fun c hc => by rw [aWr_n _ _ _ (by decide), aWr_j _ _ _ (by omega), aWr_j _ _ _ (by omega), aWr_n _ _ _ (by decide)]; exact gq c hc) (by rw [aWr_n _ _ _ (by decide), aWr_s]) (by rw [aWr_s]) (mMt_w (mMt_w g4 (Or.inl rfl)) (Or.inr (Or.inl rfl)))
          have r2' : (aWr z (bM + 76) (256 * k + g) (nI (mT ff (T.1 0) (T.1 1) e g).1)).1 (bM + 77) (256 * (k + 1) + g) = nI (mT ff (T.1 0) (T.1 1) e g).2 := by rw [aWr_n _ _ _ (by decide)]; exact r2
          generalize mT ff (T.1 0) (T.1 1) e g = q at *
          refine a_iload_n (i := 2) dX12_layMatch_109 rfl rfl ?_
          refine a_sipush (v := 256) dX12_layMatch_110 (by decide) ?_
          refine a_icmp_ge (tg := 307) dX12_layMatch_113 (by decide) (fun c_113 => ?_) (fun c_113 => ?_)
          · exact absurd c_113 (nI_ge (show g < 256 by omega) (by decide))
          · refine a_aload_n (i := 0) dX12_layMatch_116 rfl rfl ?_
            refine a_iload_n (i := 1) dX12_layMatch_117 rfl rfl ?_
            refine a_iload_n (i := 2) dX12_layMatch_118 rfl rfl ?_
            refine kX12_534 rfl dX12_layMatch_119 (Nat.le_of_ble_eq_true rfl) (isM_0 hM) (c_X12_matchAt) ?_
            refine a_istore_n (i := 3) dX12_layMatch_122 rfl (by decide) ?_
            refine a_aload_n (i := 0) dX12_layMatch_123 rfl rfl ?_
            refine gX12_136 rfl dX12_layMatch_124 (isM_0 hM) ?_
            refine a_iload_n (i := 3) dX12_layMatch_127 rfl rfl ?_
            refine a_aload_n (i := 0) dX12_layMatch_128 rfl rfl ?_
            refine gX12_136 rfl dX12_layMatch_129 (isM_0 hM) ?_
            refine a_aload_n (i := 0) dX12_layMatch_132 rfl rfl ?_
            refine a_iload_n (i := 1) dX12_layMatch_133 rfl rfl ?_
            refine a_iconst (v := 1) dX12_layMatch_134 (by decide) ?_
            refine a_iadd dX12_layMatch_135 ?_
            rw [nI_1]
            refine a_iload_n (i := 2) dX12_layMatch_136 rfl rfl ?_
            refine kX12_534 rfl dX12_layMatch_137 (Nat.le_of_ble_eq_true rfl) (isM_0 hM) (c_X12_matchAt) ?_
            refine a_ialdN dX12_layMatch_140 (isM_76 hM) (by first | with_reducible exact rfl | with_reducible exact ix8 _ _ | with_reducible exact ix12 _ _ | exact rfl) (by omega) (by decide) ?_
            rw [r1]
            refine a_iastN dX12_layMatch_141 (isM_76 hM) (by first | with_reducible exact rfl | with_reducible exact ix8 _ _ | with_reducible exact ix12 _ _ | exact rfl) (by omega) (by decide) ?_
            refine a_aload_n (i := 0) dX12_layMatch_142 rfl rfl ?_
            refine gX12_139 rfl dX12_layMatch_143 (isM_0 hM) ?_
            refine a_iload_n (i := 3) dX12_layMatch_146 rfl rfl ?_
            refine a_aload_n (i := 0) dX12_layMatch_147 rfl rfl ?_
            refine gX12_139 rfl dX12_layMatch_148 (isM_0 hM) ?_
            refine a_aload_n (i := 0) dX12_layMatch_151 rfl rfl ?_
            refine a_iload_n (i := 1) dX12_layMatch_152 rfl rfl ?_
            refine a_iconst (v := 1) dX12_layMatch_153 (by decide) ?_
            refine a_iadd dX12_layMatch_154 ?_
            rw [nI_1]
            refine a_iload_n (i := 2) dX12_layMatch_155 rfl rfl ?_
            refine kX12_534 rfl dX12_layMatch_156 (Nat.le_of_ble_eq_true rfl) (isM_0 hM) (c_X12_matchAt) ?_
            refine a_ialdN dX12_layMatch_159 (isM_77 hM) (by first | with_reducible exact rfl | with_reducible exact ix8 _ _ | with_reducible exact ix12 _ _ | exact rfl) (by omega) (by decide) ?_
            rw [r2']
            refine a_iastN dX12_layMatch_160 (isM_77 hM) (by first | with_reducible exact rfl | with_reducible exact ix8 _ _ | with_reducible exact ix12 _ _ | exact rfl) (by omega) (by decide) ?_
            refine a_iconst (v := 0) dX12_layMatch_161 (by decide) ?_
            refine a_istore (i := 4) dX12_layMatch_162 (by decide) ?_
            exact a_loc _ rfl C0
      refine a_iload_n (i := 1) dX12_layMatch_103 rfl rfl ?_
      refine a_if_lt (tg := 313) dX12_layMatch_104 (by decide) (fun c_104 => ?_) (fun c_104 => ?_)
      · exact absurd c_104 (nI_pos (by omega))
      · refine a_iconst (v := 0) dX12_layMatch_107 (by decide) ?_
        refine a_istore_n (i := 2) dX12_layMatch_108 rfl (by decide) ?_
        exact a_loc _ rfl (G 256 0 rfl y h1 h3 (fun q hq => absurd hq (by omega)) h4)
  have A : ∀ (f g : Nat), g + f = 256 → ∀ y : aS, fR T ff y → (∀ q, q < g → y.1 (bM + 76) (256 * T.1 0 + q) = nI 0 ∧ y.1 (bM + 77) (256 * T.1 0 + q) = nI 0) → mMt x y → aV l mX12_layMatch (d + 3) D none 53 [(0, .ref bM), (1, .int (nI g))] [] y (fun v y => v = none ∧ fR T ff y ∧ tR T ff 0 y ∧ mMt x y) := by
    intro f
    induction f with
    | zero =>
      intro g hg y h1 h3 h4
      rw [Nat.add_zero] at hg
      subst hg
      have e0 := (gT y h4).1
      have B0 := B (T.1 0) (Nat.le_refl _) y h1 (fun j hj hj2 q hq => by
        have : j = T.1 0 := by omega
        subst this
        rw [Nat.sub_self]
        exact h3 q hq) h4
      refine a_iload_n (i := 1) dX12_layMatch_53 rfl rfl ?_
      refine a_sipush (v := 256) dX12_layMatch_54 (by decide) ?_
      refine a_icmp_ge (tg := 96) dX12_layMatch_57 (by decide) (fun c_57 => ?_) (fun c_57 => ?_)
      · refine a_aload_n (i := 0) dX12_layMatch_96 rfl rfl ?_
        refine gX12_258 rfl dX12_layMatch_97 (isM_0 hM) ?_
        rw [e0]
        refine a_iconst (v := 1) dX12_layMatch_100 (by decide) ?_
        refine a_isub dX12_layMatch_101 ?_
        refine a_istore_n (i := 1) dX12_layMatch_102 rfl (by decide) ?_
        exact a_loc _ rfl B0
      · exact absurd (Int32.le_refl _) c_57
    | succ f ih =>
      intro g hg y h1 h3 h4
      have e0 := (gT y h4).1
      have e0' : (aWr y (bM + 76) (256 * T.1 0 + g) 0).1 bM 12 = nI (T.1 0) := by rw [aWr_n _ _ _ (by decide)]; exact e0
      have ih2 := ih (g + 1) (by omega) (aWr (aWr y (bM + 76) (256 * T.1 0 + g) 0) (bM + 77) (256 * T.1 0 + g) 0) (fun h hh m hm => by rw [aWr_n _ _ _ (by decide), aWr_n _ _ _ (by decide)]; exact h1 h hh m hm) (fun q hq => by
        by_cases e : q = g
        · subst e; exact ⟨by rw [aWr_n _ _ _ (by decide), aWr_s]; rfl, by rw [aWr_s]; rfl⟩
        · rw [aWr_n _ _ _ (by decide), aWr_j _ _ _ (by omega), aWr_j _ _ _ (by omega), aWr_n _ _ _ (by decide)]; exact h3 q (by omega)) (mMt_w (mMt_w h4 (Or.inl rfl)) (Or.inr (Or.inl rfl)))
      refine a_iload_n (i := 1) dX12_layMatch_53 rfl rfl ?_
      refine a_sipush (v := 256) dX12_layMatch_54 (by decide) ?_
      refine a_icmp_ge (tg := 96) dX12_layMatch_57 (by decide) (fun c_57 => ?_) (fun c_57 => ?_)
      · exact absurd c_57 (nI_ge (show g < 256 by omega) (by decide))
      · refine a_aload_n (i := 0) dX12_layMatch_60 rfl rfl ?_
        refine gX12_136 rfl dX12_layMatch_61 (isM_0 hM) ?_
        refine a_aload_n (i := 0) dX12_layMatch_64 rfl rfl ?_
        refine a_aload_n (i := 0) dX12_layMatch_65 rfl rfl ?_
        refine gX12_258 rfl dX12_layMatch_66 (isM_0 hM) ?_
        rw [e0]
        refine a_iload_n (i := 1) dX12_layMatch_69 rfl rfl ?_
        refine kX12_534 rfl dX12_layMatch_70 (Nat.le_of_ble_eq_true rfl) (isM_0 hM) (c_X12_matchAt) ?_
        refine a_iconst (v := 0) dX12_layMatch_73 (by decide) ?_
        refine a_iastN dX12_layMatch_74 (isM_76 hM) (by first | with_reducible exact rfl | with_reducible exact ix8 _ _ | with_reducible exact ix12 _ _ | exact rfl) (by omega) (by decide) ?_
        refine a_aload_n (i := 0) dX12_layMatch_75 rfl rfl ?_
        refine gX12_139 rfl dX12_layMatch_76 (isM_0 hM) ?_
        refine a_aload_n (i := 0) dX12_layMatch_79 rfl rfl ?_
        refine a_aload_n (i := 0) dX12_layMatch_80 rfl rfl ?_
        refine gX12_258 rfl dX12_layMatch_81 (isM_0 hM) ?_
        rw [e0']
        refine a_iload_n (i := 1) dX12_layMatch_84 rfl rfl ?_
        refine kX12_534 rfl dX12_layMatch_85 (Nat.le_of_ble_eq_true rfl) (isM_0 hM) (c_X12_matchAt) ?_
        refine a_iconst (v := 0) dX12_layMatch_88 (by decide) ?_
        refine a_iastN dX12_layMatch_89 (isM_77 hM) (by first | with_reducible exact rfl | with_reducible exact ix8 _ _ | with_reducible exact ix12 _ _ | exact rfl) (by omega) (by decide) ?_
        refine a_iincK (i := 1) (u := 1) dX12_layMatch_90 rfl (by decide) (by decide) ?_
        refine a_goto (tg := 53) dX12_layMatch_93 (by decide) ?_
        rw [nI_1]; exact a_loc _ rfl ih2
  have P : ∀ (f h : Nat), h + f = T.1 0 → ∀ y : aS, (∀ i, i < h → ∀ m, m < T.1 1 → y.1 (bM + 78) (8 * i + m) = nI (ff i m)) → mMt x y → aV l mX12_layMatch (d + 3) D none 2 [(0, .ref bM), (1, .int (nI h))] [] y (fun v y => v = none ∧ fR T ff y ∧ tR T ff 0 y ∧ mMt x y) := by
    intro f
    induction f with
    | zero =>
      intro h hh y h1 h4
      rw [Nat.add_zero] at hh
      have e0 := (gT y h4).1
      subst hh
      refine a_iload_n (i := 1) dX12_layMatch_2 rfl rfl ?_
      refine a_aload_n (i := 0) dX12_layMatch_3 rfl rfl ?_
      refine gX12_258 rfl dX12_layMatch_4 (isM_0 hM) ?_
      rw [e0]
      refine a_icmp_ge (tg := 51) dX12_layMatch_7 (by decide) (fun c_7 => ?_) (fun c_7 => ?_)
      · refine a_iconst (v := 0) dX12_layMatch_51 (by decide) ?_
        refine a_istore_n (i := 1) dX12_layMatch_52 rfl (by decide) ?_
        exact a_loc _ rfl (A 256 0 rfl y h1 (fun q hq => absurd hq (by omega)) h4)
      · exact absurd (Int32.le_refl _) c_7
    | succ f ih =>
      intro h hh y h1 h4
      have e0 := (gT y h4).1
      have Q : ∀ (p m : Nat), m + p = T.1 1 → ∀ z : aS, (∀ i, i < h → ∀ m, m < T.1 1 → z.1 (bM + 78) (8 * i + m) = nI (ff i m)) → (∀ q, q < m → z.1 (bM + 78) (8 * h + q) = nI (ff h q)) → mMt x z → aV l mX12_layMatch (d + 3) D none 12 [(0, .ref bM), (1, .int (nI h)), (2, .int (nI m))] [] z (fun v y => v = none ∧ fR T ff y ∧ tR T ff 0 y ∧ mMt x y) := by
        intro p
        induction p with
        | zero =>
          intro m hmp z z1 z2 z3
          rw [Nat.add_zero] at hmp
          have e1 := (gT z z3).2
          subst hmp
          have ih2 := ih (h + 1) (by omega) z (fun i hi m hm => by
            by_cases e : i = h
            · subst e; exact z2 m hm
            · exact z1 i (by omega) m hm) z3
          refine a_iload_n (i := 2) dX12_layMatch_12 rfl rfl ?_
          refine a_aload_n (i := 0) dX12_layMatch_13 rfl rfl ?_
          refine gX12_261 rfl dX12_layMatch_14 (isM_0 hM) ?_
          rw [e1]
          refine a_icmp_ge (tg := 45) dX12_layMatch_17 (by decide) (fun c_17 => ?_) (fun c_17 => ?_)
          · refine a_iincK (i := 1) (u := 1) dX12_layMatch_45 rfl (by decide) (by decide) ?_
            refine a_goto (tg := 2) dX12_layMatch_48 (by decide) ?_
            rw [nI_1]; exact a_loc _ rfl ih2
          · exact absurd (Int32.le_refl _) c_17
        | succ p ihq =>
          intro m hmp z z1 z2 z3
          have e1 := (gT z z3).2
          obtain ⟨_, _, zT, _, zS⟩ := mMt_R z3 hR
          have hw := mz_farBut (l := l) (d := d) (i := 0) hM (by decide) ok hZ zT zS (show m < T.1 1 by omega) (show h < T.1 0 by omega)
          rw [(hm h (by omega) m (by omega)).1] at hw
          have ih2 := ihq (m + 1) (by omega) (aWr z (bM + 78) (8 * h + m) (nI (ff h m))) (fun i hi q hq => by rw [aWr_j _ _ _ (by omega)]; exact z1 i hi q hq) (fun q hq => by
            by_cases e : q = m
            · subst e; rw [aWr_s]
            · rw [aWr_j _ _ _ (by omega)]; exact z2 q (by omega)) (mMt_w z3 (Or.inr (Or.inr rfl)))
          refine a_iload_n (i := 2) dX12_layMatch_12 rfl rfl ?_
          refine a_aload_n (i := 0) dX12_layMatch_13 rfl rfl ?_
          refine gX12_261 rfl dX12_layMatch_14 (isM_0 hM) ?_
          rw [e1]
          refine a_icmp_ge (tg := 45) dX12_layMatch_17 (by decide) (fun c_17 => ?_) (fun c_17 => ?_)
          · exact absurd c_17 (nI_ge (show m < T.1 1 by omega) (by omega))
          · refine a_aload_n (i := 0) dX12_layMatch_20 rfl rfl ?_
            refine gX12_142 rfl dX12_layMatch_21 (isM_0 hM) ?_
            refine a_bipush (v := 8) dX12_layMatch_24 (by decide) ?_
            refine a_iload_n (i := 1) dX12_layMatch_26 rfl rfl ?_
            refine a_imul dX12_layMatch_27 ?_
            refine a_iload_n (i := 2) dX12_layMatch_28 rfl rfl ?_
            refine a_iadd dX12_layMatch_29 ?_
            refine a_aload_n (i := 0) dX12_layMatch_30 rfl rfl ?_
            refine a_iconst (v := 0) dX12_layMatch_31 (by decide) ?_
            refine a_iload_n (i := 2) dX12_layMatch_32 rfl rfl ?_
            refine a_iload_n (i := 1) dX12_layMatch_33 rfl rfl ?_
            refine a_iconst (v := 0) dX12_layMatch_34 (by decide) ?_
            refine kX12_502 rfl dX12_layMatch_35 (Nat.le_of_ble_eq_true rfl) (isM_0 hM) (hw) ?_
            refine a_iastN dX12_layMatch_38 (isM_78 hM) (by first | exact il8 _ _ | with_reducible exact rfl | with_reducible exact ix8 _ _ | with_reducible exact ix12 _ _ | exact rfl) (by omega) (by decide) ?_
            refine a_iincK (i := 2) (u := 1) dX12_layMatch_39 rfl (by decide) (by decide) ?_
            refine a_goto (tg := 12) dX12_layMatch_42 (by decide) ?_
            rw [nI_1]; exact a_loc _ rfl ih2
      refine a_iload_n (i := 1) dX12_layMatch_2 rfl rfl ?_
      refine a_aload_n (i := 0) dX12_layMatch_3 rfl rfl ?_
      refine gX12_258 rfl dX12_layMatch_4 (isM_0 hM) ?_
      rw [e0]
      refine a_icmp_ge (tg := 51) dX12_layMatch_7 (by decide) (fun c_7 => ?_) (fun c_7 => ?_)
      · exact absurd c_7 (nI_ge (show h < T.1 0 by omega) (by omega))
      · refine a_iconst (v := 0) dX12_layMatch_10 (by decide) ?_
        refine a_istore_n (i := 2) dX12_layMatch_11 rfl (by decide) ?_
        exact a_loc _ rfl (Q (T.1 1) 0 (Nat.zero_add _) y h1 (fun q hq => absurd hq (by omega)) h4)
  refine a_iconst (v := 0) dX12_layMatch_0 (by decide) ?_
  refine a_istore_n (i := 1) dX12_layMatch_1 rfl (by decide) ?_
  exact a_loc _ rfl (P (T.1 0) 0 (Nat.zero_add _) x (fun i hi => absurd hi (by omega)) ⟨fun _ _ _ _ => rfl, rfl⟩)
def oN (o : Option Nat) : Int32 := match o with
  | some m => nI m
  | none => -1
set_option maxHeartbeats 4000000 in
set_option maxRecDepth 100000 in
theorem c_X12_whoFor {h g e : Nat} (hM : D 12 = true) (ok : zTok T) (hT : rTM T x) (hf : ∀ h, h < T.1 0 → ∀ m, m < T.1 1 → ff h m ≤ 160000000) (hr : fR T ff x) (ht : tR T ff 0 x) (hh : h < T.1 0) (he : T.1 0 - (h + 1) = e) (hg : g < 256) : aDI l mX12_whoFor (d + 1) D [.ref bM, .int (nI h), .int (nI g)] x (oN (mWc ff (T.1 0) (T.1 1) e g 0 (T.1 1))) x := by
  have h6 := ok.1
  have h8 := ok.2.1
  have e1 : x.1 bM 13 = nI (T.1 1) := hT.2.1
  have hb := mT_b (F := T.1 1) hf
  have heh : T.1 0 - (e + 1) = h := by omega
  obtain ⟨s1, s2⟩ := ht h (by omega) (by omega) g hg
  rw [show T.1 0 - h = e + 1 by omega] at s1 s2
  obtain ⟨c1, c2⟩ := hb (e + 1) (by omega) g
  have e5 : e ≤ 5 := by omega
  refine a_metI (by decide) (Nat.le_of_ble_eq_true rfl) rfl ?_
  have L : ∀ (p m : Nat), m + p = T.1 1 → aV l mX12_whoFor (d + 1) D none 10 [(0, .ref bM), (1, .int (nI h)), (2, .int (nI g)), (3, .int (nI (256 * h + g))), (4, .int (nI m))] [] x (fun v y => v = some (.int (oN (mWc ff (T.1 0) (T.1 1) e g m p))) ∧ y = x) := by
    intro p
    induction p with
    | zero =>
      intro m hmp
      rw [Nat.add_zero] at hmp
      subst hmp
      refine a_iload (i := 4) dX12_whoFor_10 rfl ?_
      refine a_aload_n (i := 0) dX12_whoFor_12 rfl rfl ?_
      refine gX12_261 rfl dX12_whoFor_13 (isM_0 hM) ?_
      rw [e1]
      refine a_icmp_ge (tg := 102) dX12_whoFor_16 (by decide) (fun c_16 => ?_) (fun c_16 => ?_)
      · refine a_iconst (v := (-1)) dX12_whoFor_102 (by decide) ?_
        exact a_iret dX12_whoFor_103 (by exact ⟨rfl, rfl⟩)
      · exact absurd (Int32.le_refl _) c_16
    | succ p ih =>
      intro m hmp
      have mF : m < T.1 1 := by omega
      have jt : (if jbit (nI g) m = true then (1 : Int32) else 0) = bI (g.testBit m) := by rw [jbit_t (by omega) (by omega)]; rfl
      have ih2 := ih (m + 1) (by omega)
      rw [mWc]
      rcases tb_cases g m with hbm | hbm
      · rw [if_neg (fun q => by rw [hbm] at q; exact absurd q.1 (by decide))]
        refine a_iload (i := 4) dX12_whoFor_10 rfl ?_
        refine a_aload_n (i := 0) dX12_whoFor_12 rfl rfl ?_
        refine gX12_261 rfl dX12_whoFor_13 (isM_0 hM) ?_
        rw [e1]
        refine a_icmp_ge (tg := 102) dX12_whoFor_16 (by decide) (fun c_16 => ?_) (fun c_16 => ?_)
        · exact absurd c_16 (nI_ge mF (by omega))
        · refine a_iload_n (i := 2) dX12_whoFor_19 rfl rfl ?_
          refine a_iload (i := 4) dX12_whoFor_20 rfl ?_
          refine kX12_426 rfl dX12_whoFor_22 (Nat.le_of_ble_eq_true rfl) (c_X12_isOf) ?_
          rw [jt, hbm]
          refine a_if_eq (tg := 31) dX12_whoFor_25 (by decide) (fun c_25 => ?_) (fun c_25 => ?_)
          · exact absurd c_25 (by decide)
          · refine a_goto (tg := 96) dX12_whoFor_28 (by decide) ?_
            refine a_iincK (i := 4) (u := 1) dX12_whoFor_96 rfl (by decide) (by decide) ?_
            refine a_goto (tg := 10) dX12_whoFor_99 (by decide) ?_
            rw [nI_1]; exact a_loc _ rfl ih2
      · obtain ⟨u1, u2⟩ := pc_up g (by omega) m (by omega) hbm
        obtain ⟨r1, r2⟩ := ht (h + 1) (by omega) (by omega) (g ||| 2 ^ m) u2
        rw [he] at r1 r2
        obtain ⟨b1, b2⟩ := hb e (by omega) (g ||| 2 ^ m)
        have f1 := hf h hh m mF
        have rf := hr h hh m mF
        have go := g_or g (by omega) m (by omega)
        rw [heh]
        generalize mT ff (T.1 0) (T.1 1) e (g ||| 2 ^ m) = q at *
        generalize g ||| 2 ^ m = G at *
        generalize mT ff (T.1 0) (T.1 1) (e + 1) g = P at *
        have es : nI q.2 + nI (ff h m) = nI (q.2 + ff h m) := nI_add _ _
        by_cases q1 : q.1 + 1 = P.1
        · by_cases q2 : q.2 + ff h m = P.2
          · rw [if_pos ⟨hbm, q1, q2⟩]
            refine a_iload (i := 4) dX12_whoFor_10 rfl ?_
            refine a_aload_n (i := 0) dX12_whoFor_12 rfl rfl ?_
            refine gX12_261 rfl dX12_whoFor_13 (isM_0 hM) ?_
            rw [e1]
            refine a_icmp_ge (tg := 102) dX12_whoFor_16 (by decide) (fun c_16 => ?_) (fun c_16 => ?_)
            · exact absurd c_16 (nI_ge mF (by omega))
            · refine a_iload_n (i := 2) dX12_whoFor_19 rfl rfl ?_
              refine a_iload (i := 4) dX12_whoFor_20 rfl ?_
              refine kX12_426 rfl dX12_whoFor_22 (Nat.le_of_ble_eq_true rfl) (c_X12_isOf) ?_
              rw [jt, hbm]
              refine a_if_eq (tg := 31) dX12_whoFor_25 (by decide) (fun c_25 => ?_) (fun c_25 => ?_)
              · refine a_aload_n (i := 0) dX12_whoFor_31 rfl rfl ?_
                refine a_iload_n (i := 1) dX12_whoFor_32 rfl rfl ?_
                refine a_iconst (v := 1) dX12_whoFor_33 (by decide) ?_
                refine a_iadd dX12_whoFor_34 ?_
                rw [nI_1]
                refine a_iload_n (i := 2) dX12_whoFor_35 rfl rfl ?_
                refine a_iconst (v := 1) dX12_whoFor_36 (by decide) ?_
                refine a_iload (i := 4) dX12_whoFor_37 rfl ?_
                refine a_ishl dX12_whoFor_39 ?_
                refine a_ior dX12_whoFor_40 ?_
                rw [go]
                refine kX12_534 rfl dX12_whoFor_41 (Nat.le_of_ble_eq_true rfl) (isM_0 hM) (c_X12_matchAt) ?_
                refine a_istore (i := 5) dX12_whoFor_44 (by decide) ?_
                refine a_aload_n (i := 0) dX12_whoFor_46 rfl rfl ?_
                refine gX12_136 rfl dX12_whoFor_47 (isM_0 hM) ?_
                refine a_iload (i := 5) dX12_whoFor_50 rfl ?_
                refine a_ialdN dX12_whoFor_52 (isM_76 hM) (by first | with_reducible exact rfl | with_reducible exact ix8 _ _ | with_reducible exact ix12 _ _ | exact rfl) (by omega) (by decide) ?_
                rw [r1]
                refine a_iconst (v := 1) dX12_whoFor_53 (by decide) ?_
                refine a_iadd dX12_whoFor_54 ?_
                rw [nI_1]
                refine a_aload_n (i := 0) dX12_whoFor_55 rfl rfl ?_
                refine gX12_136 rfl dX12_whoFor_56 (isM_0 hM) ?_
                refine a_iload_n (i := 3) dX12_whoFor_59 rfl rfl ?_
                refine a_ialdN dX12_whoFor_60 (isM_76 hM) (by first | with_reducible exact rfl | with_reducible exact ix8 _ _ | with_reducible exact ix12 _ _ | exact rfl) (by omega) (by decide) ?_
                rw [s1]
                refine a_icmp_ne (tg := 96) dX12_whoFor_61 (by decide) (fun c_61 => ?_) (fun c_61 => ?_)
                · exact absurd (by rw [q1]) c_61
                · refine a_aload_n (i := 0) dX12_whoFor_64 rfl rfl ?_
                  refine gX12_139 rfl dX12_whoFor_65 (isM_0 hM) ?_
                  refine a_iload (i := 5) dX12_whoFor_68 rfl ?_
                  refine a_ialdN dX12_whoFor_70 (isM_77 hM) (by first | with_reducible exact rfl | with_reducible exact ix8 _ _ | with_reducible exact ix12 _ _ | exact rfl) (by omega) (by decide) ?_
                  rw [r2]
                  refine a_aload_n (i := 0) dX12_whoFor_71 rfl rfl ?_
                  refine gX12_142 rfl dX12_whoFor_72 (isM_0 hM) ?_
                  refine a_bipush (v := 8) dX12_whoFor_75 (by decide) ?_
                  refine a_iload_n (i := 1) dX12_whoFor_77 rfl rfl ?_
                  refine a_imul dX12_whoFor_78 ?_
                  refine a_iload (i := 4) dX12_whoFor_79 rfl ?_
                  refine a_iadd dX12_whoFor_81 ?_
                  refine a_ialdN dX12_whoFor_82 (isM_78 hM) (by first | exact il8 _ _ | with_reducible exact rfl | with_reducible exact ix8 _ _ | with_reducible exact ix12 _ _ | exact rfl) (by omega) (by decide) ?_
                  rw [rf]
                  refine a_iadd dX12_whoFor_83 ?_
                  rw [es]
                  refine a_aload_n (i := 0) dX12_whoFor_84 rfl rfl ?_
                  refine gX12_139 rfl dX12_whoFor_85 (isM_0 hM) ?_
                  refine a_iload_n (i := 3) dX12_whoFor_88 rfl rfl ?_
                  refine a_ialdN dX12_whoFor_89 (isM_77 hM) (by first | with_reducible exact rfl | with_reducible exact ix8 _ _ | with_reducible exact ix12 _ _ | exact rfl) (by omega) (by decide) ?_
                  rw [s2]
                  refine a_icmp_ne (tg := 96) dX12_whoFor_90 (by decide) (fun c_90 => ?_) (fun c_90 => ?_)
                  · exact absurd (by rw [q2]) c_90
                  · refine a_iload (i := 4) dX12_whoFor_93 rfl ?_
                    exact a_iret dX12_whoFor_95 (by exact ⟨rfl, rfl⟩)
              · exact absurd rfl c_25
          · rw [if_neg (fun z => q2 z.2.2)]
            refine a_iload (i := 4) dX12_whoFor_10 rfl ?_
            refine a_aload_n (i := 0) dX12_whoFor_12 rfl rfl ?_
            refine gX12_261 rfl dX12_whoFor_13 (isM_0 hM) ?_
            rw [e1]
            refine a_icmp_ge (tg := 102) dX12_whoFor_16 (by decide) (fun c_16 => ?_) (fun c_16 => ?_)
            · exact absurd c_16 (nI_ge mF (by omega))
            · refine a_iload_n (i := 2) dX12_whoFor_19 rfl rfl ?_
              refine a_iload (i := 4) dX12_whoFor_20 rfl ?_
              refine kX12_426 rfl dX12_whoFor_22 (Nat.le_of_ble_eq_true rfl) (c_X12_isOf) ?_
              rw [jt, hbm]
              refine a_if_eq (tg := 31) dX12_whoFor_25 (by decide) (fun c_25 => ?_) (fun c_25 => ?_)
              · refine a_aload_n (i := 0) dX12_whoFor_31 rfl rfl ?_
                refine a_iload_n (i := 1) dX12_whoFor_32 rfl rfl ?_
                refine a_iconst (v := 1) dX12_whoFor_33 (by decide) ?_
                refine a_iadd dX12_whoFor_34 ?_
                rw [nI_1]
                refine a_iload_n (i := 2) dX12_whoFor_35 rfl rfl ?_
                refine a_iconst (v := 1) dX12_whoFor_36 (by decide) ?_
                refine a_iload (i := 4) dX12_whoFor_37 rfl ?_
                refine a_ishl dX12_whoFor_39 ?_
                refine a_ior dX12_whoFor_40 ?_
                rw [go]
                refine kX12_534 rfl dX12_whoFor_41 (Nat.le_of_ble_eq_true rfl) (isM_0 hM) (c_X12_matchAt) ?_
                refine a_istore (i := 5) dX12_whoFor_44 (by decide) ?_
                refine a_aload_n (i := 0) dX12_whoFor_46 rfl rfl ?_
                refine gX12_136 rfl dX12_whoFor_47 (isM_0 hM) ?_
                refine a_iload (i := 5) dX12_whoFor_50 rfl ?_
                refine a_ialdN dX12_whoFor_52 (isM_76 hM) (by first | with_reducible exact rfl | with_reducible exact ix8 _ _ | with_reducible exact ix12 _ _ | exact rfl) (by omega) (by decide) ?_
                rw [r1]
                refine a_iconst (v := 1) dX12_whoFor_53 (by decide) ?_
                refine a_iadd dX12_whoFor_54 ?_
                rw [nI_1]
                refine a_aload_n (i := 0) dX12_whoFor_55 rfl rfl ?_
                refine gX12_136 rfl dX12_whoFor_56 (isM_0 hM) ?_
                refine a_iload_n (i := 3) dX12_whoFor_59 rfl rfl ?_
                refine a_ialdN dX12_whoFor_60 (isM_76 hM) (by first | with_reducible exact rfl | with_reducible exact ix8 _ _ | with_reducible exact ix12 _ _ | exact rfl) (by omega) (by decide) ?_
                rw [s1]
                refine a_icmp_ne (tg := 96) dX12_whoFor_61 (by decide) (fun c_61 => ?_) (fun c_61 => ?_)
                · exact absurd (by rw [q1]) c_61
                · refine a_aload_n (i := 0) dX12_whoFor_64 rfl rfl ?_
                  refine gX12_139 rfl dX12_whoFor_65 (isM_0 hM) ?_
                  refine a_iload (i := 5) dX12_whoFor_68 rfl ?_
                  refine a_ialdN dX12_whoFor_70 (isM_77 hM) (by first | with_reducible exact rfl | with_reducible exact ix8 _ _ | with_reducible exact ix12 _ _ | exact rfl) (by omega) (by decide) ?_
                  rw [r2]
                  refine a_aload_n (i := 0) dX12_whoFor_71 rfl rfl ?_
                  refine gX12_142 rfl dX12_whoFor_72 (isM_0 hM) ?_
                  refine a_bipush (v := 8) dX12_whoFor_75 (by decide) ?_
                  refine a_iload_n (i := 1) dX12_whoFor_77 rfl rfl ?_
                  refine a_imul dX12_whoFor_78 ?_
                  refine a_iload (i := 4) dX12_whoFor_79 rfl ?_
                  refine a_iadd dX12_whoFor_81 ?_
                  refine a_ialdN dX12_whoFor_82 (isM_78 hM) (by first | exact il8 _ _ | with_reducible exact rfl | with_reducible exact ix8 _ _ | with_reducible exact ix12 _ _ | exact rfl) (by omega) (by decide) ?_
                  rw [rf]
                  refine a_iadd dX12_whoFor_83 ?_
                  rw [es]
                  refine a_aload_n (i := 0) dX12_whoFor_84 rfl rfl ?_
                  refine gX12_139 rfl dX12_whoFor_85 (isM_0 hM) ?_
                  refine a_iload_n (i := 3) dX12_whoFor_88 rfl rfl ?_
                  refine a_ialdN dX12_whoFor_89 (isM_77 hM) (by first | with_reducible exact rfl | with_reducible exact ix8 _ _ | with_reducible exact ix12 _ _ | exact rfl) (by omega) (by decide) ?_
                  rw [s2]
                  refine a_icmp_ne (tg := 96) dX12_whoFor_90 (by decide) (fun c_90 => ?_) (fun c_90 => ?_)
                  · refine a_iincK (i := 4) (u := 1) dX12_whoFor_96 rfl (by decide) (by decide) ?_
                    refine a_goto (tg := 10) dX12_whoFor_99 (by decide) ?_
                    rw [nI_1]; exact a_loc _ rfl ih2
                  · exact absurd ((nI_eq (by omega) (by omega)).mp c_90) q2
              · exact absurd rfl c_25
        · rw [if_neg (fun z => q1 z.2.1)]
          refine a_iload (i := 4) dX12_whoFor_10 rfl ?_
          refine a_aload_n (i := 0) dX12_whoFor_12 rfl rfl ?_
          refine gX12_261 rfl dX12_whoFor_13 (isM_0 hM) ?_
          rw [e1]
          refine a_icmp_ge (tg := 102) dX12_whoFor_16 (by decide) (fun c_16 => ?_) (fun c_16 => ?_)
          · exact absurd c_16 (nI_ge mF (by omega))
          · refine a_iload_n (i := 2) dX12_whoFor_19 rfl rfl ?_
            refine a_iload (i := 4) dX12_whoFor_20 rfl ?_
            refine kX12_426 rfl dX12_whoFor_22 (Nat.le_of_ble_eq_true rfl) (c_X12_isOf) ?_
            rw [jt, hbm]
            refine a_if_eq (tg := 31) dX12_whoFor_25 (by decide) (fun c_25 => ?_) (fun c_25 => ?_)
            · refine a_aload_n (i := 0) dX12_whoFor_31 rfl rfl ?_
              refine a_iload_n (i := 1) dX12_whoFor_32 rfl rfl ?_
              refine a_iconst (v := 1) dX12_whoFor_33 (by decide) ?_
              refine a_iadd dX12_whoFor_34 ?_
              rw [nI_1]
              refine a_iload_n (i := 2) dX12_whoFor_35 rfl rfl ?_
              refine a_iconst (v := 1) dX12_whoFor_36 (by decide) ?_
              refine a_iload (i := 4) dX12_whoFor_37 rfl ?_
              refine a_ishl dX12_whoFor_39 ?_
              refine a_ior dX12_whoFor_40 ?_
              rw [go]
              refine kX12_534 rfl dX12_whoFor_41 (Nat.le_of_ble_eq_true rfl) (isM_0 hM) (c_X12_matchAt) ?_
              refine a_istore (i := 5) dX12_whoFor_44 (by decide) ?_
              refine a_aload_n (i := 0) dX12_whoFor_46 rfl rfl ?_
              refine gX12_136 rfl dX12_whoFor_47 (isM_0 hM) ?_
              refine a_iload (i := 5) dX12_whoFor_50 rfl ?_
              refine a_ialdN dX12_whoFor_52 (isM_76 hM) (by first | with_reducible exact rfl | with_reducible exact ix8 _ _ | with_reducible exact ix12 _ _ | exact rfl) (by omega) (by decide) ?_
              rw [r1]
              refine a_iconst (v := 1) dX12_whoFor_53 (by decide) ?_
              refine a_iadd dX12_whoFor_54 ?_
              rw [nI_1]
              refine a_aload_n (i := 0) dX12_whoFor_55 rfl rfl ?_
              refine gX12_136 rfl dX12_whoFor_56 (isM_0 hM) ?_
              refine a_iload_n (i := 3) dX12_whoFor_59 rfl rfl ?_
              refine a_ialdN dX12_whoFor_60 (isM_76 hM) (by first | with_reducible exact rfl | with_reducible exact ix8 _ _ | with_reducible exact ix12 _ _ | exact rfl) (by omega) (by decide) ?_
              rw [s1]
              refine a_icmp_ne (tg := 96) dX12_whoFor_61 (by decide) (fun c_61 => ?_) (fun c_61 => ?_)
              · refine a_iincK (i := 4) (u := 1) dX12_whoFor_96 rfl (by decide) (by decide) ?_
                refine a_goto (tg := 10) dX12_whoFor_99 (by decide) ?_
                rw [nI_1]; exact a_loc _ rfl ih2
              · exact absurd ((nI_eq (by omega) (by omega)).mp c_61) q1
            · exact absurd rfl c_25
  refine a_aload_n (i := 0) dX12_whoFor_0 rfl rfl ?_
  refine a_iload_n (i := 1) dX12_whoFor_1 rfl rfl ?_
  refine a_iload_n (i := 2) dX12_whoFor_2 rfl rfl ?_
  refine kX12_534 rfl dX12_whoFor_3 (Nat.le_of_ble_eq_true rfl) (isM_0 hM) (c_X12_matchAt) ?_
  refine a_istore_n (i := 3) dX12_whoFor_6 rfl (by decide) ?_
  refine a_iconst (v := 0) dX12_whoFor_7 (by decide) ?_
  refine a_istore (i := 4) dX12_whoFor_8 (by decide) ?_
  exact a_loc _ rfl (L (T.1 1) 0 (Nat.zero_add _))
set_option maxHeartbeats 4000000 in
set_option maxRecDepth 100000 in
theorem c_X12_match {a : Int32} (hM : D 12 = true) (h : mR T W Z x) (hm : mOk T Z ff) : aCt l mX12_match (d + 4) D [.ref bM, .int a] x (fun v y => v = some (.int (qMatch T ff a)) ∧ mF x y) := by
  have hR0 := mR_0 h
  have hF0 : mF x (aWr x bM 2 0) := mF_0
  refine a_met (by decide) (Nat.le_of_ble_eq_true rfl) (fun v y q => Or.inl ⟨rfl, _, q.1⟩) ?_
  refine a_aload_n (i := 0) dX12_match_0 rfl rfl ?_
  refine a_iconst (v := 0) dX12_match_1 (by decide) ?_
  refine pX12_175 rfl dX12_match_2 (isM_0 hM) ?_
  refine a_loc [(0, .ref bM), (1, .int a)] rfl ?_
  generalize aWr x bM 2 0 = X at *
  obtain ⟨ok, hZ, hT, hW, hS⟩ := hR0
  have hR0 : mR T W Z X := ⟨ok, hZ, hT, hW, hS⟩
  have h6 := ok.1
  have h8 := ok.2.1
  have h2 := two_le h8
  have e0 : X.1 bM 12 = nI (T.1 0) := hT.1
  have hf : ∀ h, h < T.1 0 → ∀ m, m < T.1 1 → ff h m ≤ 160000000 := fun h hh m hm2 => (hm h hh m hm2).2
  have gok := gP_ok (ff := ff) h8 rfl h6 hf
  have mtF : ∀ y, mMt X y → mF x y := fun y hy => mF_t hF0 ⟨fun n j g => by rw [hy.1 n (fun e => g (Or.inr (Or.inr (Or.inl e)))) (fun e => g (Or.inr (Or.inr (Or.inr (Or.inl e))))) (fun e => g (Or.inr (Or.inr (Or.inr (Or.inr (Or.inl e))))))], fun n _ _ => by rw [hy.2]⟩
  unfold qMatch
  by_cases q : zIn 8 a
  · rw [if_pos q]
    have q7 := zIn8.mpr q
    obtain ⟨A, hA, rfl⟩ := zIn_of (by decide) q
    rw [nI_clamp (by omega)]
    have hl := c_X12_layMatch (l := l) (d := d) (D := D) hM hR0 hm
    by_cases a6 : A < 6
    · rw [if_neg (show ¬ nI A = 6 from fun g => absurd ((nI_eq (a := A) (b := 6) (by omega) (by decide)).mp g) (by omega)), if_neg (show ¬ nI A = 7 from fun g => absurd ((nI_eq (a := A) (b := 7) (by omega) (by decide)).mp g) (by omega))]
      by_cases aH : A < T.1 0
      · generalize hMM : min (T.1 0) (T.1 1) = M at *
        have path : ∀ h, h < T.1 0 → mWc ff (T.1 0) (T.1 1) (T.1 0 - (h + 1)) (gP ff (T.1 0) (T.1 1) M h) 0 (T.1 1) = cWc ff (T.1 0) (T.1 1) M (T.1 0 - (h + 1)) (gP ff (T.1 0) (T.1 1) M h) 0 (T.1 1) := by
          intro h hh
          obtain ⟨g1, g2, g3⟩ := gok h (by omega)
          rw [show T.1 0 - h = T.1 0 - (h + 1) + 1 by omega] at g3
          exact (cW_m h8 hMM.symm h6 hf (by omega) g1 (by omega) g3 _ 0 (Nat.zero_add _)).symm
        have Fin : ∀ y, fR T ff y → tR T ff 0 y → mMt X y → aV l mX12_match (d + 4) D none 104 [(0, .ref bM), (1, .int (nI A)), (2, .int (nI (gP ff (T.1 0) (T.1 1) M A)))] [] y (fun v y => v = some (.int (prd ff (T.1 0) (T.1 1) M A)) ∧ mF x y) := by
          intro y y1 y2 y3
          obtain ⟨g1, g2, g3⟩ := gok A (by omega)
          have hw := c_X12_whoFor (l := l) (d := d + 2) (ff := ff) (g := gP ff (T.1 0) (T.1 1) M A) hM ok (mMt_R y3 hR0).2.2.1 hf y1 y2 aH rfl (by omega)
          rw [path A aH] at hw
          have pd : prd ff (T.1 0) (T.1 1) M A = match cWc ff (T.1 0) (T.1 1) M (T.1 0 - (A + 1)) (gP ff (T.1 0) (T.1 1) M A) 0 (T.1 1) with | some m => nI m | none => -2 := by rw [prd, if_pos aH]; rfl
          rw [pd]
          cases w : cWc ff (T.1 0) (T.1 1) M (T.1 0 - (A + 1)) (gP ff (T.1 0) (T.1 1) M A) 0 (T.1 1) with
          | some m =>
            have wl := (cWc_lt _ _ _ w).2.1
            rw [w] at hw
            refine a_aload_n (i := 0) dX12_match_104 rfl rfl ?_
            refine a_iload_n (i := 1) dX12_match_105 rfl rfl ?_
            refine a_iload_n (i := 2) dX12_match_106 rfl rfl ?_
            refine kX12_540 rfl dX12_match_107 (Nat.le_of_ble_eq_true rfl) (isM_0 hM) (hw) ?_
            refine a_istore_n (i := 3) dX12_match_110 rfl (by decide) ?_
            refine a_iload_n (i := 3) dX12_match_111 rfl rfl ?_
            refine a_if_ge (tg := 120) dX12_match_112 (by decide) (fun c_112 => ?_) (fun c_112 => ?_)
            · refine a_iload_n (i := 3) dX12_match_120 rfl rfl ?_
              exact a_iret dX12_match_121 (by exact ⟨rfl, mtF _ y3⟩)
            · exact absurd (show (0 : Int32) ≤ nI m from nI_pos' (by omega)) c_112
          | none =>
            rw [w] at hw
            refine a_aload_n (i := 0) dX12_match_104 rfl rfl ?_
            refine a_iload_n (i := 1) dX12_match_105 rfl rfl ?_
            refine a_iload_n (i := 2) dX12_match_106 rfl rfl ?_
            refine kX12_540 rfl dX12_match_107 (Nat.le_of_ble_eq_true rfl) (isM_0 hM) (hw) ?_
            refine a_istore_n (i := 3) dX12_match_110 rfl (by decide) ?_
            refine a_iload_n (i := 3) dX12_match_111 rfl rfl ?_
            refine a_if_ge (tg := 120) dX12_match_112 (by decide) (fun c_112 => ?_) (fun c_112 => ?_)
            · exact absurd c_112 (by decide)
            · refine a_bipush (v := (-2)) dX12_match_115 (by decide) ?_
              refine a_goto (tg := 121) dX12_match_117 (by decide) ?_
              exact a_iret dX12_match_121 (by exact ⟨rfl, mtF _ y3⟩)
        have L : ∀ (f h : Nat), h + f = A → ∀ y, fR T ff y → tR T ff 0 y → mMt X y → aV l mX12_match (d + 4) D none 69 [(0, .ref bM), (1, .int (nI A)), (2, .int (nI (gP ff (T.1 0) (T.1 1) M h))), (3, .int (nI h))] [] y (fun v y => v = some (.int (prd ff (T.1 0) (T.1 1) M A)) ∧ mF x y) := by
          intro f
          induction f with
          | zero =>
            intro h hh y y1 y2 y3
            rw [Nat.add_zero] at hh
            subst hh
            refine a_iload_n (i := 3) dX12_match_69 rfl rfl ?_
            refine a_iload_n (i := 1) dX12_match_70 rfl rfl ?_
            refine a_icmp_ge (tg := 104) dX12_match_71 (by decide) (fun c_71 => ?_) (fun c_71 => ?_)
            · exact a_loc _ rfl (Fin y y1 y2 y3)
            · exact absurd (Int32.le_refl _) c_71
          | succ f ih =>
            intro h hh y y1 y2 y3
            obtain ⟨g1, g2, g3⟩ := gok h (by omega)
            have hw := c_X12_whoFor (l := l) (d := d + 2) (ff := ff) (g := gP ff (T.1 0) (T.1 1) M h) hM ok (mMt_R y3 hR0).2.2.1 hf y1 y2 (show h < T.1 0 by omega) rfl (by omega)
            rw [path h (by omega)] at hw
            have ih2 := ih (h + 1) (by omega) y y1 y2 y3
            rw [gP] at ih2
            cases w : cWc ff (T.1 0) (T.1 1) M (T.1 0 - (h + 1)) (gP ff (T.1 0) (T.1 1) M h) 0 (T.1 1) with
            | some m =>
              have wl := (cWc_lt _ _ _ w).2.1
              rw [w] at hw ih2
              refine a_iload_n (i := 3) dX12_match_69 rfl rfl ?_
              refine a_iload_n (i := 1) dX12_match_70 rfl rfl ?_
              refine a_icmp_ge (tg := 104) dX12_match_71 (by decide) (fun c_71 => ?_) (fun c_71 => ?_)
              · exact absurd c_71 (nI_ge (show h < A by omega) (by omega))
              · refine a_aload_n (i := 0) dX12_match_74 rfl rfl ?_
                refine a_iload_n (i := 3) dX12_match_75 rfl rfl ?_
                refine a_iload_n (i := 2) dX12_match_76 rfl rfl ?_
                refine kX12_540 rfl dX12_match_77 (Nat.le_of_ble_eq_true rfl) (isM_0 hM) (hw) ?_
                refine a_istore (i := 4) dX12_match_80 (by decide) ?_
                refine a_iload_n (i := 2) dX12_match_82 rfl rfl ?_
                refine a_iload (i := 4) dX12_match_83 rfl ?_
                refine a_if_ge (tg := 92) dX12_match_85 (by decide) (fun c_85 => ?_) (fun c_85 => ?_)
                · refine a_iconst (v := 1) dX12_match_92 (by decide) ?_
                  refine a_iload (i := 4) dX12_match_93 rfl ?_
                  refine a_ishl dX12_match_95 ?_
                  refine a_ior dX12_match_96 ?_
                  rw [show nI (gP ff (T.1 0) (T.1 1) M h) ||| ((1 : Int32) <<< (oN (some m) &&& 31)) = nI (gP ff (T.1 0) (T.1 1) M h ||| 2 ^ m) from g_or _ (by omega) m (by omega)]
                  refine a_istore_n (i := 2) dX12_match_97 rfl (by decide) ?_
                  refine a_iincK (i := 3) (u := 1) dX12_match_98 rfl (by decide) (by decide) ?_
                  refine a_goto (tg := 69) dX12_match_101 (by decide) ?_
                  rw [nI_1]; exact a_loc _ rfl ih2
                · exact absurd (show (0 : Int32) ≤ nI m from nI_pos' (by omega)) c_85
            | none =>
              rw [w] at hw ih2
              refine a_iload_n (i := 3) dX12_match_69 rfl rfl ?_
              refine a_iload_n (i := 1) dX12_match_70 rfl rfl ?_
              refine a_icmp_ge (tg := 104) dX12_match_71 (by decide) (fun c_71 => ?_) (fun c_71 => ?_)
              · exact absurd c_71 (nI_ge (show h < A by omega) (by omega))
              · refine a_aload_n (i := 0) dX12_match_74 rfl rfl ?_
                refine a_iload_n (i := 3) dX12_match_75 rfl rfl ?_
                refine a_iload_n (i := 2) dX12_match_76 rfl rfl ?_
                refine kX12_540 rfl dX12_match_77 (Nat.le_of_ble_eq_true rfl) (isM_0 hM) (hw) ?_
                refine a_istore (i := 4) dX12_match_80 (by decide) ?_
                refine a_iload_n (i := 2) dX12_match_82 rfl rfl ?_
                refine a_iload (i := 4) dX12_match_83 rfl ?_
                refine a_if_ge (tg := 92) dX12_match_85 (by decide) (fun c_85 => ?_) (fun c_85 => ?_)
                · exact absurd c_85 (by decide)
                · refine a_iconst (v := 0) dX12_match_88 (by decide) ?_
                  refine a_goto (tg := 96) dX12_match_89 (by decide) ?_
                  refine a_ior dX12_match_96 ?_
                  rw [Int32.or_zero]
                  refine a_istore_n (i := 2) dX12_match_97 rfl (by decide) ?_
                  refine a_iincK (i := 3) (u := 1) dX12_match_98 rfl (by decide) (by decide) ?_
                  refine a_goto (tg := 69) dX12_match_101 (by decide) ?_
                  rw [nI_1]; exact a_loc _ rfl ih2
        refine a_iload_n (i := 1) dX12_match_5 rfl rfl ?_
        refine a_iconst (v := 0) dX12_match_6 (by decide) ?_
        refine a_bipush (v := 7) dX12_match_7 (by decide) ?_
        refine kX12_220 rfl dX12_match_9 (Nat.le_of_ble_eq_true rfl) (c_X12_isIn) ?_
        refine a_if_ne (tg := 17) dX12_match_12 (by decide) (fun c_12 => ?_) (fun c_12 => ?_)
        · refine a_iload_n (i := 1) dX12_match_17 rfl rfl ?_
          refine a_bipush (v := 6) dX12_match_18 (by decide) ?_
          refine a_icmp_ge (tg := 34) dX12_match_20 (by decide) (fun c_20 => ?_) (fun c_20 => ?_)
          · exact absurd c_20 (nI_ge a6 (by decide))
          · refine a_iload_n (i := 1) dX12_match_23 rfl rfl ?_
            refine a_aload_n (i := 0) dX12_match_24 rfl rfl ?_
            refine gX12_258 rfl dX12_match_25 (isM_0 hM) ?_
            rw [e0]
            refine a_icmp_lt (tg := 34) dX12_match_28 (by decide) (fun c_28 => ?_) (fun c_28 => ?_)
            · refine a_aload_n (i := 0) dX12_match_34 rfl rfl ?_
              refine kgX12_537 rfl dX12_match_35 (Nat.le_of_ble_eq_true rfl) (isM_0 hM) (hl) ?_
              rintro v y ⟨rfl, y1, y2, y3⟩
              refine a_iload_n (i := 1) dX12_match_38 rfl rfl ?_
              refine a_iconst (v := 5) dX12_match_39 (by decide) ?_
              refine a_icmp_le (tg := 65) dX12_match_40 (by decide) (fun c_40 => ?_) (fun c_40 => ?_)
              · refine a_iconst (v := 0) dX12_match_65 (by decide) ?_
                refine a_istore_n (i := 2) dX12_match_66 rfl (by decide) ?_
                refine a_iconst (v := 0) dX12_match_67 (by decide) ?_
                refine a_istore_n (i := 3) dX12_match_68 rfl (by decide) ?_
                exact a_loc _ rfl (L A 0 (Nat.zero_add _) y y1 y2 y3)
              · exact absurd (nI_le (show A ≤ 5 by omega) (by decide)) c_40
            · exact absurd (nI_lt aH (by omega)) c_28
        · exact absurd c_12 (bI_p.mpr q7)
      · rw [prd, if_neg aH]
        refine a_iload_n (i := 1) dX12_match_5 rfl rfl ?_
        refine a_iconst (v := 0) dX12_match_6 (by decide) ?_
        refine a_bipush (v := 7) dX12_match_7 (by decide) ?_
        refine kX12_220 rfl dX12_match_9 (Nat.le_of_ble_eq_true rfl) (c_X12_isIn) ?_
        refine a_if_ne (tg := 17) dX12_match_12 (by decide) (fun c_12 => ?_) (fun c_12 => ?_)
        · refine a_iload_n (i := 1) dX12_match_17 rfl rfl ?_
          refine a_bipush (v := 6) dX12_match_18 (by decide) ?_
          refine a_icmp_ge (tg := 34) dX12_match_20 (by decide) (fun c_20 => ?_) (fun c_20 => ?_)
          · exact absurd c_20 (nI_ge a6 (by decide))
          · refine a_iload_n (i := 1) dX12_match_23 rfl rfl ?_
            refine a_aload_n (i := 0) dX12_match_24 rfl rfl ?_
            refine gX12_258 rfl dX12_match_25 (isM_0 hM) ?_
            rw [e0]
            refine a_icmp_lt (tg := 34) dX12_match_28 (by decide) (fun c_28 => ?_) (fun c_28 => ?_)
            · exact absurd ((nI_ltI (by omega) (by omega)).mp c_28) aH
            · refine a_bipush (v := (-2)) dX12_match_31 (by decide) ?_
              exact a_iret dX12_match_33 (by exact ⟨rfl, hF0⟩)
        · exact absurd c_12 (bI_p.mpr q7)
    · have fz : ∀ y, tR T ff 0 y → y.1 (bM + 76) 0 = nI (min (T.1 0) (T.1 1)) ∧ y.1 (bM + 77) 0 = nI (cLe ff (T.1 0) (T.1 1) (min (T.1 0) (T.1 1)) (T.1 0) 0) := by
        intro y y2
        obtain ⟨r1, r2⟩ := y2 0 (by omega) (by omega) 0 (by decide)
        have p0 : pc 0 = 0 := by decide
        have m1 := mT_1 (ff := ff) (H := T.1 0) h8 (T.1 0) 0 (Nat.two_pow_pos _)
        have m2 := mT_2 (ff := ff) (M := min (T.1 0) (T.1 1)) h8 rfl h6 hf (T.1 0) (Nat.le_refl _) 0 (Nat.two_pow_pos _) (by omega)
        rw [p0, Nat.sub_zero] at m1
        rw [p0, if_pos (by omega)] at m2
        rw [Nat.sub_zero, Nat.mul_zero, Nat.add_zero] at r1 r2
        rw [r1, r2, m1, m2]
        exact ⟨rfl, rfl⟩
      have t5 : ¬ nI A ≤ 5 := fun g => absurd ((nI_leI (a := A) (b := 5) (by omega) (by decide)).mp g) (by omega)
      by_cases e6 : A = 6
      · subst e6
        rw [if_pos (show nI 6 = 6 from rfl)]
        refine a_iload_n (i := 1) dX12_match_5 rfl rfl ?_
        refine a_iconst (v := 0) dX12_match_6 (by decide) ?_
        refine a_bipush (v := 7) dX12_match_7 (by decide) ?_
        refine kX12_220 rfl dX12_match_9 (Nat.le_of_ble_eq_true rfl) (c_X12_isIn) ?_
        refine a_if_ne (tg := 17) dX12_match_12 (by decide) (fun c_12 => ?_) (fun c_12 => ?_)
        · refine a_iload_n (i := 1) dX12_match_17 rfl rfl ?_
          refine a_bipush (v := 6) dX12_match_18 (by decide) ?_
          refine a_icmp_ge (tg := 34) dX12_match_20 (by decide) (fun c_20 => ?_) (fun c_20 => ?_)
          · refine a_aload_n (i := 0) dX12_match_34 rfl rfl ?_
            refine kgX12_537 rfl dX12_match_35 (Nat.le_of_ble_eq_true rfl) (isM_0 hM) (hl) ?_
            rintro v y ⟨rfl, y1, y2, y3⟩
            refine a_iload_n (i := 1) dX12_match_38 rfl rfl ?_
            refine a_iconst (v := 5) dX12_match_39 (by decide) ?_
            refine a_icmp_le (tg := 65) dX12_match_40 (by decide) (fun c_40 => ?_) (fun c_40 => ?_)
            · exact absurd c_40 t5
            · refine a_iload_n (i := 1) dX12_match_43 rfl rfl ?_
              refine a_bipush (v := 6) dX12_match_44 (by decide) ?_
              refine a_icmp_ne (tg := 58) dX12_match_46 (by decide) (fun c_46 => ?_) (fun c_46 => ?_)
              · exact absurd rfl c_46
              · refine a_aload_n (i := 0) dX12_match_49 rfl rfl ?_
                refine gX12_136 rfl dX12_match_50 (isM_0 hM) ?_
                refine a_iconst (v := 0) dX12_match_53 (by decide) ?_
                refine a_ialdN dX12_match_54 (isM_76 hM) (by first | exact (show (0 : Int32) = nI 0 from rfl) | with_reducible exact rfl | with_reducible exact ix8 _ _ | with_reducible exact ix12 _ _ | exact rfl) (by omega) (by decide) ?_
                rw [(fz y y2).1]
                refine a_goto (tg := 64) dX12_match_55 (by decide) ?_
                exact a_iret dX12_match_64 (by exact ⟨rfl, mtF _ y3⟩)
          · exact absurd (by decide) c_20
        · exact absurd c_12 (bI_p.mpr q7)
      · have e7 : A = 7 := by omega
        subst e7
        rw [if_neg (show ¬ nI 7 = 6 by decide), if_pos (show nI 7 = 7 from rfl)]
        refine a_iload_n (i := 1) dX12_match_5 rfl rfl ?_
        refine a_iconst (v := 0) dX12_match_6 (by decide) ?_
        refine a_bipush (v := 7) dX12_match_7 (by decide) ?_
        refine kX12_220 rfl dX12_match_9 (Nat.le_of_ble_eq_true rfl) (c_X12_isIn) ?_
        refine a_if_ne (tg := 17) dX12_match_12 (by decide) (fun c_12 => ?_) (fun c_12 => ?_)
        · refine a_iload_n (i := 1) dX12_match_17 rfl rfl ?_
          refine a_bipush (v := 6) dX12_match_18 (by decide) ?_
          refine a_icmp_ge (tg := 34) dX12_match_20 (by decide) (fun c_20 => ?_) (fun c_20 => ?_)
          · refine a_aload_n (i := 0) dX12_match_34 rfl rfl ?_
            refine kgX12_537 rfl dX12_match_35 (Nat.le_of_ble_eq_true rfl) (isM_0 hM) (hl) ?_
            rintro v y ⟨rfl, y1, y2, y3⟩
            refine a_iload_n (i := 1) dX12_match_38 rfl rfl ?_
            refine a_iconst (v := 5) dX12_match_39 (by decide) ?_
            refine a_icmp_le (tg := 65) dX12_match_40 (by decide) (fun c_40 => ?_) (fun c_40 => ?_)
            · exact absurd c_40 t5
            · refine a_iload_n (i := 1) dX12_match_43 rfl rfl ?_
              refine a_bipush (v := 6) dX12_match_44 (by decide) ?_
              refine a_icmp_ne (tg := 58) dX12_match_46 (by decide) (fun c_46 => ?_) (fun c_46 => ?_)
              · refine a_aload_n (i := 0) dX12_match_58 rfl rfl ?_
                refine gX12_139 rfl dX12_match_59 (isM_0 hM) ?_
                refine a_iconst (v := 0) dX12_match_62 (by decide) ?_
                refine a_ialdN dX12_match_63 (isM_77 hM) (by first | exact (show (0 : Int32) = nI 0 from rfl) | with_reducible exact rfl | with_reducible exact ix8 _ _ | with_reducible exact ix12 _ _ | exact rfl) (by omega) (by decide) ?_
                rw [(fz y y2).2]
                exact a_iret dX12_match_64 (by exact ⟨rfl, mtF _ y3⟩)
              · exact absurd c_46 (by decide)
          · exact absurd (by decide) c_20
        · exact absurd c_12 (bI_p.mpr q7)
  · rw [if_neg q]
    refine a_iload_n (i := 1) dX12_match_5 rfl rfl ?_
    refine a_iconst (v := 0) dX12_match_6 (by decide) ?_
    refine a_bipush (v := 7) dX12_match_7 (by decide) ?_
    refine kX12_220 rfl dX12_match_9 (Nat.le_of_ble_eq_true rfl) (c_X12_isIn) ?_
    refine a_if_ne (tg := 17) dX12_match_12 (by decide) (fun c_12 => ?_) (fun c_12 => ?_)
    · exact absurd (zIn8.mp (bI_p.mp c_12)) q
    · refine a_iconst (v := (-1)) dX12_match_15 (by decide) ?_
      exact a_iret dX12_match_16 (by exact ⟨rfl, hF0⟩)
end qX
