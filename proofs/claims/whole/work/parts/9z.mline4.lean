/-! READING, the model: lineRead -/
section qBG
variable {l : Launch} {d : Nat} {D : Nat → Bool} {x y : aS} {n f : Nat} {B : Nat → Nat} {P : pS} {T : zT} {r r' : zP}
def mLr (n : Nat) (B : Nat → Nat) (P : pS) (x : aS) (v : Option Value) (y : aS) : Prop := v = some (.int (bI (decide ((rdN B n P).2.2.2.2.1 = 0)))) ∧ mK n B (rdN B n P) y ∧ mW rC x y
set_option maxHeartbeats 8000000 in
set_option maxRecDepth 100000 in
/-- behind the line: its end -/
theorem lr_end {w : Bool} {lv : List (Nat × Value)} (hM : D 12 = true) (W : mW rC x y) (hf : w = false → mK n B (rdN B n P) y ∧ ¬ (rdN B n P).2.2.2.2.1 = 0) (ht : w = true → (rdL B n P).2.2.2.2.1 = 0 ∧ mK n B (rdL B n P) y) : aV l mX12_lineRead (d + 4) D none 241 ((0, .ref bM) :: (1, .int (bI w)) :: lv) [] y (mLr n B P x) := by
  cases w with
  | false =>
    obtain ⟨K, e⟩ := hf rfl
    refine a_iload_n (i := 1) dX12_lineRead_241 rfl rfl ?_
    refine a_if_ne (tg := 247) dX12_lineRead_242 (by decide) (fun c_242 => ?_) (fun c_242 => ?_)
    · exact absurd rfl c_242
    · refine a_iconst (v := 0) dX12_lineRead_245 (by decide) ?_
      exact a_iret dX12_lineRead_246 (by exact ⟨by rw [bI_f e], K, W⟩)
  | true =>
    obtain ⟨f0, K⟩ := ht rfl
    obtain ⟨kb, kp, kt, kl, kf⟩ := id K
    obtain ⟨i1, rk, -⟩ := kp.1 f0
    have s26 : (y.1 bM 8 = 4 ∧ y.1 bM 9 = 59) ↔ (tok B n (rdL B n P).2.2.2.1).1 = 26 := kM_sg rk.2.2 (Or.inr (Or.inr (Or.inl ⟨rfl, rfl⟩)))
    by_cases k26 : (tok B n (rdL B n P).2.2.2.1).1 = 26
    · have i26 := bI_t (s26.mpr k26)
      have eN : rdN B n P = (tu1 (rdL B n P).1 8 ((rdL B n P).1.1 8 + 1), (rdL B n P).2.1, (rdL B n P).2.2.1, pGo B n (rdL B n P).2.2.2) := by
        unfold rdN lnEnd
        rw [if_neg (fun e => e f0), if_neg (fun e => e k26)]
      refine a_iload_n (i := 1) dX12_lineRead_241 rfl rfl ?_
      refine a_if_ne (tg := 247) dX12_lineRead_242 (by decide) (fun c_242 => ?_) (fun c_242 => ?_)
      · refine a_aload_n (i := 0) dX12_lineRead_247 rfl rfl ?_
        refine a_bipush (v := 59) dX12_lineRead_248 (by decide) ?_
        refine kX12_230 rfl dX12_lineRead_250 (Nat.le_of_ble_eq_true rfl) (isM_0 hM) (c_X12_isSign hM) ?_
        rw [i26]
        refine a_if_ne (tg := 262) dX12_lineRead_253 (by decide) (fun c_253 => ?_) (fun c_253 => ?_)
        · refine a_aload_n (i := 0) dX12_lineRead_262 rfl rfl ?_
          refine kgX12_227 rfl dX12_lineRead_263 (Nat.le_of_ble_eq_true rfl) (isM_0 hM) (c_X12_token hM kb (mP_n kp f0).1 (mP_n kp f0).2) ?_
          rintro v z ⟨rfl, u0, G⟩
          have zU := mU_s G
          have K2 : mK n B (rdN B n P) z := by rw [eN]; exact mK_ln (P := rdL B n P) K f0 (mBt_u kb zU) (mP_go kp f0 u0 G) kt rfl (mon_go f0) (fun _ => rTM_fr (kf f0).1 (fun m j a b => shr_u zU a b)) (fun m j h => zU.1 _ _ (fun e => by unfold mUc at e; omega) (fun e => e))
          refine a_iconst (v := 1) dX12_lineRead_266 (by decide) ?_
          exact a_iret dX12_lineRead_267 (by exact ⟨by rw [eN, bI_t (show (pGo B n (rdL B n P).2.2.2).2.1 = 0 from rfl)], K2, mW_t W (mW_u zU)⟩)
        · exact absurd c_253 (by decide)
      · exact absurd c_242 (by decide)
    · have i26 := bI_f (fun e => k26 (s26.mp e))
      have eN : rdN B n P = ((rdL B n P).1, (rdL B n P).2.1, (rdL B n P).2.2.1, pFl B n 1 (rdL B n P).2.2.2) := by
        unfold rdN lnEnd
        rw [if_neg (fun e => e f0), if_pos k26]
      have fl := mP_fl (c := 1) kp f0 (by decide)
      refine a_iload_n (i := 1) dX12_lineRead_241 rfl rfl ?_
      refine a_if_ne (tg := 247) dX12_lineRead_242 (by decide) (fun c_242 => ?_) (fun c_242 => ?_)
      · refine a_aload_n (i := 0) dX12_lineRead_247 rfl rfl ?_
        refine a_bipush (v := 59) dX12_lineRead_248 (by decide) ?_
        refine kX12_230 rfl dX12_lineRead_250 (Nat.le_of_ble_eq_true rfl) (isM_0 hM) (c_X12_isSign hM) ?_
        rw [i26]
        refine a_if_ne (tg := 262) dX12_lineRead_253 (by decide) (fun c_253 => ?_) (fun c_253 => ?_)
        · exact absurd rfl c_253
        · refine a_aload_n (i := 0) dX12_lineRead_256 rfl rfl ?_
          refine a_iconst (v := 1) dX12_lineRead_257 (by decide) ?_
          refine kX12_217 rfl dX12_lineRead_258 (Nat.le_of_ble_eq_true rfl) (isM_0 hM) (c_X12_wrong (c := 1) hM) ?_
          exact a_iret dX12_lineRead_261 (by exact ⟨by rw [eN, bI_f (show ¬ (pFl B n 1 (rdL B n P).2.2.2).2.1 = 0 from by show ¬ 1 = 0; decide)], by rw [eN]; exact mK_bad (mBt_u kb fl.2) fl.1 kt (by show ¬ 1 = 0; decide), mW_t W (mW_u fl.2)⟩)
      · exact absurd c_242 (by decide)
/-- rdN of a line with a fault -/
theorem rdN_f (h : ¬ (rdL B n P).2.2.2.2.1 = 0) : rdN B n P = rdL B n P := by
  unfold rdN lnEnd
  rw [if_pos h]
set_option maxHeartbeats 8000000 in
set_option maxRecDepth 100000 in
theorem lr_line {lv : List (Nat × Value)} (hM : D 12 = true) (W : mW rC x y) (K : mK n B (rdL B n P) y) : aV l mX12_lineRead (d + 4) D none 241 ((0, .ref bM) :: (1, .int (bI (decide ((rdL B n P).2.2.2.2.1 = 0)))) :: lv) [] y (mLr n B P x) := by
  refine lr_end hM W (fun e => ?_) (fun e => ⟨of_decide_eq_true e, K⟩)
  have h := of_decide_eq_false e
  rw [rdN_f h]
  exact ⟨K, h⟩
set_option maxHeartbeats 8000000 in
set_option maxRecDepth 100000 in
theorem lr_law {lv : List (Nat × Value)} (hM : D 12 = true) (K : mK n B P x) (h0 : P.2.2.2.2.1 = 0) (hk8 : (tok B n P.2.2.2.1).1 = 8) : aV l mX12_lineRead (d + 4) D none 144 [(0, .ref bM)] [] x (mLr n B P x) := by
  obtain ⟨T, W, g, r⟩ := P
  have h0 : r.2.1 = 0 := h0
  obtain ⟨hb, hr, bd, pl, hf⟩ := id K
  have hr : mP n B r x := hr
  have bd : tBd T := bd
  obtain ⟨hT, g0, g1, h53, hl⟩ := hf h0
  have hT : rTM T (shr x) := hT
  have h53 : x.1 bM 53 = nI (T.1 7) := h53
  obtain ⟨p7, pW⟩ := pl h0
  have p7 : T.1 7 ≤ 64 := p7
  have i1 := (hr.1 h0).1
  have i2 : (pGo B n r).1 ≤ n := (tok_ok (B := B) i1).2.2.2.1
  have i3 : (pGo B n (pGo B n r)).1 ≤ n := (tok_ok (B := B) i2).2.2.2.1
  obtain ⟨k, hk⟩ : ∃ k, k = (tok B n (pGo B n r).1).1 := ⟨_, rfl⟩
  have k39 : k < 39 := by have := (tok_ok (B := B) i2).2.2.2.2.2.1; omega
  have eL : rdL B n (T, W, g, r) = lnLaw B n (T, W, g, r) := by
    unfold rdL
    show (if (tok B n r.1).1 = 0 then _ else _) = _
    have hk8 : (tok B n r.1).1 = 8 := hk8
    rw [if_neg (by omega), if_neg (by omega), if_neg (by omega), if_neg (by omega), if_neg (by omega), if_neg (by omega), if_neg (by omega), if_neg (by omega), if_pos hk8]
  have eL2 : lnLaw B n (T, W, g, r) = (if ¬ (9 ≤ k ∧ k ≤ 11) then (T, W, g, pFl B n 1 (pGo B n r)) else if g (2 + (k - 9)) = true then (T, W, g, pFl B n 3 (pGo B n r)) else (tu1 T 7 (lwE B n (k - 9) (T, W, g, r)).2.2.2.2.2.2, wup W (k - 9) (lwE B n (k - 9) (T, W, g, r)).2.2.2.2.1, gup g (2 + (k - 9)), (lwE B n (k - 9) (T, W, g, r)).1)) := by rw [hk]; rfl
  rw [eL2] at eL
  by_cases q9 : 9 ≤ k ∧ k ≤ 11
  · rw [if_neg (fun e => e q9)] at eL
    obtain ⟨q, hq⟩ : ∃ q, q = k - 9 := ⟨_, rfl⟩
    rw [← hq] at eL
    have q3 : q < 3 := by omega
    have sk : swp k = k := (swp_le k (by omega)).2.2.2.2.2.2.2.1 (by omega)
    have ix : nI (3 + k) - 9 = nI (3 + q) := by rw [show nI (3 + k) - 9 = nI (3 + k - 9) from pk_sub (b := 9) (by omega)]; exact congrArg nI (by omega)
    obtain ⟨l1, l2⟩ := hl q q3
    have l1 : x.1 (bM + 43) (3 + q) = bI (g (2 + q)) := l1
    by_cases gq : g (2 + q) = true
    · rw [if_pos gq] at eL
      rw [gq] at l1
      have nf : ¬ (rdL B n (T, W, g, r)).2.2.2.2.1 = 0 := by rw [eL]; show ¬ 3 = 0; decide
      refine a_aload_n (i := 0) dX12_lineRead_144 rfl rfl ?_
      refine kgX12_227 rfl dX12_lineRead_145 (Nat.le_of_ble_eq_true rfl) (isM_0 hM) (c_X12_token hM hb (mP_n hr h0).1 (mP_n hr h0).2) ?_
      rintro v y1 ⟨rfl, u0, F1⟩
      have r1 := mP_go hr h0 u0 F1
      have fl := mP_fl (c := 3) r1 rfl (by decide)
      have km := (r1.1 rfl).2.1.2.2
      rw [← hk] at km
      obtain ⟨e8, e9⟩ := kM_1 km
      have e8 := e8.mpr (by omega)
      have e9 := e9 (by omega)
      rw [sk] at e9
      have t1 : y1.1 (bM + 43) (3 + q) = 1 := by rw [F1.1 _ _ (by omega)]; exact l1
      refine a_aload_n (i := 0) dX12_lineRead_148 rfl rfl ?_
      refine gX12_193 rfl dX12_lineRead_149 (isM_0 hM) ?_
      rw [e8]
      refine a_iconst (v := 1) dX12_lineRead_152 (by decide) ?_
      refine a_icmp_ne (tg := 174) dX12_lineRead_153 (by decide) (fun c_153 => ?_) (fun c_153 => ?_)
      · exact absurd rfl c_153
      · refine a_aload_n (i := 0) dX12_lineRead_156 rfl rfl ?_
        refine gX12_204 rfl dX12_lineRead_157 (isM_0 hM) ?_
        rw [e9]
        refine a_bipush (v := 9) dX12_lineRead_160 (by decide) ?_
        refine a_icmp_lt (tg := 174) dX12_lineRead_162 (by decide) (fun c_162 => ?_) (fun c_162 => ?_)
        · exact absurd c_162 (nI_nlt (b := 9) (by omega) (by omega))
        · refine a_aload_n (i := 0) dX12_lineRead_165 rfl rfl ?_
          refine gX12_204 rfl dX12_lineRead_166 (isM_0 hM) ?_
          rw [e9]
          refine a_bipush (v := 11) dX12_lineRead_169 (by decide) ?_
          refine a_icmp_le (tg := 180) dX12_lineRead_171 (by decide) (fun c_171 => ?_) (fun c_171 => ?_)
          · refine a_iconst (v := 3) dX12_lineRead_180 (by decide) ?_
            refine a_aload_n (i := 0) dX12_lineRead_181 rfl rfl ?_
            refine gX12_204 rfl dX12_lineRead_182 (isM_0 hM) ?_
            rw [e9]
            refine a_iadd dX12_lineRead_185 ?_
            rw [show (3 : Int32) + nI k = nI (3 + k) from nI_add 3 k]
            refine a_bipush (v := 9) dX12_lineRead_186 (by decide) ?_
            refine a_isub dX12_lineRead_188 ?_
            rw [ix]
            refine a_istore_n (i := 2) dX12_lineRead_189 rfl (by decide) ?_
            refine a_aload_n (i := 0) dX12_lineRead_190 rfl rfl ?_
            refine gX12_75 rfl dX12_lineRead_191 (isM_0 hM) ?_
            refine a_iload_n (i := 2) dX12_lineRead_194 rfl rfl ?_
            refine a_zaldN dX12_lineRead_195 (isM_43 hM) (by first | with_reducible exact rfl | with_reducible exact ix8 _ _ | with_reducible exact ix12 _ _ | exact rfl) (by omega) (by decide) ?_
            rw [t1]
            refine a_if_eq (tg := 205) dX12_lineRead_196 (by decide) (fun c_196 => ?_) (fun c_196 => ?_)
            · exact absurd c_196 (by decide)
            · refine a_aload_n (i := 0) dX12_lineRead_199 rfl rfl ?_
              refine a_iconst (v := 3) dX12_lineRead_200 (by decide) ?_
              refine kX12_217 rfl dX12_lineRead_201 (Nat.le_of_ble_eq_true rfl) (isM_0 hM) (c_X12_wrong (c := 3) hM) ?_
              exact a_iret dX12_lineRead_204 (by exact ⟨by rw [rdN_f nf, bI_f nf], by rw [rdN_f nf, eL]; exact mK_bad (P := (T, W, g, pFl B n 3 (pGo B n r))) (mBt_u hb (mW_t (mU_s F1) fl.2)) fl.1 bd (by show ¬ 3 = 0; decide), mW_u (mW_t (mU_s F1) fl.2)⟩)
          · exact absurd (nI_le (b := 11) (by omega) (by decide)) c_171
    · rw [if_neg gq] at eL
      have gf : g (2 + q) = false := by cases h : g (2 + q) <;> simp_all
      rw [gf] at l1
      have w0 : (W q).1 = 0 := (pW q q3).2 gf
      have h23 : x.1 bM 23 = nI (T.1 7) := hT.2.2.2.2.2.1
      have FIN : ∀ y1 z1 y2 z2 y3 : aS, mSt x y1 → z1 = aWr y1 (bM + 43) (3 + q) 1 → mSt z1 y2 → z2 = aWr y2 (bM + 44) (3 + q) (nI (T.1 7)) → mP n B (sfin B n (lwE B n q (T, W, g, r))) y3 → ((sfin B n (lwE B n q (T, W, g, r))).2.1 = 0 → mEs (T.1 7) (lwE B n q (T, W, g, r)) y3 ∧ (lwE B n q (T, W, g, r)).2.1 = false ∧ (lwE B n q (T, W, g, r)).2.2.1 = 0) → mW (eC (T.1 7)) z2 y3 → mW rC x (aWr y3 (bM + 45) (3 + q) (y3.1 bM 23)) ∧ (decide ((sfin B n (lwE B n q (T, W, g, r))).2.1 = 0) = false → mK n B (rdN B n (T, W, g, r)) (aWr y3 (bM + 45) (3 + q) (y3.1 bM 23)) ∧ ¬ (rdN B n (T, W, g, r)).2.2.2.2.1 = 0) ∧ (decide ((sfin B n (lwE B n q (T, W, g, r))).2.1 = 0) = true → (rdL B n (T, W, g, r)).2.2.2.2.1 = 0 ∧ mK n B (rdL B n (T, W, g, r)) (aWr y3 (bM + 45) (3 + q) (y3.1 bM 23))) := by
        intro y1 z1 y2 z2 y3 F1 hz1 F2 hz2 R3 E3 F3
        have Wz : mW rC x z2 := by
          rw [hz2]
          refine mW_t (mW_t (mW_u (mU_s F1)) ?_) (mW_w (Or.inr (rC_q (by decide) (by decide))))
          refine mW_t (y := z1) ?_ (mW_u (mU_s F2))
          rw [hz1]; exact mW_w (Or.inr (rC_q (by decide) (by decide)))
        have W3 : mW rC x y3 := mW_t Wz (mW_c rC_e F3)
        have W4 : mW rC x (aWr y3 (bM + 45) (3 + q) (y3.1 bM 23)) := mW_t W3 (mW_w (Or.inr (rC_q (by decide) (by decide))))
        have b4 := mBt_W rC_b hb W4
        refine ⟨W4, fun e => ?_, fun e => ?_⟩
        · have e := of_decide_eq_false e
          have sb := sfin_b (T := (rdL B n (T, W, g, r)).1) e
          have eN : (rdN B n (T, W, g, r)).2.2.2 = sfin B n (lwE B n q (T, W, g, r)) := by
            rw [← sb]
            show (lnEnd B n (rdL B n (T, W, g, r)).1 (rdL B n (T, W, g, r)).2.2.2).2 = _
            rw [show (rdL B n (T, W, g, r)).2.2.2 = (lwE B n q (T, W, g, r)).1 from by rw [eL]]
          exact ⟨mK_bad b4 (by rw [eN]; exact mP_w R3 (Or.inl (by decide))) (tBd_end (tBd_l bd)) (by rw [eN]; exact e), by rw [eN]; exact e⟩
        · have e := of_decide_eq_true e
          obtain ⟨s1, s2, s3⟩ := sfin_g e
          obtain ⟨Es, ed, ew⟩ := E3 e
          rw [s3] at R3
          have ok := (eGo_ok (B := B) (n := n) (f := T.1 7) (n + 1) (pGo B n (pGo B n r), true, 0, (fun _ => 0), W q, 0, T.1 7) (fun _ => ⟨i3, by show T.1 7 + (W q).1 + 0 = T.1 7; rw [w0]; rfl, p7, rfl, Nat.zero_le _, fun j hj => absurd hj (Nat.not_lt_zero j)⟩) (fun _ => by show n + 1 ≤ (pGo B n (pGo B n r)).1 + (n + 1); omega)).1
          have ok : eOk n (T.1 7) (lwE B n q (T, W, g, r)) := ok
          generalize lwE B n q (T, W, g, r) = R at R3 s1 s2 s3 Es ed ew ok eL E3
          obtain ⟨-, o2, o3, -⟩ := ok s1
          rw [ew] at o2
          have o2 : T.1 7 + R.2.2.2.2.1.1 + 0 = R.2.2.2.2.2.2 := o2
          have y23 : y3.1 bM 23 = nI (T.1 7 + R.2.2.2.2.1.1) := Es.2.2.2.2.1
          have y53 : y3.1 bM 53 = nI R.2.2.2.2.2.2 := Es.2.2.2.1
          rw [eL]
          refine ⟨s1, b4, mP_w R3 (Or.inl (by decide)), bd, fun _ => ⟨o3, fun p hp => ?_⟩, fun _ => ⟨?_, ?_, ?_, by rw [aWr_n _ _ _ (by decide)]; exact y53, fun p hp => ?_⟩⟩
          · show (wup W q R.2.2.2.2.1 p).1 ≤ 64 ∧ (gup g (2 + q) (2 + p) = false → (wup W q R.2.2.2.2.1 p).1 = 0)
            by_cases ep : p = q
            · subst ep
              rw [show gup g (2 + p) (2 + p) = true from if_pos rfl, show wup W p R.2.2.2.2.1 p = R.2.2.2.2.1 from if_pos rfl]
              exact ⟨by omega, fun e => absurd e (by decide)⟩
            · rw [show gup g (2 + q) (2 + p) = g (2 + p) from if_neg (by omega), show wup W q R.2.2.2.2.1 p = W p from if_neg ep]
              exact pW p hp
          · -- the rest of the text stays
            have X : ∀ m j, bM ≤ m → (m = bM → 12 ≤ j ∧ j ≤ 17) → ¬ ((m = bM ∧ j = 17) ∨ bM + 43 ≤ m) → (shr (aWr y3 (bM + 45) (3 + q) (y3.1 bM 23))).1 m j = (shr x).1 m j := by
              intro m j h1 h2 h3
              have ch : ∀ m' j', ¬ (m' = bM ∧ (j' ≤ 11 ∨ 23 ≤ j')) → m' < bM + 43 → (aWr y3 (bM + 45) (3 + q) (y3.1 bM 23)).1 m' j' = x.1 m' j' := by
                intro m' j' a b
                rw [aWr_o _ _ (by omega), F3.1 _ _ (fun e => by unfold mUc at e; omega) (fun e => by unfold eC at e; omega), hz2, aWr_o _ _ (by omega), F2.1 _ _ (by omega), hz1, aWr_o _ _ (by omega), F1.1 _ _ (by omega)]
              by_cases e : m = bM
              · subst e
                rw [shr_0, shr_0]
                exact ch _ _ (by omega) (by omega)
              · obtain ⟨c, rfl⟩ : ∃ c, m = bM + c := ⟨m - bM, by omega⟩
                rw [shr_r _ (by omega) rfl, shr_r _ (by omega) rfl]
                exact ch _ _ (by omega) (by omega)
            refine rTM_knots (x := shr x) hT bd X ?_
            rw [shr_0, aWr_n _ _ _ (by decide)]
            show y3.1 bM 23 = nI R.2.2.2.2.2.2
            rw [y23]; exact congrArg nI (by omega)
          · show _ = bI (gup g (2 + q) 0)
            rw [show gup g (2 + q) 0 = g 0 from if_neg (by omega), aWr_n _ _ _ (by decide), F3.1 _ _ (fun e => by unfold mUc at e; omega) (fun e => by unfold eC at e; omega), hz2, aWr_n _ _ _ (by decide), F2.1 _ _ (by omega), hz1, aWr_n _ _ _ (by decide), F1.1 _ _ (by omega)]; exact g0
          · show _ = bI (gup g (2 + q) 1)
            rw [show gup g (2 + q) 1 = g 1 from if_neg (by omega), aWr_n _ _ _ (by decide), F3.1 _ _ (fun e => by unfold mUc at e; omega) (fun e => by unfold eC at e; omega), hz2, aWr_n _ _ _ (by decide), F2.1 _ _ (by omega), hz1, aWr_n _ _ _ (by decide), F1.1 _ _ (by omega)]; exact g1
          · show _ = bI (gup g (2 + q) (2 + p)) ∧ (gup g (2 + q) (2 + p) = true → mLq (R.2.2.2.2.2.2) (wup W q R.2.2.2.2.1 p) (aWr y3 (bM + 45) (3 + q) (y3.1 bM 23)) p)
            by_cases ep : p = q
            · subst ep
              rw [show gup g (2 + p) (2 + p) = true from if_pos rfl, show wup W p R.2.2.2.2.1 p = R.2.2.2.2.1 from if_pos rfl]
              refine ⟨by rw [aWr_n _ _ _ (by decide), F3.1 _ _ (fun e => by unfold mUc at e; omega) (fun e => by unfold eC at e; omega), hz2, aWr_n _ _ _ (by decide), F2.1 _ _ (by omega), hz1, aWr_s]; rfl, fun _ => ?_⟩
              obtain ⟨pos, P', O', rl⟩ := mEs_law (z := aWr y3 (bM + 45) (3 + p) (y3.1 bM 23)) Es ed ew (by omega) (fun m j a b => aWr_o _ _ (by omega))
              exact ⟨pos, T.1 7, P', O', by rw [aWr_n _ _ _ (by decide), F3.1 _ _ (fun e => by unfold mUc at e; omega) (fun e => by unfold eC at e; omega), hz2, aWr_s], by rw [aWr_s]; exact y23, by omega, rl⟩
            · rw [show gup g (2 + q) (2 + p) = g (2 + p) from if_neg (by omega), show wup W q R.2.2.2.2.1 p = W p from if_neg ep]
              obtain ⟨a1, a2⟩ := hl p hp
              have ch : ∀ m j, (m = bM + 43 ∨ m = bM + 44 ∨ m = bM + 45) → j = 3 + p → (aWr y3 (bM + 45) (3 + q) (y3.1 bM 23)).1 m j = x.1 m j := fun m j a b => by
                rw [aWr_o _ _ (by omega), F3.1 _ _ (fun e => by unfold mUc at e; omega) (fun e => by unfold eC at e; omega), hz2, aWr_o _ _ (by omega), F2.1 _ _ (by omega), hz1, aWr_o _ _ (by omega), F1.1 _ _ (by omega)]
              refine ⟨by rw [ch _ _ (Or.inl rfl) rfl]; exact a1, fun gp => ?_⟩
              exact mLq_f (a2 gp) (by show T.1 7 ≤ _; omega) (fun m hm => ch _ _ (by omega) rfl) (fun m j h1 h2 h3 => by
                have h3 : j < T.1 7 := h3
                rw [aWr_o _ _ (by omega), F3.1 _ _ (fun e => by unfold mUc at e; omega) (fun e => by unfold eC at e; omega), hz2, aWr_o _ _ (by omega), F2.1 _ _ (by omega), hz1, aWr_o _ _ (by omega), F1.1 _ _ (by omega)])
      refine a_aload_n (i := 0) dX12_lineRead_144 rfl rfl ?_
      refine kgX12_227 rfl dX12_lineRead_145 (Nat.le_of_ble_eq_true rfl) (isM_0 hM) (c_X12_token hM hb (mP_n hr h0).1 (mP_n hr h0).2) ?_
      rintro v y1 ⟨rfl, u0, F1⟩
      have r1 := mP_go hr h0 u0 F1
      have b1 := mBt_u hb (mU_s F1)
      have km := (r1.1 rfl).2.1.2.2
      rw [← hk] at km
      obtain ⟨e8, e9⟩ := kM_1 km
      have e8 := e8.mpr (by omega)
      have e9 := e9 (by omega)
      rw [sk] at e9
      have t1 : y1.1 (bM + 43) (3 + q) = 0 := by rw [F1.1 _ _ (by omega)]; exact l1
      obtain ⟨z1, hz1⟩ : ∃ z1, z1 = aWr y1 (bM + 43) (3 + q) 1 := ⟨_, rfl⟩
      have zr1 : mP n B (pGo B n r) z1 := by rw [hz1]; exact mP_w r1 (Or.inl (by decide))
      have zb1 : mBt n B z1 := mBt_W rC_b b1 (by rw [hz1]; exact mW_w (Or.inr (rC_q (by decide) (by decide))))
      refine a_aload_n (i := 0) dX12_lineRead_148 rfl rfl ?_
      refine gX12_193 rfl dX12_lineRead_149 (isM_0 hM) ?_
      rw [e8]
      refine a_iconst (v := 1) dX12_lineRead_152 (by decide) ?_
      refine a_icmp_ne (tg := 174) dX12_lineRead_153 (by decide) (fun c_153 => ?_) (fun c_153 => ?_)
      · exact absurd rfl c_153
      · refine a_aload_n (i := 0) dX12_lineRead_156 rfl rfl ?_
        refine gX12_204 rfl dX12_lineRead_157 (isM_0 hM) ?_
        rw [e9]
        refine a_bipush (v := 9) dX12_lineRead_160 (by decide) ?_
        refine a_icmp_lt (tg := 174) dX12_lineRead_162 (by decide) (fun c_162 => ?_) (fun c_162 => ?_)
        · exact absurd c_162 (nI_nlt (b := 9) (by omega) (by omega))
        · refine a_aload_n (i := 0) dX12_lineRead_165 rfl rfl ?_
          refine gX12_204 rfl dX12_lineRead_166 (isM_0 hM) ?_
          rw [e9]
          refine a_bipush (v := 11) dX12_lineRead_169 (by decide) ?_
          refine a_icmp_le (tg := 180) dX12_lineRead_171 (by decide) (fun c_171 => ?_) (fun c_171 => ?_)
          · refine a_iconst (v := 3) dX12_lineRead_180 (by decide) ?_
            refine a_aload_n (i := 0) dX12_lineRead_181 rfl rfl ?_
            refine gX12_204 rfl dX12_lineRead_182 (isM_0 hM) ?_
            rw [e9]
            refine a_iadd dX12_lineRead_185 ?_
            rw [show (3 : Int32) + nI k = nI (3 + k) from nI_add 3 k]
            refine a_bipush (v := 9) dX12_lineRead_186 (by decide) ?_
            refine a_isub dX12_lineRead_188 ?_
            rw [ix]
            refine a_istore_n (i := 2) dX12_lineRead_189 rfl (by decide) ?_
            refine a_aload_n (i := 0) dX12_lineRead_190 rfl rfl ?_
            refine gX12_75 rfl dX12_lineRead_191 (isM_0 hM) ?_
            refine a_iload_n (i := 2) dX12_lineRead_194 rfl rfl ?_
            refine a_zaldN dX12_lineRead_195 (isM_43 hM) (by first | with_reducible exact rfl | with_reducible exact ix8 _ _ | with_reducible exact ix12 _ _ | exact rfl) (by omega) (by decide) ?_
            rw [t1]
            refine a_if_eq (tg := 205) dX12_lineRead_196 (by decide) (fun c_196 => ?_) (fun c_196 => ?_)
            · refine a_aload_n (i := 0) dX12_lineRead_205 rfl rfl ?_
              refine gX12_75 rfl dX12_lineRead_206 (isM_0 hM) ?_
              refine a_iload_n (i := 2) dX12_lineRead_209 rfl rfl ?_
              refine a_iconst (v := 1) dX12_lineRead_210 (by decide) ?_
              refine a_zastN dX12_lineRead_211 (isM_43 hM) (by first | with_reducible exact rfl | with_reducible exact ix8 _ _ | with_reducible exact ix12 _ _ | exact rfl) (by omega) (by decide) (by first | exact Or.inl rfl | exact Or.inr rfl | assumption) ?_
              rw [← hz1]
              refine a_aload_n (i := 0) dX12_lineRead_212 rfl rfl ?_
              refine kgX12_227 rfl dX12_lineRead_213 (Nat.le_of_ble_eq_true rfl) (isM_0 hM) (c_X12_token hM zb1 (mP_n zr1 rfl).1 (mP_n zr1 rfl).2) ?_
              rintro v y2 ⟨rfl, u2, F2⟩
              have r2 := mP_go zr1 rfl u2 F2
              have b2 := mBt_u zb1 (mU_s F2)
              have c2 : y2.1 bM 23 = nI (T.1 7) := by rw [F2.1 _ _ (by omega), hz1, aWr_n _ _ _ (by decide), F1.1 _ _ (by omega)]; exact h23
              have d2 : y2.1 bM 53 = nI (T.1 7) := by rw [F2.1 _ _ (by omega), hz1, aWr_n _ _ _ (by decide), F1.1 _ _ (by omega)]; exact h53
              obtain ⟨z2, hz2⟩ : ∃ z2, z2 = aWr y2 (bM + 44) (3 + q) (nI (T.1 7)) := ⟨_, rfl⟩
              have zr2 : mP n B (pGo B n (pGo B n r)) z2 := by rw [hz2]; exact mP_w r2 (Or.inl (by decide))
              have zb2 : mBt n B z2 := mBt_W rC_b b2 (by rw [hz2]; exact mW_w (Or.inr (rC_q (by decide) (by decide))))
              refine a_aload_n (i := 0) dX12_lineRead_216 rfl rfl ?_
              refine gX12_78 rfl dX12_lineRead_217 (isM_0 hM) ?_
              refine a_iload_n (i := 2) dX12_lineRead_220 rfl rfl ?_
              refine a_aload_n (i := 0) dX12_lineRead_221 rfl rfl ?_
              refine gX12_252 rfl dX12_lineRead_222 (isM_0 hM) ?_
              rw [c2]
              refine a_iastN dX12_lineRead_225 (isM_44 hM) (by first | with_reducible exact rfl | with_reducible exact ix8 _ _ | with_reducible exact ix12 _ _ | exact rfl) (by omega) (by decide) ?_
              rw [← hz2]
              refine a_aload_n (i := 0) dX12_lineRead_226 rfl rfl ?_
              refine kgX12_313 rfl dX12_lineRead_227 (Nat.le_of_ble_eq_true rfl) (isM_0 hM) (c_X12_sumRead (s0 := fun _ => 0) (L := W q) hM zb2 zr2 rfl (by rw [hz2, aWr_n _ _ _ (by decide)]; exact c2) (by rw [hz2, aWr_n _ _ _ (by decide)]; exact d2) p7 w0) ?_
              rintro v y3 ⟨rfl, R3, E3, F3⟩
              obtain ⟨A1, A2, A3⟩ := FIN y1 z1 y2 z2 y3 F1 hz1 F2 hz2 R3 E3 F3
              refine a_istore_n (i := 1) dX12_lineRead_230 rfl (by decide) ?_
              refine a_aload_n (i := 0) dX12_lineRead_231 rfl rfl ?_
              refine gX12_81 rfl dX12_lineRead_232 (isM_0 hM) ?_
              refine a_iload_n (i := 2) dX12_lineRead_235 rfl rfl ?_
              refine a_aload_n (i := 0) dX12_lineRead_236 rfl rfl ?_
              refine gX12_252 rfl dX12_lineRead_237 (isM_0 hM) ?_
              refine a_iastN dX12_lineRead_240 (isM_45 hM) (by first | with_reducible exact rfl | with_reducible exact ix8 _ _ | with_reducible exact ix12 _ _ | exact rfl) (by omega) (by decide) ?_
              exact a_loc _ rfl (lr_end (lv := [(2, .int (nI (3 + q)))]) hM A1 A2 A3)
            · exact absurd rfl c_196
          · exact absurd (nI_le (b := 11) (by omega) (by decide)) c_171
  · rw [if_pos q9] at eL
    have nf : ¬ (rdL B n (T, W, g, r)).2.2.2.2.1 = 0 := by rw [eL]; show ¬ 1 = 0; decide
    have FL : ∀ y1 : aS, mSt x y1 → mP n B (pGo B n r) y1 → mLr n B (T, W, g, r) x (some (.int 0)) (aWr (aWr y1 bM 4 (nI 1)) bM 5 (y1.1 bM 10)) := by
      intro y1 F1 r1
      have fl := mP_fl (c := 1) r1 rfl (by decide)
      exact ⟨by rw [rdN_f nf, bI_f nf], by rw [rdN_f nf, eL]; exact mK_bad (P := (T, W, g, pFl B n 1 (pGo B n r))) (mBt_u hb (mW_t (mU_s F1) fl.2)) fl.1 bd (by show ¬ 1 = 0; decide), mW_u (mW_t (mU_s F1) fl.2)⟩
    by_cases q21 : k ≤ 21
    · have sw := swp_le k q21
      have no : ¬ (9 ≤ swp k ∧ swp k ≤ 11) := fun e => q9 (sw.2.2.2.2.2.2.2.2.mp e)
      refine a_aload_n (i := 0) dX12_lineRead_144 rfl rfl ?_
      refine kgX12_227 rfl dX12_lineRead_145 (Nat.le_of_ble_eq_true rfl) (isM_0 hM) (c_X12_token hM hb (mP_n hr h0).1 (mP_n hr h0).2) ?_
      rintro v y1 ⟨rfl, u0, F1⟩
      have r1 := mP_go hr h0 u0 F1
      have km := (r1.1 rfl).2.1.2.2
      rw [← hk] at km
      obtain ⟨e8, e9⟩ := kM_1 km
      have e8 := e8.mpr (by omega)
      have e9 := e9 (by omega)
      refine a_aload_n (i := 0) dX12_lineRead_148 rfl rfl ?_
      refine gX12_193 rfl dX12_lineRead_149 (isM_0 hM) ?_
      rw [e8]
      refine a_iconst (v := 1) dX12_lineRead_152 (by decide) ?_
      refine a_icmp_ne (tg := 174) dX12_lineRead_153 (by decide) (fun c_153 => ?_) (fun c_153 => ?_)
      · exact absurd rfl c_153
      · refine a_aload_n (i := 0) dX12_lineRead_156 rfl rfl ?_
        refine gX12_204 rfl dX12_lineRead_157 (isM_0 hM) ?_
        rw [e9]
        refine a_bipush (v := 9) dX12_lineRead_160 (by decide) ?_
        refine a_icmp_lt (tg := 174) dX12_lineRead_162 (by decide) (fun c_162 => ?_) (fun c_162 => ?_)
        · refine a_aload_n (i := 0) dX12_lineRead_174 rfl rfl ?_
          refine a_iconst (v := 1) dX12_lineRead_175 (by decide) ?_
          refine kX12_217 rfl dX12_lineRead_176 (Nat.le_of_ble_eq_true rfl) (isM_0 hM) (c_X12_wrong (c := 1) hM) ?_
          exact a_iret dX12_lineRead_179 (by exact FL y1 F1 r1)
        · refine a_aload_n (i := 0) dX12_lineRead_165 rfl rfl ?_
          refine gX12_204 rfl dX12_lineRead_166 (isM_0 hM) ?_
          rw [e9]
          refine a_bipush (v := 11) dX12_lineRead_169 (by decide) ?_
          refine a_icmp_le (tg := 180) dX12_lineRead_171 (by decide) (fun c_171 => ?_) (fun c_171 => ?_)
          · exact absurd ⟨(nI_leI (a := 9) (by decide) (by omega)).mp (Int32.not_lt.mp c_162), (nI_leI (b := 11) (by omega) (by decide)).mp c_171⟩ no
          · refine a_aload_n (i := 0) dX12_lineRead_174 rfl rfl ?_
            refine a_iconst (v := 1) dX12_lineRead_175 (by decide) ?_
            refine kX12_217 rfl dX12_lineRead_176 (Nat.le_of_ble_eq_true rfl) (isM_0 hM) (c_X12_wrong (c := 1) hM) ?_
            exact a_iret dX12_lineRead_179 (by exact FL y1 F1 r1)
    · refine a_aload_n (i := 0) dX12_lineRead_144 rfl rfl ?_
      refine kgX12_227 rfl dX12_lineRead_145 (Nat.le_of_ble_eq_true rfl) (isM_0 hM) (c_X12_token hM hb (mP_n hr h0).1 (mP_n hr h0).2) ?_
      rintro v y1 ⟨rfl, u0, F1⟩
      have r1 := mP_go hr h0 u0 F1
      have km := (r1.1 rfl).2.1.2.2
      rw [← hk] at km
      obtain ⟨e8, e9⟩ := kM_1 km
      refine a_aload_n (i := 0) dX12_lineRead_148 rfl rfl ?_
      refine gX12_193 rfl dX12_lineRead_149 (isM_0 hM) ?_
      refine a_iconst (v := 1) dX12_lineRead_152 (by decide) ?_
      refine a_icmp_ne (tg := 174) dX12_lineRead_153 (by decide) (fun c_153 => ?_) (fun c_153 => ?_)
      · refine a_aload_n (i := 0) dX12_lineRead_174 rfl rfl ?_
        refine a_iconst (v := 1) dX12_lineRead_175 (by decide) ?_
        refine kX12_217 rfl dX12_lineRead_176 (Nat.le_of_ble_eq_true rfl) (isM_0 hM) (c_X12_wrong (c := 1) hM) ?_
        exact a_iret dX12_lineRead_179 (by exact FL y1 F1 r1)
      · exact absurd (e8.mp c_153) q21
end qBG
