/-! READING an E, the model: signs, sumRead -/
def cvk (k : Nat) : Int32 := if 0 < kBd k ∧ ¬ k = 14 then kcd k else 0
theorem cvk_c : ∀ k, 27 ≤ k → k ≤ 32 → cvk k = nI (5 + (k - 27)) := by
  intro k h1 h2
  rcases (by omega : k = 27 ∨ k = 28 ∨ k = 29 ∨ k = 30 ∨ k = 31 ∨ k = 32) with rfl | rfl | rfl | rfl | rfl | rfl <;> decide
theorem cvk_0 : ∀ k, k < 39 → ¬ k = 13 → ¬ k = 12 → ¬ (27 ≤ k ∧ k ≤ 32) → ¬ k = 33 → ¬ k = 34 → ¬ k = 35 → ¬ k = 36 → cvk k = 0 ∧ ¬ (0 < kBd k ∧ ¬ k = 14) := by
  intro k h a b c e f g i
  have no : ¬ (0 < kBd k ∧ ¬ k = 14) := fun q => by have := kBd_r k h q.1 q.2; omega
  exact ⟨if_neg no, no⟩
theorem kBd_3 : ∀ k, k < 39 → ¬ k = 14 → ¬ kBd k = 3 := by decide +kernel
theorem cvk_n : ∀ k, k < 39 → 0 < kBd k → ¬ k = 14 → ¬ kcd k = 0 ∧ ¬ k = 24 ∧ ¬ k = 25 := by decide +kernel
def sgS (B : Nat → Nat) (n : Nat) (S : eS) : eS :=
  if 0 < kBd (tok B n S.1.1).1 ∧ ¬ (tok B n S.1.1).1 = 14 then eNx B n (eDu true (eSg B n (tok B n S.1.1).1 S))
  else if (tok B n S.1.1).1 = 25 ∧ 0 < S.2.2.2.2.2.1 then eNx B n (eDu false (eCl S)) else eFl B n 1 S
section qBE
variable {l : Launch} {d : Nat} {D : Nat → Bool} {x y : aS} {n f : Nat} {B : Nat → Nat} {S : eS} {r r' : zP}
set_option maxHeartbeats 8000000 in
set_option maxRecDepth 100000 in
theorem c_X12_signs (hM : D 12 = true) (hb : mBt n B x) (hr : mP n B S.1 x) (h0 : S.1.2.1 = 0) (hE : mEs f S x) (ok : eOk n f S) (hd : S.2.1 = false) : aCt l mX12_signs (d + 2) D [.ref bM] x (mEq n B f x (sgS B n S)) := by
  refine a_met (by decide) (Nat.le_of_ble_eq_true rfl) (fun v y q => Or.inr (Or.inl ⟨rfl, _, q.1, bI_01 _⟩)) ?_
  obtain ⟨r, du, w, s, L, o, kn⟩ := S
  have hd : du = false := hd
  subst hd
  have h0 : r.2.1 = 0 := h0
  have hr : mP n B r x := hr
  obtain ⟨-, k1, k2, k3, k4, k5⟩ := ok h0
  have k1 : f + L.1 + wcn s w = kn := k1
  have k2 : kn ≤ 64 := k2
  have k3 : o = wop s w := k3
  have k4 : o ≤ 8 := k4
  have k5 : ∀ j, j < w → s j < 39 ∧ (s j = 24 ∨ 1 ≤ kBd (s j)) := k5
  have e52 : x.1 bM 52 = nI o := hE.2.2.1
  obtain ⟨i1, rk, -⟩ := hr.1 h0
  have t := tok_ok (B := B) i1
  have km := rk.2.2
  obtain ⟨k, hk⟩ : ∃ k, k = (tok B n r.1).1 := ⟨_, rfl⟩
  rw [← hk] at km
  have k39 : k < 39 := by have := t.2.2.2.2.2.1; omega
  have eS' : sgS B n (r, false, w, s, L, o, kn) = if 0 < kBd k ∧ ¬ k = 14 then eNx B n (eDu true (eSg B n k (r, false, w, s, L, o, kn))) else if k = 25 ∧ 0 < o then eNx B n (eDu false (eCl (r, false, w, s, L, o, kn))) else eFl B n 1 (r, false, w, s, L, o, kn) := by rw [hk]; rfl
  rw [eS']
  have s25 : (x.1 bM 8 = 4 ∧ x.1 bM 9 = 41) ↔ k = 25 := kM_sg km (Or.inr (Or.inl ⟨rfl, rfl⟩))
  have s33 : (x.1 bM 8 = 4 ∧ x.1 bM 9 = 43) ↔ k = 33 := kM_sg km (Or.inr (Or.inr (Or.inr (Or.inl ⟨rfl, rfl⟩))))
  have s34 : (x.1 bM 8 = 4 ∧ x.1 bM 9 = 45) ↔ k = 34 := kM_sg km (Or.inr (Or.inr (Or.inr (Or.inr (Or.inl ⟨rfl, rfl⟩)))))
  have s35 : (x.1 bM 8 = 4 ∧ x.1 bM 9 = 42) ↔ k = 35 := kM_sg km (Or.inr (Or.inr (Or.inr (Or.inr (Or.inr (Or.inl ⟨rfl, rfl⟩))))))
  have s36 : (x.1 bM 8 = 4 ∧ x.1 bM 9 = 47) ↔ k = 36 := kM_sg km (Or.inr (Or.inr (Or.inr (Or.inr (Or.inr (Or.inr ⟨rfl, rfl⟩))))))
  have s13 : (x.1 bM 8 = 1 ∧ x.1 bM 9 = 12) ↔ k = 13 := by
    refine (kM_ky (j := 12) km (by decide)).trans ⟨fun e => (swp_le k e.1).2.2.1.mp e.2, fun e => ?_⟩
    subst e; exact ⟨by decide, by decide⟩
  have s12 : (x.1 bM 8 = 1 ∧ x.1 bM 9 = 13) ↔ k = 12 := by
    refine (kM_ky (j := 13) km (by decide)).trans ⟨fun e => (swp_le k e.1).2.2.2.1.mp e.2, fun e => ?_⟩
    subst e; exact ⟨by decide, by decide⟩
  obtain ⟨s5, s5v⟩ := kM_5 km
  -- the sign's number
  have CH : ∀ Q : Option Value → aS → Prop, aV l mX12_signs (d + 2) D none 148 [(0, .ref bM), (1, .int (cvk k))] [] x Q → aV l mX12_signs (d + 2) D none 47 [(0, .ref bM)] [] x Q := by
    intro Q h
    refine a_aload_n (i := 0) dX12_signs_47 rfl rfl ?_
    refine a_bipush (v := 12) dX12_signs_48 (by decide) ?_
    refine kX12_348 rfl dX12_signs_50 (Nat.le_of_ble_eq_true rfl) (isM_0 hM) (c_X12_isKey hM) ?_
    refine a_if_eq (tg := 60) dX12_signs_53 (by decide) (fun c_53 => ?_) (fun c_53 => ?_)
    · have n13 : ¬ k = 13 := fun e => absurd c_53 (bI_nz.mpr (s13.mpr e))
      refine a_aload_n (i := 0) dX12_signs_60 rfl rfl ?_
      refine a_bipush (v := 13) dX12_signs_61 (by decide) ?_
      refine kX12_348 rfl dX12_signs_63 (Nat.le_of_ble_eq_true rfl) (isM_0 hM) (c_X12_isKey hM) ?_
      refine a_if_eq (tg := 73) dX12_signs_66 (by decide) (fun c_66 => ?_) (fun c_66 => ?_)
      · have n12 : ¬ k = 12 := fun e => absurd c_66 (bI_nz.mpr (s12.mpr e))
        refine a_aload_n (i := 0) dX12_signs_73 rfl rfl ?_
        refine gX12_193 rfl dX12_signs_74 (isM_0 hM) ?_
        refine a_iconst (v := 5) dX12_signs_77 (by decide) ?_
        refine a_icmp_ne (tg := 90) dX12_signs_78 (by decide) (fun c_78 => ?_) (fun c_78 => ?_)
        · have n5 : ¬ (27 ≤ k ∧ k ≤ 32) := fun e => c_78 (s5.mpr e)
          refine a_aload_n (i := 0) dX12_signs_90 rfl rfl ?_
          refine a_bipush (v := 43) dX12_signs_91 (by decide) ?_
          refine kX12_230 rfl dX12_signs_93 (Nat.le_of_ble_eq_true rfl) (isM_0 hM) (c_X12_isSign hM) ?_
          refine a_if_eq (tg := 104) dX12_signs_96 (by decide) (fun c_96 => ?_) (fun c_96 => ?_)
          · have n33 : ¬ k = 33 := fun e => absurd c_96 (bI_nz.mpr (s33.mpr e))
            refine a_aload_n (i := 0) dX12_signs_104 rfl rfl ?_
            refine a_bipush (v := 45) dX12_signs_105 (by decide) ?_
            refine kX12_230 rfl dX12_signs_107 (Nat.le_of_ble_eq_true rfl) (isM_0 hM) (c_X12_isSign hM) ?_
            refine a_if_eq (tg := 118) dX12_signs_110 (by decide) (fun c_110 => ?_) (fun c_110 => ?_)
            · have n34 : ¬ k = 34 := fun e => absurd c_110 (bI_nz.mpr (s34.mpr e))
              refine a_aload_n (i := 0) dX12_signs_118 rfl rfl ?_
              refine a_bipush (v := 42) dX12_signs_119 (by decide) ?_
              refine kX12_230 rfl dX12_signs_121 (Nat.le_of_ble_eq_true rfl) (isM_0 hM) (c_X12_isSign hM) ?_
              refine a_if_eq (tg := 132) dX12_signs_124 (by decide) (fun c_124 => ?_) (fun c_124 => ?_)
              · have n35 : ¬ k = 35 := fun e => absurd c_124 (bI_nz.mpr (s35.mpr e))
                refine a_aload_n (i := 0) dX12_signs_132 rfl rfl ?_
                refine a_bipush (v := 47) dX12_signs_133 (by decide) ?_
                refine kX12_230 rfl dX12_signs_135 (Nat.le_of_ble_eq_true rfl) (isM_0 hM) (c_X12_isSign hM) ?_
                refine a_if_eq (tg := 146) dX12_signs_138 (by decide) (fun c_138 => ?_) (fun c_138 => ?_)
                · have n36 : ¬ k = 36 := fun e => absurd c_138 (bI_nz.mpr (s36.mpr e))
                  rw [(cvk_0 k k39 n13 n12 n5 n33 n34 n35 n36).1] at h
                  refine a_iconst (v := 0) dX12_signs_146 (by decide) ?_
                  refine a_istore_n (i := 1) dX12_signs_147 rfl (by decide) ?_
                  exact a_loc _ rfl h
                · have e := s36.mp (bI_nz.mp c_138)
                  rw [show cvk k = 14 from by rw [e]; decide] at h
                  refine a_bipush (v := 14) dX12_signs_141 (by decide) ?_
                  refine a_goto (tg := 147) dX12_signs_143 (by decide) ?_
                  refine a_istore_n (i := 1) dX12_signs_147 rfl (by decide) ?_
                  exact a_loc _ rfl h
              · have e := s35.mp (bI_nz.mp c_124)
                rw [show cvk k = 13 from by rw [e]; decide] at h
                refine a_bipush (v := 13) dX12_signs_127 (by decide) ?_
                refine a_goto (tg := 147) dX12_signs_129 (by decide) ?_
                refine a_istore_n (i := 1) dX12_signs_147 rfl (by decide) ?_
                exact a_loc _ rfl h
            · have e := s34.mp (bI_nz.mp c_110)
              rw [show cvk k = 12 from by rw [e]; decide] at h
              refine a_bipush (v := 12) dX12_signs_113 (by decide) ?_
              refine a_goto (tg := 147) dX12_signs_115 (by decide) ?_
              refine a_istore_n (i := 1) dX12_signs_147 rfl (by decide) ?_
              exact a_loc _ rfl h
          · have e := s33.mp (bI_nz.mp c_96)
            rw [show cvk k = 11 from by rw [e]; decide] at h
            refine a_bipush (v := 11) dX12_signs_99 (by decide) ?_
            refine a_goto (tg := 147) dX12_signs_101 (by decide) ?_
            refine a_istore_n (i := 1) dX12_signs_147 rfl (by decide) ?_
            exact a_loc _ rfl h
        · have e := s5.mp c_78
          rw [cvk_c k e.1 e.2] at h
          refine a_iconst (v := 5) dX12_signs_81 (by decide) ?_
          refine a_aload_n (i := 0) dX12_signs_82 rfl rfl ?_
          refine gX12_204 rfl dX12_signs_83 (isM_0 hM) ?_
          rw [s5v e]
          refine a_iadd dX12_signs_86 ?_
          rw [show (5 : Int32) + nI (k - 27) = nI (5 + (k - 27)) from nI_add 5 _]
          refine a_goto (tg := 147) dX12_signs_87 (by decide) ?_
          refine a_istore_n (i := 1) dX12_signs_147 rfl (by decide) ?_
          exact a_loc _ rfl h
      · have e := s12.mp (bI_nz.mp c_66)
        rw [show cvk k = 4 from by rw [e]; decide] at h
        refine a_iconst (v := 4) dX12_signs_69 (by decide) ?_
        refine a_goto (tg := 147) dX12_signs_70 (by decide) ?_
        refine a_istore_n (i := 1) dX12_signs_147 rfl (by decide) ?_
        exact a_loc _ rfl h
    · have e := s13.mp (bI_nz.mp c_53)
      rw [show cvk k = 3 from by rw [e]; decide] at h
      refine a_iconst (v := 3) dX12_signs_56 (by decide) ?_
      refine a_goto (tg := 147) dX12_signs_57 (by decide) ?_
      refine a_istore_n (i := 1) dX12_signs_147 rfl (by decide) ?_
      exact a_loc _ rfl h
  have nx : ∀ (b : Bool) (T : eS), T.1 = r → eNx B n (eDu b T) = (pGo B n r, (b, T.2.2)) := fun b T e => by unfold eNx eDu; rw [if_pos (by rw [e]; exact h0), e]
  have nf : ∀ (b : Bool) (T : eS) (c : Nat), ¬ c = 0 → T.1 = pFl B n c r → (eNx B n (eDu b T)).1 = pFl B n c r := fun b T c hc e => by unfold eNx eDu; rw [if_neg (by rw [e]; exact hc)]; exact e
  by_cases qs : 0 < kBd k ∧ ¬ k = 14
  · rw [if_pos qs]
    obtain ⟨kn0, k24, k25⟩ := cvk_n k k39 qs.1 qs.2
    have kb6 : kBd k ≤ 6 := (kBc_n k k39).2
    have cv : cvk k = kcd k := if_pos qs
    have rkk := rk_ok k k39 (Or.inr qs.1)
    have kb3 := kBd_3 k k39 qs.2
    have i25 := bI_f (fun e => k25 (s25.mp e))
    obtain ⟨b, hbb⟩ : ∃ b, b = (if kBd k = 4 then 5 else kBd k) := ⟨_, rfl⟩
    have b1 : 1 ≤ b := by rw [hbb]; split <;> omega
    have b6 : b ≤ 6 := by rw [hbb]; split <;> omega
    have esg : eSg B n k (r, false, w, s, L, o, kn) = if kBd k = 4 ∧ 0 < (rel s b w L).1 ∧ kBd (s ((rel s b w L).1 - 1)) = 4 then eFl B n 1 (eRl b (r, false, w, s, L, o, kn)) else eAw B n k (decide (kn + 1 ≤ 64)) (eKn (eRl b (r, false, w, s, L, o, kn))) := by rw [hbb]; rfl
    have O1 := eOk_rl (b := b) b1 ok
    obtain ⟨-, m1, -, m3, -, m5⟩ := O1 h0
    obtain ⟨w1, hw1⟩ : ∃ w1, w1 = (rel s b w L).1 := ⟨_, rfl⟩
    obtain ⟨L1, hL1⟩ : ∃ L1, L1 = (rel s b w L).2 := ⟨_, rfl⟩
    have eR : eRl b (r, false, w, s, L, o, kn) = (r, false, w1, s, L1, o, kn) := by rw [hw1, hL1]; rfl
    rw [eR] at esg
    rw [← hw1] at esg
    have m1 : f + L1.1 + wcn s w1 = kn := by rw [hw1, hL1]; exact m1
    have m3 : o = wop s w1 := by rw [hw1]; exact m3
    have m5 : ∀ j, j < w1 → s j < 39 ∧ (s j = 24 ∨ 1 ≤ kBd (s j)) := by rw [hw1]; exact m5
    have wo := wc_o s w1
    have sp : ∀ j, j < w1 → sps s w1 k j = s j := fun j hj => if_neg (by omega)
    have sp0 : sps s w1 k w1 = k := if_pos rfl
    -- behind bind
    have TL : ∀ y : aS, mEs f (r, false, w1, s, L1, o, kn) y → mEb f x y → aV l mX12_signs (d + 2) D none 178 [(0, .ref bM), (1, .int (kcd k))] [] y (mEq n B f x (eNx B n (eDu true (eSg B n k (r, false, w, s, L, o, kn))))) := by
      intro y Ey Fy
      obtain ⟨y50, y49, y52, y53, -⟩ := id Ey
      have y50 : y.1 bM 50 = nI w1 := y50
      have y53 : y.1 bM 53 = nI kn := y53
      have yr := mP_e hr Fy
      have TC : ¬ (kBd k = 4 ∧ 0 < w1 ∧ kBd (s (w1 - 1)) = 4) → aV l mX12_signs (d + 2) D none 217 [(0, .ref bM), (1, .int (kcd k))] [] y (mEq n B f x (eNx B n (eDu true (eSg B n k (r, false, w, s, L, o, kn))))) := by
        intro no
        rw [if_neg no] at esg
        have ic := c_X12_isCounted (l := l) (d := d) (D := D) (x := y) hM y53 k2
        by_cases kn64 : kn + 1 ≤ 64
        · have e : eSg B n k (r, false, w, s, L, o, kn) = (r, false, w1 + 1, sps s w1 k, L1, o, kn + 1) := by
            rw [esg]; unfold eAw eKn; rw [if_pos ⟨decide_eq_true kn64, by show w1 < 72; omega⟩]
          rw [e, nx _ _ rfl]
          rw [if_pos kn64, bI_t kn64] at ic
          obtain ⟨mn, hmn⟩ : ∃ mn : Int32, mn = bI (decide (¬ 3 < kBd k)) := ⟨_, rfl⟩
          obtain ⟨z, hz⟩ : ∃ z, z = aWr (aWr (aWr (aWr (aWr y bM 53 (nI (kn + 1))) (bM + 49) w1 (kcd k)) bM 50 (nI (w1 + 1))) bM 54 1) bM 55 mn := ⟨_, rfl⟩
          have F : mEb f y z := by rw [hz]; exact mEb_t (mEb_w (eC_j (by omega))) (mEb_t (mEb_w (Or.inr (Or.inl rfl))) (mEb_t (mEb_w (eC_j (by omega))) (mEb_t (mEb_w (eC_j (by omega))) (mEb_w (eC_j (by omega))))))
          have zo : ∀ m j, ¬ (m = bM + 49 ∧ j = w1) → ¬ (m = bM ∧ (j = 53 ∨ j = 50 ∨ j = 54 ∨ j = 55)) → z.1 m j = y.1 m j := fun m j a c => by rw [hz, aWr_o _ _ (by omega), aWr_o _ _ (by omega), aWr_o _ _ (by omega), aWr_o _ _ (by omega), aWr_o _ _ (by omega)]
          have zE : mEs f (r, true, w1 + 1, sps s w1 k, L1, o, kn + 1) z := by
            refine es_up Ey (fun m j h => zo m j (by omega) (by omega)) (by rw [hz, aWr_j _ _ _ (by decide), aWr_j _ _ _ (by decide), aWr_s]) (fun j hj => ?_) (by rw [zo _ _ (by omega) (by omega)]; exact y52) (by rw [hz, aWr_j _ _ _ (by decide), aWr_j _ _ _ (by decide), aWr_j _ _ _ (by decide), aWr_n _ _ _ (by decide), aWr_s]) (by rw [hz, aWr_j _ _ _ (by decide), aWr_s]; rfl) (fun _ => ?_) ?_
            · by_cases ej : j = w1
              · subst ej; rw [sp0, hz, aWr_n _ _ _ (by decide), aWr_n _ _ _ (by decide), aWr_n _ _ _ (by decide), aWr_s]
              · rw [sp j (by omega), zo _ _ (by omega) (by omega)]; exact y49 j (by show j < w1; omega)
            · rw [show w1 + 1 - 1 = w1 from rfl, sp0, hz, aWr_s, hmn]
              exact congrArg bI (decide_eq_decide.mpr ⟨fun g h => g h.2, fun g h => g ⟨Nat.succ_pos _, h⟩⟩)
            · show wbn (sps s w1 k) w1 + (if sps s w1 k w1 = 24 ∨ sps s w1 k w1 = 14 then 0 else 1) + (if false = true then 1 else 0) = wbn s w1 + 1
              rw [wbn_sps s k w1 w1 (Nat.le_refl _), sp0, if_neg (by have := qs.2; omega), if_neg Bool.false_ne_true]
          have w53 : (aWr y bM 53 (nI (kn + 1))).1 bM 50 = nI w1 := by rw [aWr_j _ _ _ (by decide)]; exact y50
          have F2 := mEb_t Fy F
          by_cases lo : kBd k < 3
          · have m1 : mn = 1 := by rw [hmn, bI_t (by omega)]
            rw [m1] at hz
            refine a_aload_n (i := 0) dX12_signs_217 rfl rfl ?_
            refine kX12_351 rfl dX12_signs_218 (Nat.le_of_ble_eq_true rfl) (isM_0 hM) (ic) ?_
            refine a_if_ne (tg := 226) dX12_signs_221 (by decide) (fun c_221 => ?_) (fun c_221 => ?_)
            · refine a_aload_n (i := 0) dX12_signs_226 rfl rfl ?_
              refine a_iload_n (i := 1) dX12_signs_227 rfl rfl ?_
              refine kX12_340 rfl dX12_signs_228 (Nat.le_of_ble_eq_true rfl) (isM_0 hM) (c_X12_waitsFor hM w53 (by omega)) ?_
              refine a_aload_n (i := 0) dX12_signs_231 rfl rfl ?_
              refine a_iconst (v := 1) dX12_signs_232 (by decide) ?_
              refine pX12_357 rfl dX12_signs_233 (isM_0 hM) (by first | exact Or.inl rfl | exact Or.inr rfl | assumption) ?_
              refine a_aload_n (i := 0) dX12_signs_236 rfl rfl ?_
              refine a_iload_n (i := 1) dX12_signs_237 rfl rfl ?_
              refine kX12_325 rfl dX12_signs_238 (Nat.le_of_ble_eq_true rfl) (c_X12_rank) ?_
              rw [rkk]
              refine a_iconst (v := 3) dX12_signs_241 (by decide) ?_
              refine a_icmp_ge (tg := 249) dX12_signs_242 (by decide) (fun c_242 => ?_) (fun c_242 => ?_)
              · exact absurd ((nI_leI (a := 3) (by decide) (by omega)).mp c_242) (by omega)
              · refine a_iconst (v := 1) dX12_signs_245 (by decide) ?_
                refine a_goto (tg := 250) dX12_signs_246 (by decide) ?_
                refine pX12_344 rfl dX12_signs_250 (isM_0 hM) (by first | exact Or.inl rfl | exact Or.inr rfl | assumption) ?_
                rw [← hz]
                refine a_aload_n (i := 0) dX12_signs_253 rfl rfl ?_
                refine kgX12_227 rfl dX12_signs_254 (Nat.le_of_ble_eq_true rfl) (isM_0 hM) (c_X12_token hM (mBt_e hb F2) (mP_n (mP_e hr F2) h0).1 (mP_n (mP_e hr F2) h0).2) ?_
                rintro v y' ⟨rfl, u0, G⟩
                refine a_iconst (v := 1) dX12_signs_257 (by decide) ?_
                exact a_iret dX12_signs_258 (by exact mEq_g (mP_e hr F2) h0 zE F2 rfl (u0 := u0) G)
            · exact absurd c_221 (by decide)
          · have m1 : mn = 0 := by rw [hmn, bI_f (by omega)]
            rw [m1] at hz
            refine a_aload_n (i := 0) dX12_signs_217 rfl rfl ?_
            refine kX12_351 rfl dX12_signs_218 (Nat.le_of_ble_eq_true rfl) (isM_0 hM) (ic) ?_
            refine a_if_ne (tg := 226) dX12_signs_221 (by decide) (fun c_221 => ?_) (fun c_221 => ?_)
            · refine a_aload_n (i := 0) dX12_signs_226 rfl rfl ?_
              refine a_iload_n (i := 1) dX12_signs_227 rfl rfl ?_
              refine kX12_340 rfl dX12_signs_228 (Nat.le_of_ble_eq_true rfl) (isM_0 hM) (c_X12_waitsFor hM w53 (by omega)) ?_
              refine a_aload_n (i := 0) dX12_signs_231 rfl rfl ?_
              refine a_iconst (v := 1) dX12_signs_232 (by decide) ?_
              refine pX12_357 rfl dX12_signs_233 (isM_0 hM) (by first | exact Or.inl rfl | exact Or.inr rfl | assumption) ?_
              refine a_aload_n (i := 0) dX12_signs_236 rfl rfl ?_
              refine a_iload_n (i := 1) dX12_signs_237 rfl rfl ?_
              refine kX12_325 rfl dX12_signs_238 (Nat.le_of_ble_eq_true rfl) (c_X12_rank) ?_
              rw [rkk]
              refine a_iconst (v := 3) dX12_signs_241 (by decide) ?_
              refine a_icmp_ge (tg := 249) dX12_signs_242 (by decide) (fun c_242 => ?_) (fun c_242 => ?_)
              · refine a_iconst (v := 0) dX12_signs_249 (by decide) ?_
                refine pX12_344 rfl dX12_signs_250 (isM_0 hM) (by first | exact Or.inl rfl | exact Or.inr rfl | assumption) ?_
                rw [← hz]
                refine a_aload_n (i := 0) dX12_signs_253 rfl rfl ?_
                refine kgX12_227 rfl dX12_signs_254 (Nat.le_of_ble_eq_true rfl) (isM_0 hM) (c_X12_token hM (mBt_e hb F2) (mP_n (mP_e hr F2) h0).1 (mP_n (mP_e hr F2) h0).2) ?_
                rintro v y' ⟨rfl, u0, G⟩
                refine a_iconst (v := 1) dX12_signs_257 (by decide) ?_
                exact a_iret dX12_signs_258 (by exact mEq_g (mP_e hr F2) h0 zE F2 rfl (u0 := u0) G)
              · exact absurd (nI_le (a := 3) (by omega) (by omega)) c_242
            · exact absurd c_221 (by decide)
        · have e : (eSg B n k (r, false, w, s, L, o, kn)).1 = pFl B n 2 r := by
            rw [esg]; unfold eAw eKn; rw [if_neg (fun g => kn64 (of_decide_eq_true g.1))]
          have E := nf true _ 2 (by decide) e
          rw [if_neg kn64, bI_f kn64] at ic
          refine a_aload_n (i := 0) dX12_signs_217 rfl rfl ?_
          refine kX12_351 rfl dX12_signs_218 (Nat.le_of_ble_eq_true rfl) (isM_0 hM) (ic) ?_
          refine a_if_ne (tg := 226) dX12_signs_221 (by decide) (fun c_221 => ?_) (fun c_221 => ?_)
          · exact absurd rfl c_221
          · refine a_iconst (v := 0) dX12_signs_224 (by decide) ?_
            exact a_iret dX12_signs_225 (by exact mEq_f (c := 2) hr h0 (by decide) E yr Fy)
      by_cases q4 : kBd k = 4
      · by_cases qw : 0 < w1
        · obtain ⟨a39, a24⟩ := m5 (w1 - 1) (by omega)
          have et : y.1 (bM + 49) (w1 - 1) = kcd (s (w1 - 1)) := y49 (w1 - 1) (by show w1 - 1 < w1; omega)
          have rt := rk_ok (s (w1 - 1)) a39 a24
          have kt6 : kBd (s (w1 - 1)) ≤ 6 := (kBc_n _ a39).2
          have sw : nI w1 - 1 = nI (w1 - 1) := pk_sub (b := 1) qw
          by_cases qt : kBd (s (w1 - 1)) = 4
          · have e : (eSg B n k (r, false, w, s, L, o, kn)).1 = pFl B n 1 r := by rw [esg, if_pos ⟨q4, qw, qt⟩]; rfl
            have E := nf true _ 1 (by decide) e
            refine a_iload_n (i := 1) dX12_signs_178 rfl rfl ?_
            refine kX12_325 rfl dX12_signs_179 (Nat.le_of_ble_eq_true rfl) (c_X12_rank) ?_
            rw [rkk, q4]
            refine a_iconst (v := 4) dX12_signs_182 (by decide) ?_
            refine a_icmp_ne (tg := 217) dX12_signs_183 (by decide) (fun c_183 => ?_) (fun c_183 => ?_)
            · exact absurd rfl c_183
            · refine a_aload_n (i := 0) dX12_signs_186 rfl rfl ?_
              refine gX12_322 rfl dX12_signs_187 (isM_0 hM) ?_
              rw [y50]
              refine a_if_le (tg := 217) dX12_signs_190 (by decide) (fun c_190 => ?_) (fun c_190 => ?_)
              · exact absurd c_190 (nI_nle qw (by omega))
              · refine a_aload_n (i := 0) dX12_signs_193 rfl rfl ?_
                refine gX12_93 rfl dX12_signs_194 (isM_0 hM) ?_
                refine a_aload_n (i := 0) dX12_signs_197 rfl rfl ?_
                refine gX12_322 rfl dX12_signs_198 (isM_0 hM) ?_
                rw [y50]
                refine a_iconst (v := 1) dX12_signs_201 (by decide) ?_
                refine a_isub dX12_signs_202 ?_
                rw [sw]
                refine a_ialdN dX12_signs_203 (isM_49 hM) (by first | with_reducible exact rfl | with_reducible exact ix8 _ _ | with_reducible exact ix12 _ _ | exact rfl) (by omega) (by decide) ?_
                rw [et]
                refine kX12_325 rfl dX12_signs_204 (Nat.le_of_ble_eq_true rfl) (c_X12_rank) ?_
                rw [rt, qt]
                refine a_iconst (v := 4) dX12_signs_207 (by decide) ?_
                refine a_icmp_ne (tg := 217) dX12_signs_208 (by decide) (fun c_208 => ?_) (fun c_208 => ?_)
                · exact absurd rfl c_208
                · refine a_aload_n (i := 0) dX12_signs_211 rfl rfl ?_
                  refine a_iconst (v := 1) dX12_signs_212 (by decide) ?_
                  refine kX12_217 rfl dX12_signs_213 (Nat.le_of_ble_eq_true rfl) (isM_0 hM) (c_X12_wrong (c := 1) hM) ?_
                  exact a_iret dX12_signs_216 (by exact mEq_f (c := 1) hr h0 (by decide) E yr Fy)
          · have K := TC (fun g => qt g.2.2)
            refine a_iload_n (i := 1) dX12_signs_178 rfl rfl ?_
            refine kX12_325 rfl dX12_signs_179 (Nat.le_of_ble_eq_true rfl) (c_X12_rank) ?_
            rw [rkk, q4]
            refine a_iconst (v := 4) dX12_signs_182 (by decide) ?_
            refine a_icmp_ne (tg := 217) dX12_signs_183 (by decide) (fun c_183 => ?_) (fun c_183 => ?_)
            · exact absurd rfl c_183
            · refine a_aload_n (i := 0) dX12_signs_186 rfl rfl ?_
              refine gX12_322 rfl dX12_signs_187 (isM_0 hM) ?_
              rw [y50]
              refine a_if_le (tg := 217) dX12_signs_190 (by decide) (fun c_190 => ?_) (fun c_190 => ?_)
              · exact absurd c_190 (nI_nle qw (by omega))
              · refine a_aload_n (i := 0) dX12_signs_193 rfl rfl ?_
                refine gX12_93 rfl dX12_signs_194 (isM_0 hM) ?_
                refine a_aload_n (i := 0) dX12_signs_197 rfl rfl ?_
                refine gX12_322 rfl dX12_signs_198 (isM_0 hM) ?_
                rw [y50]
                refine a_iconst (v := 1) dX12_signs_201 (by decide) ?_
                refine a_isub dX12_signs_202 ?_
                rw [sw]
                refine a_ialdN dX12_signs_203 (isM_49 hM) (by first | with_reducible exact rfl | with_reducible exact ix8 _ _ | with_reducible exact ix12 _ _ | exact rfl) (by omega) (by decide) ?_
                rw [et]
                refine kX12_325 rfl dX12_signs_204 (Nat.le_of_ble_eq_true rfl) (c_X12_rank) ?_
                rw [rt]
                refine a_iconst (v := 4) dX12_signs_207 (by decide) ?_
                refine a_icmp_ne (tg := 217) dX12_signs_208 (by decide) (fun c_208 => ?_) (fun c_208 => ?_)
                · exact a_loc _ rfl K
                · exact absurd ((nI_eq (b := 4) (by omega) (by decide)).mp c_208) qt
        · have K := TC (fun g => qw g.2.1)
          have w0 : w1 = 0 := by omega
          rw [w0] at y50
          refine a_iload_n (i := 1) dX12_signs_178 rfl rfl ?_
          refine kX12_325 rfl dX12_signs_179 (Nat.le_of_ble_eq_true rfl) (c_X12_rank) ?_
          rw [rkk, q4]
          refine a_iconst (v := 4) dX12_signs_182 (by decide) ?_
          refine a_icmp_ne (tg := 217) dX12_signs_183 (by decide) (fun c_183 => ?_) (fun c_183 => ?_)
          · exact absurd rfl c_183
          · refine a_aload_n (i := 0) dX12_signs_186 rfl rfl ?_
            refine gX12_322 rfl dX12_signs_187 (isM_0 hM) ?_
            rw [y50]
            refine a_if_le (tg := 217) dX12_signs_190 (by decide) (fun c_190 => ?_) (fun c_190 => ?_)
            · exact a_loc _ rfl K
            · exact absurd (Int32.le_refl _) c_190
      · have K := TC (fun g => q4 g.1)
        refine a_iload_n (i := 1) dX12_signs_178 rfl rfl ?_
        refine kX12_325 rfl dX12_signs_179 (Nat.le_of_ble_eq_true rfl) (c_X12_rank) ?_
        rw [rkk]
        refine a_iconst (v := 4) dX12_signs_182 (by decide) ?_
        refine a_icmp_ne (tg := 217) dX12_signs_183 (by decide) (fun c_183 => ?_) (fun c_183 => ?_)
        · exact a_loc _ rfl K
        · exact absurd ((nI_eq (b := 4) (by omega) (by decide)).mp c_183) q4
    have bd := c_X12_bind (l := l) (d := d) (b := b) hM b1 b6 hE ok h0 rfl
    rw [eR] at bd
    have K0 : aV l mX12_signs (d + 2) D none 148 [(0, .ref bM), (1, .int (cvk k))] [] x (mEq n B f x (eNx B n (eDu true (eSg B n k (r, false, w, s, L, o, kn))))) := by
      rw [cv]
      by_cases q4 : kBd k = 4
      · rw [if_pos q4] at hbb
        subst hbb
        refine a_iload_n (i := 1) dX12_signs_148 rfl rfl ?_
        refine a_if_ne (tg := 158) dX12_signs_149 (by decide) (fun c_149 => ?_) (fun c_149 => ?_)
        · refine a_aload_n (i := 0) dX12_signs_158 rfl rfl ?_
          refine a_iload_n (i := 1) dX12_signs_159 rfl rfl ?_
          refine kX12_325 rfl dX12_signs_160 (Nat.le_of_ble_eq_true rfl) (c_X12_rank) ?_
          rw [rkk, q4]
          refine a_iconst (v := 4) dX12_signs_163 (by decide) ?_
          refine a_icmp_ne (tg := 171) dX12_signs_164 (by decide) (fun c_164 => ?_) (fun c_164 => ?_)
          · exact absurd rfl c_164
          · refine a_iconst (v := 5) dX12_signs_167 (by decide) ?_
            refine a_goto (tg := 175) dX12_signs_168 (by decide) ?_
            refine kgX12_360 rfl dX12_signs_175 (Nat.le_of_ble_eq_true rfl) (isM_0 hM) (bd) ?_
            rintro v y ⟨rfl, Ey, Fy⟩
            exact a_loc _ rfl (TL y Ey Fy)
        · exact absurd c_149 kn0
      · rw [if_neg q4] at hbb
        subst hbb
        refine a_iload_n (i := 1) dX12_signs_148 rfl rfl ?_
        refine a_if_ne (tg := 158) dX12_signs_149 (by decide) (fun c_149 => ?_) (fun c_149 => ?_)
        · refine a_aload_n (i := 0) dX12_signs_158 rfl rfl ?_
          refine a_iload_n (i := 1) dX12_signs_159 rfl rfl ?_
          refine kX12_325 rfl dX12_signs_160 (Nat.le_of_ble_eq_true rfl) (c_X12_rank) ?_
          rw [rkk]
          refine a_iconst (v := 4) dX12_signs_163 (by decide) ?_
          refine a_icmp_ne (tg := 171) dX12_signs_164 (by decide) (fun c_164 => ?_) (fun c_164 => ?_)
          · refine a_iload_n (i := 1) dX12_signs_171 rfl rfl ?_
            refine kX12_325 rfl dX12_signs_172 (Nat.le_of_ble_eq_true rfl) (c_X12_rank) ?_
            rw [rkk]
            refine kgX12_360 rfl dX12_signs_175 (Nat.le_of_ble_eq_true rfl) (isM_0 hM) (bd) ?_
            rintro v y ⟨rfl, Ey, Fy⟩
            exact a_loc _ rfl (TL y Ey Fy)
          · exact absurd ((nI_eq (b := 4) (by omega) (by decide)).mp c_164) q4
        · exact absurd c_149 kn0
    refine a_aload_n (i := 0) dX12_signs_0 rfl rfl ?_
    refine a_bipush (v := 41) dX12_signs_1 (by decide) ?_
    refine kX12_230 rfl dX12_signs_3 (Nat.le_of_ble_eq_true rfl) (isM_0 hM) (c_X12_isSign hM) ?_
    rw [i25]
    refine a_if_eq (tg := 47) dX12_signs_6 (by decide) (fun c_6 => ?_) (fun c_6 => ?_)
    · exact a_loc _ rfl (CH _ K0)
    · exact absurd rfl c_6
  · rw [if_neg qs]
    have cv : cvk k = 0 := if_neg qs
    by_cases qc : k = 25 ∧ 0 < o
    · rw [if_pos qc]
      have i25 := bI_t (s25.mpr qc.1)
      have bd := c_X12_bind (l := l) (d := d) (b := 1) hM (Nat.le_refl 1) (by decide) hE ok h0 rfl
      obtain ⟨w1, hw1⟩ : ∃ w1, w1 = (rel s 1 w L).1 := ⟨_, rfl⟩
      obtain ⟨L1, hL1⟩ : ∃ L1, L1 = (rel s 1 w L).2 := ⟨_, rfl⟩
      have eR : eRl 1 (r, false, w, s, L, o, kn) = (r, false, w1, s, L1, o, kn) := by rw [hw1, hL1]; rfl
      rw [eR] at bd
      have ec : eCl (r, false, w, s, L, o, kn) = (r, false, w1 - 1, s, L1, o - 1, kn) := by unfold eCl; rw [eR]
      rw [ec, nx _ _ rfl]
      obtain ⟨ra, rb, rc⟩ := rel_ok s (Nat.le_refl 1) w L
      rw [← hw1] at rb rc
      have rle := rel_le s 1 w L
      rw [← hw1] at rle
      have w1p : 0 < w1 := by
        rcases Nat.eq_zero_or_pos w1 with e | e
        · rw [e] at rb
          have : wop s 0 = 0 := rfl
          omega
        · exact e
      have top : s (w1 - 1) = 24 := by
        rcases (k5 (w1 - 1) (by omega)).2 with e | e
        · exact e
        · have := rc w1p; omega
      have wo1 := wc_o s w1
      have wo2 := wc_o s w
      have wc : wcn s w1 ≤ 72 := by omega
      have w1m : nI w1 - 1 = nI (w1 - 1) := pk_sub (b := 1) w1p
      have o1m : nI o - 1 = nI (o - 1) := pk_sub (b := 1) qc.2
      have GO : ∀ y : aS, mEs f (r, false, w1, s, L1, o, kn) y → mEs f (r, false, w1 - 1, s, L1, o - 1, kn) (aWr (aWr y bM 50 (nI (w1 - 1))) bM 52 (nI (o - 1))) := by
        intro y Ey
        obtain ⟨y50, y49, y52, y53, y23, y54, -⟩ := id Ey
        have zo : ∀ m j, ¬ (m = bM ∧ (j = 50 ∨ j = 52)) → (aWr (aWr y bM 50 (nI (w1 - 1))) bM 52 (nI (o - 1))).1 m j = y.1 m j := fun m j a => by rw [aWr_o _ _ (by omega), aWr_o _ _ (by omega)]
        refine es_up Ey (fun m j h => zo m j (by omega)) (by rw [aWr_j _ _ _ (by decide), aWr_s]) (fun j hj => by rw [zo _ _ (by omega)]; exact y49 j (by show j < w1; omega)) (by rw [aWr_s]) (by rw [zo _ _ (by omega)]; exact y53) (by rw [zo _ _ (by omega)]; exact y54) (fun e => absurd e Bool.false_ne_true) ?_
        obtain ⟨v, rfl⟩ : ∃ v, w1 = v + 1 := ⟨w1 - 1, by omega⟩
        rw [show v + 1 - 1 = v from rfl] at top ⊢
        show wbn s v + _ = wbn s v + (if s v = 24 ∨ s v = 14 then 0 else 1) + _
        rw [if_pos (Or.inl top)]
        rfl
      refine a_aload_n (i := 0) dX12_signs_0 rfl rfl ?_
      refine a_bipush (v := 41) dX12_signs_1 (by decide) ?_
      refine kX12_230 rfl dX12_signs_3 (Nat.le_of_ble_eq_true rfl) (isM_0 hM) (c_X12_isSign hM) ?_
      rw [i25]
      refine a_if_eq (tg := 47) dX12_signs_6 (by decide) (fun c_6 => ?_) (fun c_6 => ?_)
      · exact absurd c_6 (by decide)
      · refine a_aload_n (i := 0) dX12_signs_9 rfl rfl ?_
        refine gX12_337 rfl dX12_signs_10 (isM_0 hM) ?_
        rw [e52]
        refine a_if_le (tg := 47) dX12_signs_13 (by decide) (fun c_13 => ?_) (fun c_13 => ?_)
        · exact absurd c_13 (nI_nle qc.2 (by omega))
        · refine a_aload_n (i := 0) dX12_signs_16 rfl rfl ?_
          refine a_iconst (v := 1) dX12_signs_17 (by decide) ?_
          refine kgX12_360 rfl dX12_signs_18 (Nat.le_of_ble_eq_true rfl) (isM_0 hM) (bd) ?_
          rintro v y ⟨rfl, Ey, Fy⟩
          have y50 : y.1 bM 50 = nI w1 := Ey.1
          have y52 : y.1 bM 52 = nI o := Ey.2.2.1
          have F2 : mEb f x (aWr (aWr y bM 50 (nI (w1 - 1))) bM 52 (nI (o - 1))) := mEb_t Fy (mEb_t (mEb_w (eC_j (by omega))) (mEb_w (eC_j (by omega))))
          refine a_aload_n (i := 0) dX12_signs_21 rfl rfl ?_
          refine a_dup dX12_signs_22 rfl ?_
          refine gX12_322 rfl dX12_signs_23 (isM_0 hM) ?_
          rw [y50]
          refine a_iconst (v := 1) dX12_signs_26 (by decide) ?_
          refine a_isub dX12_signs_27 ?_
          rw [w1m]
          refine pX12_322 rfl dX12_signs_28 (isM_0 hM) ?_
          refine a_aload_n (i := 0) dX12_signs_31 rfl rfl ?_
          refine a_dup dX12_signs_32 rfl ?_
          refine gX12_337 rfl dX12_signs_33 (isM_0 hM) ?_
          rw [aWr_j _ _ _ (by decide), y52]
          refine a_iconst (v := 1) dX12_signs_36 (by decide) ?_
          refine a_isub dX12_signs_37 ?_
          rw [o1m]
          refine pX12_337 rfl dX12_signs_38 (isM_0 hM) ?_
          refine a_aload_n (i := 0) dX12_signs_41 rfl rfl ?_
          refine kgX12_227 rfl dX12_signs_42 (Nat.le_of_ble_eq_true rfl) (isM_0 hM) (c_X12_token hM (mBt_e hb F2) (mP_n (mP_e hr F2) h0).1 (mP_n (mP_e hr F2) h0).2) ?_
          rintro v y' ⟨rfl, u0, G⟩
          refine a_iconst (v := 1) dX12_signs_45 (by decide) ?_
          exact a_iret dX12_signs_46 (by exact mEq_g (mP_e hr F2) h0 (GO y Ey) F2 rfl (u0 := u0) G)
    · rw [if_neg qc]
      have K0 : aV l mX12_signs (d + 2) D none 148 [(0, .ref bM), (1, .int (cvk k))] [] x (mEq n B f x (eFl B n 1 (r, false, w, s, L, o, kn))) := by
        rw [cv]
        refine a_iload_n (i := 1) dX12_signs_148 rfl rfl ?_
        refine a_if_ne (tg := 158) dX12_signs_149 (by decide) (fun c_149 => ?_) (fun c_149 => ?_)
        · exact absurd rfl c_149
        · refine a_aload_n (i := 0) dX12_signs_152 rfl rfl ?_
          refine a_iconst (v := 1) dX12_signs_153 (by decide) ?_
          refine kX12_217 rfl dX12_signs_154 (Nat.le_of_ble_eq_true rfl) (isM_0 hM) (c_X12_wrong (c := 1) hM) ?_
          exact a_iret dX12_signs_157 (by exact mEq_f (c := 1) hr h0 (by decide) rfl hr (mEb_r x))
      refine a_aload_n (i := 0) dX12_signs_0 rfl rfl ?_
      refine a_bipush (v := 41) dX12_signs_1 (by decide) ?_
      refine kX12_230 rfl dX12_signs_3 (Nat.le_of_ble_eq_true rfl) (isM_0 hM) (c_X12_isSign hM) ?_
      refine a_if_eq (tg := 47) dX12_signs_6 (by decide) (fun c_6 => ?_) (fun c_6 => ?_)
      · exact a_loc _ rfl (CH _ K0)
      · have e25 := s25.mp (bI_nz.mp c_6)
        have o0 : o = 0 := by omega
        rw [o0] at e52
        refine a_aload_n (i := 0) dX12_signs_9 rfl rfl ?_
        refine gX12_337 rfl dX12_signs_10 (isM_0 hM) ?_
        rw [e52]
        refine a_if_le (tg := 47) dX12_signs_13 (by decide) (fun c_13 => ?_) (fun c_13 => ?_)
        · exact a_loc _ rfl (CH _ K0)
        · exact absurd (Int32.le_refl _) c_13
/-- where an E ends, held against the line's end -/
def sfin (B : Nat → Nat) (n : Nat) (R : eS) : zP := if ¬ R.1.2.1 = 0 then R.1 else if ¬ (tok B n R.1.1).1 = 26 then pFl B n 1 R.1 else R.1
theorem eOk_nx {b : Bool} (h : eOk n f S) : eOk n f (eNx B n (eDu b S)) := by
  intro e
  unfold eNx at e ⊢
  by_cases g : (eDu b S).1.2.1 = 0
  · rw [if_pos g]
    obtain ⟨q1, q2⟩ := h g
    exact ⟨(tok_ok (B := B) q1).2.2.2.1, q2⟩
  · rw [if_neg g] at e; exact absurd e g
theorem eNx_1 {b : Bool} (h : S.1.2.1 = 0 → S.1 = r) (g : (eNx B n (eDu b S)).1.2.1 = 0) : (eNx B n (eDu b S)).1 = pGo B n r := by
  unfold eNx at g ⊢
  by_cases e : (eDu b S).1.2.1 = 0
  · rw [if_pos e]; exact congrArg (pGo B n) (h e)
  · rw [if_neg e] at g; exact absurd g e
set_option maxHeartbeats 8000000 in
set_option maxRecDepth 100000 in
theorem c_X12_sumRead {s0 : Nat → Nat} {L : zL} (hM : D 12 = true) (hb : mBt n B x) (hr : mP n B r x) (h0 : r.2.1 = 0) (h23 : x.1 bM 23 = nI f) (h53 : x.1 bM 53 = nI f) (hf : f ≤ 64) (hL : L.1 = 0) : aCt l mX12_sumRead (d + 3) D [.ref bM] x (fun v y => v = some (.int (bI (decide ((sfin B n (eGo B n (n + 1) (r, true, 0, s0, L, 0, f))).2.1 = 0)))) ∧ mP n B (sfin B n (eGo B n (n + 1) (r, true, 0, s0, L, 0, f))) y ∧ ((sfin B n (eGo B n (n + 1) (r, true, 0, s0, L, 0, f))).2.1 = 0 → mEs f (eGo B n (n + 1) (r, true, 0, s0, L, 0, f)) y ∧ (eGo B n (n + 1) (r, true, 0, s0, L, 0, f)).2.1 = false ∧ (eGo B n (n + 1) (r, true, 0, s0, L, 0, f)).2.2.1 = 0) ∧ mW (eC f) x y) := by
  refine a_met (by decide) (Nat.le_of_ble_eq_true rfl) (fun v y q => Or.inr (Or.inl ⟨rfl, _, q.1, bI_01 _⟩)) ?_
  have G : ∀ F S (y : aS), mBt n B y → mP n B S.1 y → S.1.2.1 = 0 → mEs f S y → eOk n f S → n + 1 ≤ S.1.1 + F → mW (eC f) x y → aV l mX12_sumRead (d + 3) D none 25 [(0, .ref bM)] [] y (fun v y => v = some (.int (bI (decide ((sfin B n (eGo B n F S)).2.1 = 0)))) ∧ mP n B (sfin B n (eGo B n F S)) y ∧ ((sfin B n (eGo B n F S)).2.1 = 0 → mEs f (eGo B n F S) y ∧ (eGo B n F S).2.1 = false ∧ (eGo B n F S).2.2.1 = 0) ∧ mW (eC f) x y) := by
    intro F
    induction F with
    | zero =>
      intro S y _ _ f0 _ O hF _
      have := (O f0).1
      omega
    | succ F ih =>
      intro S y yb yr f0 E O hF W
      obtain ⟨o1, o2, o3, o4, o5, o6⟩ := O f0
      have tk := tok_ok (B := B) o1
      obtain ⟨i1, rk, -⟩ := yr.1 f0
      have km := rk.2.2
      have s26 : (y.1 bM 8 = 4 ∧ y.1 bM 9 = 59) ↔ (tok B n S.1.1).1 = 26 := kM_sg km (Or.inr (Or.inr (Or.inl ⟨rfl, rfl⟩)))
      have k39 : (tok B n S.1.1).1 < 39 := by have := tk.2.2.2.2.2.1; omega
      have e54 := E.2.2.2.2.2.1
      have e52 := E.2.2.1
      -- behind a step
      have ST : ∀ (S' : eS) (v : Option Value) (z : aS), mEq n B f y S' v z → eOk n f S' → (S'.1.2.1 = 0 → n + 1 ≤ S'.1.1 + F) → eGo B n (F + 1) S = eGo B n F S' → (S'.1.2.1 = 0 → v = some (.int 1) ∧ aV l mX12_sumRead (d + 3) D none 25 [(0, .ref bM)] [] z (fun v y => v = some (.int (bI (decide ((sfin B n (eGo B n (F + 1) S)).2.1 = 0)))) ∧ mP n B (sfin B n (eGo B n (F + 1) S)) y ∧ ((sfin B n (eGo B n (F + 1) S)).2.1 = 0 → mEs f (eGo B n (F + 1) S) y ∧ (eGo B n (F + 1) S).2.1 = false ∧ (eGo B n (F + 1) S).2.2.1 = 0) ∧ mW (eC f) x y)) ∧ (¬ S'.1.2.1 = 0 → v = some (.int 0) ∧ ((0 : Int32) = bI (decide ((sfin B n (eGo B n (F + 1) S)).2.1 = 0)) ∧ mP n B (sfin B n (eGo B n (F + 1) S)) z ∧ ((sfin B n (eGo B n (F + 1) S)).2.1 = 0 → mEs f (eGo B n (F + 1) S) z ∧ (eGo B n (F + 1) S).2.1 = false ∧ (eGo B n (F + 1) S).2.2.1 = 0) ∧ mW (eC f) x z)) := by
        intro S' v z Q O' F' eg
        obtain ⟨q1, q2, q3, q4⟩ := Q
        have W' := mW_t W q4
        rw [eg]
        refine ⟨fun g => ⟨by rw [q1, bI_t g], ih S' z (mBt_W eC_b yb q4) q2 g (q3 g) O' (F' g) W'⟩, fun g => ?_⟩
        rw [eGo_f g]
        have sf : sfin B n S' = S'.1 := if_pos g
        rw [sf]
        exact ⟨by rw [q1, bI_f g], by rw [bI_f g], q2, fun e => absurd e g, W'⟩
      have ps : ∀ S' : eS, S'.1 = pGo B n S.1 → ¬ (tok B n S.1.1).1 = 37 → n + 1 ≤ S'.1.1 + F := fun S' e k37 => by
        have := tk.2.2.2.2.1 k37
        rw [e]; show n + 1 ≤ (tok B n S.1.1).2.2.2.2 + F
        omega
      cases hdu : S.2.1 with
      | true =>
        rw [hdu] at e54
        have e54 : y.1 bM 54 = 1 := e54
        have c := c_X12_leafRead (l := l) (d := d) hM yb yr f0 E O hdu
        have eg : eGo B n (F + 1) S = eGo B n F (lfS B n S) := by rw [eGo, if_neg (fun e => e f0), if_pos hdu]; rfl
        have O' : eOk n f (lfS B n S) := eOk_nx (eOk_st k39 O)
        have F' : (lfS B n S).1.2.1 = 0 → n + 1 ≤ (lfS B n S).1.1 + F := fun g => by
          refine ps _ (eNx_1 (fun e => e1_st e) g) ?_
          refine eSt_37 (B := B) (n := n) (S := S) ?_
          unfold lfS eNx at g
          by_cases e : (eDu (decide ((tok B n S.1.1).1 = 14 ∨ (tok B n S.1.1).1 = 24)) (eSt B n (tok B n S.1.1).1 S)).1.2.1 = 0
          · exact e
          · rw [if_neg e] at g; exact g
        refine a_aload_n (i := 0) dX12_sumRead_25 rfl rfl ?_
        refine a_bipush (v := 59) dX12_sumRead_26 (by decide) ?_
        refine kX12_230 rfl dX12_sumRead_28 (Nat.le_of_ble_eq_true rfl) (isM_0 hM) (c_X12_isSign hM) ?_
        refine a_if_eq (tg := 48) dX12_sumRead_31 (by decide) (fun c_31 => ?_) (fun c_31 => ?_)
        · refine a_aload_n (i := 0) dX12_sumRead_48 rfl rfl ?_
          refine gX12_357 rfl dX12_sumRead_49 (isM_0 hM) ?_
          rw [e54]
          refine a_if_eq (tg := 65) dX12_sumRead_52 (by decide) (fun c_52 => ?_) (fun c_52 => ?_)
          · exact absurd c_52 (by decide)
          · refine a_aload_n (i := 0) dX12_sumRead_55 rfl rfl ?_
            refine kgX12_363 rfl dX12_sumRead_56 (Nat.le_of_ble_eq_true rfl) (isM_0 hM) (c) ?_
            rintro v z Q
            obtain ⟨Q1, Q2⟩ := ST _ v z Q O' F' eg
            by_cases g : (lfS B n S).1.2.1 = 0
            obtain ⟨rfl, K⟩ := Q1 g
            refine a_if_eq (tg := 72) dX12_sumRead_59 (by decide) (fun c_59 => absurd c_59 (by decide)) (fun c_59 => ?_)
            refine a_goto (tg := 25) dX12_sumRead_62 (by decide) ?_
            exact a_loc _ rfl K
            obtain ⟨rfl, K1, K2⟩ := Q2 g
            refine a_if_eq (tg := 72) dX12_sumRead_59 (by decide) (fun c_59 => ?_) (fun c_59 => ?_)
            · refine a_iconst (v := 0) dX12_sumRead_72 (by decide) ?_
              exact a_iret dX12_sumRead_73 (by exact ⟨by rw [← K1], K2⟩)
            · exact absurd rfl c_59
        · refine a_aload_n (i := 0) dX12_sumRead_34 rfl rfl ?_
          refine gX12_357 rfl dX12_sumRead_35 (isM_0 hM) ?_
          rw [e54]
          refine a_if_ne (tg := 48) dX12_sumRead_38 (by decide) (fun c_38 => ?_) (fun c_38 => ?_)
          · refine a_aload_n (i := 0) dX12_sumRead_48 rfl rfl ?_
            refine gX12_357 rfl dX12_sumRead_49 (isM_0 hM) ?_
            rw [e54]
            refine a_if_eq (tg := 65) dX12_sumRead_52 (by decide) (fun c_52 => ?_) (fun c_52 => ?_)
            · exact absurd c_52 (by decide)
            · refine a_aload_n (i := 0) dX12_sumRead_55 rfl rfl ?_
              refine kgX12_363 rfl dX12_sumRead_56 (Nat.le_of_ble_eq_true rfl) (isM_0 hM) (c) ?_
              rintro v z Q
              obtain ⟨Q1, Q2⟩ := ST _ v z Q O' F' eg
              by_cases g : (lfS B n S).1.2.1 = 0
              obtain ⟨rfl, K⟩ := Q1 g
              refine a_if_eq (tg := 72) dX12_sumRead_59 (by decide) (fun c_59 => absurd c_59 (by decide)) (fun c_59 => ?_)
              refine a_goto (tg := 25) dX12_sumRead_62 (by decide) ?_
              exact a_loc _ rfl K
              obtain ⟨rfl, K1, K2⟩ := Q2 g
              refine a_if_eq (tg := 72) dX12_sumRead_59 (by decide) (fun c_59 => ?_) (fun c_59 => ?_)
              · refine a_iconst (v := 0) dX12_sumRead_72 (by decide) ?_
                exact a_iret dX12_sumRead_73 (by exact ⟨by rw [← K1], K2⟩)
              · exact absurd rfl c_59
          · exact absurd c_38 (by decide)
      | false =>
        rw [hdu] at e54
        have e54 : y.1 bM 54 = 0 := e54
        by_cases fin : (tok B n S.1.1).1 = 26 ∧ S.2.2.2.2.2.1 = 0
        · have eg : eGo B n (F + 1) S = eRl 1 S := by
            rw [eGo, if_neg (fun e => e f0), if_neg (by rw [hdu]; decide), if_neg (by rw [fin.1]; decide), if_neg (by have := fin.1; omega), if_neg (by rw [fin.2]; decide)]
          rw [eg]
          have bd := c_X12_bind (l := l) (d := d + 1) (b := 1) hM (Nat.le_refl 1) (by decide) E O f0 hdu
          have sf : sfin B n (eRl 1 S) = S.1 := by
            unfold sfin
            rw [if_neg (show ¬ ¬ (eRl 1 S).1.2.1 = 0 from fun e => e f0), if_neg (show ¬ ¬ (tok B n (eRl 1 S).1.1).1 = 26 from fun e => e fin.1)]
            rfl
          rw [sf, bI_t f0]
          obtain ⟨-, rb, rc⟩ := rel_ok S.2.2.2.1 (Nat.le_refl 1) S.2.2.1 S.2.2.2.2.1
          have rle := rel_le S.2.2.2.1 1 S.2.2.1 S.2.2.2.2.1
          have w0 : (eRl 1 S).2.2.1 = 0 := by
            show (rel S.2.2.2.1 1 S.2.2.1 S.2.2.2.2.1).1 = 0
            obtain ⟨w1, hw1⟩ : ∃ w1, w1 = (rel S.2.2.2.1 1 S.2.2.1 S.2.2.2.2.1).1 := ⟨_, rfl⟩
            rw [← hw1] at rb rc rle ⊢
            cases w1 with
            | zero => rfl
            | succ v =>
              have a := rc (by omega)
              have a : kBd (S.2.2.2.1 v) < 1 := a
              rcases (o6 v (by omega)).2 with e | e
              · have rb : wop S.2.2.2.1 v + (if S.2.2.2.1 v = 24 then 1 else 0) = wop S.2.2.2.1 S.2.2.1 := rb
                rw [if_pos e] at rb
                omega
              · omega
          have i26 := bI_t (s26.mpr fin.1)
          have e52 : y.1 bM 52 = 0 := by rw [E.2.2.1, fin.2]; rfl
          refine a_aload_n (i := 0) dX12_sumRead_25 rfl rfl ?_
          refine a_bipush (v := 59) dX12_sumRead_26 (by decide) ?_
          refine kX12_230 rfl dX12_sumRead_28 (Nat.le_of_ble_eq_true rfl) (isM_0 hM) (c_X12_isSign hM) ?_
          rw [i26]
          refine a_if_eq (tg := 48) dX12_sumRead_31 (by decide) (fun c_31 => ?_) (fun c_31 => ?_)
          · exact absurd c_31 (by decide)
          · refine a_aload_n (i := 0) dX12_sumRead_34 rfl rfl ?_
            refine gX12_357 rfl dX12_sumRead_35 (isM_0 hM) ?_
            rw [e54]
            refine a_if_ne (tg := 48) dX12_sumRead_38 (by decide) (fun c_38 => ?_) (fun c_38 => ?_)
            · exact absurd rfl c_38
            · refine a_aload_n (i := 0) dX12_sumRead_41 rfl rfl ?_
              refine gX12_337 rfl dX12_sumRead_42 (isM_0 hM) ?_
              rw [e52]
              refine a_if_le (tg := 74) dX12_sumRead_45 (by decide) (fun c_45 => ?_) (fun c_45 => ?_)
              · refine a_aload_n (i := 0) dX12_sumRead_74 rfl rfl ?_
                refine a_iconst (v := 1) dX12_sumRead_75 (by decide) ?_
                refine kgX12_360 rfl dX12_sumRead_76 (Nat.le_of_ble_eq_true rfl) (isM_0 hM) (bd) ?_
                rintro v z ⟨rfl, Ez, Fz⟩
                refine a_iconst (v := 1) dX12_sumRead_79 (by decide) ?_
                exact a_iret dX12_sumRead_80 (by exact ⟨rfl, mP_e yr Fz, fun _ => ⟨Ez, hdu, w0⟩, mW_t W (mEb_W Fz)⟩)
              · exact absurd (Int32.le_refl _) c_45
        · have c := c_X12_signs (l := l) (d := d) hM yb yr f0 E O hdu
          -- the step
          have Q' : ∀ v z, mEq n B f y (sgS B n S) v z → (v = some (.int 1) ∧ aV l mX12_sumRead (d + 3) D none 25 [(0, .ref bM)] [] z (fun v y => v = some (.int (bI (decide ((sfin B n (eGo B n (F + 1) S)).2.1 = 0)))) ∧ mP n B (sfin B n (eGo B n (F + 1) S)) y ∧ ((sfin B n (eGo B n (F + 1) S)).2.1 = 0 → mEs f (eGo B n (F + 1) S) y ∧ (eGo B n (F + 1) S).2.1 = false ∧ (eGo B n (F + 1) S).2.2.1 = 0) ∧ mW (eC f) x y)) ∨ (v = some (.int 0) ∧ (0 : Int32) = bI (decide ((sfin B n (eGo B n (F + 1) S)).2.1 = 0)) ∧ mP n B (sfin B n (eGo B n (F + 1) S)) z ∧ ((sfin B n (eGo B n (F + 1) S)).2.1 = 0 → mEs f (eGo B n (F + 1) S) z ∧ (eGo B n (F + 1) S).2.1 = false ∧ (eGo B n (F + 1) S).2.2.1 = 0) ∧ mW (eC f) x z) := by
            intro v z Q
            by_cases qs : 0 < kBd (tok B n S.1.1).1 ∧ ¬ (tok B n S.1.1).1 = 14
            · have es : sgS B n S = eNx B n (eDu true (eSg B n (tok B n S.1.1).1 S)) := if_pos qs
              have eg : eGo B n (F + 1) S = eGo B n F (sgS B n S) := by rw [eGo, if_neg (fun e => e f0), if_neg (by rw [hdu]; decide), if_pos qs, es]
              have O' : eOk n f (sgS B n S) := by rw [es]; exact eOk_nx (eOk_sg k39 qs.1 O)
              have k37 : ¬ (tok B n S.1.1).1 = 37 := fun e => by rw [e] at qs; exact absurd qs.1 (by decide)
              have F' : (sgS B n S).1.2.1 = 0 → n + 1 ≤ (sgS B n S).1.1 + F := fun g => ps _ (by rw [es] at g ⊢; exact eNx_1 (fun e => e1_sg e) g) k37
              obtain ⟨Q1, Q2⟩ := ST _ v z Q O' F' eg
              by_cases g : (sgS B n S).1.2.1 = 0
              · exact Or.inl (Q1 g)
              · exact Or.inr (Q2 g)
            · by_cases qc : (tok B n S.1.1).1 = 25 ∧ 0 < S.2.2.2.2.2.1
              · have es : sgS B n S = eNx B n (eDu false (eCl S)) := by unfold sgS; rw [if_neg qs, if_pos qc]
                have eg : eGo B n (F + 1) S = eGo B n F (sgS B n S) := by rw [eGo, if_neg (fun e => e f0), if_neg (by rw [hdu]; decide), if_neg qs, if_pos qc, es]
                have O' : eOk n f (sgS B n S) := by rw [es]; exact eOk_nx (eOk_cl qc.2 O)
                have F' : (sgS B n S).1.2.1 = 0 → n + 1 ≤ (sgS B n S).1.1 + F := fun g => ps _ (by rw [es] at g ⊢; exact eNx_1 (r := S.1) (fun _ => rfl) g) (by omega)
                obtain ⟨Q1, Q2⟩ := ST _ v z Q O' F' eg
                by_cases g : (sgS B n S).1.2.1 = 0
                · exact Or.inl (Q1 g)
                · exact Or.inr (Q2 g)
              · have es : sgS B n S = eFl B n 1 S := by unfold sgS; rw [if_neg qs, if_neg qc]
                rw [es] at Q
                obtain ⟨q1, q2, q3, q4⟩ := Q
                have ne : ¬ (eFl B n 1 S).1.2.1 = 0 := by show ¬ 1 = 0; decide
                have sf : sfin B n (eGo B n (F + 1) S) = pFl B n 1 S.1 := by
                  rw [eGo, if_neg (fun e => e f0), if_neg (by rw [hdu]; decide), if_neg qs, if_neg qc]
                  by_cases oo : 0 < S.2.2.2.2.2.1
                  · rw [if_pos oo]
                    exact if_pos (show ¬ (eFl B n 1 (eRl 1 S)).1.2.1 = 0 from by show ¬ 1 = 0; decide)
                  · rw [if_neg oo]
                    have k26 : ¬ (tok B n S.1.1).1 = 26 := fun e => fin ⟨e, by omega⟩
                    unfold sfin
                    rw [if_neg (show ¬ ¬ (eRl 1 S).1.2.1 = 0 from fun e => e f0), if_pos (show ¬ (tok B n (eRl 1 S).1.1).1 = 26 from k26)]
                    rfl
                rw [sf]
                exact Or.inr ⟨by rw [q1, bI_f ne], by rw [bI_f (show ¬ (pFl B n 1 S.1).2.1 = 0 from by show ¬ 1 = 0; decide)], q2, fun e => absurd e (by show ¬ 1 = 0; decide), mW_t W q4⟩
          have TL : aV l mX12_sumRead (d + 3) D none 65 [(0, .ref bM)] [] y (fun v y => v = some (.int (bI (decide ((sfin B n (eGo B n (F + 1) S)).2.1 = 0)))) ∧ mP n B (sfin B n (eGo B n (F + 1) S)) y ∧ ((sfin B n (eGo B n (F + 1) S)).2.1 = 0 → mEs f (eGo B n (F + 1) S) y ∧ (eGo B n (F + 1) S).2.1 = false ∧ (eGo B n (F + 1) S).2.2.1 = 0) ∧ mW (eC f) x y) := by
            refine a_aload_n (i := 0) dX12_sumRead_65 rfl rfl ?_
            refine kgX12_366 rfl dX12_sumRead_66 (Nat.le_of_ble_eq_true rfl) (isM_0 hM) (c) ?_
            rintro v z Q
            rcases Q' v z Q with ⟨rfl, K⟩ | ⟨rfl, K1, K2⟩
            refine a_if_ne (tg := 25) dX12_sumRead_69 (by decide) (fun c_69 => ?_) (fun c_69 => absurd c_69 (by decide))
            exact a_loc _ rfl K
            refine a_if_ne (tg := 25) dX12_sumRead_69 (by decide) (fun c_69 => ?_) (fun c_69 => ?_)
            · exact absurd rfl c_69
            · refine a_iconst (v := 0) dX12_sumRead_72 (by decide) ?_
              exact a_iret dX12_sumRead_73 (by exact ⟨by rw [← K1], K2⟩)
          by_cases k26 : (tok B n S.1.1).1 = 26
          · have i26 := bI_t (s26.mpr k26)
            have oo : ¬ S.2.2.2.2.2.1 = 0 := fun e => fin ⟨k26, e⟩
            refine a_aload_n (i := 0) dX12_sumRead_25 rfl rfl ?_
            refine a_bipush (v := 59) dX12_sumRead_26 (by decide) ?_
            refine kX12_230 rfl dX12_sumRead_28 (Nat.le_of_ble_eq_true rfl) (isM_0 hM) (c_X12_isSign hM) ?_
            rw [i26]
            refine a_if_eq (tg := 48) dX12_sumRead_31 (by decide) (fun c_31 => ?_) (fun c_31 => ?_)
            · exact absurd c_31 (by decide)
            · refine a_aload_n (i := 0) dX12_sumRead_34 rfl rfl ?_
              refine gX12_357 rfl dX12_sumRead_35 (isM_0 hM) ?_
              rw [e54]
              refine a_if_ne (tg := 48) dX12_sumRead_38 (by decide) (fun c_38 => ?_) (fun c_38 => ?_)
              · exact absurd rfl c_38
              · refine a_aload_n (i := 0) dX12_sumRead_41 rfl rfl ?_
                refine gX12_337 rfl dX12_sumRead_42 (isM_0 hM) ?_
                rw [e52]
                refine a_if_le (tg := 74) dX12_sumRead_45 (by decide) (fun c_45 => ?_) (fun c_45 => ?_)
                · exact absurd c_45 (nI_nle (by omega) (by omega))
                · refine a_aload_n (i := 0) dX12_sumRead_48 rfl rfl ?_
                  refine gX12_357 rfl dX12_sumRead_49 (isM_0 hM) ?_
                  rw [e54]
                  refine a_if_eq (tg := 65) dX12_sumRead_52 (by decide) (fun c_52 => ?_) (fun c_52 => ?_)
                  · exact a_loc _ rfl TL
                  · exact absurd rfl c_52
          · have i26 := bI_f (fun e => k26 (s26.mp e))
            refine a_aload_n (i := 0) dX12_sumRead_25 rfl rfl ?_
            refine a_bipush (v := 59) dX12_sumRead_26 (by decide) ?_
            refine kX12_230 rfl dX12_sumRead_28 (Nat.le_of_ble_eq_true rfl) (isM_0 hM) (c_X12_isSign hM) ?_
            rw [i26]
            refine a_if_eq (tg := 48) dX12_sumRead_31 (by decide) (fun c_31 => ?_) (fun c_31 => ?_)
            · refine a_aload_n (i := 0) dX12_sumRead_48 rfl rfl ?_
              refine gX12_357 rfl dX12_sumRead_49 (isM_0 hM) ?_
              rw [e54]
              refine a_if_eq (tg := 65) dX12_sumRead_52 (by decide) (fun c_52 => ?_) (fun c_52 => ?_)
              · exact a_loc _ rfl TL
              · exact absurd rfl c_52
            · exact absurd rfl c_31
  obtain ⟨z, hz⟩ : ∃ z, z = aWr (aWr (aWr (aWr (aWr x bM 50 0) bM 51 0) bM 52 0) bM 54 1) bM 55 1 := ⟨_, rfl⟩
  have F : mEb f x z := by rw [hz]; exact mEb_t (mEb_w (eC_j (by omega))) (mEb_t (mEb_w (eC_j (by omega))) (mEb_t (mEb_w (eC_j (by omega))) (mEb_t (mEb_w (eC_j (by omega))) (mEb_w (eC_j (by omega))))))
  have zo : ∀ m j, ¬ (m = bM ∧ (j = 50 ∨ j = 51 ∨ j = 52 ∨ j = 54 ∨ j = 55)) → z.1 m j = x.1 m j := fun m j a => by rw [hz, aWr_o _ _ (by omega), aWr_o _ _ (by omega), aWr_o _ _ (by omega), aWr_o _ _ (by omega), aWr_o _ _ (by omega)]
  have zE : mEs f (r, true, 0, s0, L, 0, f) z := by
    refine ⟨?_, fun j hj => absurd hj (Nat.not_lt_zero j), ?_, by rw [zo _ _ (by omega)]; exact h53, ?_, ?_, fun _ => ?_, [], fun _ => 0, fun _ => 0, ?_, trivial, nds_0 _ _ _ _ _ hL, rfl⟩
    · rw [hz, aWr_j _ _ _ (by decide), aWr_j _ _ _ (by decide), aWr_j _ _ _ (by decide), aWr_j _ _ _ (by decide), aWr_s]; rfl
    · rw [hz, aWr_j _ _ _ (by decide), aWr_j _ _ _ (by decide), aWr_s]; rfl
    · show z.1 bM 23 = nI (f + L.1); rw [hL, zo _ _ (by omega)]; exact h23
    · rw [hz, aWr_j _ _ _ (by decide), aWr_s]; rfl
    · rw [hz, aWr_s, bI_t (fun g => absurd g.1 (Nat.lt_irrefl 0))]
    · rw [hz, aWr_j _ _ _ (by decide), aWr_j _ _ _ (by decide), aWr_j _ _ _ (by decide), aWr_s]; rfl
  have zO : eOk n f (r, true, 0, s0, L, 0, f) := fun _ => ⟨(hr.1 h0).1, by show f + L.1 + 0 = f; omega, hf, rfl, Nat.zero_le _, fun j hj => absurd hj (Nat.not_lt_zero j)⟩
  have K := G (n + 1) (r, true, 0, s0, L, 0, f) z (mBt_e hb F) (mP_e hr F) h0 zE zO (by show n + 1 ≤ r.1 + (n + 1); omega) (mEb_W F)
  refine a_aload_n (i := 0) dX12_sumRead_0 rfl rfl ?_
  refine a_iconst (v := 0) dX12_sumRead_1 (by decide) ?_
  refine pX12_322 rfl dX12_sumRead_2 (isM_0 hM) ?_
  refine a_aload_n (i := 0) dX12_sumRead_5 rfl rfl ?_
  refine a_iconst (v := 0) dX12_sumRead_6 (by decide) ?_
  refine pX12_319 rfl dX12_sumRead_7 (isM_0 hM) ?_
  refine a_aload_n (i := 0) dX12_sumRead_10 rfl rfl ?_
  refine a_iconst (v := 0) dX12_sumRead_11 (by decide) ?_
  refine pX12_337 rfl dX12_sumRead_12 (isM_0 hM) ?_
  refine a_aload_n (i := 0) dX12_sumRead_15 rfl rfl ?_
  refine a_iconst (v := 1) dX12_sumRead_16 (by decide) ?_
  refine pX12_357 rfl dX12_sumRead_17 (isM_0 hM) (by first | exact Or.inl rfl | exact Or.inr rfl | assumption) ?_
  refine a_aload_n (i := 0) dX12_sumRead_20 rfl rfl ?_
  refine a_iconst (v := 1) dX12_sumRead_21 (by decide) ?_
  refine pX12_344 rfl dX12_sumRead_22 (isM_0 hM) (by first | exact Or.inl rfl | exact Or.inr rfl | assumption) ?_
  rw [← hz]
  exact a_loc _ rfl K
end qBE
