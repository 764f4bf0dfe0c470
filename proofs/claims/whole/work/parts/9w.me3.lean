/-! READING an E, the model: leafRead -/
section qBD
variable {l : Launch} {d : Nat} {D : Nat → Bool} {x y : aS} {n f : Nat} {B : Nat → Nat} {S : eS} {r r' : zP}
def lfS (B : Nat → Nat) (n : Nat) (S : eS) : eS := eNx B n (eDu (decide ((tok B n S.1.1).1 = 14 ∨ (tok B n S.1.1).1 = 24)) (eSt B n (tok B n S.1.1).1 S))
/-- what a step of an E leaves -/
def mEq (n : Nat) (B : Nat → Nat) (f : Nat) (x : aS) (S' : eS) (v : Option Value) (y : aS) : Prop := v = some (.int (bI (decide (S'.1.2.1 = 0)))) ∧ mP n B S'.1 y ∧ (S'.1.2.1 = 0 → mEs f S' y) ∧ mW (eC f) x y
theorem mEq_f {c : Nat} {S' : eS} (hr : mP n B r x) (h0 : r.2.1 = 0) (hc : ¬ c = 0) (e : S'.1 = pFl B n c r) {z : aS} (zr : mP n B r z) (F : mEb f x z) : mEq n B f x S' (some (.int 0)) (aWr (aWr z bM 4 (nI c)) bM 5 (z.1 bM 10)) := by
  have fl := mP_fl (c := c) zr h0 hc
  have ne : ¬ S'.1.2.1 = 0 := by rw [e]; exact hc
  exact ⟨by rw [bI_f ne], by rw [e]; exact fl.1, fun g => absurd g ne, mW_t (mEb_W F) (mW_u fl.2)⟩
theorem mEq_g {S' : eS} {z : aS} (zr : mP n B r z) (h0 : r.2.1 = 0) (zE : mEs f S z) (F : mEb f x z) (e : S' = (pGo B n r, S.2)) {u0 : rKM (tok B n (tok B n r.1).2.2.2.2) y} (G : mSt z y) : mEq n B f x S' (some (.int 1)) y := by
  subst e
  exact ⟨by rw [bI_t (show (pGo B n r).2.1 = 0 from rfl)], mP_go zr h0 u0 G, fun _ => es_s zE G, mW_t (mEb_W F) (mW_u (mU_s G))⟩
set_option maxHeartbeats 8000000 in
set_option maxRecDepth 100000 in
theorem c_X12_leafRead (hM : D 12 = true) (hb : mBt n B x) (hr : mP n B S.1 x) (h0 : S.1.2.1 = 0) (hE : mEs f S x) (ok : eOk n f S) (hd : S.2.1 = true) : aCt l mX12_leafRead (d + 2) D [.ref bM] x (mEq n B f x (lfS B n S)) := by
  refine a_met (by decide) (Nat.le_of_ble_eq_true rfl) (fun v y q => Or.inr (Or.inl ⟨rfl, _, q.1, bI_01 _⟩)) ?_
  obtain ⟨r, du, w, s, L, o, kn⟩ := S
  have hd : du = true := hd
  subst hd
  have h0 : r.2.1 = 0 := h0
  have hr : mP n B r x := hr
  obtain ⟨-, k1, k2, k3, k4, k5⟩ := ok h0
  have k1 : f + L.1 + wcn s w = kn := k1
  have k2 : kn ≤ 64 := k2
  have k3 : o = wop s w := k3
  have k4 : o ≤ 8 := k4
  have wo := wc_o s w
  have wl := wbn_le s w
  obtain ⟨e50, e49, e52, e53, e23, e54, e55, I, P, O, e51, eh, eN, el⟩ := id hE
  have e50 : x.1 bM 50 = nI w := e50
  have e49 : ∀ j, j < w → x.1 (bM + 49) j = kcd (s j) := e49
  have e52 : x.1 bM 52 = nI o := e52
  have e53 : x.1 bM 53 = nI kn := e53
  have e23 : x.1 bM 23 = nI (f + L.1) := e23
  have e54 : x.1 bM 54 = bI true := e54
  have e55 : x.1 bM 55 = bI (decide (¬ (0 < w ∧ 3 < kBd (s (w - 1))))) := e55 rfl
  have eN : nds L (shr x) P O f I := eN
  have el : I.length + 1 = 1 + wbn s w := el
  obtain ⟨i1, rk, -⟩ := hr.1 h0
  have t := tok_ok (B := B) i1
  have km := rk.2.2
  obtain ⟨k, hk⟩ : ∃ k, k = (tok B n r.1).1 := ⟨_, rfl⟩
  rw [← hk] at km
  have k39 : k < 39 := by have := t.2.2.2.2.2.1; omega
  have eS' : lfS B n (r, true, w, s, L, o, kn) = eNx B n (eDu (decide (k = 14 ∨ k = 24)) (eSt B n k (r, true, w, s, L, o, kn))) := by rw [hk]; rfl
  rw [eS']
  have s24 : (x.1 bM 8 = 4 ∧ x.1 bM 9 = 40) ↔ k = 24 := kM_sg km (Or.inl ⟨rfl, rfl⟩)
  have s14 : (x.1 bM 8 = 1 ∧ x.1 bM 9 = 14) ↔ k = 14 := by
    have := kM_ky (j := 14) km (by decide)
    refine this.trans ⟨fun e => (swp_le k e.1).2.1.mp e.2, fun e => ?_⟩
    subst e; exact ⟨by decide, by decide⟩
  have sp : ∀ c j, j < w → sps s w c j = s j := fun c j hj => if_neg (by omega)
  have sp0 : ∀ c, sps s w c w = c := fun c => if_pos rfl
  have nx : ∀ (b : Bool) (T : eS), T.1 = r → eNx B n (eDu b T) = (pGo B n r, (b, T.2.2)) := fun b T e => by unfold eNx eDu; rw [if_pos (by rw [e]; exact h0), e]
  have nf : ∀ (b : Bool) (T : eS) (c : Nat), ¬ c = 0 → T.1 = pFl B n c r → (eNx B n (eDu b T)).1 = pFl B n c r := fun b T c hc e => by unfold eNx eDu; rw [if_neg (by rw [e]; exact hc)]; exact e
  by_cases q24 : k = 24
  · have i0 := bI_t (s24.mpr q24)
    by_cases o8 : o + 1 ≤ 8
    · have e : eSt B n k (r, true, w, s, L, o, kn) = (r, true, w + 1, sps s w 24, L, o + 1, kn) := by
        unfold eSt; rw [if_pos q24]; unfold eAw eOp; rw [if_pos ⟨decide_eq_true o8, by show w < 72; omega⟩]
      rw [e, nx _ _ rfl, show decide (k = 14 ∨ k = 24) = true from decide_eq_true (Or.inr q24)]
      obtain ⟨z, hz⟩ : ∃ z, z = aWr (aWr (aWr (aWr x bM 52 (nI (o + 1))) (bM + 49) w 0) bM 50 (nI (w + 1))) bM 55 1 := ⟨_, rfl⟩
      have F : mEb f x z := by rw [hz]; exact mEb_t (mEb_w (eC_j (by omega))) (mEb_t (mEb_w (Or.inr (Or.inl rfl))) (mEb_t (mEb_w (eC_j (by omega))) (mEb_w (eC_j (by omega)))))
      have zo : ∀ m j, ¬ (m = bM + 49 ∧ j = w) → ¬ (m = bM ∧ (j = 52 ∨ j = 50 ∨ j = 55)) → z.1 m j = x.1 m j := fun m j a b => by rw [hz, aWr_o _ _ (by omega), aWr_o _ _ (by omega), aWr_o _ _ (by omega), aWr_o _ _ (by omega)]
      have zE : mEs f (r, true, w + 1, sps s w 24, L, o + 1, kn) z := by
        refine es_up hE (fun m j h => zo m j (by omega) (by omega)) (by rw [hz, aWr_j _ _ _ (by decide), aWr_s]) (fun j hj => ?_) (by rw [hz, aWr_j _ _ _ (by decide), aWr_j _ _ _ (by decide), aWr_n _ _ _ (by decide), aWr_s]) (by rw [zo _ _ (by omega) (by omega)]; exact e53) (by rw [zo _ _ (by omega) (by omega)]; exact e54) (fun _ => ?_) ?_
        · by_cases ej : j = w
          · subst ej; rw [sp0, hz, aWr_n _ _ _ (by decide), aWr_n _ _ _ (by decide), aWr_s]; rfl
          · rw [sp _ j (by omega), zo _ _ (by omega) (by omega)]; exact e49 j (by omega)
        · rw [show w + 1 - 1 = w from rfl, sp0, bI_t (fun g => absurd g.2 (by decide)), hz, aWr_s]
        · show wbn (sps s w 24) w + (if sps s w 24 w = 24 ∨ sps s w 24 w = 14 then 0 else 1) + 1 = wbn s w + 1
          rw [wbn_sps s 24 w w (Nat.le_refl _), sp0, if_pos (Or.inl rfl)]
      have w1 : (aWr x bM 52 (nI (o + 1))).1 bM 50 = nI w := by rw [aWr_j _ _ _ (by decide)]; exact e50
      refine a_aload_n (i := 0) dX12_leafRead_0 rfl rfl ?_
      refine a_bipush (v := 40) dX12_leafRead_1 (by decide) ?_
      refine kX12_230 rfl dX12_leafRead_3 (Nat.le_of_ble_eq_true rfl) (isM_0 hM) (c_X12_isSign hM) ?_
      rw [i0]
      refine a_if_eq (tg := 50) dX12_leafRead_6 (by decide) (fun c_6 => ?_) (fun c_6 => ?_)
      · exact absurd c_6 (by decide)
      · refine a_aload_n (i := 0) dX12_leafRead_9 rfl rfl ?_
        refine gX12_337 rfl dX12_leafRead_10 (isM_0 hM) ?_
        rw [e52]
        refine a_bipush (v := 8) dX12_leafRead_13 (by decide) ?_
        refine a_icmp_ne (tg := 24) dX12_leafRead_15 (by decide) (fun c_15 => ?_) (fun c_15 => ?_)
        · refine a_aload_n (i := 0) dX12_leafRead_24 rfl rfl ?_
          refine a_dup dX12_leafRead_25 rfl ?_
          refine gX12_337 rfl dX12_leafRead_26 (isM_0 hM) ?_
          rw [e52]
          refine a_iconst (v := 1) dX12_leafRead_29 (by decide) ?_
          refine a_iadd dX12_leafRead_30 ?_
          rw [nI_1]
          refine pX12_337 rfl dX12_leafRead_31 (isM_0 hM) ?_
          refine a_aload_n (i := 0) dX12_leafRead_34 rfl rfl ?_
          refine a_iconst (v := 0) dX12_leafRead_35 (by decide) ?_
          refine kX12_340 rfl dX12_leafRead_36 (Nat.le_of_ble_eq_true rfl) (isM_0 hM) (c_X12_waitsFor hM w1 (by omega)) ?_
          refine a_aload_n (i := 0) dX12_leafRead_39 rfl rfl ?_
          refine a_iconst (v := 1) dX12_leafRead_40 (by decide) ?_
          refine pX12_344 rfl dX12_leafRead_41 (isM_0 hM) (by first | exact Or.inl rfl | exact Or.inr rfl | assumption) ?_
          rw [← hz]
          refine a_aload_n (i := 0) dX12_leafRead_44 rfl rfl ?_
          refine kgX12_227 rfl dX12_leafRead_45 (Nat.le_of_ble_eq_true rfl) (isM_0 hM) (c_X12_token hM (mBt_e hb F) (mP_n (mP_e hr F) h0).1 (mP_n (mP_e hr F) h0).2) ?_
          rintro v y ⟨rfl, u0, G⟩
          refine a_iconst (v := 1) dX12_leafRead_48 (by decide) ?_
          exact a_iret dX12_leafRead_49 (by exact mEq_g (mP_e hr F) h0 zE F rfl (u0 := u0) G)
        · exact absurd ((nI_eq (b := 8) (by omega) (by decide)).mp c_15) (by omega)
    · have e : (eSt B n k (r, true, w, s, L, o, kn)).1 = pFl B n 2 r := by
        unfold eSt; rw [if_pos q24]; unfold eAw eOp; rw [if_neg (fun g => o8 (of_decide_eq_true g.1))]
      have E := nf (decide (k = 14 ∨ k = 24)) _ 2 (by decide) e
      have o8e : o = 8 := by omega
      rw [o8e] at e52
      refine a_aload_n (i := 0) dX12_leafRead_0 rfl rfl ?_
      refine a_bipush (v := 40) dX12_leafRead_1 (by decide) ?_
      refine kX12_230 rfl dX12_leafRead_3 (Nat.le_of_ble_eq_true rfl) (isM_0 hM) (c_X12_isSign hM) ?_
      rw [i0]
      refine a_if_eq (tg := 50) dX12_leafRead_6 (by decide) (fun c_6 => ?_) (fun c_6 => ?_)
      · exact absurd c_6 (by decide)
      · refine a_aload_n (i := 0) dX12_leafRead_9 rfl rfl ?_
        refine gX12_337 rfl dX12_leafRead_10 (isM_0 hM) ?_
        rw [e52]
        refine a_bipush (v := 8) dX12_leafRead_13 (by decide) ?_
        refine a_icmp_ne (tg := 24) dX12_leafRead_15 (by decide) (fun c_15 => ?_) (fun c_15 => ?_)
        · exact absurd rfl c_15
        · refine a_aload_n (i := 0) dX12_leafRead_18 rfl rfl ?_
          refine a_iconst (v := 2) dX12_leafRead_19 (by decide) ?_
          refine kX12_217 rfl dX12_leafRead_20 (Nat.le_of_ble_eq_true rfl) (isM_0 hM) (c_X12_wrong (c := 2) hM) ?_
          exact a_iret dX12_leafRead_23 (by exact mEq_f (c := 2) hr h0 (by decide) E hr (mEb_r x))
  · have i0 := bI_f (fun e => q24 (s24.mp e))
    by_cases q14 : k = 14
    · have i1 := bI_t (s14.mpr q14)
      by_cases may : ¬ (0 < w ∧ 3 < kBd (s (w - 1)))
      · rw [bI_t may] at e55
        by_cases kn64 : kn + 1 ≤ 64
        · have e : eSt B n k (r, true, w, s, L, o, kn) = (r, true, w + 1, sps s w 14, L, o, kn + 1) := by
            unfold eSt; rw [if_neg q24, if_pos q14, if_neg may]; unfold eAw eKn; rw [if_pos ⟨decide_eq_true kn64, by show w < 72; omega⟩]
          rw [e, nx _ _ rfl, show decide (k = 14 ∨ k = 24) = true from decide_eq_true (Or.inl q14)]
          have ic := c_X12_isCounted (l := l) (d := d) (D := D) (x := x) hM e53 k2
          rw [if_pos kn64, bI_t kn64] at ic
          obtain ⟨z, hz⟩ : ∃ z, z = aWr (aWr (aWr x bM 53 (nI (kn + 1))) (bM + 49) w 2) bM 50 (nI (w + 1)) := ⟨_, rfl⟩
          have F : mEb f x z := by rw [hz]; exact mEb_t (mEb_w (eC_j (by omega))) (mEb_t (mEb_w (Or.inr (Or.inl rfl))) (mEb_w (eC_j (by omega))))
          have zo : ∀ m j, ¬ (m = bM + 49 ∧ j = w) → ¬ (m = bM ∧ (j = 53 ∨ j = 50)) → z.1 m j = x.1 m j := fun m j a b => by rw [hz, aWr_o _ _ (by omega), aWr_o _ _ (by omega), aWr_o _ _ (by omega)]
          have zE : mEs f (r, true, w + 1, sps s w 14, L, o, kn + 1) z := by
            refine es_up hE (fun m j h => zo m j (by omega) (by omega)) (by rw [hz, aWr_s]) (fun j hj => ?_) (by rw [zo _ _ (by omega) (by omega)]; exact e52) (by rw [hz, aWr_j _ _ _ (by decide), aWr_n _ _ _ (by decide), aWr_s]) (by rw [zo _ _ (by omega) (by omega)]; exact e54) (fun _ => ?_) ?_
            · by_cases ej : j = w
              · subst ej; rw [sp0, hz, aWr_n _ _ _ (by decide), aWr_s]; rfl
              · rw [sp _ j (by omega), zo _ _ (by omega) (by omega)]; exact e49 j (by omega)
            · rw [show w + 1 - 1 = w from rfl, sp0, bI_t (fun g => absurd g.2 (by decide)), zo _ _ (by omega) (by omega)]; exact e55
            · show wbn (sps s w 14) w + (if sps s w 14 w = 24 ∨ sps s w 14 w = 14 then 0 else 1) + 1 = wbn s w + 1
              rw [wbn_sps s 14 w w (Nat.le_refl _), sp0, if_pos (Or.inr rfl)]
          have w1 : (aWr x bM 53 (nI (kn + 1))).1 bM 50 = nI w := by rw [aWr_j _ _ _ (by decide)]; exact e50
          refine a_aload_n (i := 0) dX12_leafRead_0 rfl rfl ?_
          refine a_bipush (v := 40) dX12_leafRead_1 (by decide) ?_
          refine kX12_230 rfl dX12_leafRead_3 (Nat.le_of_ble_eq_true rfl) (isM_0 hM) (c_X12_isSign hM) ?_
          rw [i0]
          refine a_if_eq (tg := 50) dX12_leafRead_6 (by decide) (fun c_6 => ?_) (fun c_6 => ?_)
          · refine a_aload_n (i := 0) dX12_leafRead_50 rfl rfl ?_
            refine a_bipush (v := 14) dX12_leafRead_51 (by decide) ?_
            refine kX12_348 rfl dX12_leafRead_53 (Nat.le_of_ble_eq_true rfl) (isM_0 hM) (c_X12_isKey hM) ?_
            rw [i1]
            refine a_if_eq (tg := 86) dX12_leafRead_56 (by decide) (fun c_56 => ?_) (fun c_56 => ?_)
            · exact absurd c_56 (by decide)
            · refine a_aload_n (i := 0) dX12_leafRead_59 rfl rfl ?_
              refine gX12_344 rfl dX12_leafRead_60 (isM_0 hM) ?_
              rw [e55]
              refine a_if_eq (tg := 86) dX12_leafRead_63 (by decide) (fun c_63 => ?_) (fun c_63 => ?_)
              · exact absurd c_63 (by decide)
              · refine a_aload_n (i := 0) dX12_leafRead_66 rfl rfl ?_
                refine kX12_351 rfl dX12_leafRead_67 (Nat.le_of_ble_eq_true rfl) (isM_0 hM) (ic) ?_
                refine a_if_ne (tg := 75) dX12_leafRead_70 (by decide) (fun c_70 => ?_) (fun c_70 => ?_)
                · refine a_aload_n (i := 0) dX12_leafRead_75 rfl rfl ?_
                  refine a_iconst (v := 2) dX12_leafRead_76 (by decide) ?_
                  refine kX12_340 rfl dX12_leafRead_77 (Nat.le_of_ble_eq_true rfl) (isM_0 hM) (c_X12_waitsFor hM w1 (by omega)) ?_
                  rw [← hz]
                  refine a_aload_n (i := 0) dX12_leafRead_80 rfl rfl ?_
                  refine kgX12_227 rfl dX12_leafRead_81 (Nat.le_of_ble_eq_true rfl) (isM_0 hM) (c_X12_token hM (mBt_e hb F) (mP_n (mP_e hr F) h0).1 (mP_n (mP_e hr F) h0).2) ?_
                  rintro v y ⟨rfl, u0, G⟩
                  refine a_iconst (v := 1) dX12_leafRead_84 (by decide) ?_
                  exact a_iret dX12_leafRead_85 (by exact mEq_g (mP_e hr F) h0 zE F rfl (u0 := u0) G)
                · exact absurd c_70 (by decide)
          · exact absurd rfl c_6
        · have e : (eSt B n k (r, true, w, s, L, o, kn)).1 = pFl B n 2 r := by
            unfold eSt; rw [if_neg q24, if_pos q14, if_neg may]; unfold eAw eKn; rw [if_neg (fun g => kn64 (of_decide_eq_true g.1))]
          have E := nf (decide (k = 14 ∨ k = 24)) _ 2 (by decide) e
          have ic := c_X12_isCounted (l := l) (d := d) (D := D) (x := x) hM e53 k2
          rw [if_neg kn64, bI_f kn64] at ic
          refine a_aload_n (i := 0) dX12_leafRead_0 rfl rfl ?_
          refine a_bipush (v := 40) dX12_leafRead_1 (by decide) ?_
          refine kX12_230 rfl dX12_leafRead_3 (Nat.le_of_ble_eq_true rfl) (isM_0 hM) (c_X12_isSign hM) ?_
          rw [i0]
          refine a_if_eq (tg := 50) dX12_leafRead_6 (by decide) (fun c_6 => ?_) (fun c_6 => ?_)
          · refine a_aload_n (i := 0) dX12_leafRead_50 rfl rfl ?_
            refine a_bipush (v := 14) dX12_leafRead_51 (by decide) ?_
            refine kX12_348 rfl dX12_leafRead_53 (Nat.le_of_ble_eq_true rfl) (isM_0 hM) (c_X12_isKey hM) ?_
            rw [i1]
            refine a_if_eq (tg := 86) dX12_leafRead_56 (by decide) (fun c_56 => ?_) (fun c_56 => ?_)
            · exact absurd c_56 (by decide)
            · refine a_aload_n (i := 0) dX12_leafRead_59 rfl rfl ?_
              refine gX12_344 rfl dX12_leafRead_60 (isM_0 hM) ?_
              rw [e55]
              refine a_if_eq (tg := 86) dX12_leafRead_63 (by decide) (fun c_63 => ?_) (fun c_63 => ?_)
              · exact absurd c_63 (by decide)
              · refine a_aload_n (i := 0) dX12_leafRead_66 rfl rfl ?_
                refine kX12_351 rfl dX12_leafRead_67 (Nat.le_of_ble_eq_true rfl) (isM_0 hM) (ic) ?_
                refine a_if_ne (tg := 75) dX12_leafRead_70 (by decide) (fun c_70 => ?_) (fun c_70 => ?_)
                · exact absurd rfl c_70
                · refine a_iconst (v := 0) dX12_leafRead_73 (by decide) ?_
                  exact a_iret dX12_leafRead_74 (by exact mEq_f (c := 2) hr h0 (by decide) E hr (mEb_r x))
          · exact absurd rfl c_6
      · rw [bI_f may] at e55
        have e : (eSt B n k (r, true, w, s, L, o, kn)).1 = pFl B n 1 r := by
          unfold eSt; rw [if_neg q24, if_pos q14, if_pos (Classical.not_not.mp may)]; rfl
        have E := nf (decide (k = 14 ∨ k = 24)) _ 1 (by decide) e
        have nm := c_X12_nameMet (l := l) (d := d + 1) (D := D) (x := x) hM km
        rw [if_neg (by omega)] at nm
        refine a_aload_n (i := 0) dX12_leafRead_0 rfl rfl ?_
        refine a_bipush (v := 40) dX12_leafRead_1 (by decide) ?_
        refine kX12_230 rfl dX12_leafRead_3 (Nat.le_of_ble_eq_true rfl) (isM_0 hM) (c_X12_isSign hM) ?_
        rw [i0]
        refine a_if_eq (tg := 50) dX12_leafRead_6 (by decide) (fun c_6 => ?_) (fun c_6 => ?_)
        · refine a_aload_n (i := 0) dX12_leafRead_50 rfl rfl ?_
          refine a_bipush (v := 14) dX12_leafRead_51 (by decide) ?_
          refine kX12_348 rfl dX12_leafRead_53 (Nat.le_of_ble_eq_true rfl) (isM_0 hM) (c_X12_isKey hM) ?_
          rw [i1]
          refine a_if_eq (tg := 86) dX12_leafRead_56 (by decide) (fun c_56 => ?_) (fun c_56 => ?_)
          · exact absurd c_56 (by decide)
          · refine a_aload_n (i := 0) dX12_leafRead_59 rfl rfl ?_
            refine gX12_344 rfl dX12_leafRead_60 (isM_0 hM) ?_
            rw [e55]
            refine a_if_eq (tg := 86) dX12_leafRead_63 (by decide) (fun c_63 => ?_) (fun c_63 => ?_)
            · refine a_aload_n (i := 0) dX12_leafRead_86 rfl rfl ?_
              refine kX12_354 rfl dX12_leafRead_87 (Nat.le_of_ble_eq_true rfl) (isM_0 hM) (nm) ?_
              refine a_istore_n (i := 1) dX12_leafRead_90 rfl (by decide) ?_
              refine a_iload_n (i := 1) dX12_leafRead_91 rfl rfl ?_
              refine a_if_ge (tg := 109) dX12_leafRead_92 (by decide) (fun c_92 => ?_) (fun c_92 => ?_)
              · exact absurd c_92 (by decide)
              · refine a_aload_n (i := 0) dX12_leafRead_95 rfl rfl ?_
                refine gX12_193 rfl dX12_leafRead_96 (isM_0 hM) ?_
                refine a_iconst (v := 3) dX12_leafRead_99 (by decide) ?_
                refine a_icmp_eq (tg := 109) dX12_leafRead_100 (by decide) (fun c_100 => ?_) (fun c_100 => ?_)
                · exact absurd ((kM_3 km).mp c_100) (by omega)
                · refine a_aload_n (i := 0) dX12_leafRead_103 rfl rfl ?_
                  refine a_iconst (v := 1) dX12_leafRead_104 (by decide) ?_
                  refine kX12_217 rfl dX12_leafRead_105 (Nat.le_of_ble_eq_true rfl) (isM_0 hM) (c_X12_wrong (c := 1) hM) ?_
                  exact a_iret dX12_leafRead_108 (by exact mEq_f (c := 1) hr h0 (by decide) E hr (mEb_r x))
            · exact absurd rfl c_63
        · exact absurd rfl c_6
    · have i1 := bI_f (fun e => q14 (s14.mp e))
      have ne : decide (k = 14 ∨ k = 24) = false := decide_eq_false (by omega)
      rw [ne]
      have nm := c_X12_nameMet (l := l) (d := d + 1) (D := D) (x := x) hM km
      by_cases qL : k = 23 ∨ (15 ≤ k ∧ k ≤ 21)
      · have est : eSt B n k (r, true, w, s, L, o, kn) = if 64 < kn + 1 ∨ (k = 23 ∧ 9999 < (tok B n r.1).2.1) then eFl B n 2 (eKn (r, true, w, s, L, o, kn)) else eAp k (tok B n r.1).2.1 (eKn (r, true, w, s, L, o, kn)) := by
          unfold eSt; rw [if_neg q24, if_neg q14, if_pos qL]
        have ic := c_X12_isCounted (l := l) (d := d) (D := D) (x := x) hM e53 k2
        -- what a good leaf leaves
        have GO : ∀ (kc av : Int32) (y : aS), kn + 1 ≤ 64 → kc = kcode (nI k) → (∀ X : aS, X.1 (bM + 47) (f + L.1) = av → nwN (nI k) (nI (tok B n r.1).2.1) X (f + L.1) I ((f + L.1) :: I)) → rKM (tok B n (tok B n r.1).2.2.2.2) y → mSt (aWr (mGw (aWr x bM 53 (nI (kn + 1))) (f + L.1) I.length kc av 0) bM 54 0) y → mEq n B f x (eNx B n (eDu false (eAp k (tok B n r.1).2.1 (eKn (r, true, w, s, L, o, kn))))) (some (.int 1)) y := by
          intro kc av y kn64 hkc hN u0 G
          obtain ⟨z, hz⟩ : ∃ z, z = aWr (mGw (aWr x bM 53 (nI (kn + 1))) (f + L.1) I.length kc av 0) bM 54 0 := ⟨_, rfl⟩
          rw [← hz] at G
          have F : mEb f x z := by rw [hz]; exact mEb_t (mEb_w (eC_j (by omega))) (mEb_t (mGw_e (by omega)) (mEb_w (eC_j (by omega))))
          obtain ⟨v46, v47, v48, v50, v51, v23⟩ := mGw_v (x := aWr x bM 53 (nI (kn + 1))) (c := f + L.1) (i := I.length) (k := kc) (a := av) (b := 0)
          have zg : ∀ m j, ¬ (m = bM ∧ j = 54) → z.1 m j = (mGw (aWr x bM 53 (nI (kn + 1))) (f + L.1) I.length kc av 0).1 m j := fun m j a => by rw [hz, aWr_o _ _ a]
          have zo : ∀ m j, ¬ (m = bM ∧ (j = 54 ∨ j = 53 ∨ j = 51 ∨ j = 23)) → ¬ (bM + 46 ≤ m ∧ m ≤ bM + 48 ∧ j = 64 + (f + L.1)) → ¬ (m = bM + 50 ∧ j = I.length) → z.1 m j = x.1 m j := fun m j a b c => by rw [zg m j (by omega), mGw_o b c (by omega), aWr_o _ _ (by omega)]
          have zE : mEs f (r, false, w, s, lAp L (nI k) (nI (tok B n r.1).2.1), o, kn + 1) z := by
            refine es_g (I := I) (R := I) (k := nI k) (y := x) (by omega) (by rw [zo _ _ (by omega) (by omega) (by omega)]; exact e50) (fun j hj => by rw [zo _ _ (by omega) (by omega) (by omega)]; exact e49 j hj) (by rw [zo _ _ (by omega) (by omega) (by omega)]; exact e52) (by rw [zg _ _ (by omega), mGw_o (by omega) (by omega) (by omega), aWr_s]) (by rw [hz, aWr_s]; rfl) (by rw [zg _ _ (by omega)]; exact v23) (by rw [zg _ _ (by omega)]; exact v51) (by rw [zg _ _ (by omega)]; exact v50) (hL_f I (fun j hj => zo _ _ (by omega) (by omega) (by omega)) eh) eN (fun m j h1 h2 h3 => zo _ _ (by omega) (by omega) (by omega)) (by rw [zg _ _ (by omega), v46, hkc]) (hN _ (by rw [shr_6 _ (by omega) (by omega), zg _ _ (by omega)]; exact v47)) (by omega)
          refine mEq_g (mP_e hr F) h0 zE F ?_ (u0 := u0) G
          rw [nx _ _ rfl]
          rfl
        have w53 : ∀ j, ¬ j = 53 → (aWr x bM 53 (nI (kn + 1))).1 bM j = x.1 bM j := fun j hj => aWr_j _ _ _ hj
        by_cases q23 : k = 23
        · rw [if_neg (by omega)] at nm
          have v8 := (kM_3 km).mpr q23
          have v9 := kM_v km (Or.inr q23)
          have tv := t.2.2.2.2.2.2.2.2.2 (by rw [← hk]; exact q23)
          have b31 := t.2.2.2.2.2.2.2.1
          by_cases big : 9999 < (tok B n r.1).2.1
          · rw [if_pos (Or.inr ⟨q23, big⟩)] at est
            have E := nf false (eSt B n k (r, true, w, s, L, o, kn)) 2 (by decide) (by rw [est]; rfl)
            refine a_aload_n (i := 0) dX12_leafRead_0 rfl rfl ?_
            refine a_bipush (v := 40) dX12_leafRead_1 (by decide) ?_
            refine kX12_230 rfl dX12_leafRead_3 (Nat.le_of_ble_eq_true rfl) (isM_0 hM) (c_X12_isSign hM) ?_
            rw [i0]
            refine a_if_eq (tg := 50) dX12_leafRead_6 (by decide) (fun c_6 => ?_) (fun c_6 => ?_)
            · refine a_aload_n (i := 0) dX12_leafRead_50 rfl rfl ?_
              refine a_bipush (v := 14) dX12_leafRead_51 (by decide) ?_
              refine kX12_348 rfl dX12_leafRead_53 (Nat.le_of_ble_eq_true rfl) (isM_0 hM) (c_X12_isKey hM) ?_
              rw [i1]
              refine a_if_eq (tg := 86) dX12_leafRead_56 (by decide) (fun c_56 => ?_) (fun c_56 => ?_)
              · refine a_aload_n (i := 0) dX12_leafRead_86 rfl rfl ?_
                refine kX12_354 rfl dX12_leafRead_87 (Nat.le_of_ble_eq_true rfl) (isM_0 hM) (nm) ?_
                refine a_istore_n (i := 1) dX12_leafRead_90 rfl (by decide) ?_
                refine a_iload_n (i := 1) dX12_leafRead_91 rfl rfl ?_
                refine a_if_ge (tg := 109) dX12_leafRead_92 (by decide) (fun c_92 => ?_) (fun c_92 => ?_)
                · exact absurd c_92 (by decide)
                · refine a_aload_n (i := 0) dX12_leafRead_95 rfl rfl ?_
                  refine gX12_193 rfl dX12_leafRead_96 (isM_0 hM) ?_
                  rw [v8]
                  refine a_iconst (v := 3) dX12_leafRead_99 (by decide) ?_
                  refine a_icmp_eq (tg := 109) dX12_leafRead_100 (by decide) (fun c_100 => ?_) (fun c_100 => ?_)
                  · refine a_iload_n (i := 1) dX12_leafRead_109 rfl rfl ?_
                    refine a_if_ge (tg := 129) dX12_leafRead_110 (by decide) (fun c_110 => ?_) (fun c_110 => ?_)
                    · exact absurd c_110 (by decide)
                    · refine a_aload_n (i := 0) dX12_leafRead_113 rfl rfl ?_
                      refine gX12_204 rfl dX12_leafRead_114 (isM_0 hM) ?_
                      rw [v9]
                      refine a_sipush (v := 9999) dX12_leafRead_117 (by decide) ?_
                      refine a_icmp_le (tg := 129) dX12_leafRead_120 (by decide) (fun c_120 => ?_) (fun c_120 => ?_)
                      · exact absurd ((nI_leI (b := 9999) (by omega) (by decide)).mp c_120) (by omega)
                      · refine a_aload_n (i := 0) dX12_leafRead_123 rfl rfl ?_
                        refine a_iconst (v := 2) dX12_leafRead_124 (by decide) ?_
                        refine kX12_217 rfl dX12_leafRead_125 (Nat.le_of_ble_eq_true rfl) (isM_0 hM) (c_X12_wrong (c := 2) hM) ?_
                        exact a_iret dX12_leafRead_128 (by exact mEq_f (c := 2) hr h0 (by decide) E hr (mEb_r x))
                  · exact absurd rfl c_100
              · exact absurd rfl c_56
            · exact absurd rfl c_6
          · have eqv : (tok B n r.1).2.1 = (tok B n r.1).2.2.1 := by omega
            rw [← eqv] at v9
            by_cases kn64 : kn + 1 ≤ 64
            · rw [if_neg (by omega)] at est
              rw [est]
              rw [if_pos kn64, bI_t kn64] at ic
              have W9 : (aWr x bM 53 (nI (kn + 1))).1 bM 9 = nI (tok B n r.1).2.1 := (w53 9 (by decide)).trans v9
              have mem : mP n B r (aWr (mGw (aWr x bM 53 (nI (kn + 1))) (f + L.1) I.length 0 (nI (tok B n r.1).2.1) 0) bM 54 0) := mP_e (f := f) hr (mEb_t (mEb_w (eC_j (by omega))) (mEb_t (mGw_e (by omega)) (mEb_w (eC_j (by omega)))))
              have memb : mBt n B (aWr (mGw (aWr x bM 53 (nI (kn + 1))) (f + L.1) I.length 0 (nI (tok B n r.1).2.1) 0) bM 54 0) := mBt_e (f := f) hb (mEb_t (mEb_w (eC_j (by omega))) (mEb_t (mGw_e (by omega)) (mEb_w (eC_j (by omega)))))
              refine a_aload_n (i := 0) dX12_leafRead_0 rfl rfl ?_
              refine a_bipush (v := 40) dX12_leafRead_1 (by decide) ?_
              refine kX12_230 rfl dX12_leafRead_3 (Nat.le_of_ble_eq_true rfl) (isM_0 hM) (c_X12_isSign hM) ?_
              rw [i0]
              refine a_if_eq (tg := 50) dX12_leafRead_6 (by decide) (fun c_6 => ?_) (fun c_6 => ?_)
              · refine a_aload_n (i := 0) dX12_leafRead_50 rfl rfl ?_
                refine a_bipush (v := 14) dX12_leafRead_51 (by decide) ?_
                refine kX12_348 rfl dX12_leafRead_53 (Nat.le_of_ble_eq_true rfl) (isM_0 hM) (c_X12_isKey hM) ?_
                rw [i1]
                refine a_if_eq (tg := 86) dX12_leafRead_56 (by decide) (fun c_56 => ?_) (fun c_56 => ?_)
                · refine a_aload_n (i := 0) dX12_leafRead_86 rfl rfl ?_
                  refine kX12_354 rfl dX12_leafRead_87 (Nat.le_of_ble_eq_true rfl) (isM_0 hM) (nm) ?_
                  refine a_istore_n (i := 1) dX12_leafRead_90 rfl (by decide) ?_
                  refine a_iload_n (i := 1) dX12_leafRead_91 rfl rfl ?_
                  refine a_if_ge (tg := 109) dX12_leafRead_92 (by decide) (fun c_92 => ?_) (fun c_92 => ?_)
                  · exact absurd c_92 (by decide)
                  · refine a_aload_n (i := 0) dX12_leafRead_95 rfl rfl ?_
                    refine gX12_193 rfl dX12_leafRead_96 (isM_0 hM) ?_
                    rw [v8]
                    refine a_iconst (v := 3) dX12_leafRead_99 (by decide) ?_
                    refine a_icmp_eq (tg := 109) dX12_leafRead_100 (by decide) (fun c_100 => ?_) (fun c_100 => ?_)
                    · refine a_iload_n (i := 1) dX12_leafRead_109 rfl rfl ?_
                      refine a_if_ge (tg := 129) dX12_leafRead_110 (by decide) (fun c_110 => ?_) (fun c_110 => ?_)
                      · exact absurd c_110 (by decide)
                      · refine a_aload_n (i := 0) dX12_leafRead_113 rfl rfl ?_
                        refine gX12_204 rfl dX12_leafRead_114 (isM_0 hM) ?_
                        rw [v9]
                        refine a_sipush (v := 9999) dX12_leafRead_117 (by decide) ?_
                        refine a_icmp_le (tg := 129) dX12_leafRead_120 (by decide) (fun c_120 => ?_) (fun c_120 => ?_)
                        · refine a_aload_n (i := 0) dX12_leafRead_129 rfl rfl ?_
                          refine kX12_351 rfl dX12_leafRead_130 (Nat.le_of_ble_eq_true rfl) (isM_0 hM) (ic) ?_
                          refine a_if_ne (tg := 138) dX12_leafRead_133 (by decide) (fun c_133 => ?_) (fun c_133 => ?_)
                          · refine a_aload_n (i := 0) dX12_leafRead_138 rfl rfl ?_
                            refine a_iload_n (i := 1) dX12_leafRead_139 rfl rfl ?_
                            refine a_if_lt (tg := 147) dX12_leafRead_140 (by decide) (fun c_140 => ?_) (fun c_140 => ?_)
                            · refine a_iconst (v := 0) dX12_leafRead_147 (by decide) ?_
                              refine a_iload_n (i := 1) dX12_leafRead_148 rfl rfl ?_
                              refine a_if_lt (tg := 156) dX12_leafRead_149 (by decide) (fun c_149 => ?_) (fun c_149 => ?_)
                              · refine a_aload_n (i := 0) dX12_leafRead_156 rfl rfl ?_
                                refine gX12_204 rfl dX12_leafRead_157 (isM_0 hM) ?_
                                rw [W9]
                                refine a_iconst (v := 0) dX12_leafRead_160 (by decide) ?_
                                refine kX12_333 rfl dX12_leafRead_161 (Nat.le_of_ble_eq_true rfl) (isM_0 hM) (c_X12_grown hM ((w53 23 (by decide)).trans e23) ((w53 51 (by decide)).trans e51) (by omega) (by omega)) ?_
                                refine a_aload_n (i := 0) dX12_leafRead_164 rfl rfl ?_
                                refine a_iconst (v := 0) dX12_leafRead_165 (by decide) ?_
                                refine pX12_357 rfl dX12_leafRead_166 (isM_0 hM) (by first | exact Or.inl rfl | exact Or.inr rfl | assumption) ?_
                                refine a_aload_n (i := 0) dX12_leafRead_169 rfl rfl ?_
                                refine kgX12_227 rfl dX12_leafRead_170 (Nat.le_of_ble_eq_true rfl) (isM_0 hM) (c_X12_token hM memb (mP_n mem h0).1 (mP_n mem h0).2) ?_
                                rintro v y ⟨rfl, u0, G⟩
                                refine a_iconst (v := 1) dX12_leafRead_173 (by decide) ?_
                                exact a_iret dX12_leafRead_174 (by exact GO 0 _ y kn64 (by rw [q23]; decide) (fun X hX => Or.inl ⟨by rw [q23]; decide, hX, rfl⟩) u0 G)
                              · exact absurd (by decide) c_149
                            · exact absurd (by decide) c_140
                          · exact absurd c_133 (by decide)
                        · exact absurd (nI_le (b := 9999) (by omega) (by decide)) c_120
                    · exact absurd rfl c_100
                · exact absurd rfl c_56
              · exact absurd rfl c_6
            · rw [if_pos (Or.inl (by omega))] at est
              have E := nf false (eSt B n k (r, true, w, s, L, o, kn)) 2 (by decide) (by rw [est]; rfl)
              rw [if_neg kn64, bI_f kn64] at ic
              refine a_aload_n (i := 0) dX12_leafRead_0 rfl rfl ?_
              refine a_bipush (v := 40) dX12_leafRead_1 (by decide) ?_
              refine kX12_230 rfl dX12_leafRead_3 (Nat.le_of_ble_eq_true rfl) (isM_0 hM) (c_X12_isSign hM) ?_
              rw [i0]
              refine a_if_eq (tg := 50) dX12_leafRead_6 (by decide) (fun c_6 => ?_) (fun c_6 => ?_)
              · refine a_aload_n (i := 0) dX12_leafRead_50 rfl rfl ?_
                refine a_bipush (v := 14) dX12_leafRead_51 (by decide) ?_
                refine kX12_348 rfl dX12_leafRead_53 (Nat.le_of_ble_eq_true rfl) (isM_0 hM) (c_X12_isKey hM) ?_
                rw [i1]
                refine a_if_eq (tg := 86) dX12_leafRead_56 (by decide) (fun c_56 => ?_) (fun c_56 => ?_)
                · refine a_aload_n (i := 0) dX12_leafRead_86 rfl rfl ?_
                  refine kX12_354 rfl dX12_leafRead_87 (Nat.le_of_ble_eq_true rfl) (isM_0 hM) (nm) ?_
                  refine a_istore_n (i := 1) dX12_leafRead_90 rfl (by decide) ?_
                  refine a_iload_n (i := 1) dX12_leafRead_91 rfl rfl ?_
                  refine a_if_ge (tg := 109) dX12_leafRead_92 (by decide) (fun c_92 => ?_) (fun c_92 => ?_)
                  · exact absurd c_92 (by decide)
                  · refine a_aload_n (i := 0) dX12_leafRead_95 rfl rfl ?_
                    refine gX12_193 rfl dX12_leafRead_96 (isM_0 hM) ?_
                    rw [v8]
                    refine a_iconst (v := 3) dX12_leafRead_99 (by decide) ?_
                    refine a_icmp_eq (tg := 109) dX12_leafRead_100 (by decide) (fun c_100 => ?_) (fun c_100 => ?_)
                    · refine a_iload_n (i := 1) dX12_leafRead_109 rfl rfl ?_
                      refine a_if_ge (tg := 129) dX12_leafRead_110 (by decide) (fun c_110 => ?_) (fun c_110 => ?_)
                      · exact absurd c_110 (by decide)
                      · refine a_aload_n (i := 0) dX12_leafRead_113 rfl rfl ?_
                        refine gX12_204 rfl dX12_leafRead_114 (isM_0 hM) ?_
                        rw [v9]
                        refine a_sipush (v := 9999) dX12_leafRead_117 (by decide) ?_
                        refine a_icmp_le (tg := 129) dX12_leafRead_120 (by decide) (fun c_120 => ?_) (fun c_120 => ?_)
                        · refine a_aload_n (i := 0) dX12_leafRead_129 rfl rfl ?_
                          refine kX12_351 rfl dX12_leafRead_130 (Nat.le_of_ble_eq_true rfl) (isM_0 hM) (ic) ?_
                          refine a_if_ne (tg := 138) dX12_leafRead_133 (by decide) (fun c_133 => ?_) (fun c_133 => ?_)
                          · exact absurd rfl c_133
                          · refine a_iconst (v := 0) dX12_leafRead_136 (by decide) ?_
                            exact a_iret dX12_leafRead_137 (by exact mEq_f (c := 2) hr h0 (by decide) E hr (mEb_r x))
                        · exact absurd (nI_le (b := 9999) (by omega) (by decide)) c_120
                    · exact absurd rfl c_100
                · exact absurd rfl c_56
              · exact absurd rfl c_6
        · have qn : 15 ≤ k ∧ k ≤ 21 := by omega
          rw [if_pos qn] at nm
          have p0 : (0 : Int32) ≤ nI (k - 15) := nI_pos' (by omega)
          have p1 : ¬ nI (k - 15) < 0 := nI_pos (by omega)
          have ek : nI k - 15 = nI (k - 15) := pk_sub (b := 15) qn.1
          have q15 : 15 ≤ nI k ∧ nI k ≤ 21 := ⟨nI_le (a := 15) qn.1 (by omega), nI_le (b := 21) qn.2 (by decide)⟩
          have kc1 : (1 : Int32) = kcode (nI k) := by
            unfold kcode
            rw [if_neg (show ¬ nI k = 23 from fun g => q23 ((nI_eq (b := 23) (by omega) (by decide)).mp g)), if_pos q15]
          by_cases kn64 : kn + 1 ≤ 64
          · rw [if_neg (by omega)] at est
            rw [est]
            rw [if_pos kn64, bI_t kn64] at ic
            have mem : mP n B r (aWr (mGw (aWr x bM 53 (nI (kn + 1))) (f + L.1) I.length 1 (nI (k - 15)) 0) bM 54 0) := mP_e (f := f) hr (mEb_t (mEb_w (eC_j (by omega))) (mEb_t (mGw_e (by omega)) (mEb_w (eC_j (by omega)))))
            have memb : mBt n B (aWr (mGw (aWr x bM 53 (nI (kn + 1))) (f + L.1) I.length 1 (nI (k - 15)) 0) bM 54 0) := mBt_e (f := f) hb (mEb_t (mEb_w (eC_j (by omega))) (mEb_t (mGw_e (by omega)) (mEb_w (eC_j (by omega)))))
            refine a_aload_n (i := 0) dX12_leafRead_0 rfl rfl ?_
            refine a_bipush (v := 40) dX12_leafRead_1 (by decide) ?_
            refine kX12_230 rfl dX12_leafRead_3 (Nat.le_of_ble_eq_true rfl) (isM_0 hM) (c_X12_isSign hM) ?_
            rw [i0]
            refine a_if_eq (tg := 50) dX12_leafRead_6 (by decide) (fun c_6 => ?_) (fun c_6 => ?_)
            · refine a_aload_n (i := 0) dX12_leafRead_50 rfl rfl ?_
              refine a_bipush (v := 14) dX12_leafRead_51 (by decide) ?_
              refine kX12_348 rfl dX12_leafRead_53 (Nat.le_of_ble_eq_true rfl) (isM_0 hM) (c_X12_isKey hM) ?_
              rw [i1]
              refine a_if_eq (tg := 86) dX12_leafRead_56 (by decide) (fun c_56 => ?_) (fun c_56 => ?_)
              · refine a_aload_n (i := 0) dX12_leafRead_86 rfl rfl ?_
                refine kX12_354 rfl dX12_leafRead_87 (Nat.le_of_ble_eq_true rfl) (isM_0 hM) (nm) ?_
                refine a_istore_n (i := 1) dX12_leafRead_90 rfl (by decide) ?_
                refine a_iload_n (i := 1) dX12_leafRead_91 rfl rfl ?_
                refine a_if_ge (tg := 109) dX12_leafRead_92 (by decide) (fun c_92 => ?_) (fun c_92 => ?_)
                · refine a_iload_n (i := 1) dX12_leafRead_109 rfl rfl ?_
                  refine a_if_ge (tg := 129) dX12_leafRead_110 (by decide) (fun c_110 => ?_) (fun c_110 => ?_)
                  · refine a_aload_n (i := 0) dX12_leafRead_129 rfl rfl ?_
                    refine kX12_351 rfl dX12_leafRead_130 (Nat.le_of_ble_eq_true rfl) (isM_0 hM) (ic) ?_
                    refine a_if_ne (tg := 138) dX12_leafRead_133 (by decide) (fun c_133 => ?_) (fun c_133 => ?_)
                    · refine a_aload_n (i := 0) dX12_leafRead_138 rfl rfl ?_
                      refine a_iload_n (i := 1) dX12_leafRead_139 rfl rfl ?_
                      refine a_if_lt (tg := 147) dX12_leafRead_140 (by decide) (fun c_140 => ?_) (fun c_140 => ?_)
                      · exact absurd c_140 p1
                      · refine a_iconst (v := 1) dX12_leafRead_143 (by decide) ?_
                        refine a_goto (tg := 148) dX12_leafRead_144 (by decide) ?_
                        refine a_iload_n (i := 1) dX12_leafRead_148 rfl rfl ?_
                        refine a_if_lt (tg := 156) dX12_leafRead_149 (by decide) (fun c_149 => ?_) (fun c_149 => ?_)
                        · exact absurd c_149 p1
                        · refine a_iload_n (i := 1) dX12_leafRead_152 rfl rfl ?_
                          refine a_goto (tg := 160) dX12_leafRead_153 (by decide) ?_
                          refine a_iconst (v := 0) dX12_leafRead_160 (by decide) ?_
                          refine kX12_333 rfl dX12_leafRead_161 (Nat.le_of_ble_eq_true rfl) (isM_0 hM) (c_X12_grown hM ((w53 23 (by decide)).trans e23) ((w53 51 (by decide)).trans e51) (by omega) (by omega)) ?_
                          refine a_aload_n (i := 0) dX12_leafRead_164 rfl rfl ?_
                          refine a_iconst (v := 0) dX12_leafRead_165 (by decide) ?_
                          refine pX12_357 rfl dX12_leafRead_166 (isM_0 hM) (by first | exact Or.inl rfl | exact Or.inr rfl | assumption) ?_
                          refine a_aload_n (i := 0) dX12_leafRead_169 rfl rfl ?_
                          refine kgX12_227 rfl dX12_leafRead_170 (Nat.le_of_ble_eq_true rfl) (isM_0 hM) (c_X12_token hM memb (mP_n mem h0).1 (mP_n mem h0).2) ?_
                          rintro v y ⟨rfl, u0, G⟩
                          refine a_iconst (v := 1) dX12_leafRead_173 (by decide) ?_
                          exact a_iret dX12_leafRead_174 (by exact GO 1 _ y kn64 kc1 (fun X hX => Or.inr (Or.inl ⟨q15, by rw [hX, ek], rfl⟩)) u0 G)
                    · exact absurd c_133 (by decide)
                  · exact absurd p0 c_110
                · exact absurd p0 c_92
              · exact absurd rfl c_56
            · exact absurd rfl c_6
          · rw [if_pos (Or.inl (by omega))] at est
            have E := nf false (eSt B n k (r, true, w, s, L, o, kn)) 2 (by decide) (by rw [est]; rfl)
            rw [if_neg kn64, bI_f kn64] at ic
            refine a_aload_n (i := 0) dX12_leafRead_0 rfl rfl ?_
            refine a_bipush (v := 40) dX12_leafRead_1 (by decide) ?_
            refine kX12_230 rfl dX12_leafRead_3 (Nat.le_of_ble_eq_true rfl) (isM_0 hM) (c_X12_isSign hM) ?_
            rw [i0]
            refine a_if_eq (tg := 50) dX12_leafRead_6 (by decide) (fun c_6 => ?_) (fun c_6 => ?_)
            · refine a_aload_n (i := 0) dX12_leafRead_50 rfl rfl ?_
              refine a_bipush (v := 14) dX12_leafRead_51 (by decide) ?_
              refine kX12_348 rfl dX12_leafRead_53 (Nat.le_of_ble_eq_true rfl) (isM_0 hM) (c_X12_isKey hM) ?_
              rw [i1]
              refine a_if_eq (tg := 86) dX12_leafRead_56 (by decide) (fun c_56 => ?_) (fun c_56 => ?_)
              · refine a_aload_n (i := 0) dX12_leafRead_86 rfl rfl ?_
                refine kX12_354 rfl dX12_leafRead_87 (Nat.le_of_ble_eq_true rfl) (isM_0 hM) (nm) ?_
                refine a_istore_n (i := 1) dX12_leafRead_90 rfl (by decide) ?_
                refine a_iload_n (i := 1) dX12_leafRead_91 rfl rfl ?_
                refine a_if_ge (tg := 109) dX12_leafRead_92 (by decide) (fun c_92 => ?_) (fun c_92 => ?_)
                · refine a_iload_n (i := 1) dX12_leafRead_109 rfl rfl ?_
                  refine a_if_ge (tg := 129) dX12_leafRead_110 (by decide) (fun c_110 => ?_) (fun c_110 => ?_)
                  · refine a_aload_n (i := 0) dX12_leafRead_129 rfl rfl ?_
                    refine kX12_351 rfl dX12_leafRead_130 (Nat.le_of_ble_eq_true rfl) (isM_0 hM) (ic) ?_
                    refine a_if_ne (tg := 138) dX12_leafRead_133 (by decide) (fun c_133 => ?_) (fun c_133 => ?_)
                    · exact absurd rfl c_133
                    · refine a_iconst (v := 0) dX12_leafRead_136 (by decide) ?_
                      exact a_iret dX12_leafRead_137 (by exact mEq_f (c := 2) hr h0 (by decide) E hr (mEb_r x))
                  · exact absurd p0 c_110
                · exact absurd p0 c_92
              · exact absurd rfl c_56
            · exact absurd rfl c_6
      · have e : (eSt B n k (r, true, w, s, L, o, kn)).1 = pFl B n 1 r := by
          unfold eSt; rw [if_neg q24, if_neg q14, if_neg qL]; rfl
        have E := nf false _ 1 (by decide) e
        rw [if_neg (by omega)] at nm
        refine a_aload_n (i := 0) dX12_leafRead_0 rfl rfl ?_
        refine a_bipush (v := 40) dX12_leafRead_1 (by decide) ?_
        refine kX12_230 rfl dX12_leafRead_3 (Nat.le_of_ble_eq_true rfl) (isM_0 hM) (c_X12_isSign hM) ?_
        rw [i0]
        refine a_if_eq (tg := 50) dX12_leafRead_6 (by decide) (fun c_6 => ?_) (fun c_6 => ?_)
        · refine a_aload_n (i := 0) dX12_leafRead_50 rfl rfl ?_
          refine a_bipush (v := 14) dX12_leafRead_51 (by decide) ?_
          refine kX12_348 rfl dX12_leafRead_53 (Nat.le_of_ble_eq_true rfl) (isM_0 hM) (c_X12_isKey hM) ?_
          rw [i1]
          refine a_if_eq (tg := 86) dX12_leafRead_56 (by decide) (fun c_56 => ?_) (fun c_56 => ?_)
          · refine a_aload_n (i := 0) dX12_leafRead_86 rfl rfl ?_
            refine kX12_354 rfl dX12_leafRead_87 (Nat.le_of_ble_eq_true rfl) (isM_0 hM) (nm) ?_
            refine a_istore_n (i := 1) dX12_leafRead_90 rfl (by decide) ?_
            refine a_iload_n (i := 1) dX12_leafRead_91 rfl rfl ?_
            refine a_if_ge (tg := 109) dX12_leafRead_92 (by decide) (fun c_92 => ?_) (fun c_92 => ?_)
            · exact absurd c_92 (by decide)
            · refine a_aload_n (i := 0) dX12_leafRead_95 rfl rfl ?_
              refine gX12_193 rfl dX12_leafRead_96 (isM_0 hM) ?_
              refine a_iconst (v := 3) dX12_leafRead_99 (by decide) ?_
              refine a_icmp_eq (tg := 109) dX12_leafRead_100 (by decide) (fun c_100 => ?_) (fun c_100 => ?_)
              · exact absurd ((kM_3 km).mp c_100) (by omega)
              · refine a_aload_n (i := 0) dX12_leafRead_103 rfl rfl ?_
                refine a_iconst (v := 1) dX12_leafRead_104 (by decide) ?_
                refine kX12_217 rfl dX12_leafRead_105 (Nat.le_of_ble_eq_true rfl) (isM_0 hM) (c_X12_wrong (c := 1) hM) ?_
                exact a_iret dX12_leafRead_108 (by exact mEq_f (c := 1) hr h0 (by decide) E hr (mEb_r x))
          · exact absurd rfl c_56
        · exact absurd rfl c_6
end qBD
