/-! READING an E, the model: isSign, isKey, nameMet, isCounted, waitsFor, leafRead -/
theorem kM_sg {k w : Nat} {a b : Int32} (h : kM k w a b) {c : Nat} {ch : Int32} (hc : (c = 24 ∧ ch = 40) ∨ (c = 25 ∧ ch = 41) ∨ (c = 26 ∧ ch = 59) ∨ (c = 33 ∧ ch = 43) ∨ (c = 34 ∧ ch = 45) ∨ (c = 35 ∧ ch = 42) ∨ (c = 36 ∧ ch = 47)) : (a = 4 ∧ b = ch) ↔ k = c := by
  unfold kM at h
  rcases h with ⟨h1, rfl, h3⟩ | ⟨h1, rfl, h3⟩ | ⟨h1, rfl, h3⟩ | ⟨h1, rfl, h3⟩ | ⟨h1, rfl⟩ | ⟨h1, rfl | ⟨rfl, h3⟩⟩ | ⟨rfl, h3⟩
  · exact ⟨fun e => absurd e.1 (by decide), fun e => by omega⟩
  · exact ⟨fun e => absurd e.1 (by decide), fun e => by omega⟩
  · exact ⟨fun e => absurd e.1 (by decide), fun e => by omega⟩
  · exact ⟨fun e => absurd e.1 (by decide), fun e => by omega⟩
  · exact ⟨fun e => absurd e.1 (by decide), fun e => by omega⟩
  · exact ⟨fun e => absurd e.1 (by decide), fun e => by omega⟩
  · refine ⟨fun e => ?_, fun e => by omega⟩
    rw [h3] at e
    rcases hc with ⟨_, rfl⟩ | ⟨_, rfl⟩ | ⟨_, rfl⟩ | ⟨_, rfl⟩ | ⟨_, rfl⟩ | ⟨_, rfl⟩ | ⟨_, rfl⟩ <;> exact absurd e.2 (by decide)
  · rcases h3 with ⟨rfl, rfl⟩ | ⟨rfl, rfl⟩ | ⟨rfl, rfl⟩ | ⟨rfl, rfl⟩ | ⟨rfl, rfl⟩ | ⟨rfl, rfl⟩ | ⟨rfl, rfl⟩ <;> rcases hc with ⟨rfl, rfl⟩ | ⟨rfl, rfl⟩ | ⟨rfl, rfl⟩ | ⟨rfl, rfl⟩ | ⟨rfl, rfl⟩ | ⟨rfl, rfl⟩ | ⟨rfl, rfl⟩ <;> first | exact ⟨fun _ => rfl, fun _ => ⟨rfl, rfl⟩⟩ | exact ⟨fun e => absurd e.2 (by decide), fun e => absurd e (by decide)⟩
theorem kM_1 {k w : Nat} {a b : Int32} (h : kM k w a b) : (a = 1 ↔ k ≤ 21) ∧ (k ≤ 21 → b = nI (swp k)) := by
  unfold kM at h
  rcases h with ⟨h1, rfl, h3⟩ | ⟨h1, rfl, h3⟩ | ⟨h1, rfl, h3⟩ | ⟨h1, rfl, h3⟩ | ⟨h1, rfl⟩ | ⟨h1, rfl | ⟨rfl, h3⟩⟩ | ⟨rfl, h3⟩
  · exact ⟨⟨fun _ => h1, fun _ => rfl⟩, fun _ => h3⟩
  all_goals exact ⟨⟨fun e => absurd e (by decide), fun e => by omega⟩, fun e => by omega⟩
theorem kM_5 {k w : Nat} {a b : Int32} (h : kM k w a b) : (a = 5 ↔ (27 ≤ k ∧ k ≤ 32)) ∧ (27 ≤ k ∧ k ≤ 32 → b = nI (k - 27)) := by
  unfold kM at h
  rcases h with ⟨h1, rfl, h3⟩ | ⟨h1, rfl, h3⟩ | ⟨h1, rfl, h3⟩ | ⟨h1, rfl, h3⟩ | ⟨h1, rfl⟩ | ⟨h1, rfl | ⟨rfl, h3⟩⟩ | ⟨rfl, h3⟩
  case inr.inr.inr.inl => exact ⟨⟨fun _ => h1, fun _ => rfl⟩, fun _ => h3⟩
  all_goals exact ⟨⟨fun e => absurd e (by decide), fun e => by omega⟩, fun e => by omega⟩
theorem swp_le : ∀ k, k ≤ 21 → swp k ≤ 21 ∧ (swp k = 14 ↔ k = 14) ∧ (swp k = 12 ↔ k = 13) ∧ (swp k = 13 ↔ k = 12) ∧ (15 ≤ swp k ↔ 15 ≤ k) ∧ (15 ≤ k → swp k = k) ∧ (swp k ≤ 8 ↔ k ≤ 8) ∧ (k ≤ 11 → swp k = k) ∧ ((9 ≤ swp k ∧ swp k ≤ 11) ↔ (9 ≤ k ∧ k ≤ 11)) := by decide +kernel
theorem kM_ky {k w j : Nat} {a b : Int32} (h : kM k w a b) (hj : j < 2 ^ 31) : (a = 1 ∧ b = nI j) ↔ (k ≤ 21 ∧ swp k = j) := by
  obtain ⟨h1, h2⟩ := kM_1 h
  refine ⟨fun e => ?_, fun e => ⟨h1.mpr e.1, by rw [h2 e.1, e.2]⟩⟩
  have e1 := h1.mp e.1
  have := swp_le k e1
  exact ⟨e1, (nI_eq (by omega) hj).mp ((h2 e1).symm.trans e.2)⟩
section qBC
variable {l : Launch} {d : Nat} {D : Nat → Bool} {x y : aS} {n f : Nat} {B : Nat → Nat} {S : eS} {r r' : zP}
set_option maxHeartbeats 4000000 in
set_option maxRecDepth 100000 in
theorem c_X12_isSign {c : Int32} (hM : D 12 = true) : aDI l mX12_isSign d D [.ref bM, .int c] x (bI (decide (x.1 bM 8 = 4 ∧ x.1 bM 9 = c))) x := by
  refine a_metZ (by decide) (Nat.le_of_ble_eq_true rfl) rfl (bI_01 _) ?_
  refine a_aload_n (i := 0) dX12_isSign_0 rfl rfl ?_
  refine gX12_193 rfl dX12_isSign_1 (isM_0 hM) ?_
  refine a_iconst (v := 4) dX12_isSign_4 (by decide) ?_
  refine a_icmp_ne (tg := 20) dX12_isSign_5 (by decide) (fun c_5 => ?_) (fun c_5 => ?_)
  · rw [bI_f (fun e => c_5 e.1)]
    refine a_iconst (v := 0) dX12_isSign_20 (by decide) ?_
    exact a_iret dX12_isSign_21 (by exact ⟨rfl, rfl⟩)
  · refine a_aload_n (i := 0) dX12_isSign_8 rfl rfl ?_
    refine gX12_204 rfl dX12_isSign_9 (isM_0 hM) ?_
    refine a_iload_n (i := 1) dX12_isSign_12 rfl rfl ?_
    refine a_icmp_ne (tg := 20) dX12_isSign_13 (by decide) (fun c_13 => ?_) (fun c_13 => ?_)
    · rw [bI_f (fun e => c_13 e.2)]
      refine a_iconst (v := 0) dX12_isSign_20 (by decide) ?_
      exact a_iret dX12_isSign_21 (by exact ⟨rfl, rfl⟩)
    · rw [bI_t ⟨c_5, c_13⟩]
      refine a_iconst (v := 1) dX12_isSign_16 (by decide) ?_
      refine a_goto (tg := 21) dX12_isSign_17 (by decide) ?_
      exact a_iret dX12_isSign_21 (by exact ⟨rfl, rfl⟩)
set_option maxHeartbeats 4000000 in
set_option maxRecDepth 100000 in
theorem c_X12_isKey {c : Int32} (hM : D 12 = true) : aDI l mX12_isKey d D [.ref bM, .int c] x (bI (decide (x.1 bM 8 = 1 ∧ x.1 bM 9 = c))) x := by
  refine a_metZ (by decide) (Nat.le_of_ble_eq_true rfl) rfl (bI_01 _) ?_
  refine a_aload_n (i := 0) dX12_isKey_0 rfl rfl ?_
  refine gX12_193 rfl dX12_isKey_1 (isM_0 hM) ?_
  refine a_iconst (v := 1) dX12_isKey_4 (by decide) ?_
  refine a_icmp_ne (tg := 20) dX12_isKey_5 (by decide) (fun c_5 => ?_) (fun c_5 => ?_)
  · rw [bI_f (fun e => c_5 e.1)]
    refine a_iconst (v := 0) dX12_isKey_20 (by decide) ?_
    exact a_iret dX12_isKey_21 (by exact ⟨rfl, rfl⟩)
  · refine a_aload_n (i := 0) dX12_isKey_8 rfl rfl ?_
    refine gX12_204 rfl dX12_isKey_9 (isM_0 hM) ?_
    refine a_iload_n (i := 1) dX12_isKey_12 rfl rfl ?_
    refine a_icmp_ne (tg := 20) dX12_isKey_13 (by decide) (fun c_13 => ?_) (fun c_13 => ?_)
    · rw [bI_f (fun e => c_13 e.2)]
      refine a_iconst (v := 0) dX12_isKey_20 (by decide) ?_
      exact a_iret dX12_isKey_21 (by exact ⟨rfl, rfl⟩)
    · rw [bI_t ⟨c_5, c_13⟩]
      refine a_iconst (v := 1) dX12_isKey_16 (by decide) ?_
      refine a_goto (tg := 21) dX12_isKey_17 (by decide) ?_
      exact a_iret dX12_isKey_21 (by exact ⟨rfl, rfl⟩)
set_option maxHeartbeats 4000000 in
set_option maxRecDepth 100000 in
theorem c_X12_nameMet {k w : Nat} (hM : D 12 = true) (km : kM k w (x.1 bM 8) (x.1 bM 9)) : aDI l mX12_nameMet d D [.ref bM] x (if 15 ≤ k ∧ k ≤ 21 then nI (k - 15) else -1) x := by
  refine a_metI (by decide) (Nat.le_of_ble_eq_true rfl) rfl ?_
  obtain ⟨h1, h2⟩ := kM_1 km
  by_cases q : k ≤ 21
  · have e8 := h1.mpr q
    have e9 := h2 q
    have sw := swp_le k q
    by_cases q15 : 15 ≤ k
    · rw [if_pos ⟨q15, q⟩]
      rw [sw.2.2.2.2.2.1 q15] at e9
      refine a_aload_n (i := 0) dX12_nameMet_0 rfl rfl ?_
      refine gX12_193 rfl dX12_nameMet_1 (isM_0 hM) ?_
      rw [e8]
      refine a_iconst (v := 1) dX12_nameMet_4 (by decide) ?_
      refine a_icmp_ne (tg := 27) dX12_nameMet_5 (by decide) (fun c_5 => ?_) (fun c_5 => ?_)
      · exact absurd rfl c_5
      · refine a_aload_n (i := 0) dX12_nameMet_8 rfl rfl ?_
        refine gX12_204 rfl dX12_nameMet_9 (isM_0 hM) ?_
        rw [e9]
        refine a_bipush (v := 15) dX12_nameMet_12 (by decide) ?_
        refine a_icmp_lt (tg := 27) dX12_nameMet_14 (by decide) (fun c_14 => ?_) (fun c_14 => ?_)
        · exact absurd c_14 (nI_nlt (b := 15) q15 (by omega))
        · refine a_aload_n (i := 0) dX12_nameMet_17 rfl rfl ?_
          refine gX12_204 rfl dX12_nameMet_18 (isM_0 hM) ?_
          rw [e9]
          refine a_bipush (v := 15) dX12_nameMet_21 (by decide) ?_
          refine a_isub dX12_nameMet_23 ?_
          rw [show nI k - 15 = nI (k - 15) from pk_sub (b := 15) q15]
          refine a_goto (tg := 28) dX12_nameMet_24 (by decide) ?_
          exact a_iret dX12_nameMet_28 (by exact ⟨rfl, rfl⟩)
    · rw [if_neg (fun e => q15 e.1)]
      refine a_aload_n (i := 0) dX12_nameMet_0 rfl rfl ?_
      refine gX12_193 rfl dX12_nameMet_1 (isM_0 hM) ?_
      rw [e8]
      refine a_iconst (v := 1) dX12_nameMet_4 (by decide) ?_
      refine a_icmp_ne (tg := 27) dX12_nameMet_5 (by decide) (fun c_5 => ?_) (fun c_5 => ?_)
      · exact absurd rfl c_5
      · refine a_aload_n (i := 0) dX12_nameMet_8 rfl rfl ?_
        refine gX12_204 rfl dX12_nameMet_9 (isM_0 hM) ?_
        rw [e9]
        refine a_bipush (v := 15) dX12_nameMet_12 (by decide) ?_
        refine a_icmp_lt (tg := 27) dX12_nameMet_14 (by decide) (fun c_14 => ?_) (fun c_14 => ?_)
        · refine a_iconst (v := (-1)) dX12_nameMet_27 (by decide) ?_
          exact a_iret dX12_nameMet_28 (by exact ⟨rfl, rfl⟩)
        · exact absurd (nI_lt (b := 15) (by omega) (by decide)) c_14
  · rw [if_neg (fun e => q e.2)]
    refine a_aload_n (i := 0) dX12_nameMet_0 rfl rfl ?_
    refine gX12_193 rfl dX12_nameMet_1 (isM_0 hM) ?_
    refine a_iconst (v := 1) dX12_nameMet_4 (by decide) ?_
    refine a_icmp_ne (tg := 27) dX12_nameMet_5 (by decide) (fun c_5 => ?_) (fun c_5 => ?_)
    · refine a_iconst (v := (-1)) dX12_nameMet_27 (by decide) ?_
      exact a_iret dX12_nameMet_28 (by exact ⟨rfl, rfl⟩)
    · exact absurd (h1.mp c_5) q
set_option maxHeartbeats 4000000 in
set_option maxRecDepth 100000 in
theorem c_X12_isCounted {kn : Nat} (hM : D 12 = true) (h : x.1 bM 53 = nI kn) (h64 : kn ≤ 64) : aDI l mX12_isCounted (d + 1) D [.ref bM] x (bI (decide (kn + 1 ≤ 64))) (if kn + 1 ≤ 64 then aWr x bM 53 (nI (kn + 1)) else aWr (aWr x bM 4 (nI 2)) bM 5 (x.1 bM 10)) := by
  refine a_metZ (by decide) (Nat.le_of_ble_eq_true rfl) rfl (bI_01 _) ?_
  by_cases q : kn + 1 ≤ 64
  · rw [bI_t q, if_pos q]
    refine a_aload_n (i := 0) dX12_isCounted_0 rfl rfl ?_
    refine gX12_255 rfl dX12_isCounted_1 (isM_0 hM) ?_
    rw [h]
    refine a_bipush (v := 64) dX12_isCounted_4 (by decide) ?_
    refine a_icmp_ne (tg := 15) dX12_isCounted_6 (by decide) (fun c_6 => ?_) (fun c_6 => ?_)
    · refine a_aload_n (i := 0) dX12_isCounted_15 rfl rfl ?_
      refine a_dup dX12_isCounted_16 rfl ?_
      refine gX12_255 rfl dX12_isCounted_17 (isM_0 hM) ?_
      rw [h]
      refine a_iconst (v := 1) dX12_isCounted_20 (by decide) ?_
      refine a_iadd dX12_isCounted_21 ?_
      rw [nI_1]
      refine pX12_255 rfl dX12_isCounted_22 (isM_0 hM) ?_
      refine a_iconst (v := 1) dX12_isCounted_25 (by decide) ?_
      exact a_iret dX12_isCounted_26 (by exact ⟨rfl, rfl⟩)
    · exact absurd ((nI_eq (b := 64) (by omega) (by decide)).mp c_6) (by omega)
  · rw [bI_f q, if_neg q]
    have e : kn = 64 := by omega
    rw [e] at h
    refine a_aload_n (i := 0) dX12_isCounted_0 rfl rfl ?_
    refine gX12_255 rfl dX12_isCounted_1 (isM_0 hM) ?_
    rw [h]
    refine a_bipush (v := 64) dX12_isCounted_4 (by decide) ?_
    refine a_icmp_ne (tg := 15) dX12_isCounted_6 (by decide) (fun c_6 => ?_) (fun c_6 => ?_)
    · exact absurd rfl c_6
    · refine a_aload_n (i := 0) dX12_isCounted_9 rfl rfl ?_
      refine a_iconst (v := 2) dX12_isCounted_10 (by decide) ?_
      refine kX12_217 rfl dX12_isCounted_11 (Nat.le_of_ble_eq_true rfl) (isM_0 hM) (c_X12_wrong (c := 2) hM) ?_
      exact a_iret dX12_isCounted_14 (by exact ⟨rfl, rfl⟩)
set_option maxHeartbeats 4000000 in
set_option maxRecDepth 100000 in
theorem c_X12_waitsFor {w : Nat} {c : Int32} (hM : D 12 = true) (h : x.1 bM 50 = nI w) (hw : w < 96) : aDV l mX12_waitsFor d D [.ref bM, .int c] x (aWr (aWr x (bM + 49) w c) bM 50 (nI (w + 1))) := by
  refine a_metV (by decide) (Nat.le_of_ble_eq_true rfl) rfl ?_
  refine a_aload_n (i := 0) dX12_waitsFor_0 rfl rfl ?_
  refine gX12_93 rfl dX12_waitsFor_1 (isM_0 hM) ?_
  refine a_aload_n (i := 0) dX12_waitsFor_4 rfl rfl ?_
  refine gX12_322 rfl dX12_waitsFor_5 (isM_0 hM) ?_
  rw [h]
  refine a_iload_n (i := 1) dX12_waitsFor_8 rfl rfl ?_
  refine a_iastN dX12_waitsFor_9 (isM_49 hM) (by first | with_reducible exact rfl | with_reducible exact ix8 _ _ | with_reducible exact ix12 _ _ | exact rfl) (by omega) (by decide) ?_
  refine a_aload_n (i := 0) dX12_waitsFor_10 rfl rfl ?_
  refine a_dup dX12_waitsFor_11 rfl ?_
  refine gX12_322 rfl dX12_waitsFor_12 (isM_0 hM) ?_
  rw [aWr_n _ _ _ (by decide), h]
  refine a_iconst (v := 1) dX12_waitsFor_15 (by decide) ?_
  refine a_iadd dX12_waitsFor_16 ?_
  rw [nI_1]
  refine pX12_322 rfl dX12_waitsFor_17 (isM_0 hM) ?_
  exact a_vret dX12_waitsFor_20 (by exact ⟨rfl, rfl⟩)
/-- the nodes stay, the rest may change -/
theorem es_up {du du' : Bool} {w w' o o' kn kn' : Nat} {s s' : Nat → Nat} {L : zL} (E : mEs f (r, du, w, s, L, o, kn) x) (fr : ∀ m j, m = bM + 50 ∨ (bM + 46 ≤ m ∧ m ≤ bM + 48) ∨ (m = bM ∧ (j = 51 ∨ j = 23)) → y.1 m j = x.1 m j) (h50 : y.1 bM 50 = nI w') (h49 : ∀ j, j < w' → y.1 (bM + 49) j = kcd (s' j)) (h52 : y.1 bM 52 = nI o') (h53 : y.1 bM 53 = nI kn') (h54 : y.1 bM 54 = bI du') (h55 : du' = true → y.1 bM 55 = bI (decide (¬ (0 < w' ∧ 3 < kBd (s' (w' - 1)))))) (hb : wbn s' w' + (if du = true then 1 else 0) = wbn s w + (if du' = true then 1 else 0)) : mEs f (r', du', w', s', L, o', kn') y := by
  obtain ⟨e50, e49, e52, e53, e23, e54, e55, I, P, O, e51, eh, eN, el⟩ := E
  have el : I.length + (if du = true then 1 else 0) = 1 + wbn s w := el
  refine ⟨h50, h49, h52, h53, by rw [fr _ _ (by omega)]; exact e23, h54, h55, I, P, O, by rw [fr _ _ (by omega)]; exact e51, hL_f I (fun j _ => fr _ _ (Or.inl rfl)) eh, nds_f eN (fun m j h1 h2 h3 => by rw [shr_6 _ h1 h2, shr_6 _ h1 h2]; exact fr _ _ (by omega)), ?_⟩
  show I.length + (if du' = true then 1 else 0) = 1 + wbn s' w'
  omega
theorem eC_j {j : Nat} (h : j = 23 ∨ (50 ≤ j ∧ j ≤ 55)) : eC f bM j := Or.inl ⟨rfl, h⟩
/-- the token goes on: the rest of the state stays -/
theorem es_s (E : mEs f S x) (F : mSt x y) : mEs f (r', S.2) y := by
  obtain ⟨r, du, w, s, L, o, kn⟩ := S
  have g : ∀ m j, ¬ (m = bM ∧ 7 ≤ j ∧ j ≤ 10) → y.1 m j = x.1 m j := F.1
  have E' := E
  obtain ⟨e50, e49, e52, e53, e23, e54, e55, -⟩ := E
  exact es_up E' (fun m j h => g m j (by omega)) (by rw [g _ _ (by omega)]; exact e50) (fun j hj => by rw [g _ _ (by omega)]; exact e49 j hj) (by rw [g _ _ (by omega)]; exact e52) (by rw [g _ _ (by omega)]; exact e53) (by rw [g _ _ (by omega)]; exact e54) (fun e => by rw [g _ _ (by omega)]; exact e55 e) rfl
end qBC
