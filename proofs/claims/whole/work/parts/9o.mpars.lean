/-! READING, the model: the takes; the halves that are read into -/
def mP (n : Nat) (B : Nat → Nat) (r : zP) (x : aS) : Prop := (r.2.1 = 0 → r.1 ≤ n ∧ rKM (tok B n r.1) x ∧ x.1 bM 4 = 0 ∧ x.1 bM 5 = -1) ∧ (¬ r.2.1 = 0 → x.1 bM 4 = nI r.2.1 ∧ x.1 bM 5 = nI r.2.2)
def mUc (m j : Nat) : Prop := m = bM ∧ ((4 ≤ j ∧ j ≤ 5) ∨ (7 ≤ j ∧ j ≤ 11))
/-- frame: the cells of the takes, and C -/
def mW (C : Nat → Nat → Prop) (x y : aS) : Prop := (∀ m j, ¬ mUc m j → ¬ C m j → y.1 m j = x.1 m j) ∧ y.2 = x.2
def cN0 (_ _ : Nat) : Prop := False
def mU (x y : aS) : Prop := mW cN0 x y
theorem mW_t {C : Nat → Nat → Prop} {x y z : aS} (h : mW C x y) (g : mW C y z) : mW C x z := ⟨fun m j e f => (g.1 m j e f).trans (h.1 m j e f), g.2.trans h.2⟩
theorem mW_r (C : Nat → Nat → Prop) (x : aS) : mW C x x := ⟨fun _ _ _ _ => rfl, rfl⟩
theorem mW_u {C : Nat → Nat → Prop} {x y : aS} (h : mU x y) : mW C x y := ⟨fun m j e _ => h.1 m j e (fun f => f), h.2⟩
theorem mW_c {C E : Nat → Nat → Prop} {x y : aS} (g : ∀ m j, C m j → E m j) (h : mW C x y) : mW E x y := ⟨fun m j e f => h.1 m j e (fun k => f (g m j k)), h.2⟩
theorem mW_w {C : Nat → Nat → Prop} {x : aS} {a i : Nat} {v : Int32} (h : mUc a i ∨ C a i) : mW C x (aWr x a i v) := ⟨fun m j e f => aWr_o _ _ (fun g => by rcases h with h | h; exact e (g.1.symm ▸ g.2.symm ▸ h); exact f (g.1.symm ▸ g.2.symm ▸ h)), rfl⟩
theorem mU_s {x y : aS} (h : mSt x y) : mU x y := ⟨fun m j e _ => h.1 m j (fun g => e ⟨g.1, Or.inr ⟨g.2.1, by omega⟩⟩), h.2⟩
theorem mU_w {x : aS} {i : Nat} {v : Int32} (h : (4 ≤ i ∧ i ≤ 5) ∨ (7 ≤ i ∧ i ≤ 11)) : mU x (aWr x bM i v) := mW_w (Or.inl ⟨rfl, h⟩)
theorem kM_3 {k w : Nat} {a b : Int32} (h : kM k w a b) : a = 3 ↔ k = 23 := by
  unfold kM at h
  rcases h with ⟨h1, rfl, h3⟩ | ⟨h1, rfl, h3⟩ | ⟨h1, rfl, h3⟩ | ⟨h1, rfl, h3⟩ | ⟨h1, rfl⟩ | ⟨h1, rfl | ⟨rfl, h3⟩⟩ | ⟨rfl, h3⟩ <;> exact ⟨fun e => by first | exact h1 | exact absurd e (by decide), fun e => by first | rfl | omega⟩
theorem kM_2 {k w : Nat} {a b : Int32} (h : kM k w a b) : a = 2 ↔ k = 22 := by
  unfold kM at h
  rcases h with ⟨h1, rfl, h3⟩ | ⟨h1, rfl, h3⟩ | ⟨h1, rfl, h3⟩ | ⟨h1, rfl, h3⟩ | ⟨h1, rfl⟩ | ⟨h1, rfl | ⟨rfl, h3⟩⟩ | ⟨rfl, h3⟩ <;> exact ⟨fun e => by first | exact h1 | exact absurd e (by decide), fun e => by first | rfl | omega⟩
theorem kM_v {k w : Nat} {a b : Int32} (h : kM k w a b) (hk : k = 22 ∨ k = 23) : b = nI w := by
  unfold kM at h
  rcases h with ⟨h1, rfl, h3⟩ | ⟨h1, rfl, h3⟩ | ⟨h1, rfl, h3⟩ | ⟨h1, rfl, h3⟩ | ⟨h1, rfl⟩ | ⟨h1, rfl | ⟨rfl, h3⟩⟩ | ⟨rfl, h3⟩ <;> first | exact h3 | (exfalso; omega)
section qAV
variable {l : Launch} {d : Nat} {D : Nat → Bool} {x y : aS} {n : Nat} {B : Nat → Nat} {r r' : zP} {T : zT}
theorem mBt_W {C : Nat → Nat → Prop} (hC : ∀ m j, C m j → (m = bM ∧ 18 ≤ j) ∨ bM + 25 ≤ m) (h : mBt n B x) (F : mW C x y) : mBt n B y := by
  have e1 : bM + 1 ≠ bM := by omega
  have e4 : bM + 4 ≠ bM := by omega
  refine ⟨by rw [F.1 _ _ (fun e => by unfold mUc at e; omega) (fun e => by have := hC _ _ e; omega)]; exact h.1, h.2.1, fun i hi => ⟨(h.2.2.1 i hi).1, by rw [F.1 _ _ (fun e => e1 e.1) (fun e => by have := hC _ _ e; omega)]; exact (h.2.2.1 i hi).2⟩, fun j hj => by rw [F.1 _ _ (fun e => e4 e.1) (fun e => by have := hC _ _ e; omega)]; exact h.2.2.2 j hj⟩
theorem mBt_u (h : mBt n B x) (F : mU x y) : mBt n B y := mBt_W (fun _ _ e => absurd e (fun f => f)) h F
theorem mP_n (hr : mP n B r x) (h0 : r.2.1 = 0) : x.1 bM 7 = nI (tok B n r.1).2.2.2.2 ∧ (tok B n r.1).2.2.2.2 ≤ n := ⟨(hr.1 h0).2.1.1, (tok_ok (hr.1 h0).1).2.2.2.1⟩
theorem mP_go (hr : mP n B r x) (h0 : r.2.1 = 0) {y : aS} (h : rKM (tok B n (tok B n r.1).2.2.2.2) y) (F : mSt x y) : mP n B (pGo B n r) y :=
  ⟨fun _ => ⟨(tok_ok (hr.1 h0).1).2.2.2.1, h, by rw [F.1 _ _ (by omega)]; exact (hr.1 h0).2.2.1, by rw [F.1 _ _ (by omega)]; exact (hr.1 h0).2.2.2⟩, fun e => absurd rfl e⟩
theorem mP_fl {c : Nat} (hr : mP n B r x) (h0 : r.2.1 = 0) (hc0 : ¬ c = 0) : mP n B (pFl B n c r) (aWr (aWr x bM 4 (nI c)) bM 5 (x.1 bM 10)) ∧ mU x (aWr (aWr x bM 4 (nI c)) bM 5 (x.1 bM 10)) :=
  ⟨⟨fun e => absurd e hc0, fun _ => ⟨by rw [aWr_j _ _ _ (by decide), aWr_s]; rfl, by rw [aWr_s]; exact (hr.1 h0).2.1.2.1⟩⟩, mW_t (mU_w (by omega)) (mU_w (by omega))⟩
/-- the token's cells are what count -/
theorem mP_W {C : Nat → Nat → Prop} (hC : ∀ m j, C m j → (m = bM ∧ 18 ≤ j) ∨ bM + 25 ≤ m) (hr : mP n B r x) (F : mW C x y) (e : ∀ j, (4 ≤ j ∧ j ≤ 5) ∨ (7 ≤ j ∧ j ≤ 10) → y.1 bM j = x.1 bM j) : mP n B r y := by
  refine ⟨fun h0 => ?_, fun h0 => ?_⟩
  · obtain ⟨a, ⟨b1, b2, b3⟩, c, f⟩ := hr.1 h0
    exact ⟨a, ⟨by rw [e 7 (by omega)]; exact b1, by rw [e 10 (by omega)]; exact b2, by rw [e 8 (by omega), e 9 (by omega)]; exact b3⟩, by rw [e 4 (by omega)]; exact c, by rw [e 5 (by omega)]; exact f⟩
  · obtain ⟨a, b⟩ := hr.2 h0
    exact ⟨by rw [e 4 (by omega)]; exact a, by rw [e 5 (by omega)]; exact b⟩
theorem mP_w {a j : Nat} {v : Int32} (hr : mP n B r x) (h : a ≠ bM ∨ 11 ≤ j) : mP n B r (aWr x a j v) := by
  have e : ∀ i, i ≤ 10 → (aWr x a j v).1 bM i = x.1 bM i := fun i hi => aWr_o _ _ (by omega)
  refine ⟨fun h0 => ?_, fun h0 => ?_⟩
  · obtain ⟨a, ⟨b1, b2, b3⟩, c, f⟩ := hr.1 h0
    exact ⟨a, ⟨by rw [e 7 (by omega)]; exact b1, by rw [e 10 (by omega)]; exact b2, by rw [e 8 (by omega), e 9 (by omega)]; exact b3⟩, by rw [e 4 (by omega)]; exact c, by rw [e 5 (by omega)]; exact f⟩
  · obtain ⟨a, b⟩ := hr.2 h0
    exact ⟨by rw [e 4 (by omega)]; exact a, by rw [e 5 (by omega)]; exact b⟩
theorem numP_f {lo hi : Nat} (h : ¬ r.2.1 = 0) : numP B n lo hi r = (r, 0) := by unfold numP; rw [if_pos h]
theorem namP_f {f : Nat → Int32} {N : Nat} (h : ¬ r.2.1 = 0) : namP B n f N r = (r, 0) := by unfold namP; rw [if_pos h]
theorem bI_nz {p : Prop} [Decidable p] : ¬ bI (decide p) = 0 ↔ p := by by_cases h : p <;> simp [h, bI]
set_option maxHeartbeats 4000000 in
set_option maxRecDepth 100000 in
theorem c_X12_wrong {c : Int32} (hM : D 12 = true) : aDI l mX12_wrong d D [.ref bM, .int c] x 0 (aWr (aWr x bM 4 c) bM 5 (x.1 bM 10)) := by
  refine a_metZ (by decide) (Nat.le_of_ble_eq_true rfl) rfl (Or.inl rfl) ?_
  refine a_aload_n (i := 0) dX12_wrong_0 rfl rfl ?_
  refine a_iload_n (i := 1) dX12_wrong_1 rfl rfl ?_
  refine pX12_181 rfl dX12_wrong_2 (isM_0 hM) ?_
  refine a_aload_n (i := 0) dX12_wrong_5 rfl rfl ?_
  refine a_aload_n (i := 0) dX12_wrong_6 rfl rfl ?_
  refine gX12_184 rfl dX12_wrong_7 (isM_0 hM) ?_
  rw [aWr_j _ _ _ (by decide)]
  refine pX12_16 rfl dX12_wrong_10 (isM_0 hM) ?_
  refine a_iconst (v := 0) dX12_wrong_13 (by decide) ?_
  exact a_iret dX12_wrong_14 (by exact ⟨rfl, rfl⟩)
set_option maxHeartbeats 4000000 in
set_option maxRecDepth 100000 in
theorem c_X12_number {lo hi : Nat} (hM : D 12 = true) (hb : mBt n B x) (hr : mP n B r x) (h0 : r.2.1 = 0) (h1 : lo ≤ hi) (h2 : hi ≤ 99999) : aCt l mX12_number (d + 2) D [.ref bM, .int (nI lo), .int (nI hi)] x (fun v y => v = some (.int (bI (decide ((numP B n lo hi r).1.2.1 = 0)))) ∧ mP n B (numP B n lo hi r).1 y ∧ ((numP B n lo hi r).1.2.1 = 0 → y.1 bM 11 = nI (numP B n lo hi r).2) ∧ mU x y) := by
  refine a_met (by decide) (Nat.le_of_ble_eq_true rfl) (fun v y q => Or.inr (Or.inl ⟨rfl, _, q.1, bI_01 _⟩)) ?_
  unfold numP
  rw [if_neg (fun e => e h0)]
  obtain ⟨a, b, c⟩ := hr.1 h0
  have t := tok_ok (B := B) a
  have fl1 := mP_fl (c := 1) hr h0 (by decide)
  have fl2 := mP_fl (c := 2) hr h0 (by decide)
  have km := b.2.2
  by_cases q : (tok B n r.1).1 = 23
  · rw [if_neg (fun e => e q)]
    have v9 := kM_v km (Or.inr q)
    have v8 := (kM_3 km).mpr q
    have eq := t.2.2.2.2.2.2.2.2.2 q
    have b31 := t.2.2.2.2.2.2.2.1
    by_cases w : (tok B n r.1).2.1 < lo ∨ hi < (tok B n r.1).2.1
    · rw [if_pos w, bI_f (show ¬ (pFl B n 2 r).2.1 = 0 from by show ¬ 2 = 0; decide)]
      have no : ¬ (nI lo ≤ nI (tok B n r.1).2.2.1 ∧ nI (tok B n r.1).2.2.1 ≤ nI hi) := fun e => by
        have u := (nI_leI (by omega) (by omega)).mp e.1
        have v := (nI_leI (by omega) (by omega)).mp e.2
        omega
      refine a_aload_n (i := 0) dX12_number_0 rfl rfl ?_
      refine gX12_193 rfl dX12_number_1 (isM_0 hM) ?_
      rw [v8]
      refine a_iconst (v := 3) dX12_number_4 (by decide) ?_
      refine a_icmp_eq (tg := 14) dX12_number_5 (by decide) (fun c_5 => ?_) (fun c_5 => ?_)
      · refine a_aload_n (i := 0) dX12_number_14 rfl rfl ?_
        refine gX12_204 rfl dX12_number_15 (isM_0 hM) ?_
        rw [v9]
        refine a_iload_n (i := 1) dX12_number_18 rfl rfl ?_
        refine a_iload_n (i := 2) dX12_number_19 rfl rfl ?_
        refine kX12_220 rfl dX12_number_20 (Nat.le_of_ble_eq_true rfl) (c_X12_isIn) ?_
        rw [bI_f no]
        refine a_if_ne (tg := 32) dX12_number_23 (by decide) (fun c_23 => ?_) (fun c_23 => ?_)
        · exact absurd rfl c_23
        · refine a_aload_n (i := 0) dX12_number_26 rfl rfl ?_
          refine a_iconst (v := 2) dX12_number_27 (by decide) ?_
          refine kX12_217 rfl dX12_number_28 (Nat.le_of_ble_eq_true rfl) (isM_0 hM) (c_X12_wrong (c := 2) hM) ?_
          exact a_iret dX12_number_31 (by exact ⟨rfl, fl2.1, fun e => absurd e (by show ¬ 2 = 0; decide), fl2.2⟩)
      · exact absurd rfl c_5
    · rw [if_neg w, bI_t (show (pGo B n r).2.1 = 0 from rfl)]
      have eqv : (tok B n r.1).2.1 = (tok B n r.1).2.2.1 := by rcases eq with e | e; exact e.1; omega
      have ye : nI lo ≤ nI (tok B n r.1).2.2.1 ∧ nI (tok B n r.1).2.2.1 ≤ nI hi := ⟨nI_le (by omega) (by omega), nI_le (by omega) (by omega)⟩
      obtain ⟨z, hz⟩ : ∃ z, z = aWr x bM 11 (nI (tok B n r.1).2.2.1) := ⟨_, rfl⟩
      have zr : mP n B r z := by rw [hz]; exact mP_w hr (Or.inr (by decide))
      have zu : mU x z := by rw [hz]; exact mU_w (by omega)
      have zb := mBt_u hb zu
      refine a_aload_n (i := 0) dX12_number_0 rfl rfl ?_
      refine gX12_193 rfl dX12_number_1 (isM_0 hM) ?_
      rw [v8]
      refine a_iconst (v := 3) dX12_number_4 (by decide) ?_
      refine a_icmp_eq (tg := 14) dX12_number_5 (by decide) (fun c_5 => ?_) (fun c_5 => ?_)
      · refine a_aload_n (i := 0) dX12_number_14 rfl rfl ?_
        refine gX12_204 rfl dX12_number_15 (isM_0 hM) ?_
        rw [v9]
        refine a_iload_n (i := 1) dX12_number_18 rfl rfl ?_
        refine a_iload_n (i := 2) dX12_number_19 rfl rfl ?_
        refine kX12_220 rfl dX12_number_20 (Nat.le_of_ble_eq_true rfl) (c_X12_isIn) ?_
        rw [bI_t ye]
        refine a_if_ne (tg := 32) dX12_number_23 (by decide) (fun c_23 => ?_) (fun c_23 => ?_)
        · refine a_aload_n (i := 0) dX12_number_32 rfl rfl ?_
          refine a_aload_n (i := 0) dX12_number_33 rfl rfl ?_
          refine gX12_204 rfl dX12_number_34 (isM_0 hM) ?_
          rw [v9]
          refine pX12_224 rfl dX12_number_37 (isM_0 hM) ?_
          rw [← hz]
          refine a_aload_n (i := 0) dX12_number_40 rfl rfl ?_
          refine kgX12_227 rfl dX12_number_41 (Nat.le_of_ble_eq_true rfl) (isM_0 hM) (c_X12_token hM zb (mP_n zr h0).1 (mP_n zr h0).2) ?_
          rintro v y ⟨rfl, u0, F⟩
          have u := mP_go zr h0 u0 F
          refine a_iconst (v := 1) dX12_number_44 (by decide) ?_
          exact a_iret dX12_number_45 (by exact ⟨rfl, u, fun _ => by rw [F.1 _ _ (by omega), hz, aWr_s]; exact congrArg nI eqv.symm, mW_t zu (mU_s F)⟩)
        · exact absurd c_23 (by decide)
      · exact absurd rfl c_5
  · rw [if_pos q, bI_f (show ¬ (pFl B n 1 r).2.1 = 0 from by show ¬ 1 = 0; decide)]
    refine a_aload_n (i := 0) dX12_number_0 rfl rfl ?_
    refine gX12_193 rfl dX12_number_1 (isM_0 hM) ?_
    refine a_iconst (v := 3) dX12_number_4 (by decide) ?_
    refine a_icmp_eq (tg := 14) dX12_number_5 (by decide) (fun c_5 => ?_) (fun c_5 => ?_)
    · exact absurd ((kM_3 km).mp c_5) q
    · refine a_aload_n (i := 0) dX12_number_8 rfl rfl ?_
      refine a_iconst (v := 1) dX12_number_9 (by decide) ?_
      refine kX12_217 rfl dX12_number_10 (Nat.le_of_ble_eq_true rfl) (isM_0 hM) (c_X12_wrong (c := 1) hM) ?_
      exact a_iret dX12_number_13 (by exact ⟨rfl, fl1.1, fun e => absurd e (by show ¬ 1 = 0; decide), fl1.2⟩)
set_option maxHeartbeats 4000000 in
set_option maxRecDepth 100000 in
theorem c_X12_thereIn {a c N len : Nat} {f : Nat → Int32} (hM : D 12 = true) (hb : mBt n B x) (hr : mP n B r x) (h0 : r.2.1 = 0) (ha : aIs D a 14 len) (hN : c + N ≤ len) (hl : len < 2147483648) (hf : ∀ k, k < N → x.1 a (c + k) = f k) : aCt l mX12_thereIn (d + 2) D [.ref bM, .ref a, .int (nI c), .int (nI N)] x (fun v y => v = some (.int (bI (decide ((namP B n f N r).1.2.1 = 0)))) ∧ mP n B (namP B n f N r).1 y ∧ ((namP B n f N r).1.2.1 = 0 → y.1 bM 11 = nI (namP B n f N r).2) ∧ mU x y) := by
  refine a_met (by decide) (Nat.le_of_ble_eq_true rfl) (fun v y q => Or.inr (Or.inl ⟨rfl, _, q.1, bI_01 _⟩)) ?_
  unfold namP
  rw [if_neg (fun e => e h0)]
  obtain ⟨i1, b, -⟩ := hr.1 h0
  have t := tok_ok (B := B) i1
  have fl1 := mP_fl (c := 1) hr h0 (by decide)
  have fl4 := mP_fl (c := 4) hr h0 (by decide)
  have km := b.2.2
  by_cases q : (tok B n r.1).1 = 22
  · rw [if_neg (fun e => e q)]
    have v9 := kM_v km (Or.inl q)
    have v8 := (kM_2 km).mpr q
    have eqv := t.2.2.2.2.2.2.2.2.1 (by omega)
    rw [← eqv] at v9
    have ef : zFind (fun k => x.1 a (c + k)) (nI (tok B n r.1).2.1) 0 N = zFind f (nI (tok B n r.1).2.1) 0 N := zFind_congr _ _ (fun j _ hj => hf j (by omega))
    by_cases w : zFind f (nI (tok B n r.1).2.1) 0 N = -1
    · rw [if_pos w, bI_f (show ¬ (pFl B n 4 r).2.1 = 0 from by show ¬ 4 = 0; decide)]
      refine a_aload_n (i := 0) dX12_thereIn_0 rfl rfl ?_
      refine gX12_193 rfl dX12_thereIn_1 (isM_0 hM) ?_
      rw [v8]
      refine a_iconst (v := 2) dX12_thereIn_4 (by decide) ?_
      refine a_icmp_eq (tg := 14) dX12_thereIn_5 (by decide) (fun c_5 => ?_) (fun c_5 => ?_)
      · refine a_aload_n (i := 1) dX12_thereIn_14 rfl rfl ?_
        refine a_iload_n (i := 2) dX12_thereIn_15 rfl rfl ?_
        refine a_iload_n (i := 3) dX12_thereIn_16 rfl rfl ?_
        refine a_aload_n (i := 0) dX12_thereIn_17 rfl rfl ?_
        refine gX12_204 rfl dX12_thereIn_18 (isM_0 hM) ?_
        rw [v9]
        refine kX12_283 rfl dX12_thereIn_21 (Nat.le_of_ble_eq_true rfl) (c_X12_find ha hN hl) ?_
        rw [ef, w]
        refine a_istore (i := 4) dX12_thereIn_24 (by decide) ?_
        refine a_iload (i := 4) dX12_thereIn_26 rfl ?_
        refine a_if_ge (tg := 37) dX12_thereIn_28 (by decide) (fun c_28 => ?_) (fun c_28 => ?_)
        · exact absurd c_28 (by decide)
        · refine a_aload_n (i := 0) dX12_thereIn_31 rfl rfl ?_
          refine a_iconst (v := 4) dX12_thereIn_32 (by decide) ?_
          refine kX12_217 rfl dX12_thereIn_33 (Nat.le_of_ble_eq_true rfl) (isM_0 hM) (c_X12_wrong (c := 4) hM) ?_
          exact a_iret dX12_thereIn_36 (by exact ⟨rfl, fl4.1, fun e => absurd e (by show ¬ 4 = 0; decide), fl4.2⟩)
      · exact absurd rfl c_5
    · rw [if_neg w, bI_t (show (pGo B n r).2.1 = 0 from rfl)]
      rcases zFind_of (f := f) (a := nI (tok B n r.1).2.1) N 0 (by omega) with e | ⟨k, _, k2, ek, _⟩
      · exact absurd e w
      · rw [ek, nI_clamp (by omega)]
        refine a_aload_n (i := 0) dX12_thereIn_0 rfl rfl ?_
        refine gX12_193 rfl dX12_thereIn_1 (isM_0 hM) ?_
        rw [v8]
        refine a_iconst (v := 2) dX12_thereIn_4 (by decide) ?_
        refine a_icmp_eq (tg := 14) dX12_thereIn_5 (by decide) (fun c_5 => ?_) (fun c_5 => ?_)
        · refine a_aload_n (i := 1) dX12_thereIn_14 rfl rfl ?_
          refine a_iload_n (i := 2) dX12_thereIn_15 rfl rfl ?_
          refine a_iload_n (i := 3) dX12_thereIn_16 rfl rfl ?_
          refine a_aload_n (i := 0) dX12_thereIn_17 rfl rfl ?_
          refine gX12_204 rfl dX12_thereIn_18 (isM_0 hM) ?_
          rw [v9]
          refine kX12_283 rfl dX12_thereIn_21 (Nat.le_of_ble_eq_true rfl) (c_X12_find ha hN hl) ?_
          rw [ef, ek]
          refine a_istore (i := 4) dX12_thereIn_24 (by decide) ?_
          refine a_iload (i := 4) dX12_thereIn_26 rfl ?_
          refine a_if_ge (tg := 37) dX12_thereIn_28 (by decide) (fun c_28 => ?_) (fun c_28 => ?_)
          · refine a_aload_n (i := 0) dX12_thereIn_37 rfl rfl ?_
            refine kgX12_227 rfl dX12_thereIn_38 (Nat.le_of_ble_eq_true rfl) (isM_0 hM) (c_X12_token hM hb (mP_n hr h0).1 (mP_n hr h0).2) ?_
            rintro v y ⟨rfl, u0, F⟩
            have u := mP_go hr h0 u0 F
            refine a_aload_n (i := 0) dX12_thereIn_41 rfl rfl ?_
            refine a_iload (i := 4) dX12_thereIn_42 rfl ?_
            refine pX12_224 rfl dX12_thereIn_44 (isM_0 hM) ?_
            refine a_iconst (v := 1) dX12_thereIn_47 (by decide) ?_
            exact a_iret dX12_thereIn_48 (by exact ⟨rfl, mP_w u (Or.inr (by decide)), fun _ => aWr_s _ _ _ _, mW_t (mU_s F) (mU_w (by omega))⟩)
          · exact absurd (nI_pos' (by omega)) c_28
        · exact absurd rfl c_5
  · rw [if_pos q, bI_f (show ¬ (pFl B n 1 r).2.1 = 0 from by show ¬ 1 = 0; decide)]
    refine a_aload_n (i := 0) dX12_thereIn_0 rfl rfl ?_
    refine gX12_193 rfl dX12_thereIn_1 (isM_0 hM) ?_
    refine a_iconst (v := 2) dX12_thereIn_4 (by decide) ?_
    refine a_icmp_eq (tg := 14) dX12_thereIn_5 (by decide) (fun c_5 => ?_) (fun c_5 => ?_)
    · exact absurd ((kM_2 km).mp c_5) q
    · refine a_aload_n (i := 0) dX12_thereIn_8 rfl rfl ?_
      refine a_iconst (v := 1) dX12_thereIn_9 (by decide) ?_
      refine kX12_217 rfl dX12_thereIn_10 (Nat.le_of_ble_eq_true rfl) (isM_0 hM) (c_X12_wrong (c := 1) hM) ?_
      exact a_iret dX12_thereIn_13 (by exact ⟨rfl, fl1.1, fun e => absurd e (by show ¬ 1 = 0; decide), fl1.2⟩)
/-- a name that is put down: at c + N of the row a -/
def nwC (a i m j : Nat) : Prop := m = a ∧ j = i
set_option maxHeartbeats 4000000 in
set_option maxRecDepth 100000 in
theorem c_X12_newName {a c N len : Nat} {f : Nat → Int32} (hM : D 12 = true) (hb : mBt n B x) (hr : mP n B r x) (h0 : r.2.1 = 0) (ha : aIs D a 14 len) (hN : c + N < len) (hl : len < 2147483648) (hf : ∀ k, k < N → x.1 a (c + k) = f k) (hab : bM + 25 ≤ a) : aCt l mX12_newName (d + 2) D [.ref bM, .ref a, .int (nI c), .int (nI N)] x (fun v y => v = some (.int (bI (decide ((newP B n f N r).2.1 = 0)))) ∧ (¬ (newP B n f N r).2.1 = 0 → mP n B (newP B n f N r) y) ∧ ((newP B n f N r).2.1 = 0 → mP n B (pGo B n r) y ∧ y.1 a (c + N) = nI (tok B n r.1).2.1) ∧ mW (nwC a (c + N)) x y) := by
  refine a_met (by decide) (Nat.le_of_ble_eq_true rfl) (fun v y q => Or.inr (Or.inl ⟨rfl, _, q.1, bI_01 _⟩)) ?_
  unfold newP
  obtain ⟨i1, b, -⟩ := hr.1 h0
  have t := tok_ok (B := B) i1
  have fl1 := mP_fl (c := 1) hr h0 (by decide)
  have fl3 := mP_fl (c := 3) hr h0 (by decide)
  have km := b.2.2
  by_cases q : (tok B n r.1).1 = 22
  · rw [if_neg (fun e => e q)]
    have v9 := kM_v km (Or.inl q)
    have v8 := (kM_2 km).mpr q
    have eqv := t.2.2.2.2.2.2.2.2.1 (by omega)
    rw [← eqv] at v9
    have ef : zFind (fun k => x.1 a (c + k)) (nI (tok B n r.1).2.1) 0 N = zFind f (nI (tok B n r.1).2.1) 0 N := zFind_congr _ _ (fun j _ hj => hf j (by omega))
    by_cases w : zFind f (nI (tok B n r.1).2.1) 0 N = -1
    · rw [if_neg (fun e => e w), bI_t h0]
      obtain ⟨z, hz⟩ : ∃ z, z = aWr x a (c + N) (nI (tok B n r.1).2.1) := ⟨_, rfl⟩
      have zr : mP n B r z := by rw [hz]; exact mP_w hr (Or.inl (by omega))
      have zu : mW (nwC a (c + N)) x z := by rw [hz]; exact mW_w (Or.inr ⟨rfl, rfl⟩)
      have zb := mBt_W (fun m j e => by unfold nwC at e; omega) hb zu
      refine a_aload_n (i := 0) dX12_newName_0 rfl rfl ?_
      refine gX12_193 rfl dX12_newName_1 (isM_0 hM) ?_
      rw [v8]
      refine a_iconst (v := 2) dX12_newName_4 (by decide) ?_
      refine a_icmp_eq (tg := 14) dX12_newName_5 (by decide) (fun c_5 => ?_) (fun c_5 => ?_)
      · refine a_aload_n (i := 1) dX12_newName_14 rfl rfl ?_
        refine a_iload_n (i := 2) dX12_newName_15 rfl rfl ?_
        refine a_iload_n (i := 3) dX12_newName_16 rfl rfl ?_
        refine a_aload_n (i := 0) dX12_newName_17 rfl rfl ?_
        refine gX12_204 rfl dX12_newName_18 (isM_0 hM) ?_
        rw [v9]
        refine kX12_283 rfl dX12_newName_21 (Nat.le_of_ble_eq_true rfl) (c_X12_find ha (by omega) hl) ?_
        rw [ef, w]
        refine a_if_lt (tg := 33) dX12_newName_24 (by decide) (fun c_24 => ?_) (fun c_24 => ?_)
        · refine a_aload_n (i := 1) dX12_newName_33 rfl rfl ?_
          refine a_iload_n (i := 2) dX12_newName_34 rfl rfl ?_
          refine a_iload_n (i := 3) dX12_newName_35 rfl rfl ?_
          refine a_iadd dX12_newName_36 ?_
          refine a_aload_n (i := 0) dX12_newName_37 rfl rfl ?_
          refine gX12_204 rfl dX12_newName_38 (isM_0 hM) ?_
          rw [v9]
          refine a_iastN dX12_newName_41 (by exact ha) (by first | exact nI_add _ _ | with_reducible exact rfl | with_reducible exact ix8 _ _ | with_reducible exact ix12 _ _ | exact rfl) (by omega) (by exact hl) ?_
          rw [← hz]
          refine a_aload_n (i := 0) dX12_newName_42 rfl rfl ?_
          refine kgX12_227 rfl dX12_newName_43 (Nat.le_of_ble_eq_true rfl) (isM_0 hM) (c_X12_token hM zb (mP_n zr h0).1 (mP_n zr h0).2) ?_
          rintro v y ⟨rfl, u0, F⟩
          have u := mP_go zr h0 u0 F
          refine a_iconst (v := 1) dX12_newName_46 (by decide) ?_
          exact a_iret dX12_newName_47 (by exact ⟨rfl, fun e => absurd h0 e, fun _ => ⟨u, by rw [F.1 _ _ (by omega), hz, aWr_s]⟩, mW_t zu (mW_u (mU_s F))⟩)
        · exact absurd (by decide) c_24
      · exact absurd rfl c_5
    · rw [if_pos w, bI_f (show ¬ (pFl B n 3 r).2.1 = 0 from by show ¬ 3 = 0; decide)]
      rcases zFind_of (f := f) (a := nI (tok B n r.1).2.1) N 0 (by omega) with e | ⟨k, _, k2, ek, _⟩
      · exact absurd e w
      · refine a_aload_n (i := 0) dX12_newName_0 rfl rfl ?_
        refine gX12_193 rfl dX12_newName_1 (isM_0 hM) ?_
        rw [v8]
        refine a_iconst (v := 2) dX12_newName_4 (by decide) ?_
        refine a_icmp_eq (tg := 14) dX12_newName_5 (by decide) (fun c_5 => ?_) (fun c_5 => ?_)
        · refine a_aload_n (i := 1) dX12_newName_14 rfl rfl ?_
          refine a_iload_n (i := 2) dX12_newName_15 rfl rfl ?_
          refine a_iload_n (i := 3) dX12_newName_16 rfl rfl ?_
          refine a_aload_n (i := 0) dX12_newName_17 rfl rfl ?_
          refine gX12_204 rfl dX12_newName_18 (isM_0 hM) ?_
          rw [v9]
          refine kX12_283 rfl dX12_newName_21 (Nat.le_of_ble_eq_true rfl) (c_X12_find ha (by omega) hl) ?_
          rw [ef, ek]
          refine a_if_lt (tg := 33) dX12_newName_24 (by decide) (fun c_24 => ?_) (fun c_24 => ?_)
          · exact absurd c_24 (nI_pos (by omega))
          · refine a_aload_n (i := 0) dX12_newName_27 rfl rfl ?_
            refine a_iconst (v := 3) dX12_newName_28 (by decide) ?_
            refine kX12_217 rfl dX12_newName_29 (Nat.le_of_ble_eq_true rfl) (isM_0 hM) (c_X12_wrong (c := 3) hM) ?_
            exact a_iret dX12_newName_32 (by exact ⟨rfl, fun _ => fl3.1, fun e => absurd e (by show ¬ 3 = 0; decide), mW_u fl3.2⟩)
        · exact absurd rfl c_5
  · rw [if_pos q, bI_f (show ¬ (pFl B n 1 r).2.1 = 0 from by show ¬ 1 = 0; decide)]
    refine a_aload_n (i := 0) dX12_newName_0 rfl rfl ?_
    refine gX12_193 rfl dX12_newName_1 (isM_0 hM) ?_
    refine a_iconst (v := 2) dX12_newName_4 (by decide) ?_
    refine a_icmp_eq (tg := 14) dX12_newName_5 (by decide) (fun c_5 => ?_) (fun c_5 => ?_)
    · exact absurd ((kM_2 km).mp c_5) q
    · refine a_aload_n (i := 0) dX12_newName_8 rfl rfl ?_
      refine a_iconst (v := 1) dX12_newName_9 (by decide) ?_
      refine kX12_217 rfl dX12_newName_10 (Nat.le_of_ble_eq_true rfl) (isM_0 hM) (c_X12_wrong (c := 1) hM) ?_
      exact a_iret dX12_newName_13 (by exact ⟨rfl, fun _ => fl1.1, fun e => absurd e (by show ¬ 1 = 0; decide), mW_u fl1.2⟩)
end qAV
