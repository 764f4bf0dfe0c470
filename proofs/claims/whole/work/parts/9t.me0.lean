/-! READING an E, the model: what holds; the nodes; rank, grown, dropHeld, bind -/
def kcd (k : Nat) : Int32 := if k = 24 then 0 else kcode (nI k)
def rkC (c : Int32) : Int32 := if 13 ≤ c then 6 else if 11 ≤ c then 5 else if 5 ≤ c then 4 else if c = 2 then 3 else if c = 3 then 2 else if c = 4 then 1 else 0
theorem rk_ok : ∀ k, k < 39 → (k = 24 ∨ 1 ≤ kBd k) → rkC (kcd k) = nI (kBd k) := by decide +kernel
theorem kcd_2 : ∀ k, k < 39 → (k = 24 ∨ 1 ≤ kBd k) → (kcd k = 2 ↔ k = 14) := by decide +kernel
theorem kBd_r : ∀ k, k < 39 → 1 ≤ kBd k → ¬ k = 14 → k = 12 ∨ k = 13 ∨ (27 ≤ k ∧ k ≤ 36) := by decide +kernel
theorem kBd_bin (k : Nat) (h1 : k < 39) (h2 : 1 ≤ kBd k) (h3 : ¬ k = 14) : kbin (nI k) ∧ kcd k = kcode (nI k) := by
  have := kBd_r k h1 h2 h3
  refine ⟨?_, if_neg (by omega)⟩
  unfold kbin
  rcases (by omega : k = 12 ∨ k = 13 ∨ k = 27 ∨ k = 28 ∨ k = 29 ∨ k = 30 ∨ k = 31 ∨ k = 32 ∨ k = 33 ∨ k = 34 ∨ k = 35 ∨ k = 36) with rfl | rfl | rfl | rfl | rfl | rfl | rfl | rfl | rfl | rfl | rfl | rfl <;> decide
theorem kc_bin : ∀ k, k < 39 → 1 ≤ kBd k → ¬ k = 14 → ¬ kcode (nI k) = 0 ∧ ¬ kcode (nI k) = 1 ∧ ¬ kcode (nI k) = 2 := by decide +kernel
/-- how many signs with two sides wait -/
def wbn (s : Nat → Nat) : Nat → Nat
  | 0 => 0
  | w + 1 => wbn s w + (if s w = 24 ∨ s w = 14 then 0 else 1)
theorem wbn_le (s : Nat → Nat) : ∀ w, wbn s w ≤ wcn s w
  | 0 => Nat.le_refl _
  | w + 1 => by
    have := wbn_le s w
    show wbn s w + (if s w = 24 ∨ s w = 14 then 0 else 1) ≤ wcn s w + (if s w = 24 then 0 else 1)
    by_cases e : s w = 24
    · rw [if_pos (Or.inl e), if_pos e]; omega
    · rw [if_neg e]; split <;> omega
theorem wbn_sps (s : Nat → Nat) (k w : Nat) : ∀ v, v ≤ w → wbn (sps s w k) v = wbn s v
  | 0, _ => rfl
  | v + 1, h => by
    show wbn (sps s w k) v + (if sps s w k v = 24 ∨ sps s w k v = 14 then 0 else 1) = wbn s v + (if s v = 24 ∨ s v = 14 then 0 else 1)
    rw [wbn_sps s k w v (by omega), show sps s w k v = s v from if_neg (by omega)]
/-- what is held: the head is on top -/
def hL : List Nat → aS → Prop
  | [], _ => True
  | a :: R, x => x.1 (bM + 50) R.length = nI a ∧ hL R x
theorem hL_f {x y : aS} : ∀ (I : List Nat), (∀ j, j < I.length → y.1 (bM + 50) j = x.1 (bM + 50) j) → hL I x → hL I y
  | [], _, _ => trivial
  | a :: R, h, g => ⟨by rw [h _ (Nat.lt_succ_self _)]; exact g.1, hL_f R (fun j hj => h j (Nat.lt_succ_of_lt hj)) g.2⟩
def nds (L : zL) (x : aS) (P O : Nat → Nat) (f : Nat) (I : List Nat) : Prop := mNok x P O f L.1 ∧ (∀ j, j < L.1 → ∃ J, lp (ixGo L f) 0 j (some []) = some J ∧ mNd L x P O f j J) ∧ lp (ixGo L f) 0 L.1 (some []) = some I ∧ (∀ a, a ∈ I → a < f + L.1) ∧ (∀ a R, I = a :: R → a + 1 = f + L.1)
theorem nds_0 (L : zL) (x : aS) (P O : Nat → Nat) (f : Nat) (h : L.1 = 0) : nds L x P O f [] := by
  refine ⟨fun i h1 h2 => absurd h2 (by rw [h]; omega), fun j hj => absurd hj (by rw [h]; omega), by rw [h]; rfl, fun a ha => absurd ha (by simp), fun a R e => absurd e (by simp)⟩
theorem nds_f {L : zL} {x y : aS} {P O : Nat → Nat} {f : Nat} {I : List Nat} (h : nds L x P O f I) (e : ∀ m j, bM + 46 ≤ m → m ≤ bM + 48 → j < f + L.1 → y.1 m j = x.1 m j) : nds L y P O f I := by
  obtain ⟨h1, h2, h3, h4, h5⟩ := h
  refine ⟨fun i a b => ?_, fun j hj => ?_, h3, h4, h5⟩
  · rw [e (bM + 46) i (by omega) (by omega) b, e (bM + 47) i (by omega) (by omega) b, e (bM + 48) i (by omega) (by omega) b]
    exact h1 i a b
  · obtain ⟨J, a, b⟩ := h2 j hj
    refine ⟨J, a, ?_⟩
    unfold mNd at b ⊢
    rw [e (bM + 46) (f + j) (by omega) (by omega) (by omega), e (bM + 47) (f + j) (by omega) (by omega) (by omega)]
    exact b
/-- one node more -/
def nwN (k v : Int32) (y : aS) (c : Nat) (I I' : List Nat) : Prop :=
  (k = 23 ∧ y.1 (bM + 47) c = v ∧ I' = c :: I) ∨ ((15 ≤ k ∧ k ≤ 21) ∧ y.1 (bM + 47) c = k - 15 ∧ I' = c :: I) ∨ (k = 14 ∧ ∃ a R, I = a :: R ∧ y.1 (bM + 47) c = nI a ∧ I' = c :: R) ∨ (kbin k ∧ ¬ kcode k = 0 ∧ ¬ kcode k = 1 ∧ ¬ kcode k = 2 ∧ ∃ b a R, I = b :: a :: R ∧ y.1 (bM + 47) c = nI a ∧ y.1 (bM + 48) c = nI b ∧ I' = c :: R)
theorem i32_15 {k : Int32} (h : 15 ≤ k ∧ k ≤ 21) : k - 15 = nI (k - 15).toNatClampNeg ∧ (k - 15).toNatClampNeg < 7 := by
  have e : k = 15 ∨ k = 16 ∨ k = 17 ∨ k = 18 ∨ k = 19 ∨ k = 20 ∨ k = 21 := by
    have h1 : (15 : Int32).toInt ≤ k.toInt := Int32.le_iff_toInt_le.mp h.1
    have h2 : k.toInt ≤ (21 : Int32).toInt := Int32.le_iff_toInt_le.mp h.2
    have e1 : (15 : Int32).toInt = 15 := rfl
    have e2 : (21 : Int32).toInt = 21 := rfl
    have q : ∀ c : Int32, k.toInt = c.toInt → k = c := fun c e => Int32.toInt_inj.mp e
    rcases (by omega : k.toInt = 15 ∨ k.toInt = 16 ∨ k.toInt = 17 ∨ k.toInt = 18 ∨ k.toInt = 19 ∨ k.toInt = 20 ∨ k.toInt = 21) with e | e | e | e | e | e | e
    · exact Or.inl (q 15 e)
    · exact Or.inr (Or.inl (q 16 e))
    · exact Or.inr (Or.inr (Or.inl (q 17 e)))
    · exact Or.inr (Or.inr (Or.inr (Or.inl (q 18 e))))
    · exact Or.inr (Or.inr (Or.inr (Or.inr (Or.inl (q 19 e)))))
    · exact Or.inr (Or.inr (Or.inr (Or.inr (Or.inr (Or.inl (q 20 e))))))
    · exact Or.inr (Or.inr (Or.inr (Or.inr (Or.inr (Or.inr (q 21 e))))))
  rcases e with rfl | rfl | rfl | rfl | rfl | rfl | rfl <;> decide
theorem nds_ap {L : zL} {x y : aS} {P O : Nat → Nat} {f : Nat} {I I' : List Nat} {k v : Int32} (h : nds L x P O f I) (hf : f + L.1 < 64) (e : ∀ m j, bM + 46 ≤ m → m ≤ bM + 48 → j < f + L.1 → y.1 m j = x.1 m j) (v6 : y.1 (bM + 46) (f + L.1) = kcode k) (N : nwN k v y (f + L.1) I I') : ∃ P' O', nds (lAp L k v) y P' O' f I' := by
  obtain ⟨c, hc⟩ : ∃ c, c = f + L.1 := ⟨_, rfl⟩
  rw [← hc] at v6 N
  have h := nds_f h e
  obtain ⟨h1, h2, h3, h4, h5⟩ := h
  -- the new node's part, other
  have Q : ∃ pa ot : Nat, (¬ kcode k = 0 → y.1 (bM + 47) c = nI pa ∧ pa < 64 ∧ (kcode k = 1 → pa < 7)) ∧ (¬ kcode k = 0 → ¬ kcode k = 1 → ¬ kcode k = 2 → y.1 (bM + 48) c = nI ot ∧ ot < 64) ∧ ixStep k c I = some I' ∧ ((k = 23 ∧ y.1 (bM + 47) c = v) ∨ ((15 ≤ k ∧ k ≤ 21) ∧ pa = (k - 15).toNatClampNeg) ∨ (k = 14 ∧ ∃ a R, I = a :: R ∧ pa = a) ∨ (kbin k ∧ ∃ b a R, I = b :: a :: R ∧ pa = a ∧ ot = b)) ∧ (∃ R, I' = c :: R ∧ ∀ a, a ∈ R → a ∈ I) := by
    rcases N with ⟨n1, n2, n3⟩ | ⟨n1, n2, n3⟩ | ⟨n1, a, R, n2, n3, n4⟩ | ⟨n1, m0, m1, m2, b, a, R, n2, n3, n4, n5⟩
    · have k0 : kcode k = 0 := by rw [n1]; decide
      exact ⟨0, 0, fun g => absurd k0 g, fun g => absurd k0 g, by unfold ixStep; rw [if_pos (Or.inl n1), n3], Or.inl ⟨n1, n2⟩, I, n3, fun a ha => ha⟩
    · obtain ⟨u1, u2⟩ := i32_15 n1
      have k1 : kcode k = 1 := by
        unfold kcode
        rw [if_neg (fun g => by rw [g] at n1; exact absurd n1 (by decide)), if_pos n1]
      exact ⟨(k - 15).toNatClampNeg, 0, fun _ => ⟨n2.trans u1, by omega, fun _ => u2⟩, fun _ g => absurd k1 g, by unfold ixStep; rw [if_pos (Or.inr n1), n3], Or.inr (Or.inl ⟨n1, rfl⟩), I, n3, fun a ha => ha⟩
    · have k2 : kcode k = 2 := by rw [n1]; decide
      have a1 := h4 a (by rw [n2]; exact List.mem_cons_self)
      exact ⟨a, 0, fun _ => ⟨n3, by omega, fun g => absurd (k2.symm.trans g) (by decide)⟩, fun _ _ g => absurd k2 g, by unfold ixStep; rw [if_neg (by rw [n1]; decide), if_pos n1, n2, n4], Or.inr (Or.inr (Or.inl ⟨n1, a, R, n2, rfl⟩)), R, n4, fun a ha => by rw [n2]; exact List.mem_cons_of_mem _ ha⟩
    · have a1 := h4 a (by rw [n2]; exact List.mem_cons_of_mem _ List.mem_cons_self)
      have b1 := h4 b (by rw [n2]; exact List.mem_cons_self)
      obtain ⟨w1, w2, w3⟩ := kbin_n n1
      exact ⟨a, b, fun _ => ⟨n3, by omega, fun g => absurd g m1⟩, fun _ _ _ => ⟨n4, by omega⟩, by unfold ixStep; rw [if_neg (by intro g; rcases g with g | g; exact w1 g; exact w2 g), if_neg w3, n2, n5], Or.inr (Or.inr (Or.inr ⟨n1, b, a, R, n2, rfl, rfl⟩)), R, n5, fun a ha => by rw [n2]; exact List.mem_cons_of_mem _ (List.mem_cons_of_mem _ ha)⟩
  obtain ⟨pa, ot, q1, q2, q3, q4, R, q5, q6⟩ := Q
  have lo : ∀ j, j < L.1 → (lAp L k v).2.1 j = L.2.1 j ∧ (lAp L k v).2.2 j = L.2.2 j := fun j hj => ⟨if_neg (by omega), if_neg (by omega)⟩
  have ln : (lAp L k v).2.1 L.1 = k ∧ (lAp L k v).2.2 L.1 = v := ⟨if_pos rfl, if_pos rfl⟩
  have lpe : ∀ j, j ≤ L.1 → lp (ixGo (lAp L k v) f) 0 j (some []) = lp (ixGo L f) 0 j (some []) := fun j hj => lp_congr j 0 _ (fun i b _ hi => by unfold ixGo; rw [(lo i (by omega)).1])
  have lp1 : lp (ixGo (lAp L k v) f) 0 (L.1 + 1) (some []) = some I' := by
    rw [lp_snoc, lpe L.1 (Nat.le_refl _), h3, Nat.zero_add]
    unfold ixGo
    rw [ln.1, ← hc]
    exact q3
  refine ⟨fun i => if i = c then pa else P i, fun i => if i = c then ot else O i, ?_, ?_, lp1, ?_, ?_⟩
  · intro i i1 i2
    have i2 : i < f + (L.1 + 1) := i2
    by_cases ei : i = c
    · subst ei
      dsimp only
      rw [v6, if_pos rfl, if_pos rfl]
      exact ⟨q1, q2⟩
    · dsimp only
      rw [if_neg ei, if_neg ei]
      exact h1 i i1 (by omega)
  · intro j hj
    have hj : j < L.1 + 1 := hj
    by_cases ej : j = L.1
    · subst ej
      refine ⟨I, by rw [lpe _ (Nat.le_refl _)]; exact h3, ?_⟩
      unfold mNd
      dsimp only
      rw [ln.1, ln.2, ← hc, if_pos rfl, if_pos rfl]
      exact ⟨v6, q4⟩
    · obtain ⟨J, a, b⟩ := h2 j (by omega)
      refine ⟨J, by rw [lpe j (by omega)]; exact a, ?_⟩
      unfold mNd at b ⊢
      dsimp only
      rw [(lo j (by omega)).1, (lo j (by omega)).2, if_neg (by omega), if_neg (by omega)]
      exact b
  · intro a ha
    show a < f + (L.1 + 1)
    rw [q5] at ha
    rcases List.mem_cons.mp ha with e | e
    · omega
    · have := h4 a (q6 a e); omega
  · intro a R' e'
    show a + 1 = f + (L.1 + 1)
    rw [q5] at e'
    have : c = a := (List.cons.inj e').1
    omega
/-- the model holds the state -/
def mEs (f : Nat) (S : eS) (x : aS) : Prop := x.1 bM 50 = nI S.2.2.1 ∧ (∀ j, j < S.2.2.1 → x.1 (bM + 49) j = kcd (S.2.2.2.1 j)) ∧ x.1 bM 52 = nI S.2.2.2.2.2.1 ∧ x.1 bM 53 = nI S.2.2.2.2.2.2 ∧ x.1 bM 23 = nI (f + S.2.2.2.2.1.1) ∧ x.1 bM 54 = bI S.2.1 ∧ (S.2.1 = true → x.1 bM 55 = bI (decide (¬ (0 < S.2.2.1 ∧ 3 < kBd (S.2.2.2.1 (S.2.2.1 - 1)))))) ∧ ∃ I P O, x.1 bM 51 = nI I.length ∧ hL I x ∧ nds S.2.2.2.2.1 (shr x) P O f I ∧ I.length + (if S.2.1 = true then 1 else 0) = 1 + wbn S.2.2.2.1 S.2.2.1
/-- cells of an E: without the token's, and with -/
def eC (f m j : Nat) : Prop := (m = bM ∧ (j = 23 ∨ (50 ≤ j ∧ j ≤ 55))) ∨ m = bM + 49 ∨ m = bM + 50 ∨ (bM + 46 ≤ m ∧ m ≤ bM + 48 ∧ 64 + f ≤ j)
def mEb (f : Nat) (x y : aS) : Prop := (∀ m j, ¬ eC f m j → y.1 m j = x.1 m j) ∧ y.2 = x.2
theorem mEb_r {f : Nat} (x : aS) : mEb f x x := ⟨fun _ _ _ => rfl, rfl⟩
theorem mEb_t {f : Nat} {x y z : aS} (h : mEb f x y) (g : mEb f y z) : mEb f x z := ⟨fun m j e => (g.1 m j e).trans (h.1 m j e), g.2.trans h.2⟩
theorem mEb_w {f : Nat} {x : aS} {a i : Nat} {v : Int32} (h : eC f a i) : mEb f x (aWr x a i v) := ⟨fun m j e => aWr_o _ _ (fun g => e (g.1.symm ▸ g.2.symm ▸ h)), rfl⟩
theorem mEb_W {f : Nat} {x y : aS} (h : mEb f x y) : mW (eC f) x y := ⟨fun m j _ e => h.1 m j e, h.2⟩
theorem eC_b {f : Nat} : ∀ m j, eC f m j → (m = bM ∧ 18 ≤ j) ∨ bM + 25 ≤ m := fun m j e => by unfold eC at e; omega
section qBA
variable {l : Launch} {d : Nat} {D : Nat → Bool} {x y : aS} {n f : Nat} {B : Nat → Nat} {S : eS} {r : zP}
theorem mP_e (h : mP n B r x) (F : mEb f x y) : mP n B r y := mP_W eC_b h (mEb_W F) (fun j hj => F.1 _ _ (fun e => by unfold eC at e; omega))
theorem mBt_e (h : mBt n B x) (F : mEb f x y) : mBt n B y := mBt_W eC_b h (mEb_W F)
set_option maxHeartbeats 4000000 in
set_option maxRecDepth 100000 in
theorem c_X12_rank {c : Int32} : aDI l mX12_rank d D [.int c] x (rkC c) x := by
  refine a_metI (by decide) (Nat.le_of_ble_eq_true rfl) rfl ?_
  unfold rkC
  by_cases q1 : 13 ≤ c
  · rw [if_pos q1]
    refine a_iload_n (i := 0) dX12_rank_0 rfl rfl ?_
    refine a_bipush (v := 13) dX12_rank_1 (by decide) ?_
    refine a_icmp_lt (tg := 11) dX12_rank_3 (by decide) (fun c_3 => ?_) (fun c_3 => ?_)
    · exact absurd c_3 (Int32.not_lt.mpr q1)
    · refine a_bipush (v := 6) dX12_rank_6 (by decide) ?_
      refine a_goto (tg := 58) dX12_rank_8 (by decide) ?_
      exact a_iret dX12_rank_58 (by exact ⟨rfl, rfl⟩)
  · rw [if_neg q1]
    by_cases q2 : 11 ≤ c
    · rw [if_pos q2]
      refine a_iload_n (i := 0) dX12_rank_0 rfl rfl ?_
      refine a_bipush (v := 13) dX12_rank_1 (by decide) ?_
      refine a_icmp_lt (tg := 11) dX12_rank_3 (by decide) (fun c_3 => ?_) (fun c_3 => ?_)
      · refine a_iload_n (i := 0) dX12_rank_11 rfl rfl ?_
        refine a_bipush (v := 11) dX12_rank_12 (by decide) ?_
        refine a_icmp_lt (tg := 21) dX12_rank_14 (by decide) (fun c_14 => ?_) (fun c_14 => ?_)
        · exact absurd c_14 (Int32.not_lt.mpr q2)
        · refine a_iconst (v := 5) dX12_rank_17 (by decide) ?_
          refine a_goto (tg := 58) dX12_rank_18 (by decide) ?_
          exact a_iret dX12_rank_58 (by exact ⟨rfl, rfl⟩)
      · exact absurd (Int32.not_le.mp q1) c_3
    · rw [if_neg q2]
      by_cases q3 : 5 ≤ c
      · rw [if_pos q3]
        refine a_iload_n (i := 0) dX12_rank_0 rfl rfl ?_
        refine a_bipush (v := 13) dX12_rank_1 (by decide) ?_
        refine a_icmp_lt (tg := 11) dX12_rank_3 (by decide) (fun c_3 => ?_) (fun c_3 => ?_)
        · refine a_iload_n (i := 0) dX12_rank_11 rfl rfl ?_
          refine a_bipush (v := 11) dX12_rank_12 (by decide) ?_
          refine a_icmp_lt (tg := 21) dX12_rank_14 (by decide) (fun c_14 => ?_) (fun c_14 => ?_)
          · refine a_iload_n (i := 0) dX12_rank_21 rfl rfl ?_
            refine a_iconst (v := 5) dX12_rank_22 (by decide) ?_
            refine a_icmp_lt (tg := 30) dX12_rank_23 (by decide) (fun c_23 => ?_) (fun c_23 => ?_)
            · exact absurd c_23 (Int32.not_lt.mpr q3)
            · refine a_iconst (v := 4) dX12_rank_26 (by decide) ?_
              refine a_goto (tg := 58) dX12_rank_27 (by decide) ?_
              exact a_iret dX12_rank_58 (by exact ⟨rfl, rfl⟩)
          · exact absurd (Int32.not_le.mp q2) c_14
        · exact absurd (Int32.not_le.mp q1) c_3
      · rw [if_neg q3]
        by_cases q4 : c = 2
        · rw [if_pos q4]
          refine a_iload_n (i := 0) dX12_rank_0 rfl rfl ?_
          refine a_bipush (v := 13) dX12_rank_1 (by decide) ?_
          refine a_icmp_lt (tg := 11) dX12_rank_3 (by decide) (fun c_3 => ?_) (fun c_3 => ?_)
          · refine a_iload_n (i := 0) dX12_rank_11 rfl rfl ?_
            refine a_bipush (v := 11) dX12_rank_12 (by decide) ?_
            refine a_icmp_lt (tg := 21) dX12_rank_14 (by decide) (fun c_14 => ?_) (fun c_14 => ?_)
            · refine a_iload_n (i := 0) dX12_rank_21 rfl rfl ?_
              refine a_iconst (v := 5) dX12_rank_22 (by decide) ?_
              refine a_icmp_lt (tg := 30) dX12_rank_23 (by decide) (fun c_23 => ?_) (fun c_23 => ?_)
              · refine a_iload_n (i := 0) dX12_rank_30 rfl rfl ?_
                refine a_iconst (v := 2) dX12_rank_31 (by decide) ?_
                refine a_icmp_ne (tg := 39) dX12_rank_32 (by decide) (fun c_32 => ?_) (fun c_32 => ?_)
                · exact absurd q4 c_32
                · refine a_iconst (v := 3) dX12_rank_35 (by decide) ?_
                  refine a_goto (tg := 58) dX12_rank_36 (by decide) ?_
                  exact a_iret dX12_rank_58 (by exact ⟨rfl, rfl⟩)
              · exact absurd (Int32.not_le.mp q3) c_23
            · exact absurd (Int32.not_le.mp q2) c_14
          · exact absurd (Int32.not_le.mp q1) c_3
        · rw [if_neg q4]
          by_cases q5 : c = 3
          · rw [if_pos q5]
            refine a_iload_n (i := 0) dX12_rank_0 rfl rfl ?_
            refine a_bipush (v := 13) dX12_rank_1 (by decide) ?_
            refine a_icmp_lt (tg := 11) dX12_rank_3 (by decide) (fun c_3 => ?_) (fun c_3 => ?_)
            · refine a_iload_n (i := 0) dX12_rank_11 rfl rfl ?_
              refine a_bipush (v := 11) dX12_rank_12 (by decide) ?_
              refine a_icmp_lt (tg := 21) dX12_rank_14 (by decide) (fun c_14 => ?_) (fun c_14 => ?_)
              · refine a_iload_n (i := 0) dX12_rank_21 rfl rfl ?_
                refine a_iconst (v := 5) dX12_rank_22 (by decide) ?_
                refine a_icmp_lt (tg := 30) dX12_rank_23 (by decide) (fun c_23 => ?_) (fun c_23 => ?_)
                · refine a_iload_n (i := 0) dX12_rank_30 rfl rfl ?_
                  refine a_iconst (v := 2) dX12_rank_31 (by decide) ?_
                  refine a_icmp_ne (tg := 39) dX12_rank_32 (by decide) (fun c_32 => ?_) (fun c_32 => ?_)
                  · refine a_iload_n (i := 0) dX12_rank_39 rfl rfl ?_
                    refine a_iconst (v := 3) dX12_rank_40 (by decide) ?_
                    refine a_icmp_ne (tg := 48) dX12_rank_41 (by decide) (fun c_41 => ?_) (fun c_41 => ?_)
                    · exact absurd q5 c_41
                    · refine a_iconst (v := 2) dX12_rank_44 (by decide) ?_
                      refine a_goto (tg := 58) dX12_rank_45 (by decide) ?_
                      exact a_iret dX12_rank_58 (by exact ⟨rfl, rfl⟩)
                  · exact absurd c_32 q4
                · exact absurd (Int32.not_le.mp q3) c_23
              · exact absurd (Int32.not_le.mp q2) c_14
            · exact absurd (Int32.not_le.mp q1) c_3
          · rw [if_neg q5]
            by_cases q6 : c = 4
            · rw [if_pos q6]
              refine a_iload_n (i := 0) dX12_rank_0 rfl rfl ?_
              refine a_bipush (v := 13) dX12_rank_1 (by decide) ?_
              refine a_icmp_lt (tg := 11) dX12_rank_3 (by decide) (fun c_3 => ?_) (fun c_3 => ?_)
              · refine a_iload_n (i := 0) dX12_rank_11 rfl rfl ?_
                refine a_bipush (v := 11) dX12_rank_12 (by decide) ?_
                refine a_icmp_lt (tg := 21) dX12_rank_14 (by decide) (fun c_14 => ?_) (fun c_14 => ?_)
                · refine a_iload_n (i := 0) dX12_rank_21 rfl rfl ?_
                  refine a_iconst (v := 5) dX12_rank_22 (by decide) ?_
                  refine a_icmp_lt (tg := 30) dX12_rank_23 (by decide) (fun c_23 => ?_) (fun c_23 => ?_)
                  · refine a_iload_n (i := 0) dX12_rank_30 rfl rfl ?_
                    refine a_iconst (v := 2) dX12_rank_31 (by decide) ?_
                    refine a_icmp_ne (tg := 39) dX12_rank_32 (by decide) (fun c_32 => ?_) (fun c_32 => ?_)
                    · refine a_iload_n (i := 0) dX12_rank_39 rfl rfl ?_
                      refine a_iconst (v := 3) dX12_rank_40 (by decide) ?_
                      refine a_icmp_ne (tg := 48) dX12_rank_41 (by decide) (fun c_41 => ?_) (fun c_41 => ?_)
                      · refine a_iload_n (i := 0) dX12_rank_48 rfl rfl ?_
                        refine a_iconst (v := 4) dX12_rank_49 (by decide) ?_
                        refine a_icmp_ne (tg := 57) dX12_rank_50 (by decide) (fun c_50 => ?_) (fun c_50 => ?_)
                        · exact absurd q6 c_50
                        · refine a_iconst (v := 1) dX12_rank_53 (by decide) ?_
                          refine a_goto (tg := 58) dX12_rank_54 (by decide) ?_
                          exact a_iret dX12_rank_58 (by exact ⟨rfl, rfl⟩)
                      · exact absurd c_41 q5
                    · exact absurd c_32 q4
                  · exact absurd (Int32.not_le.mp q3) c_23
                · exact absurd (Int32.not_le.mp q2) c_14
              · exact absurd (Int32.not_le.mp q1) c_3
            · rw [if_neg q6]
              refine a_iload_n (i := 0) dX12_rank_0 rfl rfl ?_
              refine a_bipush (v := 13) dX12_rank_1 (by decide) ?_
              refine a_icmp_lt (tg := 11) dX12_rank_3 (by decide) (fun c_3 => ?_) (fun c_3 => ?_)
              · refine a_iload_n (i := 0) dX12_rank_11 rfl rfl ?_
                refine a_bipush (v := 11) dX12_rank_12 (by decide) ?_
                refine a_icmp_lt (tg := 21) dX12_rank_14 (by decide) (fun c_14 => ?_) (fun c_14 => ?_)
                · refine a_iload_n (i := 0) dX12_rank_21 rfl rfl ?_
                  refine a_iconst (v := 5) dX12_rank_22 (by decide) ?_
                  refine a_icmp_lt (tg := 30) dX12_rank_23 (by decide) (fun c_23 => ?_) (fun c_23 => ?_)
                  · refine a_iload_n (i := 0) dX12_rank_30 rfl rfl ?_
                    refine a_iconst (v := 2) dX12_rank_31 (by decide) ?_
                    refine a_icmp_ne (tg := 39) dX12_rank_32 (by decide) (fun c_32 => ?_) (fun c_32 => ?_)
                    · refine a_iload_n (i := 0) dX12_rank_39 rfl rfl ?_
                      refine a_iconst (v := 3) dX12_rank_40 (by decide) ?_
                      refine a_icmp_ne (tg := 48) dX12_rank_41 (by decide) (fun c_41 => ?_) (fun c_41 => ?_)
                      · refine a_iload_n (i := 0) dX12_rank_48 rfl rfl ?_
                        refine a_iconst (v := 4) dX12_rank_49 (by decide) ?_
                        refine a_icmp_ne (tg := 57) dX12_rank_50 (by decide) (fun c_50 => ?_) (fun c_50 => ?_)
                        · refine a_iconst (v := 0) dX12_rank_57 (by decide) ?_
                          exact a_iret dX12_rank_58 (by exact ⟨rfl, rfl⟩)
                        · exact absurd c_50 q6
                      · exact absurd c_41 q5
                    · exact absurd c_32 q4
                  · exact absurd (Int32.not_le.mp q3) c_23
                · exact absurd (Int32.not_le.mp q2) c_14
              · exact absurd (Int32.not_le.mp q1) c_3
/-- a node is put down at c, and held at i -/
def mGw (x : aS) (c i : Nat) (k a b : Int32) : aS := aWr (aWr (aWr (aWr (aWr (aWr x (bM + 46) (64 + c) k) (bM + 47) (64 + c) a) (bM + 48) (64 + c) b) (bM + 50) i (nI c)) bM 51 (nI (i + 1))) bM 23 (nI (c + 1))
set_option maxHeartbeats 4000000 in
set_option maxRecDepth 100000 in
theorem c_X12_grown {c i : Nat} {k a b : Int32} (hM : D 12 = true) (hc : x.1 bM 23 = nI c) (hi : x.1 bM 51 = nI i) (c64 : c < 64) (i96 : i < 96) : aDV l mX12_grown d D [.ref bM, .int k, .int a, .int b] x (mGw x c i k a b) := by
  refine a_metV (by decide) (Nat.le_of_ble_eq_true rfl) rfl ?_
  have e1 : bM ≠ bM + 46 := by decide
  have e2 : bM ≠ bM + 47 := by decide
  have e3 : bM ≠ bM + 48 := by decide
  have e4 : bM ≠ bM + 50 := by decide
  refine a_aload_n (i := 0) dX12_grown_0 rfl rfl ?_
  refine gX12_84 rfl dX12_grown_1 (isM_0 hM) ?_
  refine a_bipush (v := 64) dX12_grown_4 (by decide) ?_
  refine a_aload_n (i := 0) dX12_grown_6 rfl rfl ?_
  refine gX12_252 rfl dX12_grown_7 (isM_0 hM) ?_
  rw [hc]
  refine a_iadd dX12_grown_10 ?_
  refine a_iload_n (i := 1) dX12_grown_11 rfl rfl ?_
  refine a_iastN dX12_grown_12 (isM_46 hM) (by first | exact nI_add 64 _ | with_reducible exact rfl | with_reducible exact ix8 _ _ | with_reducible exact ix12 _ _ | exact rfl) (by omega) (by decide) ?_
  refine a_aload_n (i := 0) dX12_grown_13 rfl rfl ?_
  refine gX12_87 rfl dX12_grown_14 (isM_0 hM) ?_
  refine a_bipush (v := 64) dX12_grown_17 (by decide) ?_
  refine a_aload_n (i := 0) dX12_grown_19 rfl rfl ?_
  refine gX12_252 rfl dX12_grown_20 (isM_0 hM) ?_
  rw [aWr_n _ _ _ e1, hc]
  refine a_iadd dX12_grown_23 ?_
  refine a_iload_n (i := 2) dX12_grown_24 rfl rfl ?_
  refine a_iastN dX12_grown_25 (isM_47 hM) (by first | exact nI_add 64 _ | with_reducible exact rfl | with_reducible exact ix8 _ _ | with_reducible exact ix12 _ _ | exact rfl) (by omega) (by decide) ?_
  refine a_aload_n (i := 0) dX12_grown_26 rfl rfl ?_
  refine gX12_90 rfl dX12_grown_27 (isM_0 hM) ?_
  refine a_bipush (v := 64) dX12_grown_30 (by decide) ?_
  refine a_aload_n (i := 0) dX12_grown_32 rfl rfl ?_
  refine gX12_252 rfl dX12_grown_33 (isM_0 hM) ?_
  rw [aWr_n _ _ _ e2, aWr_n _ _ _ e1, hc]
  refine a_iadd dX12_grown_36 ?_
  refine a_iload_n (i := 3) dX12_grown_37 rfl rfl ?_
  refine a_iastN dX12_grown_38 (isM_48 hM) (by first | exact nI_add 64 _ | with_reducible exact rfl | with_reducible exact ix8 _ _ | with_reducible exact ix12 _ _ | exact rfl) (by omega) (by decide) ?_
  refine a_aload_n (i := 0) dX12_grown_39 rfl rfl ?_
  refine gX12_96 rfl dX12_grown_40 (isM_0 hM) ?_
  refine a_aload_n (i := 0) dX12_grown_43 rfl rfl ?_
  refine gX12_319 rfl dX12_grown_44 (isM_0 hM) ?_
  rw [aWr_n _ _ _ e3, aWr_n _ _ _ e2, aWr_n _ _ _ e1, hi]
  refine a_aload_n (i := 0) dX12_grown_47 rfl rfl ?_
  refine gX12_252 rfl dX12_grown_48 (isM_0 hM) ?_
  rw [aWr_n _ _ _ e3, aWr_n _ _ _ e2, aWr_n _ _ _ e1, hc]
  refine a_iastN dX12_grown_51 (isM_50 hM) (by first | with_reducible exact rfl | with_reducible exact ix8 _ _ | with_reducible exact ix12 _ _ | exact rfl) (by omega) (by decide) ?_
  refine a_aload_n (i := 0) dX12_grown_52 rfl rfl ?_
  refine a_dup dX12_grown_53 rfl ?_
  refine gX12_319 rfl dX12_grown_54 (isM_0 hM) ?_
  rw [aWr_n _ _ _ e4, aWr_n _ _ _ e3, aWr_n _ _ _ e2, aWr_n _ _ _ e1, hi]
  refine a_iconst (v := 1) dX12_grown_57 (by decide) ?_
  refine a_iadd dX12_grown_58 ?_
  rw [nI_1]
  refine pX12_319 rfl dX12_grown_59 (isM_0 hM) ?_
  refine a_aload_n (i := 0) dX12_grown_62 rfl rfl ?_
  refine a_dup dX12_grown_63 rfl ?_
  refine gX12_252 rfl dX12_grown_64 (isM_0 hM) ?_
  rw [aWr_j _ _ _ (by decide), aWr_n _ _ _ e4, aWr_n _ _ _ e3, aWr_n _ _ _ e2, aWr_n _ _ _ e1, hc]
  refine a_iconst (v := 1) dX12_grown_67 (by decide) ?_
  refine a_iadd dX12_grown_68 ?_
  rw [nI_1]
  refine pX12_252 rfl dX12_grown_69 (isM_0 hM) ?_
  exact a_vret dX12_grown_72 (by exact ⟨rfl, rfl⟩)
set_option maxHeartbeats 4000000 in
set_option maxRecDepth 100000 in
theorem c_X12_dropHeld {i : Nat} (hM : D 12 = true) (hi : x.1 bM 51 = nI (i + 1)) (i96 : i < 96) : aDI l mX12_dropHeld d D [.ref bM] x (x.1 (bM + 50) i) (aWr x bM 51 (nI i)) := by
  refine a_metI (by decide) (Nat.le_of_ble_eq_true rfl) rfl ?_
  refine a_aload_n (i := 0) dX12_dropHeld_0 rfl rfl ?_
  refine a_dup dX12_dropHeld_1 rfl ?_
  refine gX12_319 rfl dX12_dropHeld_2 (isM_0 hM) ?_
  rw [hi]
  refine a_iconst (v := 1) dX12_dropHeld_5 (by decide) ?_
  refine a_isub dX12_dropHeld_6 ?_
  rw [nI_pred]
  refine pX12_319 rfl dX12_dropHeld_7 (isM_0 hM) ?_
  refine a_aload_n (i := 0) dX12_dropHeld_10 rfl rfl ?_
  refine gX12_96 rfl dX12_dropHeld_11 (isM_0 hM) ?_
  refine a_aload_n (i := 0) dX12_dropHeld_14 rfl rfl ?_
  refine gX12_319 rfl dX12_dropHeld_15 (isM_0 hM) ?_
  rw [aWr_s]
  refine a_ialdN dX12_dropHeld_18 (isM_50 hM) (by first | with_reducible exact rfl | with_reducible exact ix8 _ _ | with_reducible exact ix12 _ _ | exact rfl) (by omega) (by decide) ?_
  rw [aWr_n _ _ _ (by decide)]
  exact a_iret dX12_dropHeld_19 (by exact ⟨rfl, rfl⟩)
end qBA
