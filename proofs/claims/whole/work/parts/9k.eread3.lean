/-! READING an E: the loop; the class's readValue -/
def eNx (B : Nat → Nat) (n : Nat) (S : eS) : eS := if S.1.2.1 = 0 then (pGo B n S.1, S.2) else S
def eDu (b : Bool) (S : eS) : eS := (S.1, b, S.2.2)
def eGo (B : Nat → Nat) (n : Nat) : Nat → eS → eS
  | 0, S => S
  | F + 1, S => if ¬ S.1.2.1 = 0 then S
    else if S.2.1 = true then eGo B n F (eNx B n (eDu (decide ((tok B n S.1.1).1 = 14 ∨ (tok B n S.1.1).1 = 24)) (eSt B n (tok B n S.1.1).1 S)))
    else if 0 < kBd (tok B n S.1.1).1 ∧ ¬ (tok B n S.1.1).1 = 14 then eGo B n F (eNx B n (eDu true (eSg B n (tok B n S.1.1).1 S)))
    else if (tok B n S.1.1).1 = 25 ∧ 0 < S.2.2.2.2.2.1 then eGo B n F (eNx B n (eDu false (eCl S)))
    else if 0 < S.2.2.2.2.2.1 then eFl B n 1 (eRl 1 S) else eRl 1 S
/-- what holds as long as there is no fault; f: knots before -/
def eOk (n f : Nat) (S : eS) : Prop := S.1.2.1 = 0 → S.1.1 ≤ n ∧ f + S.2.2.2.2.1.1 + wcn S.2.2.2.1 S.2.2.1 = S.2.2.2.2.2.2 ∧ S.2.2.2.2.2.2 ≤ 64 ∧ S.2.2.2.2.2.1 = wop S.2.2.2.1 S.2.2.1 ∧ S.2.2.2.2.2.1 ≤ 8 ∧ ∀ j, j < S.2.2.1 → S.2.2.2.1 j < 39 ∧ (S.2.2.2.1 j = 24 ∨ 1 ≤ kBd (S.2.2.2.1 j))
theorem rel_ok (s : Nat → Nat) {b : Nat} (hb : 1 ≤ b) : ∀ (w : Nat) (L : zL), (rel s b w L).2.1 + wcn s (rel s b w L).1 = L.1 + wcn s w ∧ wop s (rel s b w L).1 = wop s w ∧ (0 < (rel s b w L).1 → kBd (s ((rel s b w L).1 - 1)) < b) := by
  intro w
  induction w with
  | zero => intro L; exact ⟨rfl, rfl, fun e => absurd e (Nat.lt_irrefl 0)⟩
  | succ w ih =>
    intro L
    have er : rel s b (w + 1) L = if b ≤ kBd (s w) then rel s b w (lAp L (nI (s w)) 0) else (w + 1, L) := rfl
    rw [er]
    by_cases g : b ≤ kBd (s w)
    · rw [if_pos g]
      have n24 : ¬ s w = 24 := fun e => by rw [e] at g; exact absurd g (by show ¬ b ≤ 0; omega)
      obtain ⟨h1, h2, h3⟩ := ih (lAp L (nI (s w)) 0)
      refine ⟨?_, ?_, h3⟩
      · rw [h1]; show L.1 + 1 + wcn s w = L.1 + (wcn s w + (if s w = 24 then 0 else 1)); rw [if_neg n24]; omega
      · rw [h2]; show wop s w = wop s w + (if s w = 24 then 1 else 0); rw [if_neg n24]; omega
    · rw [if_neg g]
      exact ⟨rfl, rfl, fun _ => by show kBd (s (w + 1 - 1)) < b; rw [Nat.add_sub_cancel]; omega⟩
theorem wcn_c {s u : Nat → Nat} : ∀ w, (∀ j, j < w → s j = u j) → wcn s w = wcn u w ∧ wop s w = wop u w := by
  intro w
  induction w with
  | zero => intro _; exact ⟨rfl, rfl⟩
  | succ w ih =>
    intro h
    obtain ⟨h1, h2⟩ := ih (fun j hj => h j (by omega))
    show wcn s w + (if s w = 24 then 0 else 1) = wcn u w + (if u w = 24 then 0 else 1) ∧ wop s w + (if s w = 24 then 1 else 0) = wop u w + (if u w = 24 then 1 else 0)
    rw [h1, h2, h w (by omega)]
    exact ⟨rfl, rfl⟩
section qAR
variable {l : Launch} {d : Nat} {D : Nat → Bool} {x y : aS} {n t a k f : Nat} {B : Nat → Nat} {S : eS}
theorem eOk_rl {b : Nat} (hb : 1 ≤ b) (h : eOk n f S) : eOk n f (eRl b S) := by
  intro h0
  obtain ⟨h1, h2, h3, h4, h5, h6⟩ := h h0
  obtain ⟨r1, r2, -⟩ := rel_ok S.2.2.2.1 hb S.2.2.1 S.2.2.2.2.1
  have rl := rel_le S.2.2.2.1 b S.2.2.1 S.2.2.2.2.1
  refine ⟨h1, ?_, h3, ?_, h5, fun j hj => h6 j (Nat.lt_of_lt_of_le hj rl)⟩
  · show f + (rel S.2.2.2.1 b S.2.2.1 S.2.2.2.2.1).2.1 + wcn S.2.2.2.1 (rel S.2.2.2.1 b S.2.2.1 S.2.2.2.2.1).1 = _; rw [Nat.add_assoc, r1, ← Nat.add_assoc]; exact h2
  · show S.2.2.2.2.2.1 = wop S.2.2.2.1 (rel S.2.2.2.1 b S.2.2.1 S.2.2.2.2.1).1; rw [r2]; exact h4
theorem eOk_fl {c : Nat} (hc : ¬ c = 0) : eOk n f (eFl B n c S) := fun e => absurd e hc
/-- a sign is pushed (its knot counted) -/
theorem eOk_aw {al : Bool} (h : S.1.2.1 = 0 → S.1.1 ≤ n ∧ f + S.2.2.2.2.1.1 + wcn S.2.2.2.1 S.2.2.1 + (if k = 24 then 0 else 1) = S.2.2.2.2.2.2 ∧ (al = true → S.2.2.2.2.2.2 ≤ 64) ∧ S.2.2.2.2.2.1 = wop S.2.2.2.1 S.2.2.1 + (if k = 24 then 1 else 0) ∧ (al = true → S.2.2.2.2.2.1 ≤ 8) ∧ ∀ j, j < S.2.2.1 → S.2.2.2.1 j < 39 ∧ (S.2.2.2.1 j = 24 ∨ 1 ≤ kBd (S.2.2.2.1 j))) (hk : k < 39 ∧ (k = 24 ∨ 1 ≤ kBd k)) : eOk n f (eAw B n k al S) := by
  unfold eAw
  by_cases g : al = true ∧ S.2.2.1 < 72
  · rw [if_pos g]
    intro h0
    obtain ⟨h1, h2, h3, h4, h5, h6⟩ := h h0
    have c1 := wcn_c (s := sps S.2.2.2.1 S.2.2.1 k) (u := S.2.2.2.1) S.2.2.1 (fun j hj => by unfold sps; rw [if_neg (by omega)])
    have ek : sps S.2.2.2.1 S.2.2.1 k S.2.2.1 = k := by unfold sps; rw [if_pos rfl]
    refine ⟨h1, ?_, h3 g.1, ?_, h5 g.1, fun j hj => ?_⟩
    · show f + S.2.2.2.2.1.1 + (wcn (sps S.2.2.2.1 S.2.2.1 k) S.2.2.1 + (if sps S.2.2.2.1 S.2.2.1 k S.2.2.1 = 24 then 0 else 1)) = _
      rw [c1.1, ek, ← Nat.add_assoc]; exact h2
    · show S.2.2.2.2.2.1 = wop (sps S.2.2.2.1 S.2.2.1 k) S.2.2.1 + (if sps S.2.2.2.1 S.2.2.1 k S.2.2.1 = 24 then 1 else 0)
      rw [c1.2, ek]; exact h4
    · have hj : j < S.2.2.1 + 1 := hj
      show (sps S.2.2.2.1 S.2.2.1 k) j < 39 ∧ ((sps S.2.2.2.1 S.2.2.1 k) j = 24 ∨ 1 ≤ kBd ((sps S.2.2.2.1 S.2.2.1 k) j))
      by_cases e : j = S.2.2.1
      · rw [e, ek]; exact hk
      · have : sps S.2.2.2.1 S.2.2.1 k j = S.2.2.2.1 j := by unfold sps; rw [if_neg e]
        rw [this]; exact h6 j (by omega)
  · rw [if_neg g]; exact fun e => absurd e (by show ¬ 2 = 0; decide)
theorem eOk_sg (hk : k < 39) (hb : 1 ≤ kBd k) (h : eOk n f S) : eOk n f (eSg B n k S) := by
  unfold eSg
  have hb2 : 1 ≤ (if kBd k = 4 then 5 else kBd k) := by split <;> omega
  generalize (if kBd k = 4 then 5 else kBd k) = b at hb2 ⊢
  have R := eOk_rl hb2 h
  split
  · exact eOk_fl (by decide)
  · refine eOk_aw (fun h0 => ?_) ⟨hk, Or.inr hb⟩
    obtain ⟨h1, h2, h3, h4, h5, h6⟩ := R h0
    have n24 : ¬ k = 24 := fun e => by rw [e] at hb; exact absurd hb (by decide)
    rw [if_neg n24, if_neg n24]
    exact ⟨h1, by show f + (eRl b S).2.2.2.2.1.1 + wcn (eRl b S).2.2.2.1 (eRl b S).2.2.1 + 1 = (eRl b S).2.2.2.2.2.2 + 1; rw [h2], fun e => of_decide_eq_true e, h4, fun _ => h5, h6⟩
theorem eOk_cl (ho : 0 < S.2.2.2.2.2.1) (h : eOk n f S) : eOk n f (eCl S) := by
  intro h0
  obtain ⟨h1, h2, h3, h4, h5, h6⟩ := eOk_rl (b := 1) (Nat.le_refl 1) h h0
  obtain ⟨-, -, r3⟩ := rel_ok S.2.2.2.1 (Nat.le_refl 1) S.2.2.1 S.2.2.2.2.1
  obtain ⟨w, hw⟩ : ∃ w, w = (eRl 1 S).2.2.1 := ⟨_, rfl⟩
  have r3 : 0 < (eRl 1 S).2.2.1 → kBd (S.2.2.2.1 ((eRl 1 S).2.2.1 - 1)) < 1 := r3
  have h4 : S.2.2.2.2.2.1 = wop S.2.2.2.1 (eRl 1 S).2.2.1 := h4
  have h6 : ∀ j, j < (eRl 1 S).2.2.1 → S.2.2.2.1 j < 39 ∧ (S.2.2.2.1 j = 24 ∨ 1 ≤ kBd (S.2.2.2.1 j)) := h6
  have h2 : f + (eRl 1 S).2.2.2.2.1.1 + wcn S.2.2.2.1 (eRl 1 S).2.2.1 = S.2.2.2.2.2.2 := h2
  show S.1.1 ≤ n ∧ f + (eRl 1 S).2.2.2.2.1.1 + wcn S.2.2.2.1 ((eRl 1 S).2.2.1 - 1) = S.2.2.2.2.2.2 ∧ S.2.2.2.2.2.2 ≤ 64 ∧ S.2.2.2.2.2.1 - 1 = wop S.2.2.2.1 ((eRl 1 S).2.2.1 - 1) ∧ S.2.2.2.2.2.1 - 1 ≤ 8 ∧ ∀ j, j < (eRl 1 S).2.2.1 - 1 → S.2.2.2.1 j < 39 ∧ (S.2.2.2.1 j = 24 ∨ 1 ≤ kBd (S.2.2.2.1 j))
  rw [← hw] at r3 h4 h6 h2 ⊢
  have h5 : S.2.2.2.2.2.1 ≤ 8 := h5
  cases w with
  | zero => exact absurd h4 (by show ¬ S.2.2.2.2.2.1 = 0; omega)
  | succ w =>
    rw [Nat.add_sub_cancel] at r3 ⊢
    have e24 : S.2.2.2.1 w = 24 := by
      rcases (h6 w (Nat.lt_succ_self w)).2 with e | e
      · exact e
      · exact absurd (r3 (by omega)) (by omega)
    have h2 : f + (eRl 1 S).2.2.2.2.1.1 + (wcn S.2.2.2.1 w + (if S.2.2.2.1 w = 24 then 0 else 1)) = S.2.2.2.2.2.2 := h2
    have h4 : S.2.2.2.2.2.1 = wop S.2.2.2.1 w + (if S.2.2.2.1 w = 24 then 1 else 0) := h4
    rw [if_pos e24] at h2 h4
    exact ⟨h1, h2, h3, by omega, by omega, fun j hj => h6 j (by omega)⟩
theorem eOk_st (hk : k < 39) (h : eOk n f S) : eOk n f (eSt B n k S) := by
  unfold eSt
  split
  · rename_i e
    refine eOk_aw (fun h0 => ?_) ⟨by decide, Or.inl rfl⟩
    obtain ⟨h1, h2, h3, h4, h5, h6⟩ := h h0
    rw [if_pos rfl, if_pos rfl]
    exact ⟨h1, h2, fun _ => h3, by show S.2.2.2.2.2.1 + 1 = _; rw [h4]; rfl, fun e => of_decide_eq_true e, h6⟩
  · split
    · split
      · exact eOk_fl (by decide)
      · refine eOk_aw (fun h0 => ?_) ⟨by decide, Or.inr (by decide)⟩
        obtain ⟨h1, h2, h3, h4, h5, h6⟩ := h h0
        rw [if_neg (by decide), if_neg (by decide)]
        exact ⟨h1, by show f + S.2.2.2.2.1.1 + wcn S.2.2.2.1 S.2.2.1 + 1 = S.2.2.2.2.2.2 + 1; rw [h2], fun e => of_decide_eq_true e, h4, fun _ => h5, h6⟩
    · split
      · split
        · exact eOk_fl (by decide)
        · rename_i g
          intro h0
          obtain ⟨h1, h2, h3, h4, h5, h6⟩ := h h0
          have g1 : ¬ 64 < S.2.2.2.2.2.2 + 1 := fun e => g (Or.inl e)
          exact ⟨h1, by show f + (S.2.2.2.2.1.1 + 1) + wcn S.2.2.2.1 S.2.2.1 = S.2.2.2.2.2.2 + 1; omega, by show S.2.2.2.2.2.2 + 1 ≤ 64; omega, h4, h5, h6⟩
      · exact eOk_fl (by decide)
theorem eSt_37 (h : (eSt B n k S).1.2.1 = 0) : ¬ k = 37 := by
  intro e
  unfold eSt at h
  rw [if_neg (by omega), if_neg (by omega), if_neg (by omega)] at h
  exact absurd h (by show ¬ 1 = 0; decide)
theorem e1_st : (eSt B n k S).1.2.1 = 0 → (eSt B n k S).1 = S.1 := by
  unfold eSt eAw
  intro h
  split at h <;> rename_i e1
  · rw [if_pos e1]
    split at h <;> rename_i e2
    · rw [if_pos e2]; rfl
    · exact absurd h (by show ¬ 2 = 0; decide)
  · rw [if_neg e1]
    split at h <;> rename_i e2
    · rw [if_pos e2]
      split at h <;> rename_i e3
      · exact absurd h (by show ¬ 1 = 0; decide)
      · rw [if_neg e3]
        split at h <;> rename_i e4
        · rw [if_pos e4]; rfl
        · exact absurd h (by show ¬ 2 = 0; decide)
    · rw [if_neg e2]
      split at h <;> rename_i e3
      · rw [if_pos e3]
        split at h <;> rename_i e4
        · exact absurd h (by show ¬ 2 = 0; decide)
        · rw [if_neg e4]; rfl
      · exact absurd h (by show ¬ 1 = 0; decide)
theorem e1_sg : (eSg B n k S).1.2.1 = 0 → (eSg B n k S).1 = S.1 := by
  unfold eSg eAw
  generalize (if kBd k = 4 then 5 else kBd k) = b
  intro h
  split at h <;> rename_i e1
  · exact absurd h (by show ¬ 1 = 0; decide)
  · rw [if_neg e1]
    split at h <;> rename_i e2
    · rw [if_pos e2]; rfl
    · exact absurd h (by show ¬ 2 = 0; decide)
theorem eOk_w (h : eOk n f S) (h0 : S.1.2.1 = 0) : S.2.2.1 ≤ 72 ∧ S.2.2.2.2.1.1 + wcn S.2.2.2.1 S.2.2.1 ≤ 64 ∧ S.2.2.2.2.1.1 + wcn S.2.2.2.1 S.2.2.1 ≤ S.2.2.2.2.2.2 ∧ ∀ j, j < S.2.2.1 → S.2.2.2.1 j < 39 := by
  obtain ⟨h1, h2, h3, h4, h5, h6⟩ := h h0
  have := wc_o S.2.2.2.1 S.2.2.1
  exact ⟨by omega, by omega, by omega, fun j hj => (h6 j hj).1⟩
theorem eGo_f {F : Nat} (h : ¬ S.1.2.1 = 0) : eGo B n F S = S := by
  cases F with
  | zero => rfl
  | succ F => show (if ¬ S.1.2.1 = 0 then S else _) = S; rw [if_pos h]
set_option maxHeartbeats 8000000 in
set_option maxRecDepth 100000 in
theorem c_X3_readValue {kn : Nat} {L : zL} {r : zP} (hD : aDC D) (hA : aLw D t a) (J : cJ n B t r x) (h0 : r.2.1 = 0) (hL : rLw L x a) (hL0 : L.1 = 0) (hk : x.1 t 18 = nI kn) (hk64 : kn ≤ 64) : aCt l mX3_readValue (d + 7) D [.ref bRd, .ref a] x (fun v y => v = none ∧ cE n B t a (eGo B n (n + 1) (r, true, 0, (fun _ => 0), L, 0, kn)) y ∧ cFe t a x y) := by
  have ht := J.1
  have n7 := J.2.2.1.2.1
  have P : ∀ (F c : Nat) (S : eS) (y : aS), c ≤ 701 → (S.1.2.1 = 0 → c ≤ S.1.1 ∧ n + 1 ≤ S.1.1 + F) → eOk n kn S → cE n B t a S y → cFe t a x y → aV l mX3_readValue (d + 7) D none 14 [(0, .ref bRd), (1, .ref a), (2, .int (bI S.2.1)), (3, .int (nI c))] [] y (fun v y => v = none ∧ cE n B t a (eGo B n F S) y ∧ cFe t a x y) := by
    intro F
    induction F with
    | zero =>
      intro c S y hc hF O E G
      by_cases f0 : S.1.2.1 = 0
      · have := hF f0
        have := (O f0).1
        omega
      · rw [eGo_f f0]
        have z : ¬ y.1 bRd 7 = 0 := by rw [E.1.2.2.2.1]; exact nI_ne0 (by omega) (by have := E.1.2.2.2.2.1; omega)
        refine a_iload_n (i := 3) dX3_readValue_14 rfl rfl ?_
        refine a_sipush (v := 700) dX3_readValue_15 (by decide) ?_
        refine a_icmp_gt (tg := 159) dX3_readValue_18 (by decide) (fun c_18 => ?_) (fun c_18 => ?_)
        · exact a_vret dX3_readValue_159 (by exact ⟨rfl, E, G⟩)
        · refine a_aload_n (i := 0) dX3_readValue_21 rfl rfl ?_
          refine gX3_43 rfl dX3_readValue_22 (isRd_0 hD) ?_
          refine a_if_ne (tg := 159) dX3_readValue_25 (by decide) (fun c_25 => ?_) (fun c_25 => ?_)
          · exact a_vret dX3_readValue_159 (by exact ⟨rfl, E, G⟩)
          · exact absurd c_25 z
    | succ F ih =>
      intro c S y hc hF O E G
      by_cases f0 : S.1.2.1 = 0
      · obtain ⟨o1, o2, o3, o4, o5, o6⟩ := O f0
        obtain ⟨c1, c2⟩ := hF f0
        obtain ⟨w72, l64, lkn, s39⟩ := eOk_w O f0
        obtain ⟨J1, e5, e6, eL, e7, e8⟩ := id E
        have z : y.1 bRd 7 = 0 := by rw [J1.2.2.2.1, f0]; rfl
        obtain ⟨i1, tk1, -⟩ := J1.2.2.2.2.2.1 f0
        have tk := tok_ok (B := B) i1
        have k38 := tk.2.2.2.2.2.1
        have nc : ¬ (700 : Int32) < nI c := nI_nlt (a := 700) (by omega) (by decide)
        obtain ⟨k, hkk⟩ : ∃ k, k = (tok B n S.1.1).1 := ⟨_, rfl⟩
        have kd : y.1 bTp 4 = nI k := by rw [hkk]; exact tk1.2.1
        obtain ⟨kb, kb6⟩ := kBc_n k (by omega)
        have nk : ∀ c : Nat, c < 39 → ¬ k = c → ¬ nI k = nI c := fun c hc q e => q ((nI_eq (by omega) (by omega)).mp e)
        -- behind a take
        have Tl : ∀ (S1 : eS) (y1 : aS) (b : Bool) (w : Int32), cE n B t a S1 y1 → eOk n kn S1 → cFe t a x y1 → (S1.1.2.1 = 0 → S1.1 = S.1 ∧ ¬ k = 37) → aV l mX3_readValue (d + 7) D none 139 [(0, .ref bRd), (1, .ref a), (2, .int (bI b)), (3, .int (nI c)), (4, .int w)] [] y1 (fun v y => v = none ∧ cE n B t a (eGo B n F (eNx B n (eDu b S1))) y ∧ cFe t a x y) := by
          intro S1 y1 b w E1 O1 G1 same
          by_cases g0 : S1.1.2.1 = 0
          · obtain ⟨sm, k37⟩ := same g0
            have z1 : y1.1 bRd 7 = 0 := by rw [E1.1.2.2.2.1, g0]; rfl
            have en : eNx B n (eDu b S1) = (pGo B n S1.1, b, S1.2.2) := by unfold eNx; rw [if_pos (show (eDu b S1).1.2.1 = 0 from g0)]; rfl
            rw [en]
            have jn : S.1.1 < (tok B n S.1.1).2.2.2.2 ∧ (tok B n S.1.1).2.2.2.2 ≤ n := ⟨tk.2.2.2.2.1 (by rw [← hkk]; exact k37), tk.2.2.2.1⟩
            have ps : (pGo B n S1.1).1 = (tok B n S.1.1).2.2.2.2 := by rw [sm]; rfl
            refine a_aload_n (i := 0) dX3_readValue_139 rfl rfl ?_
            refine gX3_43 rfl dX3_readValue_140 (isRd_0 hD) ?_
            rw [z1]
            refine a_if_ne (tg := 153) dX3_readValue_143 (by decide) (fun c_143 => ?_) (fun c_143 => ?_)
            · exact absurd rfl c_143
            · refine a_aload_n (i := 0) dX3_readValue_146 rfl rfl ?_
              refine gX3_12 rfl dX3_readValue_147 (isRd_0 hD) ?_
              refine kgX3_83 rfl dX3_readValue_150 (Nat.le_of_ble_eq_true rfl) (isTp_0 hD) (c_X7_step hD E1.1.2.2.1 (cP_n E1.1.2.2.2 g0).1 (cP_n E1.1.2.2.2 g0).2) ?_
              rintro v y2 ⟨rfl, u2, F2⟩
              have E2 := cE_u hA E1 (cP_go E1.1.2.2.2 g0 u2 F2) (cU_s F2)
              have ih2 := ih (c + 1) (pGo B n S1.1, b, S1.2.2) y2 (by omega) (fun _ => by show c + 1 ≤ (pGo B n S1.1).1 ∧ n + 1 ≤ (pGo B n S1.1).1 + F; rw [ps]; omega) (fun _ => by obtain ⟨q1, q2⟩ := O1 g0; exact ⟨by show (pGo B n S1.1).1 ≤ n; rw [ps]; omega, q2⟩) E2 (cFe_t G1 (cFe_u (cU_s F2)))
              refine a_iincK (i := 3) (u := 1) dX3_readValue_153 rfl (by decide) (by decide) ?_
              refine a_goto (tg := 14) dX3_readValue_156 (by decide) ?_
              rw [nI_1]; exact a_loc _ rfl ih2
          · have z1 : ¬ y1.1 bRd 7 = 0 := by rw [E1.1.2.2.2.1]; exact nI_ne0 (by omega) (by have := E1.1.2.2.2.2.1; omega)
            have en : eNx B n (eDu b S1) = (S1.1, b, S1.2.2) := by unfold eNx; rw [if_neg (show ¬ (eDu b S1).1.2.1 = 0 from g0)]; rfl
            rw [en]
            have ih2 := ih (c + 1) (S1.1, b, S1.2.2) y1 (by omega) (fun e => absurd e g0) (fun e => absurd e g0) E1 G1
            refine a_aload_n (i := 0) dX3_readValue_139 rfl rfl ?_
            refine gX3_43 rfl dX3_readValue_140 (isRd_0 hD) ?_
            refine a_if_ne (tg := 153) dX3_readValue_143 (by decide) (fun c_143 => ?_) (fun c_143 => ?_)
            · refine a_iincK (i := 3) (u := 1) dX3_readValue_153 rfl (by decide) (by decide) ?_
              refine a_goto (tg := 14) dX3_readValue_156 (by decide) ?_
              rw [nI_1]; exact a_loc _ rfl ih2
            · exact absurd c_143 z1
        show aV _ _ _ _ _ _ _ _ _ (fun v y => v = none ∧ cE n B t a (if ¬ S.1.2.1 = 0 then S
    else if S.2.1 = true then eGo B n F (eNx B n (eDu (decide ((tok B n S.1.1).1 = 14 ∨ (tok B n S.1.1).1 = 24)) (eSt B n (tok B n S.1.1).1 S)))
    else if 0 < kBd (tok B n S.1.1).1 ∧ ¬ (tok B n S.1.1).1 = 14 then eGo B n F (eNx B n (eDu true (eSg B n (tok B n S.1.1).1 S)))
    else if (tok B n S.1.1).1 = 25 ∧ 0 < S.2.2.2.2.2.1 then eGo B n F (eNx B n (eDu false (eCl S)))
    else if 0 < S.2.2.2.2.2.1 then eFl B n 1 (eRl 1 S) else eRl 1 S) y ∧ cFe t a x y)
        rw [if_neg (fun e => e f0), ← hkk]
        cases hdu : S.2.1 with
        | true =>
          rw [if_pos rfl]
          have ts := c_X3_takeStart (l := l) (d := d) (k := k) hD hA E f0 hkk w72 s39 lkn o3 o5
          have O1 := eOk_st (B := B) (k := k) (by omega) O
          by_cases q14 : k = 14
          · have e14 : nI k = 14 := by rw [q14]; rfl
            rw [decide_eq_true (Or.inl q14)]
            refine a_iload_n (i := 3) dX3_readValue_14 rfl rfl ?_
            refine a_sipush (v := 700) dX3_readValue_15 (by decide) ?_
            refine a_icmp_gt (tg := 159) dX3_readValue_18 (by decide) (fun c_18 => ?_) (fun c_18 => ?_)
            · exact absurd c_18 nc
            · refine a_aload_n (i := 0) dX3_readValue_21 rfl rfl ?_
              refine gX3_43 rfl dX3_readValue_22 (isRd_0 hD) ?_
              rw [z]
              refine a_if_ne (tg := 159) dX3_readValue_25 (by decide) (fun c_25 => ?_) (fun c_25 => ?_)
              · exact absurd rfl c_25
              · refine a_aload_n (i := 0) dX3_readValue_28 rfl rfl ?_
                refine gX3_12 rfl dX3_readValue_29 (isRd_0 hD) ?_
                refine gX3_50 rfl dX3_readValue_32 (isTp_0 hD) ?_
                rw [kd]
                refine a_istore (i := 4) dX3_readValue_35 (by decide) ?_
                refine a_iload_n (i := 2) dX3_readValue_37 rfl rfl ?_
                refine a_if_eq (tg := 71) dX3_readValue_38 (by decide) (fun c_38 => ?_) (fun c_38 => ?_)
                · exact absurd c_38 (by decide)
                · refine a_aload_n (i := 0) dX3_readValue_41 rfl rfl ?_
                  refine a_aload_n (i := 1) dX3_readValue_42 rfl rfl ?_
                  refine a_iload (i := 4) dX3_readValue_43 rfl ?_
                  refine kgX3_216 rfl dX3_readValue_45 (Nat.le_of_ble_eq_true rfl) (isRd_0 hD) (ts) ?_
                  rintro v y1 ⟨rfl, E1, G1⟩
                  have tl := Tl (eSt B n k S) y1 true (nI k) E1 O1 (cFe_t G G1) (fun g => ⟨e1_st g, eSt_37 g⟩)
                  refine a_iload (i := 4) dX3_readValue_48 rfl ?_
                  refine a_bipush (v := 14) dX3_readValue_50 (by decide) ?_
                  refine a_icmp_eq (tg := 62) dX3_readValue_52 (by decide) (fun c_52 => ?_) (fun c_52 => ?_)
                  · refine a_iconst (v := 1) dX3_readValue_62 (by decide) ?_
                    refine a_goto (tg := 67) dX3_readValue_63 (by decide) ?_
                    refine a_istore_n (i := 2) dX3_readValue_67 rfl (by decide) ?_
                    refine a_goto (tg := 139) dX3_readValue_68 (by decide) ?_
                    exact a_loc _ rfl tl
                  · exact absurd e14 c_52
          · by_cases q24 : k = 24
            · have e24 : nI k = 24 := by rw [q24]; rfl
              rw [decide_eq_true (Or.inr q24)]
              refine a_iload_n (i := 3) dX3_readValue_14 rfl rfl ?_
              refine a_sipush (v := 700) dX3_readValue_15 (by decide) ?_
              refine a_icmp_gt (tg := 159) dX3_readValue_18 (by decide) (fun c_18 => ?_) (fun c_18 => ?_)
              · exact absurd c_18 nc
              · refine a_aload_n (i := 0) dX3_readValue_21 rfl rfl ?_
                refine gX3_43 rfl dX3_readValue_22 (isRd_0 hD) ?_
                rw [z]
                refine a_if_ne (tg := 159) dX3_readValue_25 (by decide) (fun c_25 => ?_) (fun c_25 => ?_)
                · exact absurd rfl c_25
                · refine a_aload_n (i := 0) dX3_readValue_28 rfl rfl ?_
                  refine gX3_12 rfl dX3_readValue_29 (isRd_0 hD) ?_
                  refine gX3_50 rfl dX3_readValue_32 (isTp_0 hD) ?_
                  rw [kd]
                  refine a_istore (i := 4) dX3_readValue_35 (by decide) ?_
                  refine a_iload_n (i := 2) dX3_readValue_37 rfl rfl ?_
                  refine a_if_eq (tg := 71) dX3_readValue_38 (by decide) (fun c_38 => ?_) (fun c_38 => ?_)
                  · exact absurd c_38 (by decide)
                  · refine a_aload_n (i := 0) dX3_readValue_41 rfl rfl ?_
                    refine a_aload_n (i := 1) dX3_readValue_42 rfl rfl ?_
                    refine a_iload (i := 4) dX3_readValue_43 rfl ?_
                    refine kgX3_216 rfl dX3_readValue_45 (Nat.le_of_ble_eq_true rfl) (isRd_0 hD) (ts) ?_
                    rintro v y1 ⟨rfl, E1, G1⟩
                    have tl := Tl (eSt B n k S) y1 true (nI k) E1 O1 (cFe_t G G1) (fun g => ⟨e1_st g, eSt_37 g⟩)
                    refine a_iload (i := 4) dX3_readValue_48 rfl ?_
                    refine a_bipush (v := 14) dX3_readValue_50 (by decide) ?_
                    refine a_icmp_eq (tg := 62) dX3_readValue_52 (by decide) (fun c_52 => ?_) (fun c_52 => ?_)
                    · exact absurd c_52 (nk 14 (by decide) q14)
                    · refine a_iload (i := 4) dX3_readValue_55 rfl ?_
                      refine a_bipush (v := 24) dX3_readValue_57 (by decide) ?_
                      refine a_icmp_ne (tg := 66) dX3_readValue_59 (by decide) (fun c_59 => ?_) (fun c_59 => ?_)
                      · exact absurd e24 c_59
                      · refine a_iconst (v := 1) dX3_readValue_62 (by decide) ?_
                        refine a_goto (tg := 67) dX3_readValue_63 (by decide) ?_
                        refine a_istore_n (i := 2) dX3_readValue_67 rfl (by decide) ?_
                        refine a_goto (tg := 139) dX3_readValue_68 (by decide) ?_
                        exact a_loc _ rfl tl
            · rw [decide_eq_false (by omega)]
              refine a_iload_n (i := 3) dX3_readValue_14 rfl rfl ?_
              refine a_sipush (v := 700) dX3_readValue_15 (by decide) ?_
              refine a_icmp_gt (tg := 159) dX3_readValue_18 (by decide) (fun c_18 => ?_) (fun c_18 => ?_)
              · exact absurd c_18 nc
              · refine a_aload_n (i := 0) dX3_readValue_21 rfl rfl ?_
                refine gX3_43 rfl dX3_readValue_22 (isRd_0 hD) ?_
                rw [z]
                refine a_if_ne (tg := 159) dX3_readValue_25 (by decide) (fun c_25 => ?_) (fun c_25 => ?_)
                · exact absurd rfl c_25
                · refine a_aload_n (i := 0) dX3_readValue_28 rfl rfl ?_
                  refine gX3_12 rfl dX3_readValue_29 (isRd_0 hD) ?_
                  refine gX3_50 rfl dX3_readValue_32 (isTp_0 hD) ?_
                  rw [kd]
                  refine a_istore (i := 4) dX3_readValue_35 (by decide) ?_
                  refine a_iload_n (i := 2) dX3_readValue_37 rfl rfl ?_
                  refine a_if_eq (tg := 71) dX3_readValue_38 (by decide) (fun c_38 => ?_) (fun c_38 => ?_)
                  · exact absurd c_38 (by decide)
                  · refine a_aload_n (i := 0) dX3_readValue_41 rfl rfl ?_
                    refine a_aload_n (i := 1) dX3_readValue_42 rfl rfl ?_
                    refine a_iload (i := 4) dX3_readValue_43 rfl ?_
                    refine kgX3_216 rfl dX3_readValue_45 (Nat.le_of_ble_eq_true rfl) (isRd_0 hD) (ts) ?_
                    rintro v y1 ⟨rfl, E1, G1⟩
                    have tl := Tl (eSt B n k S) y1 false (nI k) E1 O1 (cFe_t G G1) (fun g => ⟨e1_st g, eSt_37 g⟩)
                    refine a_iload (i := 4) dX3_readValue_48 rfl ?_
                    refine a_bipush (v := 14) dX3_readValue_50 (by decide) ?_
                    refine a_icmp_eq (tg := 62) dX3_readValue_52 (by decide) (fun c_52 => ?_) (fun c_52 => ?_)
                    · exact absurd c_52 (nk 14 (by decide) q14)
                    · refine a_iload (i := 4) dX3_readValue_55 rfl ?_
                      refine a_bipush (v := 24) dX3_readValue_57 (by decide) ?_
                      refine a_icmp_ne (tg := 66) dX3_readValue_59 (by decide) (fun c_59 => ?_) (fun c_59 => ?_)
                      · refine a_iconst (v := 0) dX3_readValue_66 (by decide) ?_
                        refine a_istore_n (i := 2) dX3_readValue_67 rfl (by decide) ?_
                        refine a_goto (tg := 139) dX3_readValue_68 (by decide) ?_
                        exact a_loc _ rfl tl
                      · exact absurd c_59 (nk 24 (by decide) q24)
        | false =>
          rw [if_neg (by decide)]
          have Fin : ¬ (0 < kBd k ∧ ¬ k = 14) → ¬ (k = 25 ∧ 0 < S.2.2.2.2.2.1) → aV l mX3_readValue (d + 7) D none 120 [(0, .ref bRd), (1, .ref a)] [] y (fun v y => v = none ∧ cE n B t a (if 0 < S.2.2.2.2.2.1 then eFl B n 1 (eRl 1 S) else eRl 1 S) y ∧ cFe t a x y) := by
            intro _ _
            by_cases g : 0 < S.2.2.2.2.2.1
            · rw [if_pos g]
              refine a_aload_n (i := 0) dX3_readValue_120 rfl rfl ?_
              refine a_aload_n (i := 1) dX3_readValue_121 rfl rfl ?_
              refine a_iconst (v := 1) dX3_readValue_122 (by decide) ?_
              refine kgX3_230 rfl dX3_readValue_123 (Nat.le_of_ble_eq_true rfl) (isRd_0 hD) (c_X3_release (b := 1) hD hA (by decide) (by decide) E w72 s39 l64) ?_
              rintro v y1 ⟨rfl, E1, G1⟩
              have o6 : y1.1 bRd 6 = nI S.2.2.2.2.2.1 := E1.2.2.2.2.1
              have fl := cE_fl (c := 1) hA E1 f0 (by decide) (by decide)
              refine a_aload_n (i := 0) dX3_readValue_126 rfl rfl ?_
              refine gX3_213 rfl dX3_readValue_127 (isRd_0 hD) ?_
              rw [o6]
              refine a_if_le (tg := 138) dX3_readValue_130 (by decide) (fun c_130 => ?_) (fun c_130 => ?_)
              · exact absurd c_130 (nI_nle g (by omega))
              · refine a_aload_n (i := 0) dX3_readValue_133 rfl rfl ?_
                refine a_iconst (v := 1) dX3_readValue_134 (by decide) ?_
                refine kX3_77 rfl dX3_readValue_135 (Nat.le_of_ble_eq_true rfl) (isRd_0 hD) (c_X3_fail (c := 1) hD E1.1.2.2.2 f0) ?_
                exact a_vret dX3_readValue_138 (by exact ⟨rfl, fl.1, cFe_t G (cFe_t G1 fl.2)⟩)
            · rw [if_neg g]
              have g0 : S.2.2.2.2.2.1 = 0 := by omega
              refine a_aload_n (i := 0) dX3_readValue_120 rfl rfl ?_
              refine a_aload_n (i := 1) dX3_readValue_121 rfl rfl ?_
              refine a_iconst (v := 1) dX3_readValue_122 (by decide) ?_
              refine kgX3_230 rfl dX3_readValue_123 (Nat.le_of_ble_eq_true rfl) (isRd_0 hD) (c_X3_release (b := 1) hD hA (by decide) (by decide) E w72 s39 l64) ?_
              rintro v y1 ⟨rfl, E1, G1⟩
              have o6 : y1.1 bRd 6 = 0 := by have := E1.2.2.2.2.1; rw [show (eRl 1 S).2.2.2.2.2.1 = S.2.2.2.2.2.1 from rfl, g0] at this; exact this
              refine a_aload_n (i := 0) dX3_readValue_126 rfl rfl ?_
              refine gX3_213 rfl dX3_readValue_127 (isRd_0 hD) ?_
              rw [o6]
              refine a_if_le (tg := 138) dX3_readValue_130 (by decide) (fun c_130 => ?_) (fun c_130 => ?_)
              · exact a_vret dX3_readValue_138 (by exact ⟨rfl, E1, cFe_t G G1⟩)
              · exact absurd (Int32.le_refl _) c_130
          have B0 : ¬ 0 < kBd k → nI (kBd k) ≤ 0 := fun g => by rw [show kBd k = 0 by omega]; exact Int32.le_refl _
          have Cl : ¬ (0 < kBd k ∧ ¬ k = 14) → aV l mX3_readValue (d + 7) D none 98 [(0, .ref bRd), (1, .ref a), (2, .int (bI false)), (3, .int (nI c)), (4, .int (nI k))] [] y (fun v y => v = none ∧ cE n B t a (if k = 25 ∧ 0 < S.2.2.2.2.2.1 then eGo B n F (eNx B n (eDu false (eCl S))) else if 0 < S.2.2.2.2.2.1 then eFl B n 1 (eRl 1 S) else eRl 1 S) y ∧ cFe t a x y) := by
            intro g
            by_cases q25 : k = 25
            · have e25 : nI k = 25 := by rw [q25]; rfl
              by_cases go : 0 < S.2.2.2.2.2.1
              · rw [if_pos ⟨q25, go⟩]
                have wl : (eRl 1 S).2.2.1 ≤ S.2.2.1 := rel_le _ _ _ _
                have O1 := eOk_cl go O
                refine a_iload (i := 4) dX3_readValue_98 rfl ?_
                refine a_bipush (v := 25) dX3_readValue_100 (by decide) ?_
                refine a_icmp_ne (tg := 120) dX3_readValue_102 (by decide) (fun c_102 => ?_) (fun c_102 => ?_)
                · exact absurd e25 c_102
                · refine a_aload_n (i := 0) dX3_readValue_105 rfl rfl ?_
                  refine gX3_213 rfl dX3_readValue_106 (isRd_0 hD) ?_
                  rw [e7]
                  refine a_if_le (tg := 120) dX3_readValue_109 (by decide) (fun c_109 => ?_) (fun c_109 => ?_)
                  · exact absurd c_109 (nI_nle go (by omega))
                  · refine a_aload_n (i := 0) dX3_readValue_112 rfl rfl ?_
                    refine a_aload_n (i := 1) dX3_readValue_113 rfl rfl ?_
                    refine kgX3_227 rfl dX3_readValue_114 (Nat.le_of_ble_eq_true rfl) (isRd_0 hD) (c_X3_takeClose hD hA E w72 s39 l64 go (by omega)) ?_
                    rintro v y1 ⟨rfl, E1, G1⟩
                    have tl := Tl (eCl S) y1 false (nI k) E1 O1 (cFe_t G G1) (fun _ => ⟨rfl, by omega⟩)
                    refine a_goto (tg := 139) dX3_readValue_117 (by decide) ?_
                    exact a_loc _ rfl tl
              · rw [if_neg (fun e => go e.2)]
                have o6 : y.1 bRd 6 = 0 := by rw [e7, show S.2.2.2.2.2.1 = 0 by omega]; rfl
                have fin := Fin g (fun e => go e.2)
                refine a_iload (i := 4) dX3_readValue_98 rfl ?_
                refine a_bipush (v := 25) dX3_readValue_100 (by decide) ?_
                refine a_icmp_ne (tg := 120) dX3_readValue_102 (by decide) (fun c_102 => ?_) (fun c_102 => ?_)
                · exact absurd e25 c_102
                · refine a_aload_n (i := 0) dX3_readValue_105 rfl rfl ?_
                  refine gX3_213 rfl dX3_readValue_106 (isRd_0 hD) ?_
                  rw [o6]
                  refine a_if_le (tg := 120) dX3_readValue_109 (by decide) (fun c_109 => ?_) (fun c_109 => ?_)
                  · exact a_loc _ rfl fin
                  · exact absurd (Int32.le_refl _) c_109
            · rw [if_neg (fun e => q25 e.1)]
              have fin := Fin g (fun e => q25 e.1)
              refine a_iload (i := 4) dX3_readValue_98 rfl ?_
              refine a_bipush (v := 25) dX3_readValue_100 (by decide) ?_
              refine a_icmp_ne (tg := 120) dX3_readValue_102 (by decide) (fun c_102 => ?_) (fun c_102 => ?_)
              · exact a_loc _ rfl fin
              · exact absurd c_102 (nk 25 (by decide) q25)
          by_cases g : 0 < kBd k
          · by_cases q14 : k = 14
            · have e14 : nI k = 14 := by rw [q14]; rfl
              rw [if_neg (fun e => e.2 q14)]
              have cl := Cl (fun e => e.2 q14)
              refine a_iload_n (i := 3) dX3_readValue_14 rfl rfl ?_
              refine a_sipush (v := 700) dX3_readValue_15 (by decide) ?_
              refine a_icmp_gt (tg := 159) dX3_readValue_18 (by decide) (fun c_18 => ?_) (fun c_18 => ?_)
              · exact absurd c_18 nc
              · refine a_aload_n (i := 0) dX3_readValue_21 rfl rfl ?_
                refine gX3_43 rfl dX3_readValue_22 (isRd_0 hD) ?_
                rw [z]
                refine a_if_ne (tg := 159) dX3_readValue_25 (by decide) (fun c_25 => ?_) (fun c_25 => ?_)
                · exact absurd rfl c_25
                · refine a_aload_n (i := 0) dX3_readValue_28 rfl rfl ?_
                  refine gX3_12 rfl dX3_readValue_29 (isRd_0 hD) ?_
                  refine gX3_50 rfl dX3_readValue_32 (isTp_0 hD) ?_
                  rw [kd]
                  refine a_istore (i := 4) dX3_readValue_35 (by decide) ?_
                  refine a_iload_n (i := 2) dX3_readValue_37 rfl rfl ?_
                  refine a_if_eq (tg := 71) dX3_readValue_38 (by decide) (fun c_38 => ?_) (fun c_38 => ?_)
                  · refine a_iload (i := 4) dX3_readValue_71 rfl ?_
                    refine kX3_220 rfl dX3_readValue_73 (Nat.le_of_ble_eq_true rfl) (c_X3_binding) ?_
                    rw [kb]
                    refine a_if_le (tg := 98) dX3_readValue_76 (by decide) (fun c_76 => ?_) (fun c_76 => ?_)
                    · exact absurd c_76 (nI_nle g (by omega))
                    · refine a_iload (i := 4) dX3_readValue_79 rfl ?_
                      refine a_bipush (v := 14) dX3_readValue_81 (by decide) ?_
                      refine a_icmp_eq (tg := 98) dX3_readValue_83 (by decide) (fun c_83 => ?_) (fun c_83 => ?_)
                      · exact a_loc _ rfl cl
                      · exact absurd e14 c_83
                  · exact absurd rfl c_38
            · rw [if_pos ⟨g, q14⟩]
              have ts := c_X3_takeSign (l := l) (d := d) (k := k) hD hA E f0 (by omega) g w72 s39 l64 o3
              have O1 := eOk_sg (B := B) (k := k) (by omega) g O
              refine a_iload_n (i := 3) dX3_readValue_14 rfl rfl ?_
              refine a_sipush (v := 700) dX3_readValue_15 (by decide) ?_
              refine a_icmp_gt (tg := 159) dX3_readValue_18 (by decide) (fun c_18 => ?_) (fun c_18 => ?_)
              · exact absurd c_18 nc
              · refine a_aload_n (i := 0) dX3_readValue_21 rfl rfl ?_
                refine gX3_43 rfl dX3_readValue_22 (isRd_0 hD) ?_
                rw [z]
                refine a_if_ne (tg := 159) dX3_readValue_25 (by decide) (fun c_25 => ?_) (fun c_25 => ?_)
                · exact absurd rfl c_25
                · refine a_aload_n (i := 0) dX3_readValue_28 rfl rfl ?_
                  refine gX3_12 rfl dX3_readValue_29 (isRd_0 hD) ?_
                  refine gX3_50 rfl dX3_readValue_32 (isTp_0 hD) ?_
                  rw [kd]
                  refine a_istore (i := 4) dX3_readValue_35 (by decide) ?_
                  refine a_iload_n (i := 2) dX3_readValue_37 rfl rfl ?_
                  refine a_if_eq (tg := 71) dX3_readValue_38 (by decide) (fun c_38 => ?_) (fun c_38 => ?_)
                  · refine a_iload (i := 4) dX3_readValue_71 rfl ?_
                    refine kX3_220 rfl dX3_readValue_73 (Nat.le_of_ble_eq_true rfl) (c_X3_binding) ?_
                    rw [kb]
                    refine a_if_le (tg := 98) dX3_readValue_76 (by decide) (fun c_76 => ?_) (fun c_76 => ?_)
                    · exact absurd c_76 (nI_nle g (by omega))
                    · refine a_iload (i := 4) dX3_readValue_79 rfl ?_
                      refine a_bipush (v := 14) dX3_readValue_81 (by decide) ?_
                      refine a_icmp_eq (tg := 98) dX3_readValue_83 (by decide) (fun c_83 => ?_) (fun c_83 => ?_)
                      · exact absurd c_83 (nk 14 (by decide) q14)
                      · refine a_aload_n (i := 0) dX3_readValue_86 rfl rfl ?_
                        refine a_aload_n (i := 1) dX3_readValue_87 rfl rfl ?_
                        refine a_iload (i := 4) dX3_readValue_88 rfl ?_
                        refine kgX3_224 rfl dX3_readValue_90 (Nat.le_of_ble_eq_true rfl) (isRd_0 hD) (ts) ?_
                        rintro v y1 ⟨rfl, E1, G1⟩
                        have tl := Tl (eSg B n k S) y1 true (nI k) E1 O1 (cFe_t G G1) (fun u => ⟨e1_sg u, fun e => by rw [e] at g; exact absurd g (by decide)⟩)
                        refine a_iconst (v := 1) dX3_readValue_93 (by decide) ?_
                        refine a_istore_n (i := 2) dX3_readValue_94 rfl (by decide) ?_
                        refine a_goto (tg := 139) dX3_readValue_95 (by decide) ?_
                        exact a_loc _ rfl tl
                  · exact absurd rfl c_38
          · rw [if_neg (fun e => g e.1)]
            have cl := Cl (fun e => g e.1)
            have b0 := B0 g
            refine a_iload_n (i := 3) dX3_readValue_14 rfl rfl ?_
            refine a_sipush (v := 700) dX3_readValue_15 (by decide) ?_
            refine a_icmp_gt (tg := 159) dX3_readValue_18 (by decide) (fun c_18 => ?_) (fun c_18 => ?_)
            · exact absurd c_18 nc
            · refine a_aload_n (i := 0) dX3_readValue_21 rfl rfl ?_
              refine gX3_43 rfl dX3_readValue_22 (isRd_0 hD) ?_
              rw [z]
              refine a_if_ne (tg := 159) dX3_readValue_25 (by decide) (fun c_25 => ?_) (fun c_25 => ?_)
              · exact absurd rfl c_25
              · refine a_aload_n (i := 0) dX3_readValue_28 rfl rfl ?_
                refine gX3_12 rfl dX3_readValue_29 (isRd_0 hD) ?_
                refine gX3_50 rfl dX3_readValue_32 (isTp_0 hD) ?_
                rw [kd]
                refine a_istore (i := 4) dX3_readValue_35 (by decide) ?_
                refine a_iload_n (i := 2) dX3_readValue_37 rfl rfl ?_
                refine a_if_eq (tg := 71) dX3_readValue_38 (by decide) (fun c_38 => ?_) (fun c_38 => ?_)
                · refine a_iload (i := 4) dX3_readValue_71 rfl ?_
                  refine kX3_220 rfl dX3_readValue_73 (Nat.le_of_ble_eq_true rfl) (c_X3_binding) ?_
                  rw [kb]
                  refine a_if_le (tg := 98) dX3_readValue_76 (by decide) (fun c_76 => ?_) (fun c_76 => ?_)
                  · exact a_loc _ rfl cl
                  · exact absurd b0 c_76
                · exact absurd rfl c_38
      · rw [eGo_f f0]
        have z : ¬ y.1 bRd 7 = 0 := by rw [E.1.2.2.2.1]; exact nI_ne0 (by omega) (by have := E.1.2.2.2.2.1; omega)
        refine a_iload_n (i := 3) dX3_readValue_14 rfl rfl ?_
        refine a_sipush (v := 700) dX3_readValue_15 (by decide) ?_
        refine a_icmp_gt (tg := 159) dX3_readValue_18 (by decide) (fun c_18 => ?_) (fun c_18 => ?_)
        · exact a_vret dX3_readValue_159 (by exact ⟨rfl, E, G⟩)
        · refine a_aload_n (i := 0) dX3_readValue_21 rfl rfl ?_
          refine gX3_43 rfl dX3_readValue_22 (isRd_0 hD) ?_
          refine a_if_ne (tg := 159) dX3_readValue_25 (by decide) (fun c_25 => ?_) (fun c_25 => ?_)
          · exact a_vret dX3_readValue_159 (by exact ⟨rfl, E, G⟩)
          · exact absurd c_25 z
  refine a_met (by decide) (Nat.le_of_ble_eq_true rfl) (fun v y q => Or.inr (Or.inr (Or.inr ⟨rfl, q.1⟩))) ?_
  have E0 : cE n B t a (r, true, 0, (fun _ => 0), L, 0, kn) (aWr (aWr x bRd 5 0) bRd 6 0) := by
    obtain ⟨a1, -, -, -⟩ := hA
    have n1 := fun m (hm : t ≤ m) => (bRd_5 ht hm).1.symm
    exact ⟨cJ_f (cJ_f J (by omega)) (by omega), by rw [aWr_j _ _ _ (by decide), aWr_s]; rfl, fun j hj => absurd hj (Nat.not_lt_zero j), ⟨by rw [aWr_n _ _ _ (n1 a (by omega)), aWr_n _ _ _ (n1 a (by omega))]; exact hL.1, fun i hi => absurd hi (by show ¬ i < L.1; omega)⟩, aWr_s _ _ _ _, by rw [aWr_n _ _ _ (n1 t (Nat.le_refl t)), aWr_n _ _ _ (n1 t (Nat.le_refl t))]; exact hk⟩
  have i0 := (J.2.2.2.2.2.1 h0).1
  have p0 := P (n + 1) 0 (r, true, 0, (fun _ => 0), L, 0, kn) _ (by decide) (fun _ => ⟨Nat.zero_le _, by show n + 1 ≤ r.1 + (n + 1); omega⟩) (fun _ => ⟨i0, by show kn + L.1 + 0 = kn; omega, hk64, rfl, Nat.zero_le _, fun j hj => absurd hj (Nat.not_lt_zero j)⟩) E0 (cFe_t (cFe_w (by omega)) (cFe_w (by omega)))
  refine a_aload_n (i := 0) dX3_readValue_0 rfl rfl ?_
  refine a_iconst (v := 0) dX3_readValue_1 (by decide) ?_
  refine pX3_210 rfl dX3_readValue_2 (isRd_0 hD) ?_
  refine a_aload_n (i := 0) dX3_readValue_5 rfl rfl ?_
  refine a_iconst (v := 0) dX3_readValue_6 (by decide) ?_
  refine pX3_213 rfl dX3_readValue_7 (isRd_0 hD) ?_
  refine a_iconst (v := 1) dX3_readValue_10 (by decide) ?_
  refine a_istore_n (i := 2) dX3_readValue_11 rfl (by decide) ?_
  refine a_iconst (v := 0) dX3_readValue_12 (by decide) ?_
  refine a_istore_n (i := 3) dX3_readValue_13 rfl (by decide) ?_
  exact a_loc _ rfl p0
end qAR
