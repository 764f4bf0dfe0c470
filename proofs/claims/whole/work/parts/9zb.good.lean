/-! READING: a good text is well made -/
section qBI
variable {x y : aS} {n : Nat} {B : Nat → Nat} {P : pS} {T : zT} {r : zP}
def tG (T : zT) : Prop := zTok T ∧ tB T
theorem numP_ok {lo hi : Nat} (h : (numP B n lo hi r).1.2.1 = 0) : r.2.1 = 0 ∧ lo ≤ (numP B n lo hi r).2 ∧ (numP B n lo hi r).2 ≤ hi := by
  unfold numP at h ⊢
  by_cases h0 : r.2.1 = 0
  · rw [if_neg (fun e => e h0)] at h ⊢
    by_cases q : (tok B n r.1).1 = 23
    · rw [if_neg (fun e => e q)] at h ⊢
      by_cases w : (tok B n r.1).2.1 < lo ∨ hi < (tok B n r.1).2.1
      · rw [if_pos w] at h; exact absurd h (by show ¬ 2 = 0; decide)
      · rw [if_neg w]
        exact ⟨h0, by show lo ≤ (tok B n r.1).2.1; omega, by show (tok B n r.1).2.1 ≤ hi; omega⟩
    · rw [if_pos q] at h; exact absurd h (by show ¬ 1 = 0; decide)
  · rw [if_pos h0] at h; exact absurd h h0
theorem nI_b {v : Nat} (h : v ≤ 99) : 0 ≤ (nI v).toInt ∧ (nI v).toInt ≤ 99 := by rw [nI_toInt (by omega)]; omega
theorem nI_b2 {v : Nat} (h : v ≤ 20) : 0 ≤ (nI v).toInt ∧ (nI v).toInt ≤ 20 := by rw [nI_toInt (by omega)]; omega
theorem nI_b3 {v : Nat} (h1 : 1 ≤ v) (h : v ≤ 20) : 1 ≤ (nI v).toInt ∧ (nI v).toInt ≤ 20 := by rw [nI_toInt (by omega)]; omega
theorem tG_house (h : tG T) (g : (lnHouse B n T r).2.2.1 = 0) : tG (lnHouse B n T r).1 := by
  unfold lnHouse at g ⊢
  split at g
  · exact absurd g (by show ¬ 2 = 0; decide)
  · rename_i q
    rw [if_neg q]
    split at g
    · rename_i q1; exact absurd g q1
    · rename_i q1
      rw [if_neg q1]
      obtain ⟨⟨z0, z1, z2, z3, z4, z5, z6, z7, z8, z9⟩, b1, b2, b3⟩ := h
      obtain ⟨-, v1, v2⟩ := numP_ok g
      refine ⟨⟨by show T.1 0 + 1 ≤ 6; omega, z1, z2, z3, z4, z5, z6, fun m hm => ⟨Nat.lt_succ_of_lt (z7 m hm).1, (z7 m hm).2⟩, fun i hi => ⟨Nat.lt_succ_of_lt (z8 i hi).1, (z8 i hi).2⟩, z9⟩, fun k hk => ?_, b2, b3⟩
      have hk : k < T.1 0 + 1 := hk
      by_cases e : k = T.1 0
      · subst e; simp only [tu1, tui, and_self, if_true]; exact nI_b v2
      · simp only [tu1, tui, e, and_false, if_false]; exact b1 k (by omega)
theorem tG_man (h : tG T) (g : (lnMan B n T r).2.2.1 = 0) : tG (lnMan B n T r).1 := by
  unfold lnMan at g ⊢
  split at g
  · exact absurd g (by show ¬ 2 = 0; decide)
  · rename_i q
    rw [if_neg q]
    split at g
    · rename_i q1; exact absurd g q1
    · rename_i q1
      rw [if_neg q1]
      obtain ⟨⟨z0, z1, z2, z3, z4, z5, z6, z7, z8, z9⟩, b1, b2, b3⟩ := h
      have g : (mn4 B n T r).1.2.1 = 0 := g
      obtain ⟨g3, v41, v42⟩ := numP_ok g
      obtain ⟨g2, v31, v32⟩ := numP_ok g3
      obtain ⟨g1, v21, v22⟩ := numP_ok g2
      obtain ⟨-, -, k1, hk1, -, -, v1, -⟩ := namP_ok (by omega) g1
      have v1 : (mn1 B n T r).2 = k1 := v1
      have v22 : (mn2 B n T r).2 ≤ 99 := v22
      have v32 : (mn3 B n T r).2 ≤ 7 := v32
      have v42 : (mn4 B n T r).2 ≤ 20 := v42
      refine ⟨⟨z0, by show T.1 1 + 1 ≤ 8; omega, z2, z3, z4, z5, z6, fun m hm => ?_, z8, fun i hi => ⟨Nat.lt_succ_of_lt (z9 i hi).1, Nat.lt_succ_of_lt (z9 i hi).2⟩⟩, b1, fun m hm => ?_, b3⟩
      · have hm : m < T.1 1 + 1 := hm
        by_cases e : m = T.1 1
        · subst e; simp [tu1, tui, tun]; omega
        · have := z7 m (by omega); simp only [tu1, tui, tun, e, and_false, if_false]; exact this
      · have hm : m < T.1 1 + 1 := hm
        by_cases e : m = T.1 1
        · subst e; simp [tu1, tui, tun]; exact ⟨nI_b v22, nI_b2 v42⟩
        · have := b2 m (by omega); simp only [tu1, tui, tun, e, and_false, if_false]; exact this
theorem tG_deed {s : Nat} (hs : s ≤ 1) (h : tG T) (g : (lnDeed B n s T r).2.2.1 = 0) : tG (lnDeed B n s T r).1 := by
  unfold lnDeed at g ⊢
  split at g
  · exact absurd g (by show ¬ 2 = 0; decide)
  · rename_i q
    rw [if_neg q]
    obtain ⟨⟨z0, z1, z2, z3, z4, z5, z6, z7, z8, z9⟩, b1, b2, b3⟩ := h
    have g : (de4 B n T r).1.2.1 = 0 := g
    obtain ⟨g3, v41, v42⟩ := numP_ok g
    obtain ⟨g2, v31, v32⟩ := numP_ok g3
    obtain ⟨g1, v21, v22⟩ := numP_ok g2
    obtain ⟨-, -, k1, hk1, -, -, v1, -⟩ := namP_ok (by omega) g1
    have v1 : (de1 B n T r).2 = k1 := v1
    have v22 : (de2 B n T r).2 ≤ 7 := v22
    have v31 : 1 ≤ (de3 B n T r).2 := v31
    have v32 : (de3 B n T r).2 ≤ 20 := v32
    refine ⟨⟨z0, z1, by show T.1 2 + 1 ≤ 14; omega, z3, z4, z5, z6, z7, fun m hm => ?_, z9⟩, b1, b2, fun m hm => ?_⟩
    · have hm : m < T.1 2 + 1 := hm
      by_cases e : m = T.1 2
      · subst e; simp [tu1, tui, tun]; omega
      · have := z8 m (by omega); simp only [tu1, tui, tun, e, and_false, if_false]; exact this
    · have hm : m < T.1 2 + 1 := hm
      by_cases e : m = T.1 2
      · subst e; simp [tu1, tui, tun]; exact nI_b3 v31 v32
      · have := b3 m (by omega); simp only [tu1, tui, tun, e, and_false, if_false]; exact this
theorem tG_wed (h : tG T) (g : (lnWed B n T r).2.2.1 = 0) : tG (lnWed B n T r).1 := by
  unfold lnWed at g ⊢
  split at g
  · exact absurd g (by show ¬ 2 = 0; decide)
  · rename_i q
    rw [if_neg q]
    split at g
    · exact absurd g (by show ¬ 5 = 0; decide)
    · rename_i q1
      rw [if_neg q1]
      obtain ⟨⟨z0, z1, z2, z3, z4, z5, z6, z7, z8, z9⟩, b1, b2, b3⟩ := h
      have g : (we3 B n T r).1.2.1 = 0 := g
      obtain ⟨g2, v31, v32⟩ := numP_ok g
      obtain ⟨g1, -, k2, hk2, -, -, v2, -⟩ := namP_ok (by omega) g2
      obtain ⟨-, -, k1, hk1, -, -, v1, -⟩ := namP_ok (by omega) g1
      have v1 : (we1 B n T r).2 = k1 := v1
      have v2 : (we2 B n T r).2 = k2 := v2
      refine ⟨⟨z0, z1, z2, by show T.1 3 + 1 ≤ 6; omega, z4, z5, z6, z7, z8, fun m hm => ?_⟩, b1, b2, b3⟩
      have hm : m < T.1 3 + 1 := hm
      by_cases e : m = T.1 3
      · subst e; simp [tu1, tui, tun]; omega
      · have := z9 m (by omega); simp only [tu1, tui, tun, e, and_false, if_false]; exact this
theorem tG_strip (h : tG T) (g : (lnStrip B n T r).2.2.1 = 0) : tG (lnStrip B n T r).1 := by
  unfold lnStrip at g ⊢
  split at g
  · exact absurd g (by show ¬ 2 = 0; decide)
  · rename_i q
    rw [if_neg q]
    obtain ⟨⟨z0, z1, z2, z3, z4, z5, z6, z7, z8, z9⟩, b1, b2, b3⟩ := h
    exact ⟨⟨z0, z1, z2, z3, by show T.1 4 + 1 ≤ 4; omega, z5, z6, z7, z8, z9⟩, b1, b2, b3⟩
theorem tG_damp {b : Bool} (h : tG T) (g : (lnDamp B n b T r).2.2.1 = 0) : tG (lnDamp B n b T r).1 := by
  unfold lnDamp at g ⊢
  split at g
  · exact absurd g (by show ¬ 3 = 0; decide)
  · rename_i q
    rw [if_neg q]
    obtain ⟨⟨z0, z1, z2, z3, z4, z5, z6, z7, z8, z9⟩, b1, b2, b3⟩ := h
    exact ⟨⟨z0, z1, z2, z3, z4, (numP_ok g).2.2, z6, z7, z8, z9⟩, b1, b2, b3⟩
theorem tG_seed {b : Bool} (h : tG T) (g : (lnSeed B n b T r).2.2.1 = 0) : tG (lnSeed B n b T r).1 := by
  unfold lnSeed at g ⊢
  split at g
  · exact absurd g (by show ¬ 3 = 0; decide)
  · rename_i q
    rw [if_neg q]
    obtain ⟨⟨z0, z1, z2, z3, z4, z5, z6, z7, z8, z9⟩, b1, b2, b3⟩ := h
    exact ⟨⟨z0, z1, z2, z3, z4, z5, (numP_ok g).2.2, z7, z8, z9⟩, b1, b2, b3⟩
theorem tG_l (h : tG P.1) (g : (rdL B n P).2.2.2.2.1 = 0) : tG (rdL B n P).1 := by
  unfold rdL at g ⊢
  split at g
  · rename_i e; rw [if_pos e]; exact tG_house h g
  rename_i e0; rw [if_neg e0]
  split at g
  · rename_i e; rw [if_pos e]; exact tG_man h g
  rename_i e1; rw [if_neg e1]
  split at g
  · rename_i e; rw [if_pos e]; exact tG_deed (by decide) h g
  rename_i e2; rw [if_neg e2]
  split at g
  · rename_i e; rw [if_pos e]; exact tG_deed (by decide) h g
  rename_i e3; rw [if_neg e3]
  split at g
  · rename_i e; rw [if_pos e]; exact tG_wed h g
  rename_i e4; rw [if_neg e4]
  split at g
  · rename_i e; rw [if_pos e]; exact tG_strip h g
  rename_i e5; rw [if_neg e5]
  split at g
  · rename_i e; rw [if_pos e]; exact tG_damp h g
  rename_i e6; rw [if_neg e6]
  split at g
  · rename_i e; rw [if_pos e]; exact tG_seed h g
  rename_i e7; rw [if_neg e7]
  split at g
  · rename_i e
    rw [if_pos e]
    unfold lnLaw
    split
    · exact h
    · split
      · exact h
      · exact h
  · rename_i e8; rw [if_neg e8]; exact h
theorem tG_n (h : tG P.1) (g : (rdN B n P).2.2.2.2.1 = 0) : tG (rdN B n P).1 ∧ (rdN B n P).1.1 8 = (rdL B n P).1.1 8 + 1 := by
  have g2 : (lnEnd B n (rdL B n P).1 (rdL B n P).2.2.2).2.2.1 = 0 := g
  have f0 := (mon_end (n := n) g2).1
  have h1 := tG_l h f0
  show tG (lnEnd B n (rdL B n P).1 (rdL B n P).2.2.2).1 ∧ (lnEnd B n (rdL B n P).1 (rdL B n P).2.2.2).1.1 8 = _
  unfold lnEnd at g2 ⊢
  rw [if_neg (fun e => e f0)] at g2 ⊢
  by_cases k : (tok B n (rdL B n P).2.2.2.1).1 = 26
  · rw [if_neg (fun e => e k)]; exact ⟨h1, rfl⟩
  · rw [if_pos k] at g2; exact absurd g2 (by show ¬ 1 = 0; decide)
theorem tG_0 : tG pS0.1 := ⟨⟨Nat.zero_le _, Nat.zero_le _, Nat.zero_le _, Nat.zero_le _, Nat.zero_le _, Nat.zero_le _, Nat.zero_le _, fun m hm => absurd hm (Nat.not_lt_zero m), fun m hm => absurd hm (Nat.not_lt_zero m), fun m hm => absurd hm (Nat.not_lt_zero m)⟩, fun m hm => absurd hm (Nat.not_lt_zero m), fun m hm => absurd hm (Nat.not_lt_zero m), fun m hm => absurd hm (Nat.not_lt_zero m)⟩
theorem h8_l : (rdL B n P).1.1 8 = P.1.1 8 := by
  unfold rdL
  split
  · unfold lnHouse; split; rfl; split <;> rfl
  split
  · unfold lnMan; split; rfl; split <;> rfl
  split
  · unfold lnDeed; split <;> rfl
  split
  · unfold lnDeed; split <;> rfl
  split
  · unfold lnWed; split; rfl; split <;> rfl
  split
  · unfold lnStrip; split <;> rfl
  split
  · unfold lnDamp; split <;> rfl
  split
  · unfold lnSeed; split <;> rfl
  split
  · unfold lnLaw; split; rfl; split <;> rfl
  rfl
theorem tG_go : ∀ F P, (P.2.2.2.2.1 = 0 → tG P.1) → (rdGo B n F P).2.2.2.2.1 = 0 → tG (rdGo B n F P).1 := by
  intro F
  induction F with
  | zero => intro P h g; exact h g
  | succ F ih =>
    intro P h g
    rw [rdGo] at g ⊢
    split at g
    · rename_i e; rw [if_pos e]; exact h g
    · rename_i e
      rw [if_neg e]
      exact ih _ (fun q => (tG_n (h (Classical.not_not.mp (fun k => e (Or.inr k)))) q).1) g
end qBI
