/-! READING: places only go on -/
def mon (n : Nat) (r r' : zP) : Prop := r'.2.1 = 0 → r.2.1 = 0 ∧ (r.1 ≤ n → r.1 ≤ r'.1 ∧ r'.1 ≤ n)
theorem mon_t {n : Nat} {a b c : zP} (h : mon n a b) (g : mon n b c) : mon n a c := fun e => ⟨(h (g e).1).1, fun k => by have u := (h (g e).1).2 k; have v := (g e).2 u.2; omega⟩
section qAS
variable {n f : Nat} {B : Nat → Nat} {r : zP} {T : zT}
theorem mon_fl {c : Nat} (hc : ¬ c = 0) : mon n r (pFl B n c r) := fun e => absurd e hc
theorem mon_go (h0 : r.2.1 = 0) : mon n r (pGo B n r) := fun _ => ⟨h0, fun k => by have t := tok_ok (B := B) k; exact ⟨Nat.le_trans t.1 t.2.2.1, t.2.2.2.1⟩⟩
theorem mon_num {lo hi : Nat} : mon n r (numP B n lo hi r).1 := by
  unfold numP
  by_cases h0 : r.2.1 = 0
  · rw [if_neg (fun e => e h0)]
    split
    · exact mon_fl (by decide)
    · split
      · exact mon_fl (by decide)
      · exact mon_go h0
  · rw [if_pos h0]; exact fun e => absurd e h0
theorem mon_nam {g : Nat → Int32} {N : Nat} : mon n r (namP B n g N r).1 := by
  unfold namP
  by_cases h0 : r.2.1 = 0
  · rw [if_neg (fun e => e h0)]
    split
    · exact mon_fl (by decide)
    · split
      · exact mon_fl (by decide)
      · exact mon_go h0
  · rw [if_pos h0]; exact fun e => absurd e h0
theorem mon_new {g : Nat → Int32} {N : Nat} : mon n r (newP B n g N r) := by
  unfold newP
  split
  · exact mon_fl (by decide)
  · split
    · exact mon_fl (by decide)
    · exact fun e => ⟨e, fun k => ⟨Nat.le_refl _, k⟩⟩
theorem mon_house (h0 : r.2.1 = 0) : mon n r (lnHouse B n T r).2 := by
  unfold lnHouse
  split
  · exact mon_fl (by decide)
  · split
    · exact mon_t (mon_go h0) mon_new
    · exact mon_t (mon_go h0) (mon_t (mon_go rfl) mon_num)
theorem mon_man (h0 : r.2.1 = 0) : mon n r (lnMan B n T r).2 := by
  unfold lnMan
  split
  · exact mon_fl (by decide)
  · split
    · exact mon_t (mon_go h0) mon_new
    · exact mon_t (mon_go h0) (mon_t (mon_go rfl) (mon_t mon_nam (mon_t mon_num (mon_t mon_num mon_num))))
theorem mon_deed {s : Nat} (h0 : r.2.1 = 0) : mon n r (lnDeed B n s T r).2 := by
  unfold lnDeed
  split
  · exact mon_fl (by decide)
  · exact mon_t (mon_go h0) (mon_t mon_nam (mon_t mon_num (mon_t mon_num mon_num)))
theorem mon_wed (h0 : r.2.1 = 0) : mon n r (lnWed B n T r).2 := by
  unfold lnWed
  split
  · exact mon_fl (by decide)
  · split
    · exact mon_t (mon_go h0) (mon_t mon_nam (mon_fl (by decide)))
    · exact mon_t (mon_go h0) (mon_t mon_nam (mon_t mon_nam mon_num))
theorem mon_strip (h0 : r.2.1 = 0) : mon n r (lnStrip B n T r).2 := by
  unfold lnStrip
  split
  · exact mon_fl (by decide)
  · exact mon_t (mon_go h0) mon_num
theorem mon_damp {g : Bool} (h0 : r.2.1 = 0) : mon n r (lnDamp B n g T r).2 := by
  unfold lnDamp
  split
  · exact mon_fl (by decide)
  · exact mon_t (mon_go h0) mon_num
theorem mon_seed {g : Bool} (h0 : r.2.1 = 0) : mon n r (lnSeed B n g T r).2 := by
  unfold lnSeed
  split
  · exact mon_fl (by decide)
  · exact mon_t (mon_go h0) mon_num
/-- the E's loop: places, and what holds -/
theorem eGo_ok : ∀ (F : Nat) (S : eS), eOk n f S → (S.1.2.1 = 0 → n + 1 ≤ S.1.1 + F) → eOk n f (eGo B n F S) ∧ mon n S.1 (eGo B n F S).1 := by
  intro F
  induction F with
  | zero => intro S O h; exact ⟨O, fun e => ⟨e, fun k => ⟨Nat.le_refl _, k⟩⟩⟩
  | succ F ih =>
    intro S O h
    by_cases f0 : S.1.2.1 = 0
    · obtain ⟨o1, o2⟩ := O f0
      have tk := tok_ok (B := B) o1
      have h1 := h f0
      have Tl : ∀ (S1 : eS) (b : Bool), eOk n f S1 → (S1.1.2.1 = 0 → S1.1 = S.1 ∧ ¬ (tok B n S.1.1).1 = 37) → eOk n f (eGo B n F (eNx B n (eDu b S1))) ∧ mon n S.1 (eGo B n F (eNx B n (eDu b S1))).1 := by
        intro S1 b O1 same
        by_cases g0 : S1.1.2.1 = 0
        · obtain ⟨sm, k37⟩ := same g0
          have en : eNx B n (eDu b S1) = (pGo B n S1.1, b, S1.2.2) := by unfold eNx; rw [if_pos (show (eDu b S1).1.2.1 = 0 from g0)]; rfl
          rw [en]
          have jn := tk.2.2.2.2.1 k37
          have ps : (pGo B n S1.1).1 = (tok B n S.1.1).2.2.2.2 := by rw [sm]; rfl
          obtain ⟨i1, i2⟩ := ih (pGo B n S1.1, b, S1.2.2) (fun _ => by obtain ⟨q1, q2⟩ := O1 g0; exact ⟨by show (pGo B n S1.1).1 ≤ n; rw [ps]; exact tk.2.2.2.1, q2⟩) (fun _ => by show n + 1 ≤ (pGo B n S1.1).1 + F; rw [ps]; omega)
          refine ⟨i1, mon_t (b := pGo B n S1.1) ?_ i2⟩
          rw [sm]; exact mon_go f0
        · have en : eNx B n (eDu b S1) = (S1.1, b, S1.2.2) := by unfold eNx; rw [if_neg (show ¬ (eDu b S1).1.2.1 = 0 from g0)]; rfl
          rw [en, eGo_f (S := (S1.1, b, S1.2.2)) g0]
          exact ⟨fun e => absurd e g0, fun e => absurd e g0⟩
      have er : eGo B n (F + 1) S = if ¬ S.1.2.1 = 0 then S
    else if S.2.1 = true then eGo B n F (eNx B n (eDu (decide ((tok B n S.1.1).1 = 14 ∨ (tok B n S.1.1).1 = 24)) (eSt B n (tok B n S.1.1).1 S)))
    else if 0 < kBd (tok B n S.1.1).1 ∧ ¬ (tok B n S.1.1).1 = 14 then eGo B n F (eNx B n (eDu true (eSg B n (tok B n S.1.1).1 S)))
    else if (tok B n S.1.1).1 = 25 ∧ 0 < S.2.2.2.2.2.1 then eGo B n F (eNx B n (eDu false (eCl S)))
    else if 0 < S.2.2.2.2.2.1 then eFl B n 1 (eRl 1 S) else eRl 1 S := rfl
      rw [er, if_neg (fun e => e f0)]
      have k38 := tk.2.2.2.2.2.1
      split
      · exact Tl _ _ (eOk_st (by omega) O) (fun g => ⟨e1_st g, eSt_37 g⟩)
      · split
        · rename_i g
          exact Tl _ _ (eOk_sg (by omega) g.1 O) (fun u => ⟨e1_sg u, fun e => by have := g.1; rw [e] at this; exact absurd this (by decide)⟩)
        · split
          · rename_i g
            exact Tl _ _ (eOk_cl g.2 O) (fun u => ⟨rfl, by omega⟩)
          · split
            · exact ⟨eOk_fl (by decide), mon_fl (by decide)⟩
            · exact ⟨eOk_rl (Nat.le_refl 1) O, fun e => ⟨e, fun k => ⟨Nat.le_refl _, k⟩⟩⟩
    · rw [eGo_f f0]
      exact ⟨O, fun e => ⟨e, fun k => ⟨Nat.le_refl _, k⟩⟩⟩
end qAS
