/-! what comes: ahead, firstCorn, tried, chance -/
section qE
variable {l : Launch} {d : Nat} {D : Nat → Bool} {T : zT} {W : Nat → zL} {Z : zS} {t : Nat} {x : aS}
theorem mFl0_n {n : Nat} (h : n ≠ bM) : (mFl0 x).1 n = x.1 n := by unfold mFl0; rw [aWr_n _ _ _ h, aWr_n _ _ _ h, aWr_n _ _ _ h, aWr_n _ _ _ h, aWr_n _ _ _ h]
theorem mFl0_j {j : Nat} (h : j < 70 ∨ 75 ≤ j) : (mFl0 x).1 bM j = x.1 bM j := by unfold mFl0; rw [aWr_j _ _ _ (by omega), aWr_j _ _ _ (by omega), aWr_j _ _ _ (by omega), aWr_j _ _ _ (by omega), aWr_j _ _ _ (by omega)]
theorem mFl0_f {way : Nat} (h : way = 5 ∨ way = 2) : rFl way (mFl0 x) := by
  unfold rFl mFl0
  refine ⟨?_, ?_, ?_, ?_, ?_⟩
  · rw [aWr_j _ _ _ (by decide), aWr_j _ _ _ (by decide), aWr_j _ _ _ (by decide), aWr_j _ _ _ (by decide), aWr_s, bI_f (by omega)]
  · rw [aWr_j _ _ _ (by decide), aWr_j _ _ _ (by decide), aWr_j _ _ _ (by decide), aWr_s, bI_f (by omega)]
  · rw [aWr_j _ _ _ (by decide), aWr_j _ _ _ (by decide), aWr_s, bI_f (by omega)]
  · rw [aWr_j _ _ _ (by decide), aWr_s, bI_f (by omega)]
  · rw [aWr_s, bI_f (by omega)]
/-- what calls need of the model that only ask -/
def mQ (T : zT) (W : Nat → zL) (Z : zS) (x : aS) : Prop := mR T W Z x ∧ zB T Z ∧ rNum Z x ∧ rFl 5 x
theorem rM_tried {w : aS} (ok : zTok T) (hZ : zOk T Z) (h : rM T Z x 0) (hc : mCp (mf5 1 1) x w) : rM T Z w 1 := by
  obtain ⟨_, c⟩ := hc
  obtain ⟨q1, q2, q3, q4⟩ := h
  have h6 := ok.1
  have h8 := ok.2.1
  have r8 : ∀ n, mLen n = 8 → mf5 1 1 n = 8 → ∀ m, m < 8 → w.1 n (8 * 1 + m) = mNb n (x.1 n (8 * 0 + m)) := fun n e1 e2 m hm => by rw [c, e1, e2, if_pos (by omega), show 8 * 1 + m - 8 = 8 * 0 + m by omega]
  refine ⟨?_, ?_, fun g hg => ⟨fun z hz => ?_, ?_, fun k hk => ?_⟩, fun m hm => ?_⟩
  · rw [c, show mLen (bM + 69) = 1 from rfl, show mf5 1 1 (bM + 69) = 1 from rfl, if_pos (by omega)]; exact q1
  · rw [c, show mLen (bM + 68) = 1 from rfl, show mf5 1 1 (bM + 68) = 1 from rfl, if_pos (by omega)]; exact q2
  · rw [c, show mLen (bM + 60) = 48 from rfl, show mf5 1 1 (bM + 60) = 48 from rfl, if_pos (by omega), show 8 * (6 * 1 + g) + z - 48 = 8 * (6 * 0 + g) + z by omega]; exact (q3 g hg).1 z hz
  · rw [c, show mLen (bM + 63) = 6 from rfl, show mf5 1 1 (bM + 63) = 6 from rfl, if_pos (by omega), show 6 * 1 + g - 6 = 6 * 0 + g by omega]; exact (q3 g hg).2.1
  · have := (hZ.2.1 g hg).1
    rw [c, show mLen (bM + 61) = 72 from rfl, show mf5 1 1 (bM + 61) = 72 from rfl, if_pos (by omega), c, show mLen (bM + 62) = 72 from rfl, show mf5 1 1 (bM + 62) = 72 from rfl, if_pos (by omega), show 12 * (6 * 1 + g) + k - 72 = 12 * (6 * 0 + g) + k by omega]; exact (q3 g hg).2.2 k hk
  · obtain ⟨a1, a2, a3, a4⟩ := q4 m hm
    rw [r8 _ rfl rfl m (by omega), r8 _ rfl rfl m (by omega), r8 _ rfl rfl m (by omega), r8 _ rfl rfl m (by omega)]
    refine ⟨a1, a2, a3, ?_⟩
    rw [a4]
    cases (Z.2 0 0).testBit m <;> rfl
theorem mCp_F {w : aS} (hf : rFl 5 x) (hc : mCp (mf5 1 1) x w) : mF x (mFl0 w) := by
  obtain ⟨c2, c⟩ := hc
  have hw : ∀ n j, ¬ mScr n j → w.1 n j = x.1 n j := by
    intro n j h
    rw [c, if_neg]
    rintro ⟨g1, g2⟩
    refine h ?_
    unfold mScr mIn
    by_cases e60 : n = bM + 60
    · subst e60; rw [show mLen (bM + 60) = 48 from rfl] at g1 g2; rw [show mf5 1 1 (bM + 60) = 48 from rfl] at g2; omega
    by_cases e61 : n = bM + 61
    · subst e61; rw [show mLen (bM + 61) = 72 from rfl] at g1 g2; rw [show mf5 1 1 (bM + 61) = 72 from rfl] at g2; omega
    by_cases e62 : n = bM + 62
    · subst e62; rw [show mLen (bM + 62) = 72 from rfl] at g1 g2; rw [show mf5 1 1 (bM + 62) = 72 from rfl] at g2; omega
    by_cases e63 : n = bM + 63
    · subst e63; rw [show mLen (bM + 63) = 6 from rfl] at g1 g2; rw [show mf5 1 1 (bM + 63) = 6 from rfl] at g2; omega
    by_cases e64 : n = bM + 64
    · subst e64; rw [show mLen (bM + 64) = 8 from rfl] at g1 g2; rw [show mf5 1 1 (bM + 64) = 8 from rfl] at g2; omega
    by_cases e65 : n = bM + 65
    · subst e65; rw [show mLen (bM + 65) = 8 from rfl] at g1 g2; rw [show mf5 1 1 (bM + 65) = 8 from rfl] at g2; omega
    by_cases e66 : n = bM + 66
    · subst e66; rw [show mLen (bM + 66) = 8 from rfl] at g1 g2; rw [show mf5 1 1 (bM + 66) = 8 from rfl] at g2; omega
    by_cases e67 : n = bM + 67
    · subst e67; rw [show mLen (bM + 67) = 8 from rfl] at g1 g2; rw [show mf5 1 1 (bM + 67) = 8 from rfl] at g2; omega
    by_cases e68 : n = bM + 68
    · subst e68; rw [show mLen (bM + 68) = 1 from rfl] at g1 g2; rw [show mf5 1 1 (bM + 68) = 1 from rfl] at g2; omega
    by_cases e69 : n = bM + 69
    · subst e69; rw [show mLen (bM + 69) = 1 from rfl] at g1 g2; rw [show mf5 1 1 (bM + 69) = 1 from rfl] at g2; omega
    rw [show mf5 1 1 n = 0 from by simp only [mf5, if_neg e60, if_neg e61, if_neg e62, if_neg e63, if_neg e64, if_neg e65, if_neg e66, if_neg e67, if_neg e68, if_neg e69]] at g2
    omega
  refine ⟨fun n j h => ?_, fun n _ _ => by show w.2 n = _; rw [c2]⟩
  by_cases e : n = bM
  · subst e
    by_cases q : j < 70 ∨ 75 ≤ j
    · rw [mFl0_j q]; exact hw _ _ h
    · have f := mFl0_f (x := w) (way := 5) (Or.inl rfl)
      obtain ⟨a0, a1, a2, a3, a4⟩ := f
      obtain ⟨b0, b1, b2, b3, b4⟩ := hf
      have : j = 70 ∨ j = 71 ∨ j = 72 ∨ j = 73 ∨ j = 74 := by omega
      rcases this with rfl | rfl | rfl | rfl | rfl
      · rw [a0, b0]
      · rw [a1, b1]
      · rw [a2, b2]
      · rw [a3, b3]
      · rw [a4, b4]
  · rw [mFl0_n e]; exact hw _ _ h
theorem mz_tr {w : aS} (h : mQ T W Z x) (hw : mCp (mf5 1 1) x w) : mY T W 5 1 Z (mFl0 w) ∧ mF x (mFl0 w) ∧ (mFl0 w).2 = x.2 := by
  obtain ⟨⟨ok, hZ, hT, hW, hS⟩, hB, hN, hf⟩ := h
  have hF := mCp_F hf hw
  have hM1 : rM T Z (mFl0 w) 1 := by
    have := rM_tried ok hZ hS hw
    exact rM_same ok hZ (fun n j hj => by rw [mFl0_n (by unfold mIn at hj; omega)]) this
  exact ⟨⟨ok, rTM_F hF hT, (mR_F hF ⟨ok, hZ, hT, hW, hS⟩).2.2.2.1, mFl0_f (Or.inl rfl), hZ, hM1, hB.2, aFi_r, fun w => absurd w (by decide), fun _ => rfl⟩, hF, hw.1⟩
end qE
