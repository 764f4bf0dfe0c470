/-! which cells are there -/
def aDC (D : Nat → Bool) : Prop := ∀ o, o < 12 → D o = true
def aStB (b : Nat) : Prop := b = 1280 ∨ b = 1536 ∨ b = 1792
def aTdB (t : Nat) : Prop := t = 768 ∨ t = 1024
theorem hbNow : aStB bNow := Or.inl rfl
theorem hbIm : aStB bIm := Or.inr (Or.inl rfl)
theorem hbTr : aStB bTr := Or.inr (Or.inr rfl)
theorem isS_0 {D : Nat → Bool} {b : Nat} (hD : aDC D) (hb : aStB b) : aIs D (b) 6 0 := by rcases hb with rfl | rfl | rfl <;> exact ⟨by decide +kernel, hD _ (by decide)⟩
theorem isS_5 {D : Nat → Bool} {b : Nat} (hD : aDC D) (hb : aStB b) : aIs D (b + 5) 14 48 := by rcases hb with rfl | rfl | rfl <;> exact ⟨by decide +kernel, hD _ (by decide)⟩
theorem isS_6 {D : Nat → Bool} {b : Nat} (hD : aDC D) (hb : aStB b) : aIs D (b + 6) 14 48 := by rcases hb with rfl | rfl | rfl <;> exact ⟨by decide +kernel, hD _ (by decide)⟩
theorem isS_7 {D : Nat → Bool} {b : Nat} (hD : aDC D) (hb : aStB b) : aIs D (b + 7) 14 6 := by rcases hb with rfl | rfl | rfl <;> exact ⟨by decide +kernel, hD _ (by decide)⟩
theorem isS_8 {D : Nat → Bool} {b : Nat} (hD : aDC D) (hb : aStB b) : aIs D (b + 8) 14 72 := by rcases hb with rfl | rfl | rfl <;> exact ⟨by decide +kernel, hD _ (by decide)⟩
theorem isS_9 {D : Nat → Bool} {b : Nat} (hD : aDC D) (hb : aStB b) : aIs D (b + 9) 14 72 := by rcases hb with rfl | rfl | rfl <;> exact ⟨by decide +kernel, hD _ (by decide)⟩
theorem isS_10 {D : Nat → Bool} {b : Nat} (hD : aDC D) (hb : aStB b) : aIs D (b + 10) 14 8 := by rcases hb with rfl | rfl | rfl <;> exact ⟨by decide +kernel, hD _ (by decide)⟩
theorem isS_11 {D : Nat → Bool} {b : Nat} (hD : aDC D) (hb : aStB b) : aIs D (b + 11) 14 8 := by rcases hb with rfl | rfl | rfl <;> exact ⟨by decide +kernel, hD _ (by decide)⟩
theorem isS_12 {D : Nat → Bool} {b : Nat} (hD : aDC D) (hb : aStB b) : aIs D (b + 12) 14 8 := by rcases hb with rfl | rfl | rfl <;> exact ⟨by decide +kernel, hD _ (by decide)⟩
theorem isT_0 {D : Nat → Bool} {t : Nat} (hD : aDC D) (ht : aTdB t) : aIs D (t) 8 0 := by rcases ht with rfl | rfl <;> exact ⟨by decide +kernel, hD _ (by decide)⟩
theorem isT_3 {D : Nat → Bool} {t : Nat} (hD : aDC D) (ht : aTdB t) : aIs D (t + 3) 14 6 := by rcases ht with rfl | rfl <;> exact ⟨by decide +kernel, hD _ (by decide)⟩
theorem isT_4 {D : Nat → Bool} {t : Nat} (hD : aDC D) (ht : aTdB t) : aIs D (t + 4) 14 6 := by rcases ht with rfl | rfl <;> exact ⟨by decide +kernel, hD _ (by decide)⟩
theorem isT_6 {D : Nat → Bool} {t : Nat} (hD : aDC D) (ht : aTdB t) : aIs D (t + 6) 14 8 := by rcases ht with rfl | rfl <;> exact ⟨by decide +kernel, hD _ (by decide)⟩
theorem isT_7 {D : Nat → Bool} {t : Nat} (hD : aDC D) (ht : aTdB t) : aIs D (t + 7) 14 8 := by rcases ht with rfl | rfl <;> exact ⟨by decide +kernel, hD _ (by decide)⟩
theorem isT_8 {D : Nat → Bool} {t : Nat} (hD : aDC D) (ht : aTdB t) : aIs D (t + 8) 14 8 := by rcases ht with rfl | rfl <;> exact ⟨by decide +kernel, hD _ (by decide)⟩
theorem isT_9 {D : Nat → Bool} {t : Nat} (hD : aDC D) (ht : aTdB t) : aIs D (t + 9) 14 8 := by rcases ht with rfl | rfl <;> exact ⟨by decide +kernel, hD _ (by decide)⟩
theorem isT_10 {D : Nat → Bool} {t : Nat} (hD : aDC D) (ht : aTdB t) : aIs D (t + 10) 14 8 := by rcases ht with rfl | rfl <;> exact ⟨by decide +kernel, hD _ (by decide)⟩
theorem isT_12 {D : Nat → Bool} {t : Nat} (hD : aDC D) (ht : aTdB t) : aIs D (t + 12) 17 14 := by rcases ht with rfl | rfl <;> exact ⟨by decide +kernel, hD _ (by decide)⟩
theorem isT_14 {D : Nat → Bool} {t : Nat} (hD : aDC D) (ht : aTdB t) : aIs D (t + 14) 18 6 := by rcases ht with rfl | rfl <;> exact ⟨by decide +kernel, hD _ (by decide)⟩
theorem isT_16 {D : Nat → Bool} {t : Nat} (hD : aDC D) (ht : aTdB t) : aIs D (t + 16) 14 4 := by rcases ht with rfl | rfl <;> exact ⟨by decide +kernel, hD _ (by decide)⟩
theorem isLH_0 {D : Nat → Bool} (hD : aDC D) : aIs D (bLH) 11 0 := ⟨by decide +kernel, hD _ (by decide)⟩
theorem isRd_0 {D : Nat → Bool} (hD : aDC D) : aIs D (bRd) 3 0 := ⟨by decide +kernel, hD _ (by decide)⟩
theorem isRd_5 {D : Nat → Bool} (hD : aDC D) : aIs D (bRd + 5) 14 72 := ⟨by decide +kernel, hD _ (by decide)⟩
theorem isTp_0 {D : Nat → Bool} (hD : aDC D) : aIs D (bTp) 7 0 := ⟨by decide +kernel, hD _ (by decide)⟩
theorem isTp_2 {D : Nat → Bool} (hD : aDC D) : aIs D (bTp + 2) 13 700 := ⟨by decide +kernel, hD _ (by decide)⟩
theorem isYr_0 {D : Nat → Bool} (hD : aDC D) : aIs D (bYr) 10 0 := ⟨by decide +kernel, hD _ (by decide)⟩
theorem isYr_1 {D : Nat → Bool} (hD : aDC D) : aIs D (bYr + 1) 14 7 := ⟨by decide +kernel, hD _ (by decide)⟩
theorem isYr_2 {D : Nat → Bool} (hD : aDC D) : aIs D (bYr + 2) 15 64 := ⟨by decide +kernel, hD _ (by decide)⟩
theorem isSn_0 {D : Nat → Bool} (hD : aDC D) : aIs D (bSn) 5 0 := ⟨by decide +kernel, hD _ (by decide)⟩
theorem isSn_3 {D : Nat → Bool} (hD : aDC D) : aIs D (bSn + 3) 14 24 := ⟨by decide +kernel, hD _ (by decide)⟩
theorem isSn_4 {D : Nat → Bool} (hD : aDC D) : aIs D (bSn + 4) 14 24 := ⟨by decide +kernel, hD _ (by decide)⟩
theorem isSn_5 {D : Nat → Bool} (hD : aDC D) : aIs D (bSn + 5) 14 24 := ⟨by decide +kernel, hD _ (by decide)⟩
theorem isSn_6 {D : Nat → Bool} (hD : aDC D) : aIs D (bSn + 6) 16 24 := ⟨by decide +kernel, hD _ (by decide)⟩
theorem isSn_7 {D : Nat → Bool} (hD : aDC D) : aIs D (bSn + 7) 14 24 := ⟨by decide +kernel, hD _ (by decide)⟩
theorem isSn_8 {D : Nat → Bool} (hD : aDC D) : aIs D (bSn + 8) 16 24 := ⟨by decide +kernel, hD _ (by decide)⟩
theorem isDn_0 {D : Nat → Bool} (hD : aDC D) : aIs D (bDn) 1 0 := ⟨by decide +kernel, hD _ (by decide)⟩
theorem isDn_2 {D : Nat → Bool} (hD : aDC D) : aIs D (bDn + 2) 14 20 := ⟨by decide +kernel, hD _ (by decide)⟩
theorem isDn_3 {D : Nat → Bool} (hD : aDC D) : aIs D (bDn + 3) 14 20 := ⟨by decide +kernel, hD _ (by decide)⟩
theorem isDn_4 {D : Nat → Bool} (hD : aDC D) : aIs D (bDn + 4) 14 20 := ⟨by decide +kernel, hD _ (by decide)⟩
theorem isDn_5 {D : Nat → Bool} (hD : aDC D) : aIs D (bDn + 5) 14 20 := ⟨by decide +kernel, hD _ (by decide)⟩
theorem isRk_0 {D : Nat → Bool} (hD : aDC D) : aIs D (bRk) 4 0 := ⟨by decide +kernel, hD _ (by decide)⟩
theorem isRk_1 {D : Nat → Bool} (hD : aDC D) : aIs D (bRk + 1) 14 6 := ⟨by decide +kernel, hD _ (by decide)⟩
theorem isRk_3 {D : Nat → Bool} (hD : aDC D) : aIs D (bRk + 3) 14 61 := ⟨by decide +kernel, hD _ (by decide)⟩
theorem isRk_4 {D : Nat → Bool} (hD : aDC D) : aIs D (bRk + 4) 14 8 := ⟨by decide +kernel, hD _ (by decide)⟩
theorem isRk_5 {D : Nat → Bool} (hD : aDC D) : aIs D (bRk + 5) 14 48 := ⟨by decide +kernel, hD _ (by decide)⟩
theorem isRk_6 {D : Nat → Bool} (hD : aDC D) : aIs D (bRk + 6) 14 1792 := ⟨by decide +kernel, hD _ (by decide)⟩
theorem isRk_7 {D : Nat → Bool} (hD : aDC D) : aIs D (bRk + 7) 14 6 := ⟨by decide +kernel, hD _ (by decide)⟩
theorem isRk_8 {D : Nat → Bool} (hD : aDC D) : aIs D (bRk + 8) 16 6 := ⟨by decide +kernel, hD _ (by decide)⟩
theorem isM_0 {D : Nat → Bool} (hM : D 12 = true) : aIs D (bM) 12 0 := ⟨by decide +kernel, hM⟩
theorem isM_1 {D : Nat → Bool} (hM : D 12 = true) : aIs D (bM + 1) 14 700 := ⟨by decide +kernel, hM⟩
theorem isM_4 {D : Nat → Bool} (hM : D 12 = true) : aIs D (bM + 4) 14 108 := ⟨by decide +kernel, hM⟩
theorem isM_25 {D : Nat → Bool} (hM : D 12 = true) : aIs D (bM + 25) 16 2 := ⟨by decide +kernel, hM⟩
theorem isM_26 {D : Nat → Bool} (hM : D 12 = true) : aIs D (bM + 26) 14 4 := ⟨by decide +kernel, hM⟩
theorem isM_27 {D : Nat → Bool} (hM : D 12 = true) : aIs D (bM + 27) 14 12 := ⟨by decide +kernel, hM⟩
theorem isM_28 {D : Nat → Bool} (hM : D 12 = true) : aIs D (bM + 28) 14 12 := ⟨by decide +kernel, hM⟩
theorem isM_29 {D : Nat → Bool} (hM : D 12 = true) : aIs D (bM + 29) 14 16 := ⟨by decide +kernel, hM⟩
theorem isM_30 {D : Nat → Bool} (hM : D 12 = true) : aIs D (bM + 30) 14 16 := ⟨by decide +kernel, hM⟩
theorem isM_31 {D : Nat → Bool} (hM : D 12 = true) : aIs D (bM + 31) 14 16 := ⟨by decide +kernel, hM⟩
theorem isM_32 {D : Nat → Bool} (hM : D 12 = true) : aIs D (bM + 32) 14 16 := ⟨by decide +kernel, hM⟩
theorem isM_33 {D : Nat → Bool} (hM : D 12 = true) : aIs D (bM + 33) 14 16 := ⟨by decide +kernel, hM⟩
theorem isM_34 {D : Nat → Bool} (hM : D 12 = true) : aIs D (bM + 34) 14 28 := ⟨by decide +kernel, hM⟩
theorem isM_35 {D : Nat → Bool} (hM : D 12 = true) : aIs D (bM + 35) 14 28 := ⟨by decide +kernel, hM⟩
theorem isM_36 {D : Nat → Bool} (hM : D 12 = true) : aIs D (bM + 36) 14 28 := ⟨by decide +kernel, hM⟩
theorem isM_37 {D : Nat → Bool} (hM : D 12 = true) : aIs D (bM + 37) 14 28 := ⟨by decide +kernel, hM⟩
theorem isM_38 {D : Nat → Bool} (hM : D 12 = true) : aIs D (bM + 38) 14 28 := ⟨by decide +kernel, hM⟩
theorem isM_39 {D : Nat → Bool} (hM : D 12 = true) : aIs D (bM + 39) 14 12 := ⟨by decide +kernel, hM⟩
theorem isM_40 {D : Nat → Bool} (hM : D 12 = true) : aIs D (bM + 40) 14 12 := ⟨by decide +kernel, hM⟩
theorem isM_41 {D : Nat → Bool} (hM : D 12 = true) : aIs D (bM + 41) 14 12 := ⟨by decide +kernel, hM⟩
theorem isM_42 {D : Nat → Bool} (hM : D 12 = true) : aIs D (bM + 42) 14 8 := ⟨by decide +kernel, hM⟩
theorem isM_43 {D : Nat → Bool} (hM : D 12 = true) : aIs D (bM + 43) 16 6 := ⟨by decide +kernel, hM⟩
theorem isM_44 {D : Nat → Bool} (hM : D 12 = true) : aIs D (bM + 44) 14 6 := ⟨by decide +kernel, hM⟩
theorem isM_45 {D : Nat → Bool} (hM : D 12 = true) : aIs D (bM + 45) 14 6 := ⟨by decide +kernel, hM⟩
theorem isM_46 {D : Nat → Bool} (hM : D 12 = true) : aIs D (bM + 46) 14 128 := ⟨by decide +kernel, hM⟩
theorem isM_47 {D : Nat → Bool} (hM : D 12 = true) : aIs D (bM + 47) 14 128 := ⟨by decide +kernel, hM⟩
theorem isM_48 {D : Nat → Bool} (hM : D 12 = true) : aIs D (bM + 48) 14 128 := ⟨by decide +kernel, hM⟩
theorem isM_49 {D : Nat → Bool} (hM : D 12 = true) : aIs D (bM + 49) 14 96 := ⟨by decide +kernel, hM⟩
theorem isM_50 {D : Nat → Bool} (hM : D 12 = true) : aIs D (bM + 50) 14 96 := ⟨by decide +kernel, hM⟩
theorem isM_57 {D : Nat → Bool} (hM : D 12 = true) : aIs D (bM + 57) 15 7 := ⟨by decide +kernel, hM⟩
theorem isM_58 {D : Nat → Bool} (hM : D 12 = true) : aIs D (bM + 58) 15 64 := ⟨by decide +kernel, hM⟩
theorem isM_60 {D : Nat → Bool} (hM : D 12 = true) : aIs D (bM + 60) 14 96 := ⟨by decide +kernel, hM⟩
theorem isM_61 {D : Nat → Bool} (hM : D 12 = true) : aIs D (bM + 61) 14 144 := ⟨by decide +kernel, hM⟩
theorem isM_62 {D : Nat → Bool} (hM : D 12 = true) : aIs D (bM + 62) 14 144 := ⟨by decide +kernel, hM⟩
theorem isM_63 {D : Nat → Bool} (hM : D 12 = true) : aIs D (bM + 63) 14 12 := ⟨by decide +kernel, hM⟩
theorem isM_64 {D : Nat → Bool} (hM : D 12 = true) : aIs D (bM + 64) 14 16 := ⟨by decide +kernel, hM⟩
theorem isM_65 {D : Nat → Bool} (hM : D 12 = true) : aIs D (bM + 65) 14 16 := ⟨by decide +kernel, hM⟩
theorem isM_66 {D : Nat → Bool} (hM : D 12 = true) : aIs D (bM + 66) 14 16 := ⟨by decide +kernel, hM⟩
theorem isM_67 {D : Nat → Bool} (hM : D 12 = true) : aIs D (bM + 67) 16 16 := ⟨by decide +kernel, hM⟩
theorem isM_68 {D : Nat → Bool} (hM : D 12 = true) : aIs D (bM + 68) 14 2 := ⟨by decide +kernel, hM⟩
theorem isM_69 {D : Nat → Bool} (hM : D 12 = true) : aIs D (bM + 69) 14 2 := ⟨by decide +kernel, hM⟩
theorem isM_76 {D : Nat → Bool} (hM : D 12 = true) : aIs D (bM + 76) 14 1792 := ⟨by decide +kernel, hM⟩
theorem isM_77 {D : Nat → Bool} (hM : D 12 = true) : aIs D (bM + 77) 14 1792 := ⟨by decide +kernel, hM⟩
theorem isM_78 {D : Nat → Bool} (hM : D 12 = true) : aIs D (bM + 78) 14 48 := ⟨by decide +kernel, hM⟩
theorem isM_81 {D : Nat → Bool} (hM : D 12 = true) : aIs D (bM + 81) 14 96 := ⟨by decide +kernel, hM⟩
theorem isM_82 {D : Nat → Bool} (hM : D 12 = true) : aIs D (bM + 82) 16 24 := ⟨by decide +kernel, hM⟩
theorem isM_83 {D : Nat → Bool} (hM : D 12 = true) : aIs D (bM + 83) 14 21 := ⟨by decide +kernel, hM⟩
theorem isM_85 {D : Nat → Bool} (hM : D 12 = true) : aIs D (bM + 85) 14 3160 := ⟨by decide +kernel, hM⟩
theorem isM_87 {D : Nat → Bool} (hM : D 12 = true) : aIs D (bM + 87) 14 158 := ⟨by decide +kernel, hM⟩
theorem isM_88 {D : Nat → Bool} (hM : D 12 = true) : aIs D (bM + 88) 14 66 := ⟨by decide +kernel, hM⟩
theorem isM_89 {D : Nat → Bool} (hM : D 12 = true) : aIs D (bM + 89) 16 8 := ⟨by decide +kernel, hM⟩
theorem isW_0 {D : Nat → Bool} {t : Nat} (hD : aDC D) (ht : aTdB t) : aIs D (t + 130) 2 0 := by rcases ht with rfl | rfl <;> exact ⟨by decide +kernel, hD _ (by decide)⟩
theorem isW10_0 {D : Nat → Bool} {t : Nat} (hD : aDC D) (ht : aTdB t) : aIs D (t + 130 + 10) 14 64 := by rcases ht with rfl | rfl <;> exact ⟨by decide +kernel, hD _ (by decide)⟩
theorem isW20_0 {D : Nat → Bool} {t : Nat} (hD : aDC D) (ht : aTdB t) : aIs D (t + 130 + 20) 14 64 := by rcases ht with rfl | rfl <;> exact ⟨by decide +kernel, hD _ (by decide)⟩
theorem isW_1 {D : Nat → Bool} {t : Nat} (hD : aDC D) (ht : aTdB t) : aIs D (t + 131) 2 0 := by rcases ht with rfl | rfl <;> exact ⟨by decide +kernel, hD _ (by decide)⟩
theorem isW10_1 {D : Nat → Bool} {t : Nat} (hD : aDC D) (ht : aTdB t) : aIs D (t + 131 + 10) 14 64 := by rcases ht with rfl | rfl <;> exact ⟨by decide +kernel, hD _ (by decide)⟩
theorem isW20_1 {D : Nat → Bool} {t : Nat} (hD : aDC D) (ht : aTdB t) : aIs D (t + 131 + 20) 14 64 := by rcases ht with rfl | rfl <;> exact ⟨by decide +kernel, hD _ (by decide)⟩
theorem isW_2 {D : Nat → Bool} {t : Nat} (hD : aDC D) (ht : aTdB t) : aIs D (t + 132) 2 0 := by rcases ht with rfl | rfl <;> exact ⟨by decide +kernel, hD _ (by decide)⟩
theorem isW10_2 {D : Nat → Bool} {t : Nat} (hD : aDC D) (ht : aTdB t) : aIs D (t + 132 + 10) 14 64 := by rcases ht with rfl | rfl <;> exact ⟨by decide +kernel, hD _ (by decide)⟩
theorem isW20_2 {D : Nat → Bool} {t : Nat} (hD : aDC D) (ht : aTdB t) : aIs D (t + 132 + 20) 14 64 := by rcases ht with rfl | rfl <;> exact ⟨by decide +kernel, hD _ (by decide)⟩
theorem aSH_deed : ∀ i, i < 14 → (768 + 12 + 88 + i, 0, 0) ∈ aSH ∧ (1024 + 12 + 88 + i, 0, 0) ∈ aSH ∧ (768 + 12 + 88 + i) / 256 = 3 ∧ (1024 + 12 + 88 + i) / 256 = 4 := by decide +kernel
theorem aSH_wed : ∀ i, i < 6 → (768 + 14 + 106 + i, 9, 0) ∈ aSH ∧ (1024 + 14 + 106 + i, 9, 0) ∈ aSH ∧ (768 + 14 + 106 + i) / 256 = 3 ∧ (1024 + 14 + 106 + i) / 256 = 4 := by decide +kernel
theorem isDe {D : Nat → Bool} {t i : Nat} (hD : aDC D) (ht : aTdB t) (hi : i < 14) : aIs D (t + 12 + 88 + i) 0 0 := by
  obtain ⟨h1, h2, h3, h4⟩ := aSH_deed i hi
  rcases ht with rfl | rfl
  · exact ⟨h1, by rw [h3]; exact hD 3 (by decide)⟩
  · exact ⟨h2, by rw [h4]; exact hD 4 (by decide)⟩
theorem isWe {D : Nat → Bool} {t i : Nat} (hD : aDC D) (ht : aTdB t) (hi : i < 6) : aIs D (t + 14 + 106 + i) 9 0 := by
  obtain ⟨h1, h2, h3, h4⟩ := aSH_wed i hi
  rcases ht with rfl | rfl
  · exact ⟨h1, by rw [h3]; exact hD 3 (by decide)⟩
  · exact ⟨h2, by rw [h4]; exact hD 4 (by decide)⟩
