/-! READING, the model: lineRead, the whole -/
section qBH
variable {l : Launch} {d : Nat} {D : Nat → Bool} {x y : aS} {n f : Nat} {B : Nat → Nat} {P : pS} {T : zT} {r r' : zP}
theorem lr_l2 {b : Int32} {lv : List (Nat × Value)} (hM : D 12 = true) (W : mW rC x y) (K : mK n B (rdL B n P) y) (hb : b = bI (decide ((rdL B n P).2.2.2.2.1 = 0))) : aV l mX12_lineRead (d + 4) D none 241 ((0, .ref bM) :: (1, .int b) :: lv) [] y (mLr n B P x) := by rw [hb]; exact lr_line hM W K
set_option maxHeartbeats 8000000 in
set_option maxRecDepth 100000 in
theorem c_X12_lineRead (hM : D 12 = true) (K : mK n B P x) (h0 : P.2.2.2.2.1 = 0) : aCt l mX12_lineRead (d + 4) D [.ref bM] x (mLr n B P x) := by
  refine a_met (by decide) (Nat.le_of_ble_eq_true rfl) (fun v y q => Or.inr (Or.inl ⟨rfl, _, q.1, bI_01 _⟩)) ?_
  obtain ⟨hb, hr, bd, pl, hf⟩ := id K
  obtain ⟨hT, g0, g1, h53, hl⟩ := hf h0
  obtain ⟨i1, rk, -⟩ := hr.1 h0
  have tk := tok_ok (B := B) i1
  have km := rk.2.2
  obtain ⟨k, hk⟩ : ∃ k, k = (tok B n P.2.2.2.1).1 := ⟨_, rfl⟩
  rw [← hk] at km
  have k39 : k < 39 := by have := tk.2.2.2.2.2.1; omega
  obtain ⟨a8, a9⟩ := kM_1 km
  have eR : rdL B n P = (if k = 0 then ((lnHouse B n P.1 P.2.2.2).1, P.2.1, P.2.2.1, (lnHouse B n P.1 P.2.2.2).2)
    else if k = 1 then ((lnMan B n P.1 P.2.2.2).1, P.2.1, P.2.2.1, (lnMan B n P.1 P.2.2.2).2)
    else if k = 2 then ((lnDeed B n 0 P.1 P.2.2.2).1, P.2.1, P.2.2.1, (lnDeed B n 0 P.1 P.2.2.2).2)
    else if k = 3 then ((lnDeed B n 1 P.1 P.2.2.2).1, P.2.1, P.2.2.1, (lnDeed B n 1 P.1 P.2.2.2).2)
    else if k = 4 then ((lnWed B n P.1 P.2.2.2).1, P.2.1, P.2.2.1, (lnWed B n P.1 P.2.2.2).2)
    else if k = 5 then ((lnStrip B n P.1 P.2.2.2).1, P.2.1, P.2.2.1, (lnStrip B n P.1 P.2.2.2).2)
    else if k = 6 then ((lnOnce B n (P.2.2.1 0) 0 100 P.1 P.2.2.2).1, P.2.1, gup P.2.2.1 0, (lnOnce B n (P.2.2.1 0) 0 100 P.1 P.2.2.2).2)
    else if k = 7 then ((lnOnce B n (P.2.2.1 1) 1 99999 P.1 P.2.2.2).1, P.2.1, gup P.2.2.1 1, (lnOnce B n (P.2.2.1 1) 1 99999 P.1 P.2.2.2).2)
    else if k = 8 then lnLaw B n P
    else (P.1, P.2.1, P.2.2.1, pFl B n 1 P.2.2.2)) := by rw [hk]; rfl
  by_cases k8 : k ≤ 8
  · have e8 := a8.mpr (by omega)
    have e9 := a9 (by omega)
    rw [(swp_le k (by omega)).2.2.2.2.2.2.2.1 (by omega)] at e9
    have ek : ∀ v : Nat, v < 39 → nI k = nI v → k = v := fun v hv g => (nI_eq (by omega) (by omega)).mp g
    have fB : ∀ {a lo hi h j : Nat} {y : aS}, 18 ≤ a ∧ a ≤ 22 → 26 ≤ lo → hi ≤ 42 → mW (lnC a lo hi (h + j)) x y → ∀ m j, (m = bM ∧ j = 53) ∨ m = bM + 25 ∨ (bM + 43 ≤ m ∧ m ≤ bM + 48) → y.1 m j = x.1 m j := fun ha hlo hhi F m j h => F.1 m j (fun e => by unfold mUc at e; omega) (fun e => by unfold lnC at e; omega)
    refine a_aload_n (i := 0) dX12_lineRead_0 rfl rfl ?_
    refine gX12_193 rfl dX12_lineRead_1 (isM_0 hM) ?_
    rw [e8]
    refine a_iconst (v := 1) dX12_lineRead_4 (by decide) ?_
    refine a_icmp_ne (tg := 17) dX12_lineRead_5 (by decide) (fun c_5 => ?_) (fun c_5 => ?_)
    · exact absurd rfl c_5
    · refine a_aload_n (i := 0) dX12_lineRead_8 rfl rfl ?_
      refine gX12_204 rfl dX12_lineRead_9 (isM_0 hM) ?_
      rw [e9]
      refine a_bipush (v := 8) dX12_lineRead_12 (by decide) ?_
      refine a_icmp_le (tg := 23) dX12_lineRead_14 (by decide) (fun c_14 => ?_) (fun c_14 => ?_)
      · refine a_aload_n (i := 0) dX12_lineRead_23 rfl rfl ?_
        refine gX12_204 rfl dX12_lineRead_24 (isM_0 hM) ?_
        rw [e9]
        refine sX12_lineRead_27 dX12_lineRead_27 (fun s_27 => ?_) (fun s_27 => ?_) (fun s_27 => ?_) (fun s_27 => ?_) (fun s_27 => ?_) (fun s_27 => ?_) (fun s_27 => ?_) (fun s_27 => ?_) (fun s_27_0 s_27_1 s_27_2 s_27_3 s_27_4 s_27_5 s_27_6 s_27_7 => ?_)
        · have e := ek 0 (by decide) s_27
          have g : rdL B n P = ((lnHouse B n P.1 P.2.2.2).1, P.2.1, P.2.2.1, (lnHouse B n P.1 P.2.2.2).2) := by rw [eR, if_pos e]
          refine a_aload_n (i := 0) dX12_lineRead_72 rfl rfl ?_
          refine kgX12_294 rfl dX12_lineRead_73 (Nat.le_of_ble_eq_true rfl) (isM_0 hM) (c_X12_houseLine hM hb hr h0 hT bd) ?_
          rintro v y1 ⟨rfl, p1, t1, F1⟩
          have W1 : mW rC x y1 := mW_c (rC_ln (by decide) (by decide) (by decide) hlf_27) F1
          have K1 : mK n B (rdL B n P) y1 := by rw [g]; exact mK_ln K h0 (mBt_W rC_b hb W1) p1 (tBd_house bd) h7_house (mon_house h0) t1 (fB (by decide) (by decide) (by decide) F1)
          refine a_istore_n (i := 1) dX12_lineRead_76 rfl (by decide) ?_
          refine a_goto (tg := 241) dX12_lineRead_77 (by decide) ?_
          exact a_loc _ rfl (lr_l2 (lv := []) hM W1 K1 (by rw [g]))
        · have e := ek 1 (by decide) s_27
          have g : rdL B n P = ((lnMan B n P.1 P.2.2.2).1, P.2.1, P.2.2.1, (lnMan B n P.1 P.2.2.2).2) := by rw [eR, if_neg (by omega), if_pos e]
          refine a_aload_n (i := 0) dX12_lineRead_80 rfl rfl ?_
          refine kgX12_298 rfl dX12_lineRead_81 (Nat.le_of_ble_eq_true rfl) (isM_0 hM) (c_X12_manLine hM hb hr h0 hT bd) ?_
          rintro v y1 ⟨rfl, p1, t1, F1⟩
          have W1 : mW rC x y1 := mW_c (rC_ln (by decide) (by decide) (by decide) hlf_29) F1
          have K1 : mK n B (rdL B n P) y1 := by rw [g]; exact mK_ln K h0 (mBt_W rC_b hb W1) p1 (tBd_man bd) h7_man (mon_man h0) t1 (fB (by decide) (by decide) (by decide) F1)
          refine a_istore_n (i := 1) dX12_lineRead_84 rfl (by decide) ?_
          refine a_goto (tg := 241) dX12_lineRead_85 (by decide) ?_
          exact a_loc _ rfl (lr_l2 (lv := []) hM W1 K1 (by rw [g]))
        · have e := ek 2 (by decide) s_27
          have g : rdL B n P = ((lnDeed B n 0 P.1 P.2.2.2).1, P.2.1, P.2.2.1, (lnDeed B n 0 P.1 P.2.2.2).2) := by rw [eR, if_neg (by omega), if_neg (by omega), if_pos e]
          refine a_aload_n (i := 0) dX12_lineRead_88 rfl rfl ?_
          refine a_iconst (v := 1) dX12_lineRead_89 (by decide) ?_
          refine kgX12_301 rfl dX12_lineRead_90 (Nat.le_of_ble_eq_true rfl) (isM_0 hM) (c_X12_deedLine (s := 0) hM hb hr h0 hT bd) ?_
          rintro v y1 ⟨rfl, p1, t1, F1⟩
          have W1 : mW rC x y1 := mW_c (rC_ln (by decide) (by decide) (by decide) hlf_34) F1
          have K1 : mK n B (rdL B n P) y1 := by rw [g]; exact mK_ln K h0 (mBt_W rC_b hb W1) p1 (tBd_deed bd) h7_deed (mon_deed h0) t1 (fB (by decide) (by decide) (by decide) F1)
          refine a_istore_n (i := 1) dX12_lineRead_93 rfl (by decide) ?_
          refine a_goto (tg := 241) dX12_lineRead_94 (by decide) ?_
          exact a_loc _ rfl (lr_l2 (lv := []) hM W1 K1 (by rw [g]))
        · have e := ek 3 (by decide) s_27
          have g : rdL B n P = ((lnDeed B n 1 P.1 P.2.2.2).1, P.2.1, P.2.2.1, (lnDeed B n 1 P.1 P.2.2.2).2) := by rw [eR, if_neg (by omega), if_neg (by omega), if_neg (by omega), if_pos e]
          refine a_aload_n (i := 0) dX12_lineRead_97 rfl rfl ?_
          refine a_iconst (v := (-1)) dX12_lineRead_98 (by decide) ?_
          refine kgX12_301 rfl dX12_lineRead_99 (Nat.le_of_ble_eq_true rfl) (isM_0 hM) (c_X12_deedLine (s := 1) hM hb hr h0 hT bd) ?_
          rintro v y1 ⟨rfl, p1, t1, F1⟩
          have W1 : mW rC x y1 := mW_c (rC_ln (by decide) (by decide) (by decide) hlf_34) F1
          have K1 : mK n B (rdL B n P) y1 := by rw [g]; exact mK_ln K h0 (mBt_W rC_b hb W1) p1 (tBd_deed bd) h7_deed (mon_deed h0) t1 (fB (by decide) (by decide) (by decide) F1)
          refine a_istore_n (i := 1) dX12_lineRead_102 rfl (by decide) ?_
          refine a_goto (tg := 241) dX12_lineRead_103 (by decide) ?_
          exact a_loc _ rfl (lr_l2 (lv := []) hM W1 K1 (by rw [g]))
        · have e := ek 4 (by decide) s_27
          have g : rdL B n P = ((lnWed B n P.1 P.2.2.2).1, P.2.1, P.2.2.1, (lnWed B n P.1 P.2.2.2).2) := by rw [eR, if_neg (by omega), if_neg (by omega), if_neg (by omega), if_neg (by omega), if_pos e]
          refine a_aload_n (i := 0) dX12_lineRead_106 rfl rfl ?_
          refine kgX12_304 rfl dX12_lineRead_107 (Nat.le_of_ble_eq_true rfl) (isM_0 hM) (c_X12_wedLine hM hb hr h0 hT bd) ?_
          rintro v y1 ⟨rfl, p1, t1, F1⟩
          have W1 : mW rC x y1 := mW_c (rC_ln (by decide) (by decide) (by decide) hlf_39) F1
          have K1 : mK n B (rdL B n P) y1 := by rw [g]; exact mK_ln K h0 (mBt_W rC_b hb W1) p1 (tBd_wed bd) h7_wed (mon_wed h0) t1 (fB (by decide) (by decide) (by decide) F1)
          refine a_istore_n (i := 1) dX12_lineRead_110 rfl (by decide) ?_
          refine a_goto (tg := 241) dX12_lineRead_111 (by decide) ?_
          exact a_loc _ rfl (lr_l2 (lv := []) hM W1 K1 (by rw [g]))
        · have e := ek 5 (by decide) s_27
          have g : rdL B n P = ((lnStrip B n P.1 P.2.2.2).1, P.2.1, P.2.2.1, (lnStrip B n P.1 P.2.2.2).2) := by rw [eR, if_neg (by omega), if_neg (by omega), if_neg (by omega), if_neg (by omega), if_neg (by omega), if_pos e]
          refine a_aload_n (i := 0) dX12_lineRead_114 rfl rfl ?_
          refine kgX12_307 rfl dX12_lineRead_115 (Nat.le_of_ble_eq_true rfl) (isM_0 hM) (c_X12_stripLine hM hb hr h0 hT bd) ?_
          rintro v y1 ⟨rfl, p1, t1, F1⟩
          have W1 : mW rC x y1 := mW_c (rC_ln (by decide) (by decide) (by decide) hlf_42) F1
          have K1 : mK n B (rdL B n P) y1 := by rw [g]; exact mK_ln K h0 (mBt_W rC_b hb W1) p1 (tBd_strip bd) h7_strip (mon_strip h0) t1 (fB (by decide) (by decide) (by decide) F1)
          refine a_istore_n (i := 1) dX12_lineRead_118 rfl (by decide) ?_
          refine a_goto (tg := 241) dX12_lineRead_119 (by decide) ?_
          exact a_loc _ rfl (lr_l2 (lv := []) hM W1 K1 (by rw [g]))
        · have e := ek 6 (by decide) s_27
          have g : rdL B n P = ((lnOnce B n (P.2.2.1 0) 0 100 P.1 P.2.2.2).1, P.2.1, gup P.2.2.1 0, (lnOnce B n (P.2.2.1 0) 0 100 P.1 P.2.2.2).2) := by rw [eR, if_neg (by omega), if_neg (by omega), if_neg (by omega), if_neg (by omega), if_neg (by omega), if_neg (by omega), if_pos e]
          refine a_aload_n (i := 0) dX12_lineRead_122 rfl rfl ?_
          refine a_iconst (v := 0) dX12_lineRead_123 (by decide) ?_
          refine a_bipush (v := 100) dX12_lineRead_124 (by decide) ?_
          refine kgX12_310 rfl dX12_lineRead_126 (Nat.le_of_ble_eq_true rfl) (isM_0 hM) (c_X12_onceLine (k := 0) (most := 100) hM hb hr h0 hT bd (by decide) (by decide) g0) ?_
          rintro v y1 ⟨rfl, p1, t1, F1⟩
          have W1 : mW rC x y1 := mW_c rC_o F1
          have K1 : mK n B (rdL B n P) y1 := by rw [g]; exact mK_up (k := 0) (by decide) K h0 (mBt_W rC_b hb W1) p1 (tBd_damp bd) h7_damp (mon_damp h0) t1 F1
          refine a_istore_n (i := 1) dX12_lineRead_129 rfl (by decide) ?_
          refine a_goto (tg := 241) dX12_lineRead_130 (by decide) ?_
          exact a_loc _ rfl (lr_l2 (lv := []) hM W1 K1 (by rw [g]))
        · have e := ek 7 (by decide) s_27
          have g : rdL B n P = ((lnOnce B n (P.2.2.1 1) 1 99999 P.1 P.2.2.2).1, P.2.1, gup P.2.2.1 1, (lnOnce B n (P.2.2.1 1) 1 99999 P.1 P.2.2.2).2) := by rw [eR, if_neg (by omega), if_neg (by omega), if_neg (by omega), if_neg (by omega), if_neg (by omega), if_neg (by omega), if_neg (by omega), if_pos e]
          refine a_aload_n (i := 0) dX12_lineRead_133 rfl rfl ?_
          refine a_iconst (v := 1) dX12_lineRead_134 (by decide) ?_
          refine a_ldc (v := 99999) dX12_lineRead_135 (oX12_213 rfl) ?_
          refine kgX12_310 rfl dX12_lineRead_137 (Nat.le_of_ble_eq_true rfl) (isM_0 hM) (c_X12_onceLine (k := 1) (most := 99999) hM hb hr h0 hT bd (by decide) (by decide) g1) ?_
          rintro v y1 ⟨rfl, p1, t1, F1⟩
          have W1 : mW rC x y1 := mW_c rC_o F1
          have K1 : mK n B (rdL B n P) y1 := by rw [g]; exact mK_up (k := 1) (by decide) K h0 (mBt_W rC_b hb W1) p1 (tBd_seed bd) h7_seed (mon_seed h0) t1 F1
          refine a_istore_n (i := 1) dX12_lineRead_140 rfl (by decide) ?_
          refine a_goto (tg := 241) dX12_lineRead_141 (by decide) ?_
          exact a_loc _ rfl (lr_l2 (lv := []) hM W1 K1 (by rw [g]))
        · have e : k = 8 := by
            have n0 : ¬ k = 0 := fun e => s_27_0 (by rw [e]; rfl)
            have n1 : ¬ k = 1 := fun e => s_27_1 (by rw [e]; rfl)
            have n2 : ¬ k = 2 := fun e => s_27_2 (by rw [e]; rfl)
            have n3 : ¬ k = 3 := fun e => s_27_3 (by rw [e]; rfl)
            have n4 : ¬ k = 4 := fun e => s_27_4 (by rw [e]; rfl)
            have n5 : ¬ k = 5 := fun e => s_27_5 (by rw [e]; rfl)
            have n6 : ¬ k = 6 := fun e => s_27_6 (by rw [e]; rfl)
            have n7 : ¬ k = 7 := fun e => s_27_7 (by rw [e]; rfl)
            omega
          exact a_loc _ rfl (lr_law (lv := []) hM K h0 (hk.symm.trans e))
      · exact absurd (nI_le (b := 8) k8 (by decide)) c_14
  · have g : rdL B n P = (P.1, P.2.1, P.2.2.1, pFl B n 1 P.2.2.2) := by rw [eR, if_neg (by omega), if_neg (by omega), if_neg (by omega), if_neg (by omega), if_neg (by omega), if_neg (by omega), if_neg (by omega), if_neg (by omega), if_neg (by omega)]
    have nf : ¬ (rdL B n P).2.2.2.2.1 = 0 := by rw [g]; show ¬ 1 = 0; decide
    have fl := mP_fl (c := 1) hr h0 (by decide)
    have Q : mLr n B P x (some (.int 0)) (aWr (aWr x bM 4 (nI 1)) bM 5 (x.1 bM 10)) := ⟨by rw [rdN_f nf, bI_f nf], by rw [rdN_f nf, g]; exact mK_bad (P := (P.1, P.2.1, P.2.2.1, pFl B n 1 P.2.2.2)) (mBt_u hb fl.2) fl.1 bd (by show ¬ 1 = 0; decide), mW_u fl.2⟩
    by_cases q21 : k ≤ 21
    · have e9 := a9 q21
      have sw := swp_le k q21
      have no : ¬ swp k ≤ 8 := fun e => k8 (sw.2.2.2.2.2.2.1.mp e)
      refine a_aload_n (i := 0) dX12_lineRead_0 rfl rfl ?_
      refine gX12_193 rfl dX12_lineRead_1 (isM_0 hM) ?_
      refine a_iconst (v := 1) dX12_lineRead_4 (by decide) ?_
      refine a_icmp_ne (tg := 17) dX12_lineRead_5 (by decide) (fun c_5 => ?_) (fun c_5 => ?_)
      · refine a_aload_n (i := 0) dX12_lineRead_17 rfl rfl ?_
        refine a_iconst (v := 1) dX12_lineRead_18 (by decide) ?_
        refine kX12_217 rfl dX12_lineRead_19 (Nat.le_of_ble_eq_true rfl) (isM_0 hM) (c_X12_wrong (c := 1) hM) ?_
        exact a_iret dX12_lineRead_22 (by exact Q)
      · refine a_aload_n (i := 0) dX12_lineRead_8 rfl rfl ?_
        refine gX12_204 rfl dX12_lineRead_9 (isM_0 hM) ?_
        rw [e9]
        refine a_bipush (v := 8) dX12_lineRead_12 (by decide) ?_
        refine a_icmp_le (tg := 23) dX12_lineRead_14 (by decide) (fun c_14 => ?_) (fun c_14 => ?_)
        · exact absurd ((nI_leI (b := 8) (by omega) (by decide)).mp c_14) no
        · refine a_aload_n (i := 0) dX12_lineRead_17 rfl rfl ?_
          refine a_iconst (v := 1) dX12_lineRead_18 (by decide) ?_
          refine kX12_217 rfl dX12_lineRead_19 (Nat.le_of_ble_eq_true rfl) (isM_0 hM) (c_X12_wrong (c := 1) hM) ?_
          exact a_iret dX12_lineRead_22 (by exact Q)
    · refine a_aload_n (i := 0) dX12_lineRead_0 rfl rfl ?_
      refine gX12_193 rfl dX12_lineRead_1 (isM_0 hM) ?_
      refine a_iconst (v := 1) dX12_lineRead_4 (by decide) ?_
      refine a_icmp_ne (tg := 17) dX12_lineRead_5 (by decide) (fun c_5 => ?_) (fun c_5 => ?_)
      · refine a_aload_n (i := 0) dX12_lineRead_17 rfl rfl ?_
        refine a_iconst (v := 1) dX12_lineRead_18 (by decide) ?_
        refine kX12_217 rfl dX12_lineRead_19 (Nat.le_of_ble_eq_true rfl) (isM_0 hM) (c_X12_wrong (c := 1) hM) ?_
        exact a_iret dX12_lineRead_22 (by exact Q)
      · exact absurd (a8.mp c_5) q21
def pW (x y : aS) : Prop := (∀ m j, ¬ rC m j → y.1 m j = x.1 m j) ∧ y.2 = x.2
theorem pW_t {z : aS} (h : pW x y) (g : pW y z) : pW x z := ⟨fun m j e => (g.1 m j e).trans (h.1 m j e), g.2.trans h.2⟩
theorem pW_w {a i : Nat} {v : Int32} (h : rC a i) : pW x (aWr x a i v) := ⟨fun m j e => aWr_o _ _ (fun g => e (g.1.symm ▸ g.2.symm ▸ h)), rfl⟩
theorem pW_W (h : pW x y) : mW rC x y := ⟨fun m j _ e => h.1 m j e, h.2⟩
theorem pl_4 (h : pW x y) {j : Nat} (hj : j ≤ 17) : y.1 bM j = x.1 bM j := h.1 _ _ (fun e => by unfold rC at e; omega)
set_option maxHeartbeats 8000000 in
set_option maxRecDepth 100000 in
/-- what stands before the first line -/
theorem c_X12_plain (hM : D 12 = true) : aCt l mX12_plain d D [.ref bM] x (fun v y => v = none ∧ (∀ j, (18 ≤ j ∧ j ≤ 23) ∨ j = 53 → y.1 bM j = 0) ∧ (∀ k, k < 2 → y.1 (bM + 25) k = 0 ∧ y.1 (bM + 26) (2 + k) = 0) ∧ (∀ q, q < 3 → y.1 (bM + 43) (3 + q) = 0) ∧ pW x y) := by
  refine a_met (by decide) (Nat.le_of_ble_eq_true rfl) (fun v y q => Or.inr (Or.inr (Or.inr ⟨rfl, q.1⟩))) ?_
  obtain ⟨z, hz⟩ : ∃ z, z = aWr (aWr (aWr (aWr (aWr (aWr (aWr x bM 18 0) bM 19 0) bM 20 0) bM 21 0) bM 22 0) bM 23 0) bM 53 0 := ⟨_, rfl⟩
  have zF : pW x z := by
    rw [hz]
    refine pW_t (pW_t (pW_t (pW_t (pW_t (pW_t (pW_w ((Or.inl ⟨rfl, by omega⟩))) (pW_w ((Or.inl ⟨rfl, by omega⟩)))) (pW_w ((Or.inl ⟨rfl, by omega⟩)))) (pW_w ((Or.inl ⟨rfl, by omega⟩)))) (pW_w ((Or.inl ⟨rfl, by omega⟩)))) (pW_w ((Or.inl ⟨rfl, by omega⟩)))) (pW_w ((Or.inl ⟨rfl, by omega⟩)))
  have z0 : ∀ j, (18 ≤ j ∧ j ≤ 23) ∨ j = 53 → z.1 bM j = 0 := by
    intro j hj
    rw [hz]
    rcases (by omega : j = 18 ∨ j = 19 ∨ j = 20 ∨ j = 21 ∨ j = 22 ∨ j = 23 ∨ j = 53) with rfl | rfl | rfl | rfl | rfl | rfl | rfl <;> repeat (first | rw [aWr_s] | rw [aWr_j _ _ _ (by decide)])
  have L2 : ∀ F q, q + F = 3 → ∀ y : aS, (∀ j, (18 ≤ j ∧ j ≤ 23) ∨ j = 53 → y.1 bM j = 0) → (∀ k, k < 2 → y.1 (bM + 25) k = 0 ∧ y.1 (bM + 26) (2 + k) = 0) → (∀ p, p < q → y.1 (bM + 43) (3 + p) = 0) → pW x y → aV l mX12_plain d D none 66 [(0, .ref bM), (1, .int (nI (3 + q)))] [] y (fun v y => v = none ∧ (∀ j, (18 ≤ j ∧ j ≤ 23) ∨ j = 53 → y.1 bM j = 0) ∧ (∀ k, k < 2 → y.1 (bM + 25) k = 0 ∧ y.1 (bM + 26) (2 + k) = 0) ∧ (∀ q, q < 3 → y.1 (bM + 43) (3 + q) = 0) ∧ pW x y) := by
    intro F
    induction F with
    | zero =>
      intro q hq y h1 h2 h3 W
      have q3 : q = 3 := by omega
      subst q3
      refine a_iload_n (i := 1) dX12_plain_66 rfl rfl ?_
      refine a_bipush (v := 6) dX12_plain_67 (by decide) ?_
      refine a_icmp_ge (tg := 85) dX12_plain_69 (by decide) (fun c_69 => ?_) (fun c_69 => ?_)
      · exact a_vret dX12_plain_85 (by exact ⟨rfl, h1, h2, h3, W⟩)
      · exact absurd (Int32.le_refl _) c_69
    | succ F ih =>
      intro q hq y h1 h2 h3 W
      have X := ih (q + 1) (by omega) (aWr y (bM + 43) (3 + q) 0) (fun j hj => by rw [aWr_n _ _ _ (by decide)]; exact h1 j hj) (fun k hk => by rw [aWr_n _ _ _ (by decide), aWr_n _ _ _ (by decide)]; exact h2 k hk) (fun p hp => by
        by_cases e : p = q
        · subst e; rw [aWr_s]
        · rw [aWr_j _ _ _ (by omega)]; exact h3 p (by omega)) (pW_t W (pW_w ((rC_q (by decide) (by decide)))))
      refine a_iload_n (i := 1) dX12_plain_66 rfl rfl ?_
      refine a_bipush (v := 6) dX12_plain_67 (by decide) ?_
      refine a_icmp_ge (tg := 85) dX12_plain_69 (by decide) (fun c_69 => ?_) (fun c_69 => ?_)
      · exact absurd c_69 (nI_ge (b := 6) (by omega) (by decide))
      · refine a_aload_n (i := 0) dX12_plain_72 rfl rfl ?_
        refine gX12_75 rfl dX12_plain_73 (isM_0 hM) ?_
        refine a_iload_n (i := 1) dX12_plain_76 rfl rfl ?_
        refine a_iconst (v := 0) dX12_plain_77 (by decide) ?_
        refine a_zastN dX12_plain_78 (isM_43 hM) (by first | with_reducible exact rfl | with_reducible exact ix8 _ _ | with_reducible exact ix12 _ _ | exact rfl) (by omega) (by decide) (by first | exact Or.inl rfl | exact Or.inr rfl | assumption) ?_
        refine a_iincK (i := 1) (u := 1) dX12_plain_79 rfl (by decide) (by decide) ?_
        rw [nI_1]
        refine a_goto (tg := 66) dX12_plain_82 (by decide) ?_
        exact a_loc _ rfl X
  have L1 : ∀ F q, q + F = 2 → ∀ y : aS, (∀ j, (18 ≤ j ∧ j ≤ 23) ∨ j = 53 → y.1 bM j = 0) → (∀ k, k < q → y.1 (bM + 25) k = 0 ∧ y.1 (bM + 26) (2 + k) = 0) → pW x y → aV l mX12_plain d D none 37 [(0, .ref bM), (1, .int (nI q))] [] y (fun v y => v = none ∧ (∀ j, (18 ≤ j ∧ j ≤ 23) ∨ j = 53 → y.1 bM j = 0) ∧ (∀ k, k < 2 → y.1 (bM + 25) k = 0 ∧ y.1 (bM + 26) (2 + k) = 0) ∧ (∀ q, q < 3 → y.1 (bM + 43) (3 + q) = 0) ∧ pW x y) := by
    intro F
    induction F with
    | zero =>
      intro q hq y h1 h2 W
      have q3 : q = 2 := by omega
      subst q3
      refine a_iload_n (i := 1) dX12_plain_37 rfl rfl ?_
      refine a_iconst (v := 2) dX12_plain_38 (by decide) ?_
      refine a_icmp_ge (tg := 64) dX12_plain_39 (by decide) (fun c_39 => ?_) (fun c_39 => ?_)
      · refine a_iconst (v := 3) dX12_plain_64 (by decide) ?_
        refine a_istore_n (i := 1) dX12_plain_65 rfl (by decide) ?_
        exact a_loc _ rfl (L2 3 0 rfl y h1 h2 (fun p hp => absurd hp (Nat.not_lt_zero p)) W)
      · exact absurd (Int32.le_refl _) c_39
    | succ F ih =>
      intro q hq y h1 h2 W
      have X := ih (q + 1) (by omega) (aWr (aWr y (bM + 25) q 0) (bM + 26) (2 + q) 0) (fun j hj => by rw [aWr_n _ _ _ (by decide), aWr_n _ _ _ (by decide)]; exact h1 j hj) (fun k hk => by
        by_cases e : k = q
        · subst e; rw [aWr_s, aWr_n _ _ _ (by decide), aWr_s]; exact ⟨rfl, rfl⟩
        · rw [aWr_n _ _ _ (by decide), aWr_j _ _ _ (by omega), aWr_j _ _ _ (by omega), aWr_n _ _ _ (by decide)]; exact h2 k (by omega)) (pW_t W (pW_t (pW_w ((Or.inr (Or.inl rfl)))) (pW_w ((rC_o _ _ (Or.inr ⟨rfl, rfl⟩))))))
      refine a_iload_n (i := 1) dX12_plain_37 rfl rfl ?_
      refine a_iconst (v := 2) dX12_plain_38 (by decide) ?_
      refine a_icmp_ge (tg := 64) dX12_plain_39 (by decide) (fun c_39 => ?_) (fun c_39 => ?_)
      · exact absurd c_39 (nI_ge (b := 2) (by omega) (by decide))
      · refine a_aload_n (i := 0) dX12_plain_42 rfl rfl ?_
        refine gX12_20 rfl dX12_plain_43 (isM_0 hM) ?_
        refine a_iload_n (i := 1) dX12_plain_46 rfl rfl ?_
        refine a_iconst (v := 0) dX12_plain_47 (by decide) ?_
        refine a_zastN dX12_plain_48 (isM_25 hM) (by first | with_reducible exact rfl | with_reducible exact ix8 _ _ | with_reducible exact ix12 _ _ | exact rfl) (by omega) (by decide) (by first | exact Or.inl rfl | exact Or.inr rfl | assumption) ?_
        refine a_aload_n (i := 0) dX12_plain_49 rfl rfl ?_
        refine gX12_24 rfl dX12_plain_50 (isM_0 hM) ?_
        refine a_iconst (v := 2) dX12_plain_53 (by decide) ?_
        refine a_iload_n (i := 1) dX12_plain_54 rfl rfl ?_
        refine a_iadd dX12_plain_55 ?_
        refine a_iconst (v := 0) dX12_plain_56 (by decide) ?_
        refine a_iastN dX12_plain_57 (isM_26 hM) (by first | exact nI_add 2 _ | with_reducible exact rfl | with_reducible exact ix8 _ _ | with_reducible exact ix12 _ _ | exact rfl) (by omega) (by decide) ?_
        refine a_iincK (i := 1) (u := 1) dX12_plain_58 rfl (by decide) (by decide) ?_
        rw [nI_1]
        refine a_goto (tg := 37) dX12_plain_61 (by decide) ?_
        exact a_loc _ rfl X
  refine a_aload_n (i := 0) dX12_plain_0 rfl rfl ?_
  refine a_iconst (v := 0) dX12_plain_1 (by decide) ?_
  refine pX12_237 rfl dX12_plain_2 (isM_0 hM) ?_
  refine a_aload_n (i := 0) dX12_plain_5 rfl rfl ?_
  refine a_iconst (v := 0) dX12_plain_6 (by decide) ?_
  refine pX12_240 rfl dX12_plain_7 (isM_0 hM) ?_
  refine a_aload_n (i := 0) dX12_plain_10 rfl rfl ?_
  refine a_iconst (v := 0) dX12_plain_11 (by decide) ?_
  refine pX12_243 rfl dX12_plain_12 (isM_0 hM) ?_
  refine a_aload_n (i := 0) dX12_plain_15 rfl rfl ?_
  refine a_iconst (v := 0) dX12_plain_16 (by decide) ?_
  refine pX12_246 rfl dX12_plain_17 (isM_0 hM) ?_
  refine a_aload_n (i := 0) dX12_plain_20 rfl rfl ?_
  refine a_iconst (v := 0) dX12_plain_21 (by decide) ?_
  refine pX12_249 rfl dX12_plain_22 (isM_0 hM) ?_
  refine a_aload_n (i := 0) dX12_plain_25 rfl rfl ?_
  refine a_iconst (v := 0) dX12_plain_26 (by decide) ?_
  refine pX12_252 rfl dX12_plain_27 (isM_0 hM) ?_
  refine a_aload_n (i := 0) dX12_plain_30 rfl rfl ?_
  refine a_iconst (v := 0) dX12_plain_31 (by decide) ?_
  refine pX12_255 rfl dX12_plain_32 (isM_0 hM) ?_
  rw [← hz]
  refine a_iconst (v := 0) dX12_plain_35 (by decide) ?_
  refine a_istore_n (i := 1) dX12_plain_36 rfl (by decide) ?_
  exact a_loc _ rfl (L1 2 0 rfl z z0 (fun k hk => absurd hk (Nat.not_lt_zero k)) zF)
end qBH
