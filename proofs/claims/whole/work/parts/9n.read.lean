/-! READING, a whole text; pure, for both sides; the class's read -/
def rdL (B : Nat → Nat) (n : Nat) (P : pS) : pS :=
  if (tok B n P.2.2.2.1).1 = 0 then ((lnHouse B n P.1 P.2.2.2).1, P.2.1, P.2.2.1, (lnHouse B n P.1 P.2.2.2).2)
  else if (tok B n P.2.2.2.1).1 = 1 then ((lnMan B n P.1 P.2.2.2).1, P.2.1, P.2.2.1, (lnMan B n P.1 P.2.2.2).2)
  else if (tok B n P.2.2.2.1).1 = 2 then ((lnDeed B n 0 P.1 P.2.2.2).1, P.2.1, P.2.2.1, (lnDeed B n 0 P.1 P.2.2.2).2)
  else if (tok B n P.2.2.2.1).1 = 3 then ((lnDeed B n 1 P.1 P.2.2.2).1, P.2.1, P.2.2.1, (lnDeed B n 1 P.1 P.2.2.2).2)
  else if (tok B n P.2.2.2.1).1 = 4 then ((lnWed B n P.1 P.2.2.2).1, P.2.1, P.2.2.1, (lnWed B n P.1 P.2.2.2).2)
  else if (tok B n P.2.2.2.1).1 = 5 then ((lnStrip B n P.1 P.2.2.2).1, P.2.1, P.2.2.1, (lnStrip B n P.1 P.2.2.2).2)
  else if (tok B n P.2.2.2.1).1 = 6 then ((lnDamp B n (P.2.2.1 0) P.1 P.2.2.2).1, P.2.1, gup P.2.2.1 0, (lnDamp B n (P.2.2.1 0) P.1 P.2.2.2).2)
  else if (tok B n P.2.2.2.1).1 = 7 then ((lnSeed B n (P.2.2.1 1) P.1 P.2.2.2).1, P.2.1, gup P.2.2.1 1, (lnSeed B n (P.2.2.1 1) P.1 P.2.2.2).2)
  else if (tok B n P.2.2.2.1).1 = 8 then lnLaw B n P
  else (P.1, P.2.1, P.2.2.1, pFl B n 1 P.2.2.2)
def rdN (B : Nat → Nat) (n : Nat) (P : pS) : pS := ((lnEnd B n (rdL B n P).1 (rdL B n P).2.2.2).1, (rdL B n P).2.1, (rdL B n P).2.2.1, (lnEnd B n (rdL B n P).1 (rdL B n P).2.2.2).2)
def rdGo (B : Nat → Nat) (n : Nat) : Nat → pS → pS
  | 0, P => P
  | F + 1, P => if (tok B n P.2.2.2.1).1 = 37 ∨ ¬ P.2.2.2.2.1 = 0 then P else rdGo B n F (rdN B n P)
def pS0 : pS := ((fun _ => 0, fun _ _ => 0, fun _ _ => 0), fun _ => (0, fun _ => 0, fun _ => 0), fun _ => false, (0, 0, 0))
/-- frame of read -/
def cRf (t : Nat) (x y : aS) : Prop := (∀ m j, ¬ (m = bTp ∧ 2 ≤ j ∧ j ≤ 6) → ¬ (m = bRd ∧ ¬ j = 1) → ¬ m = bRd + 5 → ¬ (t ≤ m ∧ m < t + 256) → y.1 m j = x.1 m j) ∧ y.2 = x.2
section qAU
variable {l : Launch} {d : Nat} {D : Nat → Bool} {x y z : aS} {n t : Nat} {B : Nat → Nat} {P : pS} {T : zT} {r : zP}
theorem cRf_t (h : cRf t x y) (g : cLx t y z) : cRf t x z := ⟨fun m j a b c e => (g.1 m j (fun k => a ⟨k.1, by omega⟩) b c e).trans (h.1 m j a b c e), g.2.trans h.2⟩
theorem h7_house : (lnHouse B n T r).1.1 7 = T.1 7 := by unfold lnHouse; split; rfl; split <;> rfl
theorem h7_man : (lnMan B n T r).1.1 7 = T.1 7 := by unfold lnMan; split; rfl; split <;> rfl
theorem h7_deed {s : Nat} : (lnDeed B n s T r).1.1 7 = T.1 7 := by unfold lnDeed; split <;> rfl
theorem h7_wed : (lnWed B n T r).1.1 7 = T.1 7 := by unfold lnWed; split; rfl; split <;> rfl
theorem h7_strip : (lnStrip B n T r).1.1 7 = T.1 7 := by unfold lnStrip; split <;> rfl
theorem h7_damp {g : Bool} : (lnDamp B n g T r).1.1 7 = T.1 7 := by unfold lnDamp; split <;> rfl
theorem h7_seed {g : Bool} : (lnSeed B n g T r).1.1 7 = T.1 7 := by unfold lnSeed; split <;> rfl
theorem h7_end : (lnEnd B n T r).1.1 7 = T.1 7 := by unfold lnEnd; split; rfl; split <;> rfl
theorem mon_r : mon n r r := fun e => ⟨e, fun k => ⟨Nat.le_refl _, k⟩⟩
theorem mon_end : mon n r (lnEnd B n T r).2 := by
  unfold lnEnd
  split
  · exact mon_r
  · split
    · exact mon_fl (by decide)
    · exact mon_go (Classical.not_not.mp (by assumption))
theorem mon_law (h0 : P.2.2.2.2.1 = 0) (hi : P.2.2.2.1 ≤ n) (ok : pLw P) : mon n P.2.2.2 (lnLaw B n P).2.2.2 := by
  unfold lnLaw
  split
  · exact mon_t (mon_go h0) (mon_fl (by decide))
  · split
    · exact mon_t (mon_go h0) (mon_fl (by decide))
    · rename_i e1 e2
      obtain ⟨k7, kW⟩ := ok h0
      have i1 : (pGo B n P.2.2.2).1 ≤ n := (tok_ok (B := B) hi).2.2.2.1
      have i2 : (pGo B n (pGo B n P.2.2.2)).1 ≤ n := (tok_ok (B := B) i1).2.2.2.1
      have e3 : 9 ≤ (tok B n (pGo B n P.2.2.2).1).1 ∧ (tok B n (pGo B n P.2.2.2).1).1 ≤ 11 := Classical.not_not.mp e1
      obtain ⟨q, hq⟩ : ∃ q, q = (tok B n (pGo B n P.2.2.2).1).1 - 9 := ⟨_, rfl⟩
      rw [← hq] at e2 ⊢
      have w0 := (kW q (by omega)).2 (by cases h : P.2.2.1 (2 + q) <;> simp_all)
      exact mon_t (mon_go h0) (mon_t (mon_go rfl) (eGo_ok (B := B) (n := n) (f := P.1.1 7) (n + 1) (pGo B n (pGo B n P.2.2.2), true, 0, (fun _ => 0), P.2.1 q, 0, P.1.1 7) (fun _ => ⟨i2, by show P.1.1 7 + (P.2.1 q).1 + 0 = P.1.1 7; rw [w0]; rfl, k7, rfl, Nat.zero_le _, fun j hj => absurd hj (Nat.not_lt_zero j)⟩) (fun _ => by show n + 1 ≤ (pGo B n (pGo B n P.2.2.2)).1 + (n + 1); omega)).2)
theorem mon_l (h0 : P.2.2.2.2.1 = 0) (hi : P.2.2.2.1 ≤ n) (ok : pLw P) : mon n P.2.2.2 (rdL B n P).2.2.2 := by
  unfold rdL
  split; exact mon_house h0
  split; exact mon_man h0
  split; exact mon_deed h0
  split; exact mon_deed h0
  split; exact mon_wed h0
  split; exact mon_strip h0
  split; exact mon_damp h0
  split; exact mon_seed h0
  split; exact mon_law h0 hi ok
  exact mon_fl (by decide)
/-- a line goes on by one place, if it is good -/
theorem mon_n (h0 : P.2.2.2.2.1 = 0) (hi : P.2.2.2.1 ≤ n) (ok : pLw P) (g : (rdN B n P).2.2.2.2.1 = 0) : (rdL B n P).2.2.2.2.1 = 0 ∧ (tok B n (rdL B n P).2.2.2.1).1 = 26 ∧ P.2.2.2.1 ≤ (rdL B n P).2.2.2.1 ∧ (rdL B n P).2.2.2.1 < (rdN B n P).2.2.2.1 ∧ (rdN B n P).2.2.2.1 ≤ n := by
  have m := mon_l (B := B) h0 hi ok
  have e : (rdN B n P).2.2.2 = (lnEnd B n (rdL B n P).1 (rdL B n P).2.2.2).2 := rfl
  rw [e] at g ⊢
  have m2 := mon_end (B := B) (n := n) (T := (rdL B n P).1) (r := (rdL B n P).2.2.2) g
  obtain ⟨a, b⟩ := m2
  obtain ⟨-, c⟩ := m a
  have c := c hi
  have b := b c.2
  unfold lnEnd at g b ⊢
  rw [if_neg (fun k => k a)] at g b ⊢
  by_cases k : (tok B n (rdL B n P).2.2.2.1).1 = 26
  · rw [if_neg (fun h => h k)] at g b ⊢
    exact ⟨a, k, c.1, (tok_ok (B := B) c.2).2.2.2.2.1 (by omega), b.2⟩
  · rw [if_pos k] at g
    exact absurd g (by show ¬ 1 = 0; decide)
theorem cK_up {v : Int32} {j k : Nat} {T' : zT} {r' : zP} (hj : (j = 2 ∧ k = 0) ∨ (j = 3 ∧ k = 1)) (h : cK n B t P x) (hI : cI n B t T' r' y) (y2 : y.1 bRd j = 1) (F : cLn t (aWr x bRd j v) y) (h7 : T'.1 7 = P.1.1 7) (hm : mon n P.2.2.2 r') : cK n B t (T', P.2.1, gup P.2.2.1 k, r') y ∧ cLx t x y := by
  have ht := h.1.1
  obtain ⟨b1, b2⟩ := bRT ht (Nat.le_refl t)
  have h1 : cK n B t (P.1, P.2.1, gup P.2.2.1 k, P.2.2.2) (aWr x bRd j 1) := by
    obtain ⟨I, h2, h3, hL, hP⟩ := h
    refine ⟨cI_f I (by omega), ?_, ?_, fun q hq => ?_, fun e => ?_⟩
    · show _ = bI (gup P.2.2.1 k 0)
      rcases hj with ⟨rfl, rfl⟩ | ⟨rfl, rfl⟩
      · rw [aWr_s]; rfl
      · rw [aWr_j _ _ _ (by decide), h2]; rfl
    · show _ = bI (gup P.2.2.1 k 1)
      rcases hj with ⟨rfl, rfl⟩ | ⟨rfl, rfl⟩
      · rw [aWr_j _ _ _ (by decide), h3]; rfl
      · rw [aWr_s]; rfl
    · show _ = bI (gup P.2.2.1 k (2 + q)) ∧ _
      rw [show gup P.2.2.1 k (2 + q) = P.2.2.1 (2 + q) from by unfold gup; rw [if_neg (by omega)]]
      obtain ⟨u, v, w⟩ := hL q hq
      exact ⟨by rw [aWr_n _ _ _ (show t + (130 + q) ≠ bRd by omega)]; exact u, by rw [aWr_n _ _ _ (show t + (130 + q) ≠ bRd by omega)]; exact v, fun i hi => by rw [aWr_n _ _ _ (show t + (130 + q) + 10 ≠ bRd by omega), aWr_n _ _ _ (show t + (130 + q) + 20 ≠ bRd by omega)]; exact w i hi⟩
    · obtain ⟨a, b⟩ := hP e
      refine ⟨a, fun q hq => ⟨(b q hq).1, fun f => (b q hq).2 ?_⟩⟩
      have : gup P.2.2.1 k (2 + q) = P.2.2.1 (2 + q) := by unfold gup; rw [if_neg (by omega)]
      rw [← this]; exact f
  have F1 : cLn t (aWr x bRd j 1) y := by
    refine ⟨fun m i a b c => ?_, F.2⟩
    by_cases e : m = bRd ∧ i = j
    · rw [e.1, e.2, y2, aWr_s]
    · rw [F.1 m i a b c, aWr_o _ _ e, aWr_o _ _ e]
  have r1 := cK_ln (P := (P.1, P.2.1, gup P.2.2.1 k, P.2.2.2)) h1 hI F1 h7 hm
  refine ⟨r1, cLx_t (y := aWr x bRd j 1) ⟨fun m i _ b _ _ => aWr_o _ _ (by omega), rfl⟩ (cLx_l F1)⟩
theorem tCl_f {m : Nat} (h : m < t ∨ t + 256 ≤ m) : (tClear x t).1 m = x.1 m := by
  unfold tClear wClear
  repeat rw [aWr_n _ _ _ (by omega)]
theorem tCl_0 {j : Nat} (h : j = 0 ∨ j = 1 ∨ j = 4 ∨ j = 10 ∨ j = 12 ∨ j = 14 ∨ j = 16 ∨ j = 17 ∨ j = 18) : (tClear x t).1 t j = 0 := by
  unfold tClear wClear
  iterate 6 rw [aWr_n _ _ _ (by omega)]
  rcases h with rfl | rfl | rfl | rfl | rfl | rfl | rfl | rfl | rfl <;> repeat (first | rw [aWr_s] | rw [aWr_j _ _ _ (by decide)])
theorem tCl_w {q j : Nat} (hq : q < 3) (h : j = 0 ∨ j = 1) : (tClear x t).1 (t + (130 + q)) j = 0 := by
  unfold tClear wClear
  rcases (by omega : q = 0 ∨ q = 1 ∨ q = 2) with rfl | rfl | rfl <;> rcases h with rfl | rfl <;> repeat (first | rw [aWr_s] | rw [aWr_j _ _ _ (by decide)] | rw [aWr_n _ _ _ (by omega)])
set_option maxHeartbeats 8000000 in
set_option maxRecDepth 100000 in
theorem c_X3_read (hD : aDC D) (ht : aTdB t) (hp : (x.1 bRd 1).toNatClampNeg * 256 = t) (hn : n ≤ 700) (hB : ∀ i, i < n → B i < 256 ∧ x.1 (bTp + 2) i = sB (B i)) : aCt l mX3_read (d + 9) D [.ref bRd, .int (nI n)] x (fun v y => v = some (.int (bI (decide ((rdGo B n (n + 1) pS0).2.2.2.2.1 = 0)))) ∧ cK n B t (rdGo B n (n + 1) pS0) y ∧ cRf t x y) := by
  refine a_met (by decide) (Nat.le_of_ble_eq_true rfl) (fun v y q => Or.inr (Or.inl ⟨rfl, _, q.1, bI_01 _⟩)) ?_
  obtain ⟨b1, b2⟩ := bRT ht (Nat.le_refl t)
  have L : ∀ F c P (y : aS), F + c = n + 1 → cK n B t P y → (P.2.2.2.2.1 = 0 → c ≤ P.2.2.2.1) → cRf t x y → aV l mX3_read (d + 9) D none 37 [(0, .ref bRd), (1, .int (nI n)), (2, .int (nI c))] [] y (fun v y => v = some (.int (bI (decide ((rdGo B n F P).2.2.2.2.1 = 0)))) ∧ cK n B t (rdGo B n F P) y ∧ cRf t x y) := by
    have X : ∀ P (y : aS) c, cK n B t P y → cRf t x y → aV l mX3_read (d + 9) D none 191 [(0, .ref bRd), (1, .int (nI n)), (2, .int (nI c))] [] y (fun v y => v = some (.int (bI (decide (P.2.2.2.2.1 = 0)))) ∧ cK n B t P y ∧ cRf t x y) := by
      intro P y c K F
      have f7 := K.1.2.2.2.1.1
      have f5 := K.1.2.2.2.1.2.1
      by_cases f0 : P.2.2.2.2.1 = 0
      · rw [bI_t f0]
        rw [f0] at f7
        refine a_aload_n (i := 0) dX3_read_191 rfl rfl ?_
        refine gX3_43 rfl dX3_read_192 (isRd_0 hD) ?_
        rw [f7]
        refine a_if_ne (tg := 202) dX3_read_195 (by decide) (fun c_195 => ?_) (fun c_195 => ?_)
        · exact absurd rfl c_195
        · refine a_iconst (v := 1) dX3_read_198 (by decide) ?_
          refine a_goto (tg := 203) dX3_read_199 (by decide) ?_
          exact a_iret dX3_read_203 (by exact ⟨rfl, K, F⟩)
      · rw [bI_f f0]
        have f7n : ¬ y.1 bRd 7 = 0 := by rw [f7]; exact fun e => f0 ((nI_eq (b := 0) (by omega) (by decide)).mp e)
        refine a_aload_n (i := 0) dX3_read_191 rfl rfl ?_
        refine gX3_43 rfl dX3_read_192 (isRd_0 hD) ?_
        refine a_if_ne (tg := 202) dX3_read_195 (by decide) (fun c_195 => ?_) (fun c_195 => ?_)
        · refine a_iconst (v := 0) dX3_read_202 (by decide) ?_
          exact a_iret dX3_read_203 (by exact ⟨rfl, K, F⟩)
        · exact absurd c_195 f7n
    intro F
    induction F with
    | zero =>
      intro c P y hF K hc R
      have f0 : ¬ P.2.2.2.2.1 = 0 := fun e => by have := hc e; have := (K.1.2.2.2.1.2.2.1 e).1; omega
      have f7n : ¬ y.1 bRd 7 = 0 := by rw [K.1.2.2.2.1.1]; exact fun e => f0 ((nI_eq (b := 0) (by have := K.1.2.2.2.1.2.1; omega) (by decide)).mp e)
      have E := X P y c K R
      refine a_iload_n (i := 2) dX3_read_37 rfl rfl ?_
      refine a_sipush (v := 700) dX3_read_38 (by decide) ?_
      refine a_icmp_gt (tg := 191) dX3_read_41 (by decide) (fun c_41 => ?_) (fun c_41 => ?_)
      · exact a_loc _ rfl E
      · refine a_aload_n (i := 0) dX3_read_44 rfl rfl ?_
        refine gX3_12 rfl dX3_read_45 (isRd_0 hD) ?_
        refine gX3_50 rfl dX3_read_48 (isTp_0 hD) ?_
        refine a_bipush (v := 37) dX3_read_51 (by decide) ?_
        refine a_icmp_eq (tg := 191) dX3_read_53 (by decide) (fun c_53 => ?_) (fun c_53 => ?_)
        · exact a_loc _ rfl E
        · refine a_aload_n (i := 0) dX3_read_56 rfl rfl ?_
          refine gX3_43 rfl dX3_read_57 (isRd_0 hD) ?_
          refine a_if_ne (tg := 191) dX3_read_60 (by decide) (fun c_60 => ?_) (fun c_60 => ?_)
          · exact a_loc _ rfl E
          · exact absurd c_60 f7n
    | succ F ih =>
      intro c P y hF K hc R
      obtain ⟨I, h2, h3, hL, hP⟩ := id K
      have hr := I.2.2.2.1
      by_cases f0 : P.2.2.2.2.1 = 0
      · obtain ⟨hi, hk, -⟩ := hr.2.2.1 f0
        have f7 : y.1 bRd 7 = 0 := by rw [hr.1, f0]; rfl
        have kd := hk.2.1
        have cc := hc f0
        have tk := tok_ok (B := B) hi
        have tk9 := tk.2.2.2.2.2.1
        by_cases k37 : (tok B n P.2.2.2.1).1 = 37
        · have E := X P y c K R
          rw [rdGo, if_pos (Or.inl k37)]
          rw [k37] at kd
          refine a_iload_n (i := 2) dX3_read_37 rfl rfl ?_
          refine a_sipush (v := 700) dX3_read_38 (by decide) ?_
          refine a_icmp_gt (tg := 191) dX3_read_41 (by decide) (fun c_41 => ?_) (fun c_41 => ?_)
          · exact absurd c_41 (nI_nlt (a := 700) (b := c) (by omega) (by decide))
          · refine a_aload_n (i := 0) dX3_read_44 rfl rfl ?_
            refine gX3_12 rfl dX3_read_45 (isRd_0 hD) ?_
            refine gX3_50 rfl dX3_read_48 (isTp_0 hD) ?_
            rw [kd]
            refine a_bipush (v := 37) dX3_read_51 (by decide) ?_
            refine a_icmp_eq (tg := 191) dX3_read_53 (by decide) (fun c_53 => ?_) (fun c_53 => ?_)
            · exact a_loc _ rfl E
            · exact absurd rfl c_53
        · rw [rdGo, if_neg (by intro e; rcases e with e | e; exact k37 e; exact e f0)]
          have E : ∀ y1 : aS, cK n B t (rdL B n P) y1 → cLx t y y1 → aV l mX3_read (d + 9) D none 181 [(0, .ref bRd), (1, .int (nI n)), (2, .int (nI c))] [] y1 (fun v y => v = some (.int (bI (decide ((rdGo B n F (rdN B n P)).2.2.2.2.1 = 0)))) ∧ cK n B t (rdGo B n F (rdN B n P)) y ∧ cRf t x y) := by
            intro y1 K1 F1
            refine a_aload_n (i := 0) dX3_read_181 rfl rfl ?_
            refine kgX3_80 rfl dX3_read_182 (Nat.le_of_ble_eq_true rfl) (isRd_0 hD) (c_X3_endLine hD K1.1) ?_
            rintro v y2 ⟨rfl, I2, F2⟩
            refine a_iincK (i := 2) (u := 1) dX3_read_185 rfl (by decide) (by decide) ?_
            rw [nI_1]
            refine a_goto (tg := 37) dX3_read_188 (by decide) ?_
            exact a_loc _ rfl (ih (c + 1) (rdN B n P) y2 (by omega) (cK_ln K1 I2 F2 h7_end mon_end) (fun e => by have := mon_n f0 hi hP e; omega) (cRf_t R (cLx_t F1 (cLx_l F2))))
          have nk : ∀ v : Nat, v < 39 → ¬ nI (tok B n P.2.2.2.1).1 = nI v → ¬ (tok B n P.2.2.2.1).1 = v := fun v hv g e => g (by rw [e])
          have ek : ∀ v : Nat, v < 39 → nI (tok B n P.2.2.2.1).1 = nI v → (tok B n P.2.2.2.1).1 = v := fun v hv g => (nI_eq (by omega) (by omega)).mp g
          refine a_iload_n (i := 2) dX3_read_37 rfl rfl ?_
          refine a_sipush (v := 700) dX3_read_38 (by decide) ?_
          refine a_icmp_gt (tg := 191) dX3_read_41 (by decide) (fun c_41 => ?_) (fun c_41 => ?_)
          · exact absurd c_41 (nI_nlt (a := 700) (b := c) (by omega) (by decide))
          · refine a_aload_n (i := 0) dX3_read_44 rfl rfl ?_
            refine gX3_12 rfl dX3_read_45 (isRd_0 hD) ?_
            refine gX3_50 rfl dX3_read_48 (isTp_0 hD) ?_
            rw [kd]
            refine a_bipush (v := 37) dX3_read_51 (by decide) ?_
            refine a_icmp_eq (tg := 191) dX3_read_53 (by decide) (fun c_53 => ?_) (fun c_53 => ?_)
            · exact absurd (ek 37 (by decide) c_53) k37
            · refine a_aload_n (i := 0) dX3_read_56 rfl rfl ?_
              refine gX3_43 rfl dX3_read_57 (isRd_0 hD) ?_
              rw [f7]
              refine a_if_ne (tg := 191) dX3_read_60 (by decide) (fun c_60 => ?_) (fun c_60 => ?_)
              · exact absurd rfl c_60
              · refine a_aload_n (i := 0) dX3_read_63 rfl rfl ?_
                refine gX3_12 rfl dX3_read_64 (isRd_0 hD) ?_
                refine gX3_50 rfl dX3_read_67 (isTp_0 hD) ?_
                rw [kd]
                refine sX3_read_70 dX3_read_70 (fun s_70 => ?_) (fun s_70 => ?_) (fun s_70 => ?_) (fun s_70 => ?_) (fun s_70 => ?_) (fun s_70 => ?_) (fun s_70 => ?_) (fun s_70 => ?_) (fun s_70 => ?_) (fun s_70_0 s_70_1 s_70_2 s_70_3 s_70_4 s_70_5 s_70_6 s_70_7 s_70_8 => ?_)
                · have e := ek 0 (by decide) s_70
                  have g : rdL B n P = ((lnHouse B n P.1 P.2.2.2).1, P.2.1, P.2.2.1, (lnHouse B n P.1 P.2.2.2).2) := by unfold rdL; rw [if_pos e]
                  refine a_aload_n (i := 0) dX3_read_120 rfl rfl ?_
                  refine kgX3_53 rfl dX3_read_121 (Nat.le_of_ble_eq_true rfl) (isRd_0 hD) (c_X3_readHouse hD I f0) ?_
                  rintro v y1 ⟨rfl, I1, F1⟩
                  have K1 : cK n B t (rdL B n P) y1 := by rw [g]; exact cK_ln K I1 F1 h7_house (mon_house f0)
                  have F1 : cLx t y y1 := cLx_l F1
                  refine a_goto (tg := 181) dX3_read_124 (by decide) ?_
                  exact a_loc _ rfl (E y1 K1 F1)
                · have e := ek 1 (by decide) s_70
                  have g : rdL B n P = ((lnMan B n P.1 P.2.2.2).1, P.2.1, P.2.2.1, (lnMan B n P.1 P.2.2.2).2) := by unfold rdL; rw [if_neg (by omega), if_pos e]
                  refine a_aload_n (i := 0) dX3_read_127 rfl rfl ?_
                  refine kgX3_56 rfl dX3_read_128 (Nat.le_of_ble_eq_true rfl) (isRd_0 hD) (c_X3_readMan hD I f0) ?_
                  rintro v y1 ⟨rfl, I1, F1⟩
                  have K1 : cK n B t (rdL B n P) y1 := by rw [g]; exact cK_ln K I1 F1 h7_man (mon_man f0)
                  have F1 : cLx t y y1 := cLx_l F1
                  refine a_goto (tg := 181) dX3_read_131 (by decide) ?_
                  exact a_loc _ rfl (E y1 K1 F1)
                · have e := ek 2 (by decide) s_70
                  have g : rdL B n P = ((lnDeed B n 0 P.1 P.2.2.2).1, P.2.1, P.2.2.1, (lnDeed B n 0 P.1 P.2.2.2).2) := by unfold rdL; rw [if_neg (by omega), if_neg (by omega), if_pos e]
                  have eX := c_X3_readDeed (l := l) (d := d) (s := 0) hD I f0 (by decide) e
                  have m7 := mon_deed (B := B) (n := n) (T := P.1) (s := 0) f0
                  have z7 := h7_deed (B := B) (n := n) (T := P.1) (r := P.2.2.2) (s := 0)
                  refine a_aload_n (i := 0) dX3_read_134 rfl rfl ?_
                  refine kgX3_59 rfl dX3_read_135 (Nat.le_of_ble_eq_true rfl) (isRd_0 hD) (eX) ?_
                  rintro v y1 ⟨rfl, I1, F1⟩
                  have K1 : cK n B t (rdL B n P) y1 := by rw [g]; exact cK_ln K I1 F1 z7 m7
                  have F1 : cLx t y y1 := cLx_l F1
                  refine a_goto (tg := 181) dX3_read_138 (by decide) ?_
                  exact a_loc _ rfl (E y1 K1 F1)
                · have e := ek 3 (by decide) s_70
                  have g : rdL B n P = ((lnDeed B n 1 P.1 P.2.2.2).1, P.2.1, P.2.2.1, (lnDeed B n 1 P.1 P.2.2.2).2) := by unfold rdL; rw [if_neg (by omega), if_neg (by omega), if_neg (by omega), if_pos e]
                  have eX := c_X3_readDeed (l := l) (d := d) (s := 1) hD I f0 (by decide) e
                  have m7 := mon_deed (B := B) (n := n) (T := P.1) (s := 1) f0
                  have z7 := h7_deed (B := B) (n := n) (T := P.1) (r := P.2.2.2) (s := 1)
                  refine a_aload_n (i := 0) dX3_read_134 rfl rfl ?_
                  refine kgX3_59 rfl dX3_read_135 (Nat.le_of_ble_eq_true rfl) (isRd_0 hD) (eX) ?_
                  rintro v y1 ⟨rfl, I1, F1⟩
                  have K1 : cK n B t (rdL B n P) y1 := by rw [g]; exact cK_ln K I1 F1 z7 m7
                  have F1 : cLx t y y1 := cLx_l F1
                  refine a_goto (tg := 181) dX3_read_138 (by decide) ?_
                  exact a_loc _ rfl (E y1 K1 F1)
                · have e := ek 4 (by decide) s_70
                  have g : rdL B n P = ((lnWed B n P.1 P.2.2.2).1, P.2.1, P.2.2.1, (lnWed B n P.1 P.2.2.2).2) := by unfold rdL; rw [if_neg (by omega), if_neg (by omega), if_neg (by omega), if_neg (by omega), if_pos e]
                  refine a_aload_n (i := 0) dX3_read_141 rfl rfl ?_
                  refine kgX3_62 rfl dX3_read_142 (Nat.le_of_ble_eq_true rfl) (isRd_0 hD) (c_X3_readWedding hD I f0) ?_
                  rintro v y1 ⟨rfl, I1, F1⟩
                  have K1 : cK n B t (rdL B n P) y1 := by rw [g]; exact cK_ln K I1 F1 h7_wed (mon_wed f0)
                  have F1 : cLx t y y1 := cLx_l F1
                  refine a_goto (tg := 181) dX3_read_145 (by decide) ?_
                  exact a_loc _ rfl (E y1 K1 F1)
                · have e := ek 5 (by decide) s_70
                  have g : rdL B n P = ((lnStrip B n P.1 P.2.2.2).1, P.2.1, P.2.2.1, (lnStrip B n P.1 P.2.2.2).2) := by unfold rdL; rw [if_neg (by omega), if_neg (by omega), if_neg (by omega), if_neg (by omega), if_neg (by omega), if_pos e]
                  refine a_aload_n (i := 0) dX3_read_148 rfl rfl ?_
                  refine kgX3_65 rfl dX3_read_149 (Nat.le_of_ble_eq_true rfl) (isRd_0 hD) (c_X3_readStrip hD I f0) ?_
                  rintro v y1 ⟨rfl, I1, F1⟩
                  have K1 : cK n B t (rdL B n P) y1 := by rw [g]; exact cK_ln K I1 F1 h7_strip (mon_strip f0)
                  have F1 : cLx t y y1 := cLx_l F1
                  refine a_goto (tg := 181) dX3_read_152 (by decide) ?_
                  exact a_loc _ rfl (E y1 K1 F1)
                · have e := ek 6 (by decide) s_70
                  have g : rdL B n P = ((lnDamp B n (P.2.2.1 0) P.1 P.2.2.2).1, P.2.1, gup P.2.2.1 0, (lnDamp B n (P.2.2.1 0) P.1 P.2.2.2).2) := by unfold rdL; rw [if_neg (by omega), if_neg (by omega), if_neg (by omega), if_neg (by omega), if_neg (by omega), if_neg (by omega), if_pos e]
                  refine a_aload_n (i := 0) dX3_read_155 rfl rfl ?_
                  refine kgX3_68 rfl dX3_read_156 (Nat.le_of_ble_eq_true rfl) (isRd_0 hD) (c_X3_readDamp hD I f0 h2) ?_
                  rintro v y1 ⟨rfl, I1, w1, F1⟩
                  obtain ⟨K1, F1⟩ := cK_up (k := 0) (Or.inl ⟨rfl, rfl⟩) K I1 w1 F1 h7_damp (mon_damp f0)
                  rw [← g] at K1
                  refine a_goto (tg := 181) dX3_read_159 (by decide) ?_
                  exact a_loc _ rfl (E y1 K1 F1)
                · have e := ek 7 (by decide) s_70
                  have g : rdL B n P = ((lnSeed B n (P.2.2.1 1) P.1 P.2.2.2).1, P.2.1, gup P.2.2.1 1, (lnSeed B n (P.2.2.1 1) P.1 P.2.2.2).2) := by unfold rdL; rw [if_neg (by omega), if_neg (by omega), if_neg (by omega), if_neg (by omega), if_neg (by omega), if_neg (by omega), if_neg (by omega), if_pos e]
                  refine a_aload_n (i := 0) dX3_read_162 rfl rfl ?_
                  refine kgX3_71 rfl dX3_read_163 (Nat.le_of_ble_eq_true rfl) (isRd_0 hD) (c_X3_readSeed hD I f0 h3) ?_
                  rintro v y1 ⟨rfl, I1, w1, F1⟩
                  obtain ⟨K1, F1⟩ := cK_up (k := 1) (Or.inr ⟨rfl, rfl⟩) K I1 w1 F1 h7_seed (mon_seed f0)
                  rw [← g] at K1
                  refine a_goto (tg := 181) dX3_read_166 (by decide) ?_
                  exact a_loc _ rfl (E y1 K1 F1)
                · have e := ek 8 (by decide) s_70
                  have g : rdL B n P = lnLaw B n P := by unfold rdL; rw [if_neg (by omega), if_neg (by omega), if_neg (by omega), if_neg (by omega), if_neg (by omega), if_neg (by omega), if_neg (by omega), if_neg (by omega), if_pos e]
                  refine a_aload_n (i := 0) dX3_read_169 rfl rfl ?_
                  refine kgX3_74 rfl dX3_read_170 (Nat.le_of_ble_eq_true rfl) (isRd_0 hD) (c_X3_readLaw hD K f0) ?_
                  rintro v y1 ⟨rfl, K1, F1⟩
                  rw [← g] at K1
                  refine a_goto (tg := 181) dX3_read_173 (by decide) ?_
                  exact a_loc _ rfl (E y1 K1 F1)
                · have g : rdL B n P = (P.1, P.2.1, P.2.2.1, pFl B n 1 P.2.2.2) := by unfold rdL; rw [if_neg (nk 0 (by decide) s_70_0), if_neg (nk 1 (by decide) s_70_1), if_neg (nk 2 (by decide) s_70_2), if_neg (nk 3 (by decide) s_70_3), if_neg (nk 4 (by decide) s_70_4), if_neg (nk 5 (by decide) s_70_5), if_neg (nk 6 (by decide) s_70_6), if_neg (nk 7 (by decide) s_70_7), if_neg (nk 8 (by decide) s_70_8)]
                  have fl := cP_fl (c := 1) hr f0 (by decide) (by decide)
                  refine a_aload_n (i := 0) dX3_read_176 rfl rfl ?_
                  refine a_iconst (v := 1) dX3_read_177 (by decide) ?_
                  refine kX3_77 rfl dX3_read_178 (Nat.le_of_ble_eq_true rfl) (isRd_0 hD) (c_X3_fail (c := 1) hD hr f0) ?_
                  obtain ⟨y1, hy1⟩ : ∃ y1, y1 = aWr (aWr y bRd 7 (nI 1)) bRd 8 (nI (tok B n P.2.2.2.1).2.2.2.1) := ⟨_, rfl⟩
                  rw [← hy1] at fl ⊢
                  have K1 : cK n B t (rdL B n P) y1 := by rw [g]; exact cK_ln K (cI_u I fl.1 fl.2) (cLn_u fl.2) rfl (mon_fl (by decide))
                  have F1 : cLx t y y1 := cLx_u fl.2
                  exact a_loc _ rfl (E y1 K1 F1)
      · have f7n : ¬ y.1 bRd 7 = 0 := by rw [K.1.2.2.2.1.1]; exact fun e => f0 ((nI_eq (b := 0) (by have := K.1.2.2.2.1.2.1; omega) (by decide)).mp e)
        have E := X P y c K R
        rw [rdGo, if_pos (Or.inr f0)]
        refine a_iload_n (i := 2) dX3_read_37 rfl rfl ?_
        refine a_sipush (v := 700) dX3_read_38 (by decide) ?_
        refine a_icmp_gt (tg := 191) dX3_read_41 (by decide) (fun c_41 => ?_) (fun c_41 => ?_)
        · exact a_loc _ rfl E
        · refine a_aload_n (i := 0) dX3_read_44 rfl rfl ?_
          refine gX3_12 rfl dX3_read_45 (isRd_0 hD) ?_
          refine gX3_50 rfl dX3_read_48 (isTp_0 hD) ?_
          refine a_bipush (v := 37) dX3_read_51 (by decide) ?_
          refine a_icmp_eq (tg := 191) dX3_read_53 (by decide) (fun c_53 => ?_) (fun c_53 => ?_)
          · exact a_loc _ rfl E
          · refine a_aload_n (i := 0) dX3_read_56 rfl rfl ?_
            refine gX3_43 rfl dX3_read_57 (isRd_0 hD) ?_
            refine a_if_ne (tg := 191) dX3_read_60 (by decide) (fun c_60 => ?_) (fun c_60 => ?_)
            · exact a_loc _ rfl E
            · exact absurd c_60 f7n
  obtain ⟨z, hz⟩ : ∃ z, z = aWr (aWr (aWr (aWr (tClear x t) bRd 2 0) bRd 3 0) bRd 7 0) bRd 8 (-1) := ⟨_, rfl⟩
  have zf : ∀ m j, ¬ (m = bRd ∧ ¬ j = 1) → ¬ (t ≤ m ∧ m < t + 256) → z.1 m j = x.1 m j := by
    intro m j e1 e2
    rw [hz, aWr_o _ _ (by omega), aWr_o _ _ (by omega), aWr_o _ _ (by omega), aWr_o _ _ (by omega), tCl_f (by omega)]
  have zt : ∀ m, t ≤ m → z.1 m = (tClear x t).1 m := by
    intro m hm
    rw [hz, aWr_n _ _ _ (by omega), aWr_n _ _ _ (by omega), aWr_n _ _ _ (by omega), aWr_n _ _ _ (by omega)]
  have b3 : ¬ (t ≤ bTp + 2 ∧ bTp + 2 < t + 256) := by
    have e : bTp = 512 := by decide
    rcases ht with e2 | e2 <;> omega
  have zB : ∀ i, i < n → B i < 256 ∧ z.1 (bTp + 2) i = sB (B i) := fun i hi => ⟨(hB i hi).1, by rw [zf _ _ (fun e => absurd e.1 (by decide)) b3]; exact (hB i hi).2⟩
  have G : ∀ y : aS, cTk n B y → rK (tok B n 0) y → (∀ m j, ¬ (m = bTp ∧ 2 ≤ j ∧ j ≤ 6) → y.1 m j = z.1 m j) → y.2 = z.2 → cK n B t pS0 y ∧ cRf t x y := by
    intro y k1 k2 fr f2
    have fd : ∀ m j, t ≤ m → y.1 m j = (tClear x t).1 m j := fun m j hm => by rw [fr _ _ (by omega), zt m hm]
    have fb : ∀ j, y.1 bRd j = z.1 bRd j := fun j => fr _ _ (fun e => absurd e.1 (by decide))
    have a7 : y.1 bRd 7 = 0 := by rw [fb, hz, aWr_j _ _ _ (by decide), aWr_s]
    have a8 : y.1 bRd 8 = -1 := by rw [fb, hz, aWr_s]
    have a1 : y.1 bRd 1 = x.1 bRd 1 := by rw [fb, zf _ _ (by omega) (by omega)]
    refine ⟨⟨⟨ht, by rw [a1]; exact hp, k1, ⟨by rw [a7]; rfl, by decide, fun _ => ⟨Nat.zero_le _, k2, a8⟩, fun e => absurd rfl e⟩, ⟨?_, ?_, ?_, ?_, ?_, ?_, ?_, ?_, ?_, fun h hh => absurd hh (Nat.not_lt_zero h), fun h hh => absurd hh (Nat.not_lt_zero h), fun h hh => absurd hh (Nat.not_lt_zero h), fun h hh => absurd hh (Nat.not_lt_zero h), fun h hh => absurd hh (Nat.not_lt_zero h)⟩, ⟨Nat.zero_le _, Nat.zero_le _, Nat.zero_le _, Nat.zero_le _, Nat.zero_le _⟩⟩, ?_, ?_, fun q hq => ⟨?_, ?_, fun i hi => absurd hi (Nat.not_lt_zero i)⟩, fun _ => ⟨Nat.zero_le _, fun q _ => ⟨Nat.zero_le _, fun _ => rfl⟩⟩⟩, ⟨fun m j e1 e2 e3 e4 => by rw [fr m j e1]; exact zf m j e2 e4, by rw [f2, hz]; rfl⟩⟩
    all_goals first | (rw [fd _ _ (Nat.le_refl t), tCl_0 (by decide)]; rfl) | skip
    · rw [fb, hz, aWr_j _ _ _ (by decide), aWr_j _ _ _ (by decide), aWr_j _ _ _ (by decide), aWr_s]; rfl
    · rw [fb, hz, aWr_j _ _ _ (by decide), aWr_j _ _ _ (by decide), aWr_s]; rfl
    · rw [fd _ _ (by omega), tCl_w hq (Or.inl rfl)]; rfl
    · rw [fd _ _ (by omega), tCl_w hq (Or.inr rfl)]; rfl
  refine a_aload_n (i := 0) dX3_read_0 rfl rfl ?_
  refine gX3_21 rfl dX3_read_1 (isRd_0 hD) ?_
  rw [hp]
  refine kX3_33 rfl dX3_read_4 (Nat.le_of_ble_eq_true rfl) (isT_0 hD ht) (c_X8_clear hD ht) ?_
  refine a_aload_n (i := 0) dX3_read_7 rfl rfl ?_
  refine a_iconst (v := 0) dX3_read_8 (by decide) ?_
  refine pX3_36 rfl dX3_read_9 (isRd_0 hD) (by first | exact Or.inl rfl | exact Or.inr rfl | assumption) ?_
  refine a_aload_n (i := 0) dX3_read_12 rfl rfl ?_
  refine a_iconst (v := 0) dX3_read_13 (by decide) ?_
  refine pX3_40 rfl dX3_read_14 (isRd_0 hD) (by first | exact Or.inl rfl | exact Or.inr rfl | assumption) ?_
  refine a_aload_n (i := 0) dX3_read_17 rfl rfl ?_
  refine a_iconst (v := 0) dX3_read_18 (by decide) ?_
  refine pX3_43 rfl dX3_read_19 (isRd_0 hD) ?_
  refine a_aload_n (i := 0) dX3_read_22 rfl rfl ?_
  refine a_iconst (v := (-1)) dX3_read_23 (by decide) ?_
  refine pX3_29 rfl dX3_read_24 (isRd_0 hD) ?_
  rw [← hz]
  refine a_aload_n (i := 0) dX3_read_27 rfl rfl ?_
  refine gX3_12 rfl dX3_read_28 (isRd_0 hD) ?_
  refine a_iload_n (i := 1) dX3_read_31 rfl rfl ?_
  refine kgX3_46 rfl dX3_read_32 (Nat.le_of_ble_eq_true rfl) (isTp_0 hD) (c_X7_start (n := n) (B := B) hD hn zB) ?_
  rintro v y ⟨rfl, k1, k2, fr, f2⟩
  obtain ⟨K, R⟩ := G y k1 k2 fr f2
  refine a_iconst (v := 0) dX3_read_35 (by decide) ?_
  refine a_istore_n (i := 2) dX3_read_36 rfl (by decide) ?_
  exact a_loc _ rfl (L (n + 1) 0 pS0 y rfl K (fun _ => Nat.zero_le _) R)
end qAU
