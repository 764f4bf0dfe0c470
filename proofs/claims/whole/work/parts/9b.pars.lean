/-! READING, pure: a place in the text is (cursor, fault, the fault's place); fault 0: none -/
abbrev zP : Type := Nat × Nat × Nat
def pFl (B : Nat → Nat) (n c : Nat) (r : zP) : zP := (r.1, c, (tok B n r.1).2.2.2.1)
def pGo (B : Nat → Nat) (n : Nat) (r : zP) : zP := ((tok B n r.1).2.2.2.2, 0, 0)
def numP (B : Nat → Nat) (n lo hi : Nat) (r : zP) : zP × Nat := if ¬ r.2.1 = 0 then (r, 0) else if ¬ (tok B n r.1).1 = 23 then (pFl B n 1 r, 0) else if (tok B n r.1).2.1 < lo ∨ hi < (tok B n r.1).2.1 then (pFl B n 2 r, 0) else (pGo B n r, (tok B n r.1).2.1)
def namP (B : Nat → Nat) (n : Nat) (f : Nat → Int32) (N : Nat) (r : zP) : zP × Nat := if ¬ r.2.1 = 0 then (r, 0) else if ¬ (tok B n r.1).1 = 22 then (pFl B n 1 r, 0) else if zFind f (nI (tok B n r.1).2.1) 0 N = -1 then (pFl B n 4 r, 0) else (pGo B n r, (zFind f (nI (tok B n r.1).2.1) 0 N).toNatClampNeg)
def newP (B : Nat → Nat) (n : Nat) (f : Nat → Int32) (N : Nat) (r : zP) : zP := if ¬ (tok B n r.1).1 = 22 then pFl B n 1 r else if ¬ zFind f (nI (tok B n r.1).2.1) 0 N = -1 then pFl B n 3 r else r
def tu1 (T : zT) (k v : Nat) : zT := (fun j => if j = k then v else T.1 j, T.2)
def tui (T : zT) (f i : Nat) (v : Int32) : zT := (T.1, (fun g j => if g = f ∧ j = i then v else T.2.1 g j), T.2.2)
def tun (T : zT) (f i v : Nat) : zT := (T.1, T.2.1, fun g j => if g = f ∧ j = i then v else T.2.2 g j)
/-- the lines, laws apart -/
def lnHouse (B : Nat → Nat) (n : Nat) (T : zT) (r : zP) : zT × zP :=
  if 6 ≤ T.1 0 then (T, pFl B n 2 r) else if ¬ (newP B n (T.2.1 0) (T.1 0) (pGo B n r)).2.1 = 0 then (T, newP B n (T.2.1 0) (T.1 0) (pGo B n r))
  else (tu1 (tui (tui T 0 (T.1 0) (nI (tok B n (pGo B n r).1).2.1)) 1 (T.1 0) (nI (numP B n 0 99 (pGo B n (pGo B n r))).2)) 0 (T.1 0 + 1), (numP B n 0 99 (pGo B n (pGo B n r))).1)
def mn1 (B : Nat → Nat) (n : Nat) (T : zT) (r : zP) : zP × Nat := namP B n (T.2.1 0) (T.1 0) (pGo B n (pGo B n r))
def mn2 (B : Nat → Nat) (n : Nat) (T : zT) (r : zP) : zP × Nat := numP B n 0 99 (mn1 B n T r).1
def mn3 (B : Nat → Nat) (n : Nat) (T : zT) (r : zP) : zP × Nat := numP B n 0 7 (mn2 B n T r).1
def mn4 (B : Nat → Nat) (n : Nat) (T : zT) (r : zP) : zP × Nat := numP B n 0 20 (mn3 B n T r).1
def lnMan (B : Nat → Nat) (n : Nat) (T : zT) (r : zP) : zT × zP :=
  if 8 ≤ T.1 1 then (T, pFl B n 2 r) else if ¬ (newP B n (T.2.1 2) (T.1 1) (pGo B n r)).2.1 = 0 then (T, newP B n (T.2.1 2) (T.1 1) (pGo B n r))
  else (tu1 (tui (tun (tui (tun (tui T 2 (T.1 1) (nI (tok B n (pGo B n r).1).2.1)) 0 (T.1 1) (mn1 B n T r).2) 3 (T.1 1) (nI (mn2 B n T r).2)) 1 (T.1 1) (mn3 B n T r).2) 4 (T.1 1) (nI (mn4 B n T r).2)) 1 (T.1 1 + 1), (mn4 B n T r).1)
def de1 (B : Nat → Nat) (n : Nat) (T : zT) (r : zP) : zP × Nat := namP B n (T.2.1 0) (T.1 0) (pGo B n r)
def de2 (B : Nat → Nat) (n : Nat) (T : zT) (r : zP) : zP × Nat := numP B n 0 7 (de1 B n T r).1
def de3 (B : Nat → Nat) (n : Nat) (T : zT) (r : zP) : zP × Nat := numP B n 1 20 (de2 B n T r).1
def de4 (B : Nat → Nat) (n : Nat) (T : zT) (r : zP) : zP × Nat := numP B n 0 99 (de3 B n T r).1
def lnDeed (B : Nat → Nat) (n s : Nat) (T : zT) (r : zP) : zT × zP :=
  if 14 ≤ T.1 2 then (T, pFl B n 2 r)
  else (tu1 (tui (tui (tun (tun (tun T 4 (T.1 2) s) 2 (T.1 2) (de1 B n T r).2) 3 (T.1 2) (de2 B n T r).2) 5 (T.1 2) (nI (de3 B n T r).2)) 6 (T.1 2) (nI (de4 B n T r).2)) 2 (T.1 2 + 1), (de4 B n T r).1)
def we1 (B : Nat → Nat) (n : Nat) (T : zT) (r : zP) : zP × Nat := namP B n (T.2.1 2) (T.1 1) (pGo B n r)
def we2 (B : Nat → Nat) (n : Nat) (T : zT) (r : zP) : zP × Nat := namP B n (T.2.1 2) (T.1 1) (we1 B n T r).1
def we3 (B : Nat → Nat) (n : Nat) (T : zT) (r : zP) : zP × Nat := numP B n 0 99 (we2 B n T r).1
def lnWed (B : Nat → Nat) (n : Nat) (T : zT) (r : zP) : zT × zP :=
  if 6 ≤ T.1 3 then (T, pFl B n 2 r)
  else if (we1 B n T r).1.2.1 = 0 ∧ (tok B n (we1 B n T r).1.1).1 = 22 ∧ (tok B n (we1 B n T r).1.1).2.1 = (tok B n (pGo B n r).1).2.1 then (T, pFl B n 5 (we1 B n T r).1)
  else (tu1 (tui (tun (tun T 5 (T.1 3) (we1 B n T r).2) 6 (T.1 3) (we2 B n T r).2) 7 (T.1 3) (nI (we3 B n T r).2)) 3 (T.1 3 + 1), (we3 B n T r).1)
def lnStrip (B : Nat → Nat) (n : Nat) (T : zT) (r : zP) : zT × zP :=
  if 4 ≤ T.1 4 then (T, pFl B n 2 r) else (tu1 (tui T 8 (T.1 4) (nI (numP B n 0 99 (pGo B n r)).2)) 4 (T.1 4 + 1), (numP B n 0 99 (pGo B n r)).1)
def lnDamp (B : Nat → Nat) (n : Nat) (g : Bool) (T : zT) (r : zP) : zT × zP :=
  if g = true then (T, pFl B n 3 r) else (tu1 T 5 (numP B n 0 100 (pGo B n r)).2, (numP B n 0 100 (pGo B n r)).1)
def lnSeed (B : Nat → Nat) (n : Nat) (g : Bool) (T : zT) (r : zP) : zT × zP :=
  if g = true then (T, pFl B n 3 r) else (tu1 T 6 (numP B n 0 99999 (pGo B n r)).2, (numP B n 0 99999 (pGo B n r)).1)
/-! READING, the class: the takes -/
def cP (n : Nat) (B : Nat → Nat) (r : zP) (x : aS) : Prop := x.1 bRd 7 = nI r.2.1 ∧ r.2.1 ≤ 5 ∧ (r.2.1 = 0 → r.1 ≤ n ∧ rK (tok B n r.1) x ∧ x.1 bRd 8 = -1) ∧ (¬ r.2.1 = 0 → x.1 bRd 8 = nI r.2.2)
/-- frame of the takes -/
def cU (x y : aS) : Prop := (∀ m j, ¬ (m = bTp ∧ 3 ≤ j ∧ j ≤ 6) → ¬ (m = bRd ∧ (j = 7 ∨ j = 8)) → y.1 m j = x.1 m j) ∧ y.2 = x.2
theorem cU_t {x y z : aS} (h : cU x y) (g : cU y z) : cU x z := ⟨fun m j e f => (g.1 m j e f).trans (h.1 m j e f), g.2.trans h.2⟩
theorem cU_s {x y : aS} (h : cSt x y) : cU x y := ⟨fun m j e _ => h.1 m j e, h.2⟩
theorem cTk_u {n : Nat} {B : Nat → Nat} {x y : aS} (h : cTk n B x) (g : cU x y) : cTk n B y := ⟨by rw [g.1 _ _ (by omega) (fun e => absurd e.1 (by decide))]; exact h.1, h.2.1, fun i hi => ⟨(h.2.2 i hi).1, by rw [g.1 _ _ (fun e => absurd e.1 (by decide)) (fun e => absurd e.1 (by decide))]; exact (h.2.2 i hi).2⟩⟩
theorem zFind_of {f : Nat → Int32} {a : Int32} : ∀ (n i : Nat), i + n < 2 ^ 31 → zFind f a i n = -1 ∨ ∃ k, i ≤ k ∧ k < i + n ∧ zFind f a i n = nI k ∧ f k = a := by
  intro n
  induction n with
  | zero => intro i _; exact Or.inl rfl
  | succ n ih =>
    intro i h
    show (if f i = a then nI i else zFind f a (i + 1) n) = -1 ∨ ∃ k, _ ∧ _ ∧ (if f i = a then nI i else zFind f a (i + 1) n) = nI k ∧ _
    by_cases e : f i = a
    · rw [if_pos e]; exact Or.inr ⟨i, Nat.le_refl _, by omega, rfl, e⟩
    · rw [if_neg e]
      rcases ih (i + 1) (by omega) with q | ⟨k, h1, h2, h3, h4⟩
      · exact Or.inl q
      · exact Or.inr ⟨k, by omega, by omega, h3, h4⟩
theorem nI_m1 {k : Nat} (h : k < 2 ^ 31) : ¬ nI k = -1 := fun e => by
  have := nI_toInt h
  rw [e] at this
  have h2 : (-1 : Int32).toInt = -1 := by decide
  omega
section qAI
variable {l : Launch} {d : Nat} {D : Nat → Bool} {x : aS} {n : Nat} {B : Nat → Nat} {r : zP}
theorem cP_fl {c : Nat} (hr : cP n B r x) (h0 : r.2.1 = 0) (hc : c ≤ 5) (hc0 : ¬ c = 0) : cP n B (pFl B n c r) (aWr (aWr x bRd 7 (nI c)) bRd 8 (nI (tok B n r.1).2.2.2.1)) ∧ cU x (aWr (aWr x bRd 7 (nI c)) bRd 8 (nI (tok B n r.1).2.2.2.1)) := by
  refine ⟨⟨by rw [aWr_j _ _ _ (by decide), aWr_s]; rfl, hc, fun e => absurd e hc0, fun _ => aWr_s _ _ _ _⟩, fun m j _ e => ?_, rfl⟩
  rw [aWr_o _ _ (fun g => e ⟨g.1, Or.inr g.2⟩), aWr_o _ _ (fun g => e ⟨g.1, Or.inl g.2⟩)]
set_option maxHeartbeats 4000000 in
set_option maxRecDepth 100000 in
theorem c_X3_fail {c : Nat} (hD : aDC D) (hr : cP n B r x) (h0 : r.2.1 = 0) : aDV l mX3_fail d D [.ref bRd, .int (nI c)] x (aWr (aWr x bRd 7 (nI c)) bRd 8 (nI (tok B n r.1).2.2.2.1)) := by
  have e := (hr.2.2.1 h0).2.1.2.2.1
  refine a_metV (by decide) (Nat.le_of_ble_eq_true rfl) rfl ?_
  refine a_aload_n (i := 0) dX3_fail_0 rfl rfl ?_
  refine a_iload_n (i := 1) dX3_fail_1 rfl rfl ?_
  refine pX3_43 rfl dX3_fail_2 (isRd_0 hD) ?_
  refine a_aload_n (i := 0) dX3_fail_5 rfl rfl ?_
  refine a_aload_n (i := 0) dX3_fail_6 rfl rfl ?_
  refine gX3_12 rfl dX3_fail_7 (isRd_0 hD) ?_
  refine gX3_89 rfl dX3_fail_10 (isTp_0 hD) ?_
  rw [aWr_n _ _ _ (by decide), e]
  refine pX3_29 rfl dX3_fail_13 (isRd_0 hD) ?_
  exact a_vret dX3_fail_16 (by exact ⟨rfl, rfl⟩)
theorem cP_go (hr : cP n B r x) (h0 : r.2.1 = 0) {y : aS} (h : rK (tok B n (tok B n r.1).2.2.2.2) y) (F : cSt x y) : cP n B (pGo B n r) y := by
  obtain ⟨h1, h2, h3, h4⟩ := hr
  obtain ⟨a, b, c⟩ := h3 h0
  refine ⟨by rw [F.1 _ _ (fun e => absurd e.1 (by decide)), h1, h0]; rfl, Nat.zero_le _, fun _ => ⟨(tok_ok a).2.2.2.1, h, by rw [F.1 _ _ (fun e => absurd e.1 (by decide))]; exact c⟩, fun e => absurd rfl e⟩
theorem cP_n (hr : cP n B r x) (h0 : r.2.1 = 0) : x.1 bTp 3 = nI (tok B n r.1).2.2.2.2 ∧ (tok B n r.1).2.2.2.2 ≤ n := ⟨(hr.2.2.1 h0).2.1.1, (tok_ok (hr.2.2.1 h0).1).2.2.2.1⟩
set_option maxHeartbeats 4000000 in
set_option maxRecDepth 100000 in
theorem c_X3_takeNumber {lo hi : Nat} (hD : aDC D) (h : cTk n B x) (hr : cP n B r x) (h1 : lo < 2 ^ 31) (h2 : hi < 2 ^ 31) : aCt l mX3_takeNumber (d + 7) D [.ref bRd, .int (nI lo), .int (nI hi)] x (fun v y => v = some (.int (nI (numP B n lo hi r).2)) ∧ cP n B (numP B n lo hi r).1 y ∧ cU x y) := by
  refine a_met (by decide) (Nat.le_of_ble_eq_true rfl) (fun v y q => Or.inl ⟨rfl, _, q.1⟩) ?_
  unfold numP
  by_cases h0 : r.2.1 = 0
  · rw [if_neg (fun e => e h0)]
    obtain ⟨a, b, c⟩ := hr.2.2.1 h0
    have t := tok_ok (B := B) a
    have z : x.1 bRd 7 = 0 := by rw [hr.1, h0]; rfl
    have fl1 := cP_fl (c := 1) hr h0 (by decide) (by decide)
    have fl2 := cP_fl (c := 2) hr h0 (by decide) (by decide)
    by_cases q : (tok B n r.1).1 = 23
    · rw [if_neg (fun e => e q)]
      by_cases w : (tok B n r.1).2.1 < lo ∨ hi < (tok B n r.1).2.1
      · rw [if_pos w]
        refine a_aload_n (i := 0) dX3_takeNumber_0 rfl rfl ?_
        refine gX3_43 rfl dX3_takeNumber_1 (isRd_0 hD) ?_
        rw [z]
        refine a_if_eq (tg := 9) dX3_takeNumber_4 (by decide) (fun c_4 => ?_) (fun c_4 => ?_)
        · refine a_aload_n (i := 0) dX3_takeNumber_9 rfl rfl ?_
          refine gX3_12 rfl dX3_takeNumber_10 (isRd_0 hD) ?_
          refine gX3_102 rfl dX3_takeNumber_13 (isTp_0 hD) ?_
          rw [b.2.2.2]
          refine a_istore_n (i := 3) dX3_takeNumber_16 rfl (by decide) ?_
          refine a_aload_n (i := 0) dX3_takeNumber_17 rfl rfl ?_
          refine gX3_12 rfl dX3_takeNumber_18 (isRd_0 hD) ?_
          refine gX3_50 rfl dX3_takeNumber_21 (isTp_0 hD) ?_
          rw [b.2.1, q]
          refine a_bipush (v := 23) dX3_takeNumber_24 (by decide) ?_
          refine a_icmp_eq (tg := 37) dX3_takeNumber_26 (by decide) (fun c_26 => ?_) (fun c_26 => ?_)
          · refine a_iload_n (i := 3) dX3_takeNumber_37 rfl rfl ?_
            refine a_iload_n (i := 1) dX3_takeNumber_38 rfl rfl ?_
            refine a_icmp_lt (tg := 47) dX3_takeNumber_39 (by decide) (fun c_39 => ?_) (fun c_39 => ?_)
            · refine a_aload_n (i := 0) dX3_takeNumber_47 rfl rfl ?_
              refine a_iconst (v := 2) dX3_takeNumber_48 (by decide) ?_
              refine kX3_77 rfl dX3_takeNumber_49 (Nat.le_of_ble_eq_true rfl) (isRd_0 hD) (c_X3_fail (c := 2) hD hr h0) ?_
              refine a_goto (tg := 64) dX3_takeNumber_52 (by decide) ?_
              refine a_iconst (v := 0) dX3_takeNumber_64 (by decide) ?_
              exact a_iret dX3_takeNumber_65 (by exact ⟨rfl, fl2⟩)
            · refine a_iload_n (i := 3) dX3_takeNumber_42 rfl rfl ?_
              refine a_iload_n (i := 2) dX3_takeNumber_43 rfl rfl ?_
              refine a_icmp_le (tg := 55) dX3_takeNumber_44 (by decide) (fun c_44 => ?_) (fun c_44 => ?_)
              · exact absurd w (by rw [Int32.not_lt] at c_39; have u := (nI_leI h1 (by have := t.2.2.2.2.2.2.1; omega)).mp c_39; have v := (nI_leI (by have := t.2.2.2.2.2.2.1; omega) h2).mp c_44; omega)
              · refine a_aload_n (i := 0) dX3_takeNumber_47 rfl rfl ?_
                refine a_iconst (v := 2) dX3_takeNumber_48 (by decide) ?_
                refine kX3_77 rfl dX3_takeNumber_49 (Nat.le_of_ble_eq_true rfl) (isRd_0 hD) (c_X3_fail (c := 2) hD hr h0) ?_
                refine a_goto (tg := 64) dX3_takeNumber_52 (by decide) ?_
                refine a_iconst (v := 0) dX3_takeNumber_64 (by decide) ?_
                exact a_iret dX3_takeNumber_65 (by exact ⟨rfl, fl2⟩)
          · exact absurd rfl c_26
        · exact absurd rfl c_4
      · rw [if_neg w]
        refine a_aload_n (i := 0) dX3_takeNumber_0 rfl rfl ?_
        refine gX3_43 rfl dX3_takeNumber_1 (isRd_0 hD) ?_
        rw [z]
        refine a_if_eq (tg := 9) dX3_takeNumber_4 (by decide) (fun c_4 => ?_) (fun c_4 => ?_)
        · refine a_aload_n (i := 0) dX3_takeNumber_9 rfl rfl ?_
          refine gX3_12 rfl dX3_takeNumber_10 (isRd_0 hD) ?_
          refine gX3_102 rfl dX3_takeNumber_13 (isTp_0 hD) ?_
          rw [b.2.2.2]
          refine a_istore_n (i := 3) dX3_takeNumber_16 rfl (by decide) ?_
          refine a_aload_n (i := 0) dX3_takeNumber_17 rfl rfl ?_
          refine gX3_12 rfl dX3_takeNumber_18 (isRd_0 hD) ?_
          refine gX3_50 rfl dX3_takeNumber_21 (isTp_0 hD) ?_
          rw [b.2.1, q]
          refine a_bipush (v := 23) dX3_takeNumber_24 (by decide) ?_
          refine a_icmp_eq (tg := 37) dX3_takeNumber_26 (by decide) (fun c_26 => ?_) (fun c_26 => ?_)
          · refine a_iload_n (i := 3) dX3_takeNumber_37 rfl rfl ?_
            refine a_iload_n (i := 1) dX3_takeNumber_38 rfl rfl ?_
            refine a_icmp_lt (tg := 47) dX3_takeNumber_39 (by decide) (fun c_39 => ?_) (fun c_39 => ?_)
            · exact absurd c_39 (nI_nlt (by omega) (by have := t.2.2.2.2.2.2.1; omega))
            · refine a_iload_n (i := 3) dX3_takeNumber_42 rfl rfl ?_
              refine a_iload_n (i := 2) dX3_takeNumber_43 rfl rfl ?_
              refine a_icmp_le (tg := 55) dX3_takeNumber_44 (by decide) (fun c_44 => ?_) (fun c_44 => ?_)
              · refine a_aload_n (i := 0) dX3_takeNumber_55 rfl rfl ?_
                refine gX3_12 rfl dX3_takeNumber_56 (isRd_0 hD) ?_
                refine kgX3_83 rfl dX3_takeNumber_59 (Nat.le_of_ble_eq_true rfl) (isTp_0 hD) (c_X7_step hD h (cP_n hr h0).1 (cP_n hr h0).2) ?_
                rintro v y ⟨rfl, u0, F⟩
                have u := cP_go hr h0 u0 F
                refine a_iload_n (i := 3) dX3_takeNumber_62 rfl rfl ?_
                exact a_iret dX3_takeNumber_63 (by exact ⟨rfl, u, cU_s F⟩)
              · exact absurd (nI_le (by omega) h2) c_44
          · exact absurd rfl c_26
        · exact absurd rfl c_4
    · rw [if_pos q]
      refine a_aload_n (i := 0) dX3_takeNumber_0 rfl rfl ?_
      refine gX3_43 rfl dX3_takeNumber_1 (isRd_0 hD) ?_
      rw [z]
      refine a_if_eq (tg := 9) dX3_takeNumber_4 (by decide) (fun c_4 => ?_) (fun c_4 => ?_)
      · refine a_aload_n (i := 0) dX3_takeNumber_9 rfl rfl ?_
        refine gX3_12 rfl dX3_takeNumber_10 (isRd_0 hD) ?_
        refine gX3_102 rfl dX3_takeNumber_13 (isTp_0 hD) ?_
        rw [b.2.2.2]
        refine a_istore_n (i := 3) dX3_takeNumber_16 rfl (by decide) ?_
        refine a_aload_n (i := 0) dX3_takeNumber_17 rfl rfl ?_
        refine gX3_12 rfl dX3_takeNumber_18 (isRd_0 hD) ?_
        refine gX3_50 rfl dX3_takeNumber_21 (isTp_0 hD) ?_
        rw [b.2.1]
        refine a_bipush (v := 23) dX3_takeNumber_24 (by decide) ?_
        refine a_icmp_eq (tg := 37) dX3_takeNumber_26 (by decide) (fun c_26 => ?_) (fun c_26 => ?_)
        · exact absurd ((nI_eq (b := 23) (by have := t.2.2.2.2.2.1; omega) (by decide)).mp c_26) q
        · refine a_aload_n (i := 0) dX3_takeNumber_29 rfl rfl ?_
          refine a_iconst (v := 1) dX3_takeNumber_30 (by decide) ?_
          refine kX3_77 rfl dX3_takeNumber_31 (Nat.le_of_ble_eq_true rfl) (isRd_0 hD) (c_X3_fail (c := 1) hD hr h0) ?_
          refine a_goto (tg := 64) dX3_takeNumber_34 (by decide) ?_
          refine a_iconst (v := 0) dX3_takeNumber_64 (by decide) ?_
          exact a_iret dX3_takeNumber_65 (by exact ⟨rfl, fl1⟩)
      · exact absurd rfl c_4
  · rw [if_pos h0]
    have z : ¬ x.1 bRd 7 = 0 := by rw [hr.1]; exact nI_ne0 (by omega) (by have := hr.2.1; omega)
    refine a_aload_n (i := 0) dX3_takeNumber_0 rfl rfl ?_
    refine gX3_43 rfl dX3_takeNumber_1 (isRd_0 hD) ?_
    refine a_if_eq (tg := 9) dX3_takeNumber_4 (by decide) (fun c_4 => ?_) (fun c_4 => ?_)
    · exact absurd c_4 z
    · refine a_iconst (v := 0) dX3_takeNumber_7 (by decide) ?_
      exact a_iret dX3_takeNumber_8 (by exact ⟨rfl, hr, ⟨fun _ _ _ _ => rfl, rfl⟩⟩)
set_option maxHeartbeats 4000000 in
set_option maxRecDepth 100000 in
theorem c_X3_takeToldName {a N len : Nat} {f : Nat → Int32} (hD : aDC D) (h : cTk n B x) (hr : cP n B r x) (ha : aIs D a 14 len) (hN : N ≤ len) (hl : len < 2147483648) (hf : ∀ k, k < N → x.1 a k = f k) : aCt l mX3_takeToldName (d + 7) D [.ref bRd, .ref a, .int (nI N)] x (fun v y => v = some (.int (nI (namP B n f N r).2)) ∧ cP n B (namP B n f N r).1 y ∧ cU x y) := by
  refine a_met (by decide) (Nat.le_of_ble_eq_true rfl) (fun v y q => Or.inl ⟨rfl, _, q.1⟩) ?_
  unfold namP
  by_cases h0 : r.2.1 = 0
  · rw [if_neg (fun e => e h0)]
    obtain ⟨i1, b, c⟩ := hr.2.2.1 h0
    have t := tok_ok (B := B) i1
    have z : x.1 bRd 7 = 0 := by rw [hr.1, h0]; rfl
    have fl1 := cP_fl (c := 1) hr h0 (by decide) (by decide)
    have fl4 := cP_fl (c := 4) hr h0 (by decide) (by decide)
    have ef : zFind (x.1 a) (nI (tok B n r.1).2.1) 0 N = zFind f (nI (tok B n r.1).2.1) 0 N := zFind_congr _ _ (fun j _ hj => hf j (by omega))
    by_cases q : (tok B n r.1).1 = 22
    · rw [if_neg (fun e => e q)]
      by_cases w : zFind f (nI (tok B n r.1).2.1) 0 N = -1
      · rw [if_pos w]
        refine a_aload_n (i := 0) dX3_takeToldName_0 rfl rfl ?_
        refine gX3_43 rfl dX3_takeToldName_1 (isRd_0 hD) ?_
        rw [z]
        refine a_if_eq (tg := 9) dX3_takeToldName_4 (by decide) (fun c_4 => ?_) (fun c_4 => ?_)
        · refine a_aload_n (i := 1) dX3_takeToldName_9 rfl rfl ?_
          refine a_iload_n (i := 2) dX3_takeToldName_10 rfl rfl ?_
          refine a_aload_n (i := 0) dX3_takeToldName_11 rfl rfl ?_
          refine gX3_12 rfl dX3_takeToldName_12 (isRd_0 hD) ?_
          refine gX3_102 rfl dX3_takeToldName_15 (isTp_0 hD) ?_
          rw [b.2.2.2]
          refine kX3_187 rfl dX3_takeToldName_18 (Nat.le_of_ble_eq_true rfl) (c_X11_find ha hN hl) ?_
          rw [ef]
          refine a_istore_n (i := 3) dX3_takeToldName_21 rfl (by decide) ?_
          refine a_aload_n (i := 0) dX3_takeToldName_22 rfl rfl ?_
          refine gX3_12 rfl dX3_takeToldName_23 (isRd_0 hD) ?_
          refine gX3_50 rfl dX3_takeToldName_26 (isTp_0 hD) ?_
          rw [b.2.1, q]
          refine a_bipush (v := 22) dX3_takeToldName_29 (by decide) ?_
          refine a_icmp_eq (tg := 42) dX3_takeToldName_31 (by decide) (fun c_31 => ?_) (fun c_31 => ?_)
          · refine a_iload_n (i := 3) dX3_takeToldName_42 rfl rfl ?_
            refine a_iconst (v := (-1)) dX3_takeToldName_43 (by decide) ?_
            refine a_icmp_ne (tg := 55) dX3_takeToldName_44 (by decide) (fun c_44 => ?_) (fun c_44 => ?_)
            · exact absurd w c_44
            · refine a_aload_n (i := 0) dX3_takeToldName_47 rfl rfl ?_
              refine a_iconst (v := 4) dX3_takeToldName_48 (by decide) ?_
              refine kX3_77 rfl dX3_takeToldName_49 (Nat.le_of_ble_eq_true rfl) (isRd_0 hD) (c_X3_fail (c := 4) hD hr h0) ?_
              refine a_goto (tg := 64) dX3_takeToldName_52 (by decide) ?_
              refine a_iconst (v := 0) dX3_takeToldName_64 (by decide) ?_
              exact a_iret dX3_takeToldName_65 (by exact ⟨rfl, fl4⟩)
          · exact absurd rfl c_31
        · exact absurd rfl c_4
      · rw [if_neg w]
        rcases zFind_of (f := f) (a := nI (tok B n r.1).2.1) N 0 (by omega) with e | ⟨k, _, k2, ek, _⟩
        · exact absurd e w
        · rw [ek, nI_clamp (by omega)]
          refine a_aload_n (i := 0) dX3_takeToldName_0 rfl rfl ?_
          refine gX3_43 rfl dX3_takeToldName_1 (isRd_0 hD) ?_
          rw [z]
          refine a_if_eq (tg := 9) dX3_takeToldName_4 (by decide) (fun c_4 => ?_) (fun c_4 => ?_)
          · refine a_aload_n (i := 1) dX3_takeToldName_9 rfl rfl ?_
            refine a_iload_n (i := 2) dX3_takeToldName_10 rfl rfl ?_
            refine a_aload_n (i := 0) dX3_takeToldName_11 rfl rfl ?_
            refine gX3_12 rfl dX3_takeToldName_12 (isRd_0 hD) ?_
            refine gX3_102 rfl dX3_takeToldName_15 (isTp_0 hD) ?_
            rw [b.2.2.2]
            refine kX3_187 rfl dX3_takeToldName_18 (Nat.le_of_ble_eq_true rfl) (c_X11_find ha hN hl) ?_
            rw [ef, ek]
            refine a_istore_n (i := 3) dX3_takeToldName_21 rfl (by decide) ?_
            refine a_aload_n (i := 0) dX3_takeToldName_22 rfl rfl ?_
            refine gX3_12 rfl dX3_takeToldName_23 (isRd_0 hD) ?_
            refine gX3_50 rfl dX3_takeToldName_26 (isTp_0 hD) ?_
            rw [b.2.1, q]
            refine a_bipush (v := 22) dX3_takeToldName_29 (by decide) ?_
            refine a_icmp_eq (tg := 42) dX3_takeToldName_31 (by decide) (fun c_31 => ?_) (fun c_31 => ?_)
            · refine a_iload_n (i := 3) dX3_takeToldName_42 rfl rfl ?_
              refine a_iconst (v := (-1)) dX3_takeToldName_43 (by decide) ?_
              refine a_icmp_ne (tg := 55) dX3_takeToldName_44 (by decide) (fun c_44 => ?_) (fun c_44 => ?_)
              · refine a_aload_n (i := 0) dX3_takeToldName_55 rfl rfl ?_
                refine gX3_12 rfl dX3_takeToldName_56 (isRd_0 hD) ?_
                refine kgX3_83 rfl dX3_takeToldName_59 (Nat.le_of_ble_eq_true rfl) (isTp_0 hD) (c_X7_step hD h (cP_n hr h0).1 (cP_n hr h0).2) ?_
                rintro v y ⟨rfl, u0, F⟩
                have u := cP_go hr h0 u0 F
                refine a_iload_n (i := 3) dX3_takeToldName_62 rfl rfl ?_
                exact a_iret dX3_takeToldName_63 (by exact ⟨rfl, u, cU_s F⟩)
              · exact absurd c_44 (nI_m1 (by omega))
            · exact absurd rfl c_31
          · exact absurd rfl c_4
    · rw [if_pos q]
      refine a_aload_n (i := 0) dX3_takeToldName_0 rfl rfl ?_
      refine gX3_43 rfl dX3_takeToldName_1 (isRd_0 hD) ?_
      rw [z]
      refine a_if_eq (tg := 9) dX3_takeToldName_4 (by decide) (fun c_4 => ?_) (fun c_4 => ?_)
      · refine a_aload_n (i := 1) dX3_takeToldName_9 rfl rfl ?_
        refine a_iload_n (i := 2) dX3_takeToldName_10 rfl rfl ?_
        refine a_aload_n (i := 0) dX3_takeToldName_11 rfl rfl ?_
        refine gX3_12 rfl dX3_takeToldName_12 (isRd_0 hD) ?_
        refine gX3_102 rfl dX3_takeToldName_15 (isTp_0 hD) ?_
        rw [b.2.2.2]
        refine kX3_187 rfl dX3_takeToldName_18 (Nat.le_of_ble_eq_true rfl) (c_X11_find ha hN hl) ?_
        refine a_istore_n (i := 3) dX3_takeToldName_21 rfl (by decide) ?_
        refine a_aload_n (i := 0) dX3_takeToldName_22 rfl rfl ?_
        refine gX3_12 rfl dX3_takeToldName_23 (isRd_0 hD) ?_
        refine gX3_50 rfl dX3_takeToldName_26 (isTp_0 hD) ?_
        rw [b.2.1]
        refine a_bipush (v := 22) dX3_takeToldName_29 (by decide) ?_
        refine a_icmp_eq (tg := 42) dX3_takeToldName_31 (by decide) (fun c_31 => ?_) (fun c_31 => ?_)
        · exact absurd ((nI_eq (b := 22) (by have := t.2.2.2.2.2.1; omega) (by decide)).mp c_31) q
        · refine a_aload_n (i := 0) dX3_takeToldName_34 rfl rfl ?_
          refine a_iconst (v := 1) dX3_takeToldName_35 (by decide) ?_
          refine kX3_77 rfl dX3_takeToldName_36 (Nat.le_of_ble_eq_true rfl) (isRd_0 hD) (c_X3_fail (c := 1) hD hr h0) ?_
          refine a_goto (tg := 64) dX3_takeToldName_39 (by decide) ?_
          refine a_iconst (v := 0) dX3_takeToldName_64 (by decide) ?_
          exact a_iret dX3_takeToldName_65 (by exact ⟨rfl, fl1⟩)
      · exact absurd rfl c_4
  · rw [if_pos h0]
    have z : ¬ x.1 bRd 7 = 0 := by rw [hr.1]; exact nI_ne0 (by omega) (by have := hr.2.1; omega)
    refine a_aload_n (i := 0) dX3_takeToldName_0 rfl rfl ?_
    refine gX3_43 rfl dX3_takeToldName_1 (isRd_0 hD) ?_
    refine a_if_eq (tg := 9) dX3_takeToldName_4 (by decide) (fun c_4 => ?_) (fun c_4 => ?_)
    · exact absurd c_4 z
    · refine a_iconst (v := 0) dX3_takeToldName_7 (by decide) ?_
      exact a_iret dX3_takeToldName_8 (by exact ⟨rfl, hr, ⟨fun _ _ _ _ => rfl, rfl⟩⟩)
set_option maxHeartbeats 4000000 in
set_option maxRecDepth 100000 in
theorem c_X3_isNewName {a N len : Nat} {f : Nat → Int32} (hD : aDC D) (hr : cP n B r x) (h0 : r.2.1 = 0) (ha : aIs D a 14 len) (hN : N ≤ len) (hl : len < 2147483648) (hf : ∀ k, k < N → x.1 a k = f k) : aCt l mX3_isNewName (d + 5) D [.ref bRd, .ref a, .int (nI N)] x (fun v y => v = some (.int (bI (decide ((newP B n f N r).2.1 = 0)))) ∧ cP n B (newP B n f N r) y ∧ cU x y) := by
  refine a_met (by decide) (Nat.le_of_ble_eq_true rfl) (fun v y q => Or.inr (Or.inl ⟨rfl, _, q.1, bI_01 _⟩)) ?_
  unfold newP
  obtain ⟨i1, b, c⟩ := hr.2.2.1 h0
  have t := tok_ok (B := B) i1
  have z : x.1 bRd 7 = 0 := by rw [hr.1, h0]; rfl
  have fl1 := cP_fl (c := 1) hr h0 (by decide) (by decide)
  have fl3 := cP_fl (c := 3) hr h0 (by decide) (by decide)
  have ef : zFind (x.1 a) (nI (tok B n r.1).2.1) 0 N = zFind f (nI (tok B n r.1).2.1) 0 N := zFind_congr _ _ (fun j _ hj => hf j (by omega))
  by_cases q : (tok B n r.1).1 = 22
  · rw [if_neg (fun e => e q)]
    by_cases w : zFind f (nI (tok B n r.1).2.1) 0 N = -1
    · rw [if_neg (fun e => e w), bI_t h0]
      refine a_aload_n (i := 0) dX3_isNewName_0 rfl rfl ?_
      refine gX3_12 rfl dX3_isNewName_1 (isRd_0 hD) ?_
      refine gX3_50 rfl dX3_isNewName_4 (isTp_0 hD) ?_
      rw [b.2.1, q]
      refine a_bipush (v := 22) dX3_isNewName_7 (by decide) ?_
      refine a_icmp_eq (tg := 20) dX3_isNewName_9 (by decide) (fun c_9 => ?_) (fun c_9 => ?_)
      · refine a_aload_n (i := 1) dX3_isNewName_20 rfl rfl ?_
        refine a_iload_n (i := 2) dX3_isNewName_21 rfl rfl ?_
        refine a_aload_n (i := 0) dX3_isNewName_22 rfl rfl ?_
        refine gX3_12 rfl dX3_isNewName_23 (isRd_0 hD) ?_
        refine gX3_102 rfl dX3_isNewName_26 (isTp_0 hD) ?_
        rw [b.2.2.2]
        refine kX3_187 rfl dX3_isNewName_29 (Nat.le_of_ble_eq_true rfl) (c_X11_find ha hN hl) ?_
        rw [ef, w]
        refine a_iconst (v := (-1)) dX3_isNewName_32 (by decide) ?_
        refine a_icmp_eq (tg := 41) dX3_isNewName_33 (by decide) (fun c_33 => ?_) (fun c_33 => ?_)
        · refine a_aload_n (i := 0) dX3_isNewName_41 rfl rfl ?_
          refine gX3_43 rfl dX3_isNewName_42 (isRd_0 hD) ?_
          rw [z]
          refine a_if_ne (tg := 52) dX3_isNewName_45 (by decide) (fun c_45 => ?_) (fun c_45 => ?_)
          · exact absurd rfl c_45
          · refine a_iconst (v := 1) dX3_isNewName_48 (by decide) ?_
            refine a_goto (tg := 53) dX3_isNewName_49 (by decide) ?_
            exact a_iret dX3_isNewName_53 (by exact ⟨rfl, hr, ⟨fun _ _ _ _ => rfl, rfl⟩⟩)
        · exact absurd rfl c_33
      · exact absurd rfl c_9
    · rw [if_pos w, bI_f (show ¬ (pFl B n 3 r).2.1 = 0 from by show ¬ 3 = 0; decide)]
      refine a_aload_n (i := 0) dX3_isNewName_0 rfl rfl ?_
      refine gX3_12 rfl dX3_isNewName_1 (isRd_0 hD) ?_
      refine gX3_50 rfl dX3_isNewName_4 (isTp_0 hD) ?_
      rw [b.2.1, q]
      refine a_bipush (v := 22) dX3_isNewName_7 (by decide) ?_
      refine a_icmp_eq (tg := 20) dX3_isNewName_9 (by decide) (fun c_9 => ?_) (fun c_9 => ?_)
      · refine a_aload_n (i := 1) dX3_isNewName_20 rfl rfl ?_
        refine a_iload_n (i := 2) dX3_isNewName_21 rfl rfl ?_
        refine a_aload_n (i := 0) dX3_isNewName_22 rfl rfl ?_
        refine gX3_12 rfl dX3_isNewName_23 (isRd_0 hD) ?_
        refine gX3_102 rfl dX3_isNewName_26 (isTp_0 hD) ?_
        rw [b.2.2.2]
        refine kX3_187 rfl dX3_isNewName_29 (Nat.le_of_ble_eq_true rfl) (c_X11_find ha hN hl) ?_
        rw [ef]
        refine a_iconst (v := (-1)) dX3_isNewName_32 (by decide) ?_
        refine a_icmp_eq (tg := 41) dX3_isNewName_33 (by decide) (fun c_33 => ?_) (fun c_33 => ?_)
        · exact absurd c_33 w
        · refine a_aload_n (i := 0) dX3_isNewName_36 rfl rfl ?_
          refine a_iconst (v := 3) dX3_isNewName_37 (by decide) ?_
          refine kX3_77 rfl dX3_isNewName_38 (Nat.le_of_ble_eq_true rfl) (isRd_0 hD) (c_X3_fail (c := 3) hD hr h0) ?_
          refine a_aload_n (i := 0) dX3_isNewName_41 rfl rfl ?_
          refine gX3_43 rfl dX3_isNewName_42 (isRd_0 hD) ?_
          rw [aWr_j _ _ _ (by decide), aWr_s]
          refine a_if_ne (tg := 52) dX3_isNewName_45 (by decide) (fun c_45 => ?_) (fun c_45 => ?_)
          · refine a_iconst (v := 0) dX3_isNewName_52 (by decide) ?_
            exact a_iret dX3_isNewName_53 (by exact ⟨rfl, fl3⟩)
          · exact absurd c_45 (by decide)
      · exact absurd rfl c_9
  · rw [if_pos q, bI_f (show ¬ (pFl B n 1 r).2.1 = 0 from by show ¬ 1 = 0; decide)]
    refine a_aload_n (i := 0) dX3_isNewName_0 rfl rfl ?_
    refine gX3_12 rfl dX3_isNewName_1 (isRd_0 hD) ?_
    refine gX3_50 rfl dX3_isNewName_4 (isTp_0 hD) ?_
    rw [b.2.1]
    refine a_bipush (v := 22) dX3_isNewName_7 (by decide) ?_
    refine a_icmp_eq (tg := 20) dX3_isNewName_9 (by decide) (fun c_9 => ?_) (fun c_9 => ?_)
    · exact absurd ((nI_eq (b := 22) (by have := t.2.2.2.2.2.1; omega) (by decide)).mp c_9) q
    · refine a_aload_n (i := 0) dX3_isNewName_12 rfl rfl ?_
      refine a_iconst (v := 1) dX3_isNewName_13 (by decide) ?_
      refine kX3_77 rfl dX3_isNewName_14 (Nat.le_of_ble_eq_true rfl) (isRd_0 hD) (c_X3_fail (c := 1) hD hr h0) ?_
      refine a_goto (tg := 41) dX3_isNewName_17 (by decide) ?_
      refine a_aload_n (i := 0) dX3_isNewName_41 rfl rfl ?_
      refine gX3_43 rfl dX3_isNewName_42 (isRd_0 hD) ?_
      rw [aWr_j _ _ _ (by decide), aWr_s]
      refine a_if_ne (tg := 52) dX3_isNewName_45 (by decide) (fun c_45 => ?_) (fun c_45 => ?_)
      · refine a_iconst (v := 0) dX3_isNewName_52 (by decide) ?_
        exact a_iret dX3_isNewName_53 (by exact ⟨rfl, fl1⟩)
      · exact absurd c_45 (by decide)
end qAI
