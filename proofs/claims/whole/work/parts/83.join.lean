/-! join -/
def jOk (T : zT) (Z : zS) (dd : Nat → Nat → Nat) : Prop := ∀ h, h < T.1 0 → ∀ g, g < T.1 0 → zDiffer Z h g = nI (dd h g) ∧ dd h g ≤ 1000000000 ∧ dd h g = dd g h
def jSum (N : Nat) (dd : Nat → Nat → Nat) (r : Int32) : Prop := ∃ v w, primP N dd N v w ∧ r = nI (sw w N)
theorem jSum_eq {T : zT} {Z : zS} {dd : Nat → Nat → Nat} {r s : Int32} (h : jOk T Z dd) (h1 : jSum (T.1 0) dd r) (h2 : jSum (T.1 0) dd s) : r = s := by
  obtain ⟨v, w, p, rfl⟩ := h1
  obtain ⟨v', w', p', rfl⟩ := h2
  rw [prim_eq (B := 1000000000) (fun a ha b hb => (h a ha b hb).2.2) (fun a ha b hb => (h a ha b hb).2.1) p p']
theorem sw_congr {w u : Nat → Nat} : ∀ N, (∀ k, k < N → w k = u k) → sw w N = sw u N := by
  intro N
  induction N with
  | zero => intro _; rfl
  | succ N ih =>
    intro h
    show sw w N + w N = sw u N + u N
    rw [ih (fun k hk => h k (by omega)), h N (by omega)]
def nxt (v : Nat → Nat) (K b : Nat) : Nat → Nat := fun k => if k = K then b else v k
theorem nxt_s {v : Nat → Nat} {K b : Nat} : nxt v K b K = b := if_pos rfl
theorem nxt_o {v : Nat → Nat} {K b k : Nat} (h : k < K) : nxt v K b k = v k := if_neg (by omega)
theorem prim_add {N K b q : Nat} {dd : Nat → Nat → Nat} {v w : Nat → Nat} (h : primP N dd K v w) (hb : b < N) (hn : ∀ a, a < K → v a ≠ b) (h0 : K = 0 → b = 0 ∧ q = 0) (h1 : 0 < K → (∃ a, a < K ∧ dd (v a) b = q) ∧ ∀ a, a < K → ∀ h, h < N → (∀ c, c < K → v c ≠ h) → q ≤ dd (v a) h) : primP N dd (K + 1) (nxt v K b) (nxt w K q) ∧ sw (nxt w K q) (K + 1) = sw w K + q := by
  obtain ⟨p1, p2, p3, p4, p5⟩ := h
  refine ⟨⟨fun k hk => ?_, fun i hi j hj e => ?_, fun _ => ?_, ?_, fun k hk hk2 => ?_⟩, ?_⟩
  · by_cases e : k = K
    · subst e; rw [nxt_s]; exact hb
    · rw [nxt_o (by omega)]; exact p1 k (by omega)
  · by_cases ei : i = K
    · by_cases ej : j = K
      · omega
      · subst ei; rw [nxt_s, nxt_o (by omega)] at e; exact absurd e.symm (hn j (by omega))
    · by_cases ej : j = K
      · subst ej; rw [nxt_s, nxt_o (by omega)] at e; exact absurd e (hn i (by omega))
      · rw [nxt_o (by omega), nxt_o (by omega)] at e; exact p2 i (by omega) j (by omega) e
  · by_cases e : K = 0
    · subst e; rw [nxt_s]; exact (h0 rfl).1
    · rw [nxt_o (by omega)]; exact p3 (by omega)
  · by_cases e : K = 0
    · subst e; rw [nxt_s]; exact (h0 rfl).2
    · rw [nxt_o (by omega)]; exact p4
  · by_cases e : k = K
    · subst e
      obtain ⟨⟨a, ha, hd⟩, g⟩ := h1 hk
      rw [nxt_s, nxt_s]
      refine ⟨⟨a, ha, by rw [nxt_o ha]; exact hd⟩, fun a ha h hh hx => ?_⟩
      rw [nxt_o ha]
      exact g a ha h hh (fun c hc => by have := hx c hc; rwa [nxt_o hc] at this)
    · obtain ⟨⟨a, ha, hd⟩, g⟩ := p5 k hk (by omega)
      rw [nxt_o (show k < K by omega), nxt_o (show k < K by omega)]
      refine ⟨⟨a, ha, by rw [nxt_o (by omega)]; exact hd⟩, fun a ha h hh hx => ?_⟩
      rw [nxt_o (by omega)]
      exact g a ha h hh (fun c hc => by have := hx c hc; rwa [nxt_o (by omega)] at this)
  · show sw (nxt w K q) K + nxt w K q K = _
    rw [nxt_s, sw_congr K (fun k hk => nxt_o hk)]
/-- how far those are that aren't joined -/
def jI (N : Nat) (dd : Nat → Nat → Nat) (K : Nat) (v rr : Nat → Nat) : Prop := (∀ h, h < N → rr h ≤ 1000000000) ∧ (K = 0 → ∀ h, h < N → rr h = if h = 0 then 0 else 1000000000) ∧ (0 < K → ∀ h, h < N → (∀ a, a < K → v a ≠ h) → (∃ a, a < K ∧ dd (v a) h = rr h) ∧ ∀ a, a < K → rr h ≤ dd (v a) h)
theorem prim_go {N K b : Nat} {dd : Nat → Nat → Nat} {v w rr : Nat → Nat} {J : Nat → Bool} (h : primP N dd K v w) (hJ : ∀ h, h < N → (J h = true ↔ ∃ a, a < K ∧ v a = h)) (hI : jI N dd K v rr) (hb : b < N) (hJb : J b = false) (hm : ∀ h, h < N → J h = false → rr b ≤ rr h) (hdd : ∀ h, h < N → dd b h ≤ 1000000000) :
    (primP N dd (K + 1) (nxt v K b) (nxt w K (rr b)) ∧ sw (nxt w K (rr b)) (K + 1) = sw w K + rr b) ∧ (∀ h, h < N → ((J h || decide (h = b)) = true ↔ ∃ a, a < K + 1 ∧ nxt v K b a = h)) ∧ jI N dd (K + 1) (nxt v K b) (fun h => if (J h || decide (h = b)) = true then rr h else min (rr h) (dd b h)) := by
  have hn : ∀ h, h < N → (J h = false ↔ ∀ a, a < K → v a ≠ h) := fun h hh => by
    constructor
    · intro g a ha e
      have := (hJ h hh).mpr ⟨a, ha, e⟩
      rw [g] at this; exact absurd this (by decide)
    · intro g
      cases e : J h with
      | false => rfl
      | true => obtain ⟨a, ha, e2⟩ := (hJ h hh).mp e; exact absurd e2 (g a ha)
  have hnb := (hn b hb).mp hJb
  obtain ⟨i1, i2, i3⟩ := hI
  refine ⟨prim_add h hb hnb (fun e => ?_) (fun hK => ?_), fun h hh => ?_, fun h hh => ?_, fun e => absurd e (by omega), fun _ c hc hx => ?_⟩
  · subst e
    have h0 : J 0 = false := (hn 0 (by omega)).mpr (fun a ha => absurd ha (by omega))
    have g := hm 0 (by omega) h0
    rw [i2 rfl 0 (by omega), if_pos rfl, i2 rfl b hb] at g
    by_cases e : b = 0
    · exact ⟨e, by rw [i2 rfl b hb, if_pos e]⟩
    · rw [if_neg e] at g; omega
  · refine ⟨(i3 hK b hb hnb).1, fun a ha h hh hx => ?_⟩
    exact Nat.le_trans (hm h hh ((hn h hh).mpr hx)) ((i3 hK h hh hx).2 a ha)
  · rw [Bool.or_eq_true, decide_eq_true_iff, hJ h hh]
    constructor
    · rintro (⟨a, ha, e⟩ | e)
      · exact ⟨a, by omega, by rw [nxt_o ha]; exact e⟩
      · exact ⟨K, by omega, by rw [nxt_s]; exact e.symm⟩
    · rintro ⟨a, ha, e⟩
      by_cases ea : a = K
      · subst ea; rw [nxt_s] at e; exact Or.inr e.symm
      · rw [nxt_o (by omega)] at e; exact Or.inl ⟨a, by omega, e⟩
  · simp only
    split
    · exact i1 h hh
    · have := i1 h hh; omega
  · have hb2 : c ≠ b := fun e => hx K (by omega) (by rw [nxt_s]; exact e.symm)
    have hx2 : ∀ a, a < K → v a ≠ c := fun a ha => by have := hx a (by omega); rwa [nxt_o ha] at this
    have hJh := (hn c hc).mpr hx2
    simp only
    rw [hJh, decide_eq_false hb2, if_neg (by decide)]
    have := hdd c hc
    by_cases hK : K = 0
    · subst hK
      have h0 : J 0 = false := (hn 0 (by omega)).mpr (fun a ha => absurd ha (by omega))
      have g := hm 0 (by omega) h0
      rw [i2 rfl 0 (by omega), if_pos rfl, i2 rfl b hb] at g
      have b0 : b = 0 := by
        by_cases e : b = 0
        · exact e
        · rw [if_neg e] at g; omega
      have r := i2 rfl c hc
      rw [if_neg (by omega)] at r
      rw [r]
      refine ⟨⟨0, by omega, by rw [nxt_s]; omega⟩, fun a ha => ?_⟩
      have : a = 0 := by omega
      subst this
      rw [nxt_s]; omega
    · obtain ⟨⟨a, ha, e⟩, g⟩ := i3 (by omega) c hc hx2
      refine ⟨?_, fun a ha => ?_⟩
      · by_cases q : rr c ≤ dd b c
        · exact ⟨a, by omega, by rw [nxt_o ha]; omega⟩
        · exact ⟨K, by omega, by rw [nxt_s]; omega⟩
      · by_cases ea : a = K
        · subst ea; rw [nxt_s]; omega
        · rw [nxt_o (by omega)]; have := g a (by omega); omega
theorem jmin_n {a b : Nat} (ha : a < 2 ^ 31) (hb : b < 2 ^ 31) : jmin (nI a) (nI b) = nI (min a b) := by
  unfold jmin
  by_cases h : b < a
  · rw [if_pos (nI_lt h ha), Nat.min_eq_right (by omega)]
  · rw [if_neg (nI_nlt (by omega) hb), Nat.min_eq_left (by omega)]
section qU
variable {l : Launch} {d : Nat} {D : Nat → Bool} {T : zT} {W : Nat → zL} {Z : zS} {t : Nat} {x : aS} {dd : Nat → Nat → Nat}
set_option maxHeartbeats 4000000 in
set_option maxRecDepth 100000 in
theorem c_X4_reachFrom {b : Nat} {rr : Nat → Nat} {J : Nat → Bool} (hD : aDC D) (ht : aTdB t) (ok : zTok T) (hT : rT T x t) (hS : rS T Z x bNow) (hd : jOk T Z dd) (hb : b < T.1 0) (hr : ∀ h, h < T.1 0 → x.1 (bRk + 7) h = nI (rr h) ∧ rr h ≤ 1000000000) (hj : ∀ h, h < T.1 0 → x.1 (bRk + 8) h = bI (J h)) : aCt l mX4_reachFrom (d + 2) D [.ref bRk, .ref t, .ref bNow, .int (nI b)] x (fun v y => v = none ∧ (∀ h, h < T.1 0 → y.1 (bRk + 7) h = nI (if J h = true then rr h else min (rr h) (dd b h))) ∧ (∀ n, n ≠ bRk + 7 → y.1 n = x.1 n) ∧ y.2 = x.2) := by
  have h6 := ok.1
  have nt : ∀ k, k < 256 → t + k ≠ bRk + 7 := fun k hk => by rcases ht with rfl | rfl <;> unfold bRk <;> omega
  have nb : ∀ k, k < 256 → bNow + k ≠ bRk + 7 := fun k hk => by unfold bRk bNow; omega
  refine a_met (by decide) (Nat.le_of_ble_eq_true rfl) (fun v y q => Or.inr (Or.inr (Or.inr ⟨rfl, q.1⟩))) ?_
  have L : ∀ (f i : Nat), i + f = T.1 0 → ∀ y : aS, y.2 = x.2 → (∀ n, n ≠ bRk + 7 → y.1 n = x.1 n) → (∀ h, h < T.1 0 → y.1 (bRk + 7) h = nI (if h < i then (if J h = true then rr h else min (rr h) (dd b h)) else rr h)) → aV l mX4_reachFrom (d + 2) D none 3 [(0, .ref bRk), (1, .ref t), (2, .ref bNow), (3, .int (nI b)), (4, .int (nI i))] [] y (fun v y => v = none ∧ (∀ h, h < T.1 0 → y.1 (bRk + 7) h = nI (if J h = true then rr h else min (rr h) (dd b h))) ∧ (∀ n, n ≠ bRk + 7 → y.1 n = x.1 n) ∧ y.2 = x.2) := by
    intro f
    induction f with
    | zero =>
      intro i hi y h1 h2 h3
      rw [Nat.add_zero] at hi
      subst hi
      have e0 : y.1 t 1 = nI (T.1 0) := by rw [h2 t (nt 0 (by decide))]; exact hT.1
      refine a_iload (i := 4) dX4_reachFrom_3 rfl ?_
      refine a_aload_n (i := 1) dX4_reachFrom_5 rfl rfl ?_
      refine gX4_75 rfl dX4_reachFrom_6 (isT_0 hD ht) ?_
      rw [e0]
      refine a_icmp_ge (tg := 52) dX4_reachFrom_9 (by decide) (fun c_9 => ?_) (fun c_9 => ?_)
      · exact a_vret dX4_reachFrom_52 (by exact ⟨rfl, fun h hh => by rw [h3 h hh, if_pos hh], h2, h1⟩)
      · exact absurd (Int32.le_refl _) c_9
    | succ f ih =>
      intro i hi y h1 h2 h3
      have iN : i < T.1 0 := by omega
      have e0 : y.1 t 1 = nI (T.1 0) := by rw [h2 t (nt 0 (by decide))]; exact hT.1
      have ej : y.1 (bRk + 8) i = bI (J i) := by rw [h2 _ (by decide)]; exact hj i iN
      have er : y.1 (bRk + 7) i = nI (rr i) := by rw [h3 i iN, if_neg (by omega)]
      have Sy : rS T Z y bNow := rS_same (fun k hk => h2 _ (nb k hk)) hS
      have hc := cz_differ (l := l) (d := d) hD hbNow ok Sy hb iN
      rw [(hd b hb i iN).1] at hc
      have d1 := (hd b hb i iN).2.1
      have r1 := (hr i iN).2
      cases hJ : J i with
      | true =>
        rw [hJ] at ej
        have ih2 := ih (i + 1) (by omega) y h1 h2 (fun h hh => by
          rw [h3 h hh]
          by_cases e : h = i
          · subst e; rw [if_neg (show ¬ h < h by omega), if_pos (show h < h + 1 by omega), if_pos hJ]
          · by_cases q : h < i
            · rw [if_pos q, if_pos (show h < i + 1 by omega)]
            · rw [if_neg q, if_neg (show ¬ h < i + 1 by omega)])
        refine a_iload (i := 4) dX4_reachFrom_3 rfl ?_
        refine a_aload_n (i := 1) dX4_reachFrom_5 rfl rfl ?_
        refine gX4_75 rfl dX4_reachFrom_6 (isT_0 hD ht) ?_
        rw [e0]
        refine a_icmp_ge (tg := 52) dX4_reachFrom_9 (by decide) (fun c_9 => ?_) (fun c_9 => ?_)
        · exact absurd c_9 (nI_ge iN (by omega))
        · refine a_aload_n (i := 0) dX4_reachFrom_12 rfl rfl ?_
          refine gX4_30 rfl dX4_reachFrom_13 (isRk_0 hD) ?_
          refine a_iload (i := 4) dX4_reachFrom_16 rfl ?_
          refine a_zaldN dX4_reachFrom_18 (isRk_8 hD) (by first | with_reducible exact rfl | with_reducible exact ix8 _ _ | with_reducible exact ix12 _ _ | exact rfl) (by omega) (by decide) ?_
          rw [ej]
          refine a_if_ne (tg := 46) dX4_reachFrom_19 (by decide) (fun c_19 => ?_) (fun c_19 => ?_)
          · refine a_iincK (i := 4) (u := 1) dX4_reachFrom_46 rfl (by decide) (by decide) ?_
            refine a_goto (tg := 3) dX4_reachFrom_49 (by decide) ?_
            rw [nI_1]; exact a_loc _ rfl ih2
          · exact absurd c_19 (by decide)
      | false =>
        rw [hJ] at ej
        have ih2 := ih (i + 1) (by omega) (aWr y (bRk + 7) i (nI (min (rr i) (dd b i)))) h1 (fun n hn => by rw [aWr_n _ _ _ hn, h2 n hn]) (fun h hh => by
          by_cases e : h = i
          · subst e; rw [aWr_s, if_pos (by omega), if_neg (by rw [hJ]; decide)]
          · rw [aWr_j _ _ _ e, h3 h hh]
            by_cases q : h < i
            · rw [if_pos q, if_pos (show h < i + 1 by omega)]
            · rw [if_neg q, if_neg (show ¬ h < i + 1 by omega)])
        have em : jmin (nI (rr i)) (nI (dd b i)) = nI (min (rr i) (dd b i)) := jmin_n (by omega) (by omega)
        unfold jmin at em
        refine a_iload (i := 4) dX4_reachFrom_3 rfl ?_
        refine a_aload_n (i := 1) dX4_reachFrom_5 rfl rfl ?_
        refine gX4_75 rfl dX4_reachFrom_6 (isT_0 hD ht) ?_
        rw [e0]
        refine a_icmp_ge (tg := 52) dX4_reachFrom_9 (by decide) (fun c_9 => ?_) (fun c_9 => ?_)
        · exact absurd c_9 (nI_ge iN (by omega))
        · refine a_aload_n (i := 0) dX4_reachFrom_12 rfl rfl ?_
          refine gX4_30 rfl dX4_reachFrom_13 (isRk_0 hD) ?_
          refine a_iload (i := 4) dX4_reachFrom_16 rfl ?_
          refine a_zaldN dX4_reachFrom_18 (isRk_8 hD) (by first | with_reducible exact rfl | with_reducible exact ix8 _ _ | with_reducible exact ix12 _ _ | exact rfl) (by omega) (by decide) ?_
          rw [ej]
          refine a_if_ne (tg := 46) dX4_reachFrom_19 (by decide) (fun c_19 => ?_) (fun c_19 => ?_)
          · exact absurd rfl c_19
          · refine a_aload_n (i := 0) dX4_reachFrom_22 rfl rfl ?_
            refine gX4_27 rfl dX4_reachFrom_23 (isRk_0 hD) ?_
            refine a_iload (i := 4) dX4_reachFrom_26 rfl ?_
            refine a_aload_n (i := 0) dX4_reachFrom_28 rfl rfl ?_
            refine gX4_27 rfl dX4_reachFrom_29 (isRk_0 hD) ?_
            refine a_iload (i := 4) dX4_reachFrom_32 rfl ?_
            refine a_ialdN dX4_reachFrom_34 (isRk_7 hD) (by first | with_reducible exact rfl | with_reducible exact ix8 _ _ | with_reducible exact ix12 _ _ | exact rfl) (by omega) (by decide) ?_
            rw [er]
            refine a_aload_n (i := 2) dX4_reachFrom_35 rfl rfl ?_
            refine a_iload_n (i := 3) dX4_reachFrom_36 rfl rfl ?_
            refine a_iload (i := 4) dX4_reachFrom_37 rfl ?_
            refine kX4_113 rfl dX4_reachFrom_39 (Nat.le_of_ble_eq_true rfl) (isS_0 hD hbNow) (hc) ?_
            refine kX4_86 rfl dX4_reachFrom_42 (Nat.le_of_ble_eq_true rfl) ?_
            rw [em]
            refine a_iastN dX4_reachFrom_45 (isRk_7 hD) (by first | with_reducible exact rfl | with_reducible exact ix8 _ _ | with_reducible exact ix12 _ _ | exact rfl) (by omega) (by decide) ?_
            refine a_iincK (i := 4) (u := 1) dX4_reachFrom_46 rfl (by decide) (by decide) ?_
            refine a_goto (tg := 3) dX4_reachFrom_49 (by decide) ?_
            rw [nI_1]; exact a_loc _ rfl ih2
  refine a_iconst (v := 0) dX4_reachFrom_0 (by decide) ?_
  refine a_istore (i := 4) dX4_reachFrom_1 (by decide) ?_
  exact a_loc _ rfl (L (T.1 0) 0 (Nat.zero_add _) x rfl (fun _ _ => rfl) (fun h hh => by rw [if_neg (by omega)]; exact (hr h hh).1))
set_option maxHeartbeats 4000000 in
set_option maxRecDepth 100000 in
theorem c_X4_leastJoining (hD : aDC D) (ht : aTdB t) (ok : zTok T) (hT : rT T x t) (hS : rS T Z x bNow) (hd : jOk T Z dd) : aCt l mX4_leastJoining (d + 3) D [.ref bRk, .ref t, .ref bNow] x (fun v y => (∃ r, v = some (.int r) ∧ jSum (T.1 0) dd r) ∧ cF x y) := by
  have h6 := ok.1
  have nt : ∀ k, k < 256 → t + k ≠ bRk + 7 ∧ t + k ≠ bRk + 8 := fun k hk => by rcases ht with rfl | rfl <;> unfold bRk <;> omega
  have nb : ∀ k, k < 256 → bNow + k ≠ bRk + 7 ∧ bNow + k ≠ bRk + 8 := fun k hk => by unfold bRk bNow; omega
  have gT : ∀ y : aS, (∀ n, n ≠ bRk + 7 → n ≠ bRk + 8 → y.1 n = x.1 n) → rT T y t := fun y hy => rT_same (fun k hk => hy _ (nt k hk).1 (nt k hk).2) ok hT
  have gS : ∀ y : aS, (∀ n, n ≠ bRk + 7 → n ≠ bRk + 8 → y.1 n = x.1 n) → rS T Z y bNow := fun y hy => rS_same (fun k hk => hy _ (nb k hk).1 (nb k hk).2) hS
  refine a_met (by decide) (Nat.le_of_ble_eq_true rfl) (fun v y q => by obtain ⟨⟨r, e, _⟩, _⟩ := q; exact Or.inl ⟨rfl, r, e⟩) ?_
  have M : ∀ (f K : Nat), K + f = T.1 0 → ∀ (v w rr : Nat → Nat) (J : Nat → Bool) (y : aS), primP (T.1 0) dd K v w → (∀ h, h < T.1 0 → (J h = true ↔ ∃ a, a < K ∧ v a = h)) → jI (T.1 0) dd K v rr → y.2 = x.2 → (∀ n, n ≠ bRk + 7 → n ≠ bRk + 8 → y.1 n = x.1 n) → (∀ h, h < T.1 0 → y.1 (bRk + 7) h = nI (rr h) ∧ y.1 (bRk + 8) h = bI (J h)) → aV l mX4_leastJoining (d + 3) D none 44 [(0, .ref bRk), (1, .ref t), (2, .ref bNow), (3, .int (nI (sw w K))), (4, .int (nI K))] [] y (fun v y => (∃ r, v = some (.int r) ∧ jSum (T.1 0) dd r) ∧ cF x y) := by
    intro f
    induction f with
    | zero =>
      intro K hK v w rr J y hP hJ hI h1 h2 h3
      rw [Nat.add_zero] at hK
      subst hK
      have e0 : y.1 t 1 = nI (T.1 0) := (gT y h2).1
      have F : cF x y := fun n _ _ c => ⟨h2 n (fun e => c (by rw [e]; decide)) (fun e => c (by rw [e]; decide)), by rw [h1]⟩
      refine a_iload (i := 4) dX4_leastJoining_44 rfl ?_
      refine a_aload_n (i := 1) dX4_leastJoining_46 rfl rfl ?_
      refine gX4_75 rfl dX4_leastJoining_47 (isT_0 hD ht) ?_
      rw [e0]
      refine a_icmp_ge (tg := 149) dX4_leastJoining_50 (by decide) (fun c_50 => ?_) (fun c_50 => ?_)
      · refine a_iload_n (i := 3) dX4_leastJoining_149 rfl rfl ?_
        exact a_iret dX4_leastJoining_150 (by exact ⟨⟨_, rfl, v, w, hP, rfl⟩, F⟩)
      · exact absurd (Int32.le_refl _) c_50
    | succ f ih =>
      intro K hK v w rr J y hP hJ hI h1 h2 h3
      have e0 : y.1 t 1 = nI (T.1 0) := (gT y h2).1
      have G : ∀ b, b < T.1 0 → J b = false → (∀ h, h < T.1 0 → J h = false → rr b ≤ rr h) → aV l mX4_leastJoining (d + 3) D none 111 [(0, .ref bRk), (1, .ref t), (2, .ref bNow), (3, .int (nI (sw w K))), (4, .int (nI K)), (5, .int (nI b))] [] y (fun v y => (∃ r, v = some (.int r) ∧ jSum (T.1 0) dd r) ∧ cF x y) := by
        intro b hb hJb hm
        obtain ⟨⟨g1, g2⟩, g3, g4⟩ := prim_go hP hJ hI hb hJb hm (fun h hh => (hd b hb h hh).2.1)
        have nn : ¬ nI b = -1 := fun g => absurd (show nI b < 0 by rw [g]; decide) (nI_pos (by omega))
        have er : (aWr y (bRk + 8) b 1).1 (bRk + 7) b = nI (rr b) := by rw [aWr_n _ _ _ (by decide)]; exact (h3 b hb).1
        have Y2 : ∀ n, n ≠ bRk + 7 → n ≠ bRk + 8 → (aWr y (bRk + 8) b 1).1 n = x.1 n := fun n a c => by rw [aWr_n _ _ _ c, h2 n a c]
        have hc := c_X4_reachFrom (l := l) (d := d) (D := D) (rr := rr) (J := fun h => J h || decide (h = b)) hD ht ok (gT _ Y2) (gS _ Y2) hd hb (fun h hh => ⟨by rw [aWr_n _ _ _ (by decide)]; exact (h3 h hh).1, hI.1 h hh⟩) (fun h hh => by
          by_cases e : h = b
          · subst e; rw [aWr_s]; simp [bI]
          · rw [aWr_j _ _ _ e, (h3 h hh).2]; simp [e])
        have es : nI (sw w K) + nI (rr b) = nI (sw (nxt w K (rr b)) (K + 1)) := by rw [nI_add, g2]
        refine a_iload (i := 5) dX4_leastJoining_111 rfl ?_
        refine a_iconst (v := (-1)) dX4_leastJoining_113 (by decide) ?_
        refine a_icmp_eq (tg := 143) dX4_leastJoining_114 (by decide) (fun c_114 => ?_) (fun c_114 => ?_)
        · exact absurd c_114 nn
        · refine a_aload_n (i := 0) dX4_leastJoining_117 rfl rfl ?_
          refine gX4_30 rfl dX4_leastJoining_118 (isRk_0 hD) ?_
          refine a_iload (i := 5) dX4_leastJoining_121 rfl ?_
          refine a_iconst (v := 1) dX4_leastJoining_123 (by decide) ?_
          refine a_zastN dX4_leastJoining_124 (isRk_8 hD) (by first | with_reducible exact rfl | with_reducible exact ix8 _ _ | with_reducible exact ix12 _ _ | exact rfl) (by omega) (by decide) (by first | exact Or.inl rfl | exact Or.inr rfl | assumption) ?_
          refine a_iload_n (i := 3) dX4_leastJoining_125 rfl rfl ?_
          refine a_aload_n (i := 0) dX4_leastJoining_126 rfl rfl ?_
          refine gX4_27 rfl dX4_leastJoining_127 (isRk_0 hD) ?_
          refine a_iload (i := 5) dX4_leastJoining_130 rfl ?_
          refine a_ialdN dX4_leastJoining_132 (isRk_7 hD) (by first | with_reducible exact rfl | with_reducible exact ix8 _ _ | with_reducible exact ix12 _ _ | exact rfl) (by omega) (by decide) ?_
          rw [er]
          refine a_iadd dX4_leastJoining_133 ?_
          rw [es]
          refine a_istore_n (i := 3) dX4_leastJoining_134 rfl (by decide) ?_
          refine a_aload_n (i := 0) dX4_leastJoining_135 rfl rfl ?_
          refine a_aload_n (i := 1) dX4_leastJoining_136 rfl rfl ?_
          refine a_aload_n (i := 2) dX4_leastJoining_137 rfl rfl ?_
          refine a_iload (i := 5) dX4_leastJoining_138 rfl ?_
          refine kgX4_109 rfl dX4_leastJoining_140 (Nat.le_of_ble_eq_true rfl) (isRk_0 hD) (hc) ?_
          rintro r z ⟨rfl, z1, z2, z3⟩
          refine a_iincK (i := 4) (u := 1) dX4_leastJoining_143 rfl (by decide) (by decide) ?_
          refine a_goto (tg := 44) dX4_leastJoining_146 (by decide) ?_
          rw [nI_1]; exact a_loc _ rfl (ih (K + 1) (by omega) _ _ _ _ z g1 g3 g4 (by rw [z3]; exact h1) (fun n a c => by rw [z2 n a]; exact Y2 n a c) (fun h hh => ⟨z1 h hh, by rw [z2 _ (by decide)]; by_cases e : h = b; subst e; rw [aWr_s]; simp [bI]; rw [aWr_j _ _ _ e, (h3 h hh).2]; simp [e]⟩))
      have S : ∀ (g i : Nat), i + g = T.1 0 → ∀ nx : Int32, ((nx = -1 ∧ ∀ h, h < i → J h = true) ∨ (∃ b, b < i ∧ nx = nI b ∧ J b = false ∧ ∀ h, h < i → J h = false → rr b ≤ rr h)) → aV l mX4_leastJoining (d + 3) D none 59 [(0, .ref bRk), (1, .ref t), (2, .ref bNow), (3, .int (nI (sw w K))), (4, .int (nI K)), (5, .int nx), (6, .int (nI i))] [] y (fun v y => (∃ r, v = some (.int r) ∧ jSum (T.1 0) dd r) ∧ cF x y) := by
        intro g
        induction g with
        | zero =>
          intro i hi nx hx
          rw [Nat.add_zero] at hi
          subst hi
          rcases hx with ⟨rfl, hx⟩ | ⟨b, hb, rfl, hx, hy⟩
          · exfalso
            have := cover_le (K := K) (v := v) (fun u hu => (hJ u hu).mp (hx u hu))
            omega
          · refine a_iload (i := 6) dX4_leastJoining_59 rfl ?_
            refine a_aload_n (i := 1) dX4_leastJoining_61 rfl rfl ?_
            refine gX4_75 rfl dX4_leastJoining_62 (isT_0 hD ht) ?_
            rw [e0]
            refine a_icmp_ge (tg := 111) dX4_leastJoining_65 (by decide) (fun c_65 => ?_) (fun c_65 => ?_)
            · exact a_loc _ rfl (G b hb hx hy)
            · exact absurd (Int32.le_refl _) c_65
        | succ g ih2 =>
          intro i hi nx hx
          have iN : i < T.1 0 := by omega
          obtain ⟨er, ej⟩ := h3 i iN
          cases hJi : J i with
          | true =>
            rw [hJi] at ej
            have ih3 := ih2 (i + 1) (by omega) nx (by
              rcases hx with ⟨e, hx⟩ | ⟨b, hb, e, hx, hy⟩
              · exact Or.inl ⟨e, fun h hh => by by_cases q : h = i; rw [q]; exact hJi; exact hx h (by omega)⟩
              · exact Or.inr ⟨b, by omega, e, hx, fun h hh hf => by by_cases q : h = i; rw [q, hJi] at hf; exact absurd hf (by decide); exact hy h (by omega) hf⟩)
            refine a_iload (i := 6) dX4_leastJoining_59 rfl ?_
            refine a_aload_n (i := 1) dX4_leastJoining_61 rfl rfl ?_
            refine gX4_75 rfl dX4_leastJoining_62 (isT_0 hD ht) ?_
            rw [e0]
            refine a_icmp_ge (tg := 111) dX4_leastJoining_65 (by decide) (fun c_65 => ?_) (fun c_65 => ?_)
            · exact absurd c_65 (nI_ge iN (by omega))
            · refine a_aload_n (i := 0) dX4_leastJoining_68 rfl rfl ?_
              refine gX4_30 rfl dX4_leastJoining_69 (isRk_0 hD) ?_
              refine a_iload (i := 6) dX4_leastJoining_72 rfl ?_
              refine a_zaldN dX4_leastJoining_74 (isRk_8 hD) (by first | with_reducible exact rfl | with_reducible exact ix8 _ _ | with_reducible exact ix12 _ _ | exact rfl) (by omega) (by decide) ?_
              rw [ej]
              refine a_if_ne (tg := 105) dX4_leastJoining_75 (by decide) (fun c_75 => ?_) (fun c_75 => ?_)
              · refine a_iincK (i := 6) (u := 1) dX4_leastJoining_105 rfl (by decide) (by decide) ?_
                refine a_goto (tg := 59) dX4_leastJoining_108 (by decide) ?_
                rw [nI_1]; exact a_loc _ rfl ih3
              · exact absurd c_75 (by decide)
          | false =>
            rw [hJi] at ej
            rcases hx with ⟨rfl, hx⟩ | ⟨b, hb, rfl, hx, hy⟩
            · have ih3 := ih2 (i + 1) (by omega) (nI i) (Or.inr ⟨i, by omega, rfl, hJi, fun h hh hf => by by_cases q : h = i; rw [q]; exact Nat.le_refl _; rw [hx h (by omega)] at hf; exact absurd hf (by decide)⟩)
              refine a_iload (i := 6) dX4_leastJoining_59 rfl ?_
              refine a_aload_n (i := 1) dX4_leastJoining_61 rfl rfl ?_
              refine gX4_75 rfl dX4_leastJoining_62 (isT_0 hD ht) ?_
              rw [e0]
              refine a_icmp_ge (tg := 111) dX4_leastJoining_65 (by decide) (fun c_65 => ?_) (fun c_65 => ?_)
              · exact absurd c_65 (nI_ge iN (by omega))
              · refine a_aload_n (i := 0) dX4_leastJoining_68 rfl rfl ?_
                refine gX4_30 rfl dX4_leastJoining_69 (isRk_0 hD) ?_
                refine a_iload (i := 6) dX4_leastJoining_72 rfl ?_
                refine a_zaldN dX4_leastJoining_74 (isRk_8 hD) (by first | with_reducible exact rfl | with_reducible exact ix8 _ _ | with_reducible exact ix12 _ _ | exact rfl) (by omega) (by decide) ?_
                rw [ej]
                refine a_if_ne (tg := 105) dX4_leastJoining_75 (by decide) (fun c_75 => ?_) (fun c_75 => ?_)
                · exact absurd rfl c_75
                · refine a_iload (i := 5) dX4_leastJoining_78 rfl ?_
                  refine a_iconst (v := (-1)) dX4_leastJoining_80 (by decide) ?_
                  refine a_icmp_eq (tg := 101) dX4_leastJoining_81 (by decide) (fun c_81 => ?_) (fun c_81 => ?_)
                  · refine a_iload (i := 6) dX4_leastJoining_101 rfl ?_
                    refine a_istore (i := 5) dX4_leastJoining_103 (by decide) ?_
                    refine a_iincK (i := 6) (u := 1) dX4_leastJoining_105 rfl (by decide) (by decide) ?_
                    refine a_goto (tg := 59) dX4_leastJoining_108 (by decide) ?_
                    rw [nI_1]; exact a_loc _ rfl ih3
                  · exact absurd rfl c_81
            · have nn : ¬ nI b = -1 := fun g => absurd (show nI b < 0 by rw [g]; decide) (nI_pos (by omega))
              have rb := (h3 b (by omega)).1
              have r1 := hI.1 i iN
              have r2 := hI.1 b (by omega)
              by_cases q : rr i < rr b
              · have ih3 := ih2 (i + 1) (by omega) (nI i) (Or.inr ⟨i, by omega, rfl, hJi, fun h hh hf => by by_cases q2 : h = i; rw [q2]; exact Nat.le_refl _; have := hy h (by omega) hf; omega⟩)
                refine a_iload (i := 6) dX4_leastJoining_59 rfl ?_
                refine a_aload_n (i := 1) dX4_leastJoining_61 rfl rfl ?_
                refine gX4_75 rfl dX4_leastJoining_62 (isT_0 hD ht) ?_
                rw [e0]
                refine a_icmp_ge (tg := 111) dX4_leastJoining_65 (by decide) (fun c_65 => ?_) (fun c_65 => ?_)
                · exact absurd c_65 (nI_ge iN (by omega))
                · refine a_aload_n (i := 0) dX4_leastJoining_68 rfl rfl ?_
                  refine gX4_30 rfl dX4_leastJoining_69 (isRk_0 hD) ?_
                  refine a_iload (i := 6) dX4_leastJoining_72 rfl ?_
                  refine a_zaldN dX4_leastJoining_74 (isRk_8 hD) (by first | with_reducible exact rfl | with_reducible exact ix8 _ _ | with_reducible exact ix12 _ _ | exact rfl) (by omega) (by decide) ?_
                  rw [ej]
                  refine a_if_ne (tg := 105) dX4_leastJoining_75 (by decide) (fun c_75 => ?_) (fun c_75 => ?_)
                  · exact absurd rfl c_75
                  · refine a_iload (i := 5) dX4_leastJoining_78 rfl ?_
                    refine a_iconst (v := (-1)) dX4_leastJoining_80 (by decide) ?_
                    refine a_icmp_eq (tg := 101) dX4_leastJoining_81 (by decide) (fun c_81 => ?_) (fun c_81 => ?_)
                    · exact absurd c_81 nn
                    · refine a_aload_n (i := 0) dX4_leastJoining_84 rfl rfl ?_
                      refine gX4_27 rfl dX4_leastJoining_85 (isRk_0 hD) ?_
                      refine a_iload (i := 6) dX4_leastJoining_88 rfl ?_
                      refine a_ialdN dX4_leastJoining_90 (isRk_7 hD) (by first | with_reducible exact rfl | with_reducible exact ix8 _ _ | with_reducible exact ix12 _ _ | exact rfl) (by omega) (by decide) ?_
                      rw [er]
                      refine a_aload_n (i := 0) dX4_leastJoining_91 rfl rfl ?_
                      refine gX4_27 rfl dX4_leastJoining_92 (isRk_0 hD) ?_
                      refine a_iload (i := 5) dX4_leastJoining_95 rfl ?_
                      refine a_ialdN dX4_leastJoining_97 (isRk_7 hD) (by first | with_reducible exact rfl | with_reducible exact ix8 _ _ | with_reducible exact ix12 _ _ | exact rfl) (by omega) (by decide) ?_
                      rw [rb]
                      refine a_icmp_ge (tg := 105) dX4_leastJoining_98 (by decide) (fun c_98 => ?_) (fun c_98 => ?_)
                      · exact absurd c_98 (nI_ge q (by omega))
                      · refine a_iload (i := 6) dX4_leastJoining_101 rfl ?_
                        refine a_istore (i := 5) dX4_leastJoining_103 (by decide) ?_
                        refine a_iincK (i := 6) (u := 1) dX4_leastJoining_105 rfl (by decide) (by decide) ?_
                        refine a_goto (tg := 59) dX4_leastJoining_108 (by decide) ?_
                        rw [nI_1]; exact a_loc _ rfl ih3
              · have ih3 := ih2 (i + 1) (by omega) (nI b) (Or.inr ⟨b, by omega, rfl, hx, fun h hh hf => by by_cases q2 : h = i; rw [q2]; omega; exact hy h (by omega) hf⟩)
                refine a_iload (i := 6) dX4_leastJoining_59 rfl ?_
                refine a_aload_n (i := 1) dX4_leastJoining_61 rfl rfl ?_
                refine gX4_75 rfl dX4_leastJoining_62 (isT_0 hD ht) ?_
                rw [e0]
                refine a_icmp_ge (tg := 111) dX4_leastJoining_65 (by decide) (fun c_65 => ?_) (fun c_65 => ?_)
                · exact absurd c_65 (nI_ge iN (by omega))
                · refine a_aload_n (i := 0) dX4_leastJoining_68 rfl rfl ?_
                  refine gX4_30 rfl dX4_leastJoining_69 (isRk_0 hD) ?_
                  refine a_iload (i := 6) dX4_leastJoining_72 rfl ?_
                  refine a_zaldN dX4_leastJoining_74 (isRk_8 hD) (by first | with_reducible exact rfl | with_reducible exact ix8 _ _ | with_reducible exact ix12 _ _ | exact rfl) (by omega) (by decide) ?_
                  rw [ej]
                  refine a_if_ne (tg := 105) dX4_leastJoining_75 (by decide) (fun c_75 => ?_) (fun c_75 => ?_)
                  · exact absurd rfl c_75
                  · refine a_iload (i := 5) dX4_leastJoining_78 rfl ?_
                    refine a_iconst (v := (-1)) dX4_leastJoining_80 (by decide) ?_
                    refine a_icmp_eq (tg := 101) dX4_leastJoining_81 (by decide) (fun c_81 => ?_) (fun c_81 => ?_)
                    · exact absurd c_81 nn
                    · refine a_aload_n (i := 0) dX4_leastJoining_84 rfl rfl ?_
                      refine gX4_27 rfl dX4_leastJoining_85 (isRk_0 hD) ?_
                      refine a_iload (i := 6) dX4_leastJoining_88 rfl ?_
                      refine a_ialdN dX4_leastJoining_90 (isRk_7 hD) (by first | with_reducible exact rfl | with_reducible exact ix8 _ _ | with_reducible exact ix12 _ _ | exact rfl) (by omega) (by decide) ?_
                      rw [er]
                      refine a_aload_n (i := 0) dX4_leastJoining_91 rfl rfl ?_
                      refine gX4_27 rfl dX4_leastJoining_92 (isRk_0 hD) ?_
                      refine a_iload (i := 5) dX4_leastJoining_95 rfl ?_
                      refine a_ialdN dX4_leastJoining_97 (isRk_7 hD) (by first | with_reducible exact rfl | with_reducible exact ix8 _ _ | with_reducible exact ix12 _ _ | exact rfl) (by omega) (by decide) ?_
                      rw [rb]
                      refine a_icmp_ge (tg := 105) dX4_leastJoining_98 (by decide) (fun c_98 => ?_) (fun c_98 => ?_)
                      · refine a_iincK (i := 6) (u := 1) dX4_leastJoining_105 rfl (by decide) (by decide) ?_
                        refine a_goto (tg := 59) dX4_leastJoining_108 (by decide) ?_
                        rw [nI_1]; exact a_loc _ rfl ih3
                      · exact absurd (nI_le (show rr b ≤ rr i by omega) (by omega)) c_98
      refine a_iload (i := 4) dX4_leastJoining_44 rfl ?_
      refine a_aload_n (i := 1) dX4_leastJoining_46 rfl rfl ?_
      refine gX4_75 rfl dX4_leastJoining_47 (isT_0 hD ht) ?_
      rw [e0]
      refine a_icmp_ge (tg := 149) dX4_leastJoining_50 (by decide) (fun c_50 => ?_) (fun c_50 => ?_)
      · exact absurd c_50 (nI_ge (show K < T.1 0 by omega) (by omega))
      · refine a_iconst (v := (-1)) dX4_leastJoining_53 (by decide) ?_
        refine a_istore (i := 5) dX4_leastJoining_54 (by decide) ?_
        refine a_iconst (v := 0) dX4_leastJoining_56 (by decide) ?_
        refine a_istore (i := 6) dX4_leastJoining_57 (by decide) ?_
        exact a_loc _ rfl (S (T.1 0) 0 (Nat.zero_add _) (-1) (Or.inl ⟨rfl, fun h hh => absurd hh (by omega)⟩))
  have I : ∀ (f i : Nat), i + f = T.1 0 → ∀ y : aS, y.2 = x.2 → (∀ n, n ≠ bRk + 7 → n ≠ bRk + 8 → y.1 n = x.1 n) → (∀ h, h < i → y.1 (bRk + 7) h = nI (if h = 0 then 0 else 1000000000) ∧ y.1 (bRk + 8) h = 0) → aV l mX4_leastJoining (d + 3) D none 2 [(0, .ref bRk), (1, .ref t), (2, .ref bNow), (3, .int (nI i))] [] y (fun v y => (∃ r, v = some (.int r) ∧ jSum (T.1 0) dd r) ∧ cF x y) := by
    intro f
    induction f with
    | zero =>
      intro i hi y h1 h2 h3
      rw [Nat.add_zero] at hi
      subst hi
      have e0 : y.1 t 1 = nI (T.1 0) := (gT y h2).1
      have M0 := M (T.1 0) 0 (Nat.zero_add _) (fun _ => 0) (fun _ => 0) (fun h => if h = 0 then 0 else 1000000000) (fun _ => false) y ⟨fun k hk => absurd hk (by omega), fun i hi => absurd hi (by omega), fun h => absurd h (by omega), rfl, fun k _ hk => absurd hk (by omega)⟩ (fun h hh => ⟨fun g => absurd g (by decide), fun ⟨a, ha, _⟩ => absurd ha (by omega)⟩) ⟨fun h hh => by show (if h = 0 then 0 else 1000000000) ≤ 1000000000; split <;> omega, fun _ h hh => rfl, fun h => absurd h (by omega)⟩ h1 h2 h3
      refine a_iload_n (i := 3) dX4_leastJoining_2 rfl rfl ?_
      refine a_aload_n (i := 1) dX4_leastJoining_3 rfl rfl ?_
      refine gX4_75 rfl dX4_leastJoining_4 (isT_0 hD ht) ?_
      rw [e0]
      refine a_icmp_ge (tg := 39) dX4_leastJoining_7 (by decide) (fun c_7 => ?_) (fun c_7 => ?_)
      · refine a_iconst (v := 0) dX4_leastJoining_39 (by decide) ?_
        refine a_istore_n (i := 3) dX4_leastJoining_40 rfl (by decide) ?_
        refine a_iconst (v := 0) dX4_leastJoining_41 (by decide) ?_
        refine a_istore (i := 4) dX4_leastJoining_42 (by decide) ?_
        exact a_loc _ rfl M0
      · exact absurd (Int32.le_refl _) c_7
    | succ f ih =>
      intro i hi y h1 h2 h3
      have e0 : y.1 t 1 = nI (T.1 0) := (gT y h2).1
      have ih2 := ih (i + 1) (by omega) (aWr (aWr y (bRk + 7) i (nI (if i = 0 then 0 else 1000000000))) (bRk + 8) i 0) h1 (fun n a c => by rw [aWr_n _ _ _ c, aWr_n _ _ _ a, h2 n a c]) (fun h hh => by
        by_cases e : h = i
        · subst e; exact ⟨by rw [aWr_n _ _ _ (by decide), aWr_s], aWr_s _ _ _ _⟩
        · obtain ⟨a, b⟩ := h3 h (by omega)
          exact ⟨by rw [aWr_n _ _ _ (by decide), aWr_j _ _ _ e]; exact a, by rw [aWr_j _ _ _ e, aWr_n _ _ _ (by decide)]; exact b⟩)
      by_cases i0 : i = 0
      · subst i0
        refine a_iload_n (i := 3) dX4_leastJoining_2 rfl rfl ?_
        refine a_aload_n (i := 1) dX4_leastJoining_3 rfl rfl ?_
        refine gX4_75 rfl dX4_leastJoining_4 (isT_0 hD ht) ?_
        rw [e0]
        refine a_icmp_ge (tg := 39) dX4_leastJoining_7 (by decide) (fun c_7 => ?_) (fun c_7 => ?_)
        · exact absurd c_7 (nI_ge (show 0 < T.1 0 by omega) (by omega))
        · refine a_aload_n (i := 0) dX4_leastJoining_10 rfl rfl ?_
          refine gX4_27 rfl dX4_leastJoining_11 (isRk_0 hD) ?_
          refine a_iload_n (i := 3) dX4_leastJoining_14 rfl rfl ?_
          refine a_iload_n (i := 3) dX4_leastJoining_15 rfl rfl ?_
          refine a_if_ne (tg := 23) dX4_leastJoining_16 (by decide) (fun c_16 => ?_) (fun c_16 => ?_)
          · exact absurd rfl c_16
          · refine a_iconst (v := 0) dX4_leastJoining_19 (by decide) ?_
            refine a_goto (tg := 25) dX4_leastJoining_20 (by decide) ?_
            refine a_iastN dX4_leastJoining_25 (isRk_7 hD) (by first | with_reducible exact rfl | with_reducible exact ix8 _ _ | with_reducible exact ix12 _ _ | exact rfl) (by omega) (by decide) ?_
            refine a_aload_n (i := 0) dX4_leastJoining_26 rfl rfl ?_
            refine gX4_30 rfl dX4_leastJoining_27 (isRk_0 hD) ?_
            refine a_iload_n (i := 3) dX4_leastJoining_30 rfl rfl ?_
            refine a_iconst (v := 0) dX4_leastJoining_31 (by decide) ?_
            refine a_zastN dX4_leastJoining_32 (isRk_8 hD) (by first | with_reducible exact rfl | with_reducible exact ix8 _ _ | with_reducible exact ix12 _ _ | exact rfl) (by omega) (by decide) (by first | exact Or.inl rfl | exact Or.inr rfl | assumption) ?_
            refine a_iincK (i := 3) (u := 1) dX4_leastJoining_33 rfl (by decide) (by decide) ?_
            refine a_goto (tg := 2) dX4_leastJoining_36 (by decide) ?_
            rw [nI_1]; exact a_loc _ rfl ih2
      · rw [if_neg i0] at ih2
        refine a_iload_n (i := 3) dX4_leastJoining_2 rfl rfl ?_
        refine a_aload_n (i := 1) dX4_leastJoining_3 rfl rfl ?_
        refine gX4_75 rfl dX4_leastJoining_4 (isT_0 hD ht) ?_
        rw [e0]
        refine a_icmp_ge (tg := 39) dX4_leastJoining_7 (by decide) (fun c_7 => ?_) (fun c_7 => ?_)
        · exact absurd c_7 (nI_ge (show i < T.1 0 by omega) (by omega))
        · refine a_aload_n (i := 0) dX4_leastJoining_10 rfl rfl ?_
          refine gX4_27 rfl dX4_leastJoining_11 (isRk_0 hD) ?_
          refine a_iload_n (i := 3) dX4_leastJoining_14 rfl rfl ?_
          refine a_iload_n (i := 3) dX4_leastJoining_15 rfl rfl ?_
          refine a_if_ne (tg := 23) dX4_leastJoining_16 (by decide) (fun c_16 => ?_) (fun c_16 => ?_)
          · refine a_ldc (v := 1000000000) dX4_leastJoining_23 (oX4_89 rfl) ?_
            refine a_iastN dX4_leastJoining_25 (isRk_7 hD) (by first | with_reducible exact rfl | with_reducible exact ix8 _ _ | with_reducible exact ix12 _ _ | exact rfl) (by omega) (by decide) ?_
            refine a_aload_n (i := 0) dX4_leastJoining_26 rfl rfl ?_
            refine gX4_30 rfl dX4_leastJoining_27 (isRk_0 hD) ?_
            refine a_iload_n (i := 3) dX4_leastJoining_30 rfl rfl ?_
            refine a_iconst (v := 0) dX4_leastJoining_31 (by decide) ?_
            refine a_zastN dX4_leastJoining_32 (isRk_8 hD) (by first | with_reducible exact rfl | with_reducible exact ix8 _ _ | with_reducible exact ix12 _ _ | exact rfl) (by omega) (by decide) (by first | exact Or.inl rfl | exact Or.inr rfl | assumption) ?_
            refine a_iincK (i := 3) (u := 1) dX4_leastJoining_33 rfl (by decide) (by decide) ?_
            refine a_goto (tg := 2) dX4_leastJoining_36 (by decide) ?_
            rw [nI_1]; exact a_loc _ rfl ih2
          · exact absurd c_16 (nI_ne0 (by omega) (by omega))
  refine a_iconst (v := 0) dX4_leastJoining_0 (by decide) ?_
  refine a_istore_n (i := 3) dX4_leastJoining_1 rfl (by decide) ?_
  exact a_loc _ rfl (I (T.1 0) 0 (Nat.zero_add _) x rfl (fun _ _ _ => rfl) (fun h hh => absurd hh (by omega)))
set_option maxHeartbeats 4000000 in
set_option maxRecDepth 100000 in
theorem c_X11_join (hD : aDC D) (h : cR T W Z x t) (hd : jOk T Z dd) : aCt l mX11_join (d + 4) D [.ref bLH] x (fun v y => (∃ r, v = some (.int r) ∧ jSum (T.1 0) dd r) ∧ cF x y) := by
  obtain ⟨ht, hp, ok, hZ, hT, hW, hS⟩ := h
  refine a_met (by decide) (Nat.le_of_ble_eq_true rfl) (fun v y q => by obtain ⟨⟨r, e, _⟩, _⟩ := q; exact Or.inl ⟨rfl, r, e⟩) ?_
  refine a_aload_n (i := 0) dX11_join_0 rfl rfl ?_
  refine gX11_64 rfl dX11_join_1 (isLH_0 hD) ?_
  refine a_aload_n (i := 0) dX11_join_4 rfl rfl ?_
  refine gX11_23 rfl dX11_join_5 (isLH_0 hD) ?_
  rw [hp]
  refine a_aload_n (i := 0) dX11_join_8 rfl rfl ?_
  refine gX11_30 rfl dX11_join_9 (isLH_0 hD) ?_
  refine kgX11_323 rfl dX11_join_12 (Nat.le_of_ble_eq_true rfl) (isRk_0 hD) (c_X4_leastJoining hD ht ok hT hS hd) ?_
  rintro v y ⟨⟨r, rfl, hr⟩, hF⟩
  exact a_iret dX11_join_15 (by exact ⟨⟨r, rfl, hr⟩, hF⟩)
end qU
