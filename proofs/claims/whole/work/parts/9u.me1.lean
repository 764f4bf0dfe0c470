/-! READING an E, the model: bind -/
section qBB
variable {l : Launch} {d : Nat} {D : Nat → Bool} {x y : aS} {n f : Nat} {B : Nat → Nat} {S : eS} {r : zP}
theorem mGw_o {c i m j : Nat} {k a b : Int32} (h : ¬ (bM + 46 ≤ m ∧ m ≤ bM + 48 ∧ j = 64 + c)) (h2 : ¬ (m = bM + 50 ∧ j = i)) (h3 : ¬ (m = bM ∧ (j = 51 ∨ j = 23))) : (mGw x c i k a b).1 m j = x.1 m j := by
  unfold mGw
  rw [aWr_o _ _ (by omega), aWr_o _ _ (by omega), aWr_o _ _ (by omega), aWr_o _ _ (by omega), aWr_o _ _ (by omega), aWr_o _ _ (by omega)]
theorem mGw_v {c i : Nat} {k a b : Int32} : (mGw x c i k a b).1 (bM + 46) (64 + c) = k ∧ (mGw x c i k a b).1 (bM + 47) (64 + c) = a ∧ (mGw x c i k a b).1 (bM + 48) (64 + c) = b ∧ (mGw x c i k a b).1 (bM + 50) i = nI c ∧ (mGw x c i k a b).1 bM 51 = nI (i + 1) ∧ (mGw x c i k a b).1 bM 23 = nI (c + 1) := by
  unfold mGw
  refine ⟨?_, ?_, ?_, ?_, ?_, ?_⟩
  · rw [aWr_n _ _ _ (by decide), aWr_n _ _ _ (by decide), aWr_n _ _ _ (by decide), aWr_n _ _ _ (by decide), aWr_n _ _ _ (by decide), aWr_s]
  · rw [aWr_n _ _ _ (by decide), aWr_n _ _ _ (by decide), aWr_n _ _ _ (by decide), aWr_n _ _ _ (by decide), aWr_s]
  · rw [aWr_n _ _ _ (by decide), aWr_n _ _ _ (by decide), aWr_n _ _ _ (by decide), aWr_s]
  · rw [aWr_n _ _ _ (by decide), aWr_n _ _ _ (by decide), aWr_s]
  · rw [aWr_j _ _ _ (by decide), aWr_s]
  · rw [aWr_s]
theorem mGw_e {c i : Nat} {k a b : Int32} (hf : f ≤ c) : mEb f x (mGw x c i k a b) := ⟨fun m j e => mGw_o (fun g => e (Or.inr (Or.inr (Or.inr ⟨g.1, g.2.1, by omega⟩)))) (fun g => e (Or.inr (Or.inr (Or.inl g.1)))) (fun g => e (Or.inl ⟨g.1, by omega⟩)), rfl⟩
/-- a node more: what holds -/
theorem es_g {w o kn : Nat} {s : Nat → Nat} {L : zL} {I R : List Nat} {P O : Nat → Nat} {k v : Int32} {X : aS} (c64 : f + L.1 < 64) (h50 : X.1 bM 50 = nI w) (h49 : ∀ j, j < w → X.1 (bM + 49) j = kcd (s j)) (h52 : X.1 bM 52 = nI o) (h53 : X.1 bM 53 = nI kn) (h54 : X.1 bM 54 = bI false) (h23 : X.1 bM 23 = nI (f + L.1 + 1)) (h51 : X.1 bM 51 = nI (R.length + 1)) (hh : X.1 (bM + 50) R.length = nI (f + L.1)) (hR : hL R X) (hN : nds L (shr y) P O f I) (fr : ∀ m j, bM + 46 ≤ m → m ≤ bM + 48 → j < f + L.1 → X.1 m (64 + j) = y.1 m (64 + j)) (h46 : X.1 (bM + 46) (64 + (f + L.1)) = kcode k) (N : nwN k v (shr X) (f + L.1) I ((f + L.1) :: R)) (hl : R.length + 1 = 1 + wbn s w) : mEs f (r, false, w, s, lAp L k v, o, kn) X := by
  have hs : ∀ (z : aS) m j, bM + 46 ≤ m → m ≤ bM + 48 → (shr z).1 m j = z.1 m (64 + j) := by
    intro z m j h1 h2
    rcases (by omega : m = bM + 46 ∨ m = bM + 47 ∨ m = bM + 48) with rfl | rfl | rfl
    · exact shr_r z (by decide) (show hlf 46 = 64 from rfl)
    · exact shr_r z (by decide) (show hlf 47 = 64 from rfl)
    · exact shr_r z (by decide) (show hlf 48 = 64 from rfl)
  obtain ⟨P', O', hN'⟩ := nds_ap (k := k) (v := v) (y := shr X) hN c64 (fun m j h1 h2 h3 => by rw [hs _ _ _ h1 h2, hs _ _ _ h1 h2]; exact fr m j h1 h2 h3) (by rw [hs _ _ _ (by omega) (by omega)]; exact h46) N
  exact ⟨h50, h49, h52, h53, h23, h54, fun e => absurd e Bool.false_ne_true, (f + L.1) :: R, P', O', h51, ⟨hh, hR⟩, hN', hl⟩
theorem shr_6 (z : aS) {m j : Nat} (h1 : bM + 46 ≤ m) (h2 : m ≤ bM + 48) : (shr z).1 m j = z.1 m (64 + j) := by
  rcases (by omega : m = bM + 46 ∨ m = bM + 47 ∨ m = bM + 48) with rfl | rfl | rfl
  · exact shr_r z (by decide) (show hlf 46 = 64 from rfl)
  · exact shr_r z (by decide) (show hlf 47 = 64 from rfl)
  · exact shr_r z (by decide) (show hlf 48 = 64 from rfl)
set_option maxHeartbeats 8000000 in
set_option maxRecDepth 100000 in
theorem c_X12_bind {b : Nat} (hM : D 12 = true) (hb1 : 1 ≤ b) (hb6 : b ≤ 6) (hE : mEs f S x) (ok : eOk n f S) (h0 : S.1.2.1 = 0) (hd : S.2.1 = false) : aCt l mX12_bind (d + 1) D [.ref bM, .int (nI b)] x (fun v y => v = none ∧ mEs f (eRl b S) y ∧ mEb f x y) := by
  obtain ⟨r, du, w0, s, L0, o, kn⟩ := S
  have hd : du = false := hd
  subst hd
  obtain ⟨-, k1, k2, k3, k4, k5⟩ := ok h0
  have k1 : f + L0.1 + wcn s w0 = kn := k1
  have k2 : kn ≤ 64 := k2
  have k3 : o = wop s w0 := k3
  have k4 : o ≤ 8 := k4
  have k5 : ∀ j, j < w0 → s j < 39 ∧ (s j = 24 ∨ 1 ≤ kBd (s j)) := k5
  have G : ∀ w L (y : aS), w ≤ 72 → f + L.1 + wcn s w ≤ 64 → (∀ j, j < w → s j < 39 ∧ (s j = 24 ∨ 1 ≤ kBd (s j))) → mEs f (r, false, w, s, L, o, kn) y → mEb f x y → aV l mX12_bind (d + 1) D none 0 [(0, .ref bM), (1, .int (nI b))] [] y (fun v z => v = none ∧ mEs f (r, false, (rel s b w L).1, s, (rel s b w L).2, o, kn) z ∧ mEb f x z) := by
    intro w
    induction w with
    | zero =>
      intro L y _ _ _ E F
      have e50 : y.1 bM 50 = 0 := E.1
      refine a_aload_n (i := 0) dX12_bind_0 rfl rfl ?_
      refine gX12_322 rfl dX12_bind_1 (isM_0 hM) ?_
      rw [e50]
      refine a_if_le (tg := 76) dX12_bind_4 (by decide) (fun c_4 => ?_) (fun c_4 => ?_)
      · exact a_vret dX12_bind_76 (by exact ⟨rfl, E, F⟩)
      · exact absurd (Int32.le_refl _) c_4
    | succ w ih =>
      intro L y hw h64 h5 E F
      obtain ⟨e50, e49, e52, e53, e23, e54, -, I, P, O, e51, eh, eN, el⟩ := id E
      have e50 : y.1 bM 50 = nI (w + 1) := e50
      have e49 : ∀ j, j < w + 1 → y.1 (bM + 49) j = kcd (s j) := e49
      have e52 : y.1 bM 52 = nI o := e52
      have e53 : y.1 bM 53 = nI kn := e53
      have e23 : y.1 bM 23 = nI (f + L.1) := e23
      have e54 : y.1 bM 54 = bI false := e54
      have eN : nds L (shr y) P O f I := eN
      have el : I.length + 0 = 1 + wbn s (w + 1) := el
      obtain ⟨s39, sb⟩ := h5 w (by omega)
      have et := e49 w (by omega)
      have rk := rk_ok (s w) s39 sb
      have wl := wbn_le s (w + 1)
      have kb6 : kBd (s w) ≤ 6 := (kBc_n (s w) s39).2
      by_cases q : b ≤ kBd (s w)
      · have rl : rel s b (w + 1) L = rel s b w (lAp L (nI (s w)) 0) := by rw [rel, if_pos q]
        rw [rl]
        have s24 : ¬ s w = 24 := fun e => by rw [e, show kBd 24 = 0 from rfl] at q; omega
        have wc1 : wcn s (w + 1) = wcn s w + 1 := by show wcn s w + (if s w = 24 then 0 else 1) = _; rw [if_neg s24]
        have c64 : f + L.1 < 64 := by omega
        obtain ⟨z, hz⟩ : ∃ z, z = aWr y bM 50 (nI w) := ⟨_, rfl⟩
        have zo : ∀ m j, ¬ (m = bM ∧ j = 50) → z.1 m j = y.1 m j := fun m j e => by rw [hz, aWr_o _ _ e]
        have z50 : z.1 bM 50 = nI w := by rw [hz, aWr_s]
        have z51 : z.1 bM 51 = nI I.length := by rw [zo _ _ (by omega)]; exact e51
        have z49 : z.1 (bM + 49) w = kcd (s w) := by rw [zo _ _ (by omega)]; exact et
        have Fz : mEb f y z := by rw [hz]; exact mEb_w (Or.inl ⟨rfl, by omega⟩)
        have il : I.length ≤ 65 := by omega
        by_cases q14 : s w = 14
        · have k2' : kcd (s w) = 2 := by rw [q14]; decide
          have wb1 : wbn s (w + 1) = wbn s w := by show wbn s w + (if s w = 24 ∨ s w = 14 then 0 else 1) = _; rw [if_pos (Or.inr q14)]; rfl
          cases I with
          | nil => exact absurd el (by rw [List.length_nil]; omega)
          | cons a R =>
            have el : R.length + 1 + 0 = 1 + wbn s (w + 1) := el
            have z51 : z.1 bM 51 = nI (R.length + 1) := z51
            have il : R.length + 1 ≤ 65 := il
            have za : z.1 (bM + 50) R.length = nI a := by rw [zo _ _ (by omega)]; exact eh.1
            obtain ⟨u, hu⟩ : ∃ u, u = aWr z bM 51 (nI R.length) := ⟨_, rfl⟩
            have uo : ∀ m j, ¬ (m = bM ∧ (j = 50 ∨ j = 51)) → u.1 m j = y.1 m j := fun m j e => by rw [hu, aWr_o _ _ (by omega), zo _ _ (by omega)]
            have u51 : u.1 bM 51 = nI R.length := by rw [hu, aWr_s]
            have u50 : u.1 bM 50 = nI w := by rw [hu, aWr_j _ _ _ (by decide), z50]
            have u23 : u.1 bM 23 = nI (f + L.1) := by rw [uo _ _ (by omega)]; exact e23
            have Fu : mEb f y u := by rw [hu]; exact mEb_t Fz (mEb_w (Or.inl ⟨rfl, by omega⟩))
            obtain ⟨v46, v47, v48, v50, v51, v23⟩ := mGw_v (x := u) (c := f + L.1) (i := R.length) (k := 2) (a := nI a) (b := -1)
            have X := ih (lAp L (nI (s w)) 0) (mGw u (f + L.1) R.length 2 (nI a) (-1)) (by omega) (by show f + (L.1 + 1) + wcn s w ≤ 64; omega) (fun j hj => h5 j (by omega)) (by
              rw [q14]
              refine es_g (I := a :: R) (R := R) (k := nI 14) (y := y) c64 (by rw [mGw_o (by omega) (by omega) (by omega)]; exact u50) (fun j hj => by rw [mGw_o (by omega) (by omega) (by omega), uo _ _ (by omega)]; exact e49 j (by omega)) (by rw [mGw_o (by omega) (by omega) (by omega), uo _ _ (by omega)]; exact e52) (by rw [mGw_o (by omega) (by omega) (by omega), uo _ _ (by omega)]; exact e53) (by rw [mGw_o (by omega) (by omega) (by omega), uo _ _ (by omega)]; exact e54) v23 v51 v50 (hL_f R (fun j hj => by rw [mGw_o (by omega) (by omega) (by omega), uo _ _ (by omega)]) eh.2) eN (fun m j h1 h2 h3 => by rw [mGw_o (by omega) (by omega) (by omega), uo _ _ (by omega)]) (by rw [v46]; decide) ?_ (by omega)
              exact Or.inr (Or.inr (Or.inl ⟨by decide, a, R, rfl, by rw [shr_6 _ (by omega) (by omega)]; exact v47, rfl⟩))) (mEb_t F (mEb_t Fu (mGw_e (by omega))))
            refine a_aload_n (i := 0) dX12_bind_0 rfl rfl ?_
            refine gX12_322 rfl dX12_bind_1 (isM_0 hM) ?_
            rw [e50]
            refine a_if_le (tg := 76) dX12_bind_4 (by decide) (fun c_4 => ?_) (fun c_4 => ?_)
            · exact absurd c_4 (nI_nle (by omega) (by omega))
            · refine a_aload_n (i := 0) dX12_bind_7 rfl rfl ?_
              refine gX12_93 rfl dX12_bind_8 (isM_0 hM) ?_
              refine a_aload_n (i := 0) dX12_bind_11 rfl rfl ?_
              refine gX12_322 rfl dX12_bind_12 (isM_0 hM) ?_
              rw [e50]
              refine a_iconst (v := 1) dX12_bind_15 (by decide) ?_
              refine a_isub dX12_bind_16 ?_
              rw [nI_pred]
              refine a_ialdN dX12_bind_17 (isM_49 hM) (by first | with_reducible exact rfl | with_reducible exact ix8 _ _ | with_reducible exact ix12 _ _ | exact rfl) (by omega) (by decide) ?_
              rw [et]
              refine kX12_325 rfl dX12_bind_18 (Nat.le_of_ble_eq_true rfl) (c_X12_rank) ?_
              rw [rk]
              refine a_iload_n (i := 1) dX12_bind_21 rfl rfl ?_
              refine a_icmp_lt (tg := 76) dX12_bind_22 (by decide) (fun c_22 => ?_) (fun c_22 => ?_)
              · exact absurd c_22 (nI_nlt q (by omega))
              · refine a_aload_n (i := 0) dX12_bind_25 rfl rfl ?_
                refine a_dup dX12_bind_26 rfl ?_
                refine gX12_322 rfl dX12_bind_27 (isM_0 hM) ?_
                rw [e50]
                refine a_iconst (v := 1) dX12_bind_30 (by decide) ?_
                refine a_isub dX12_bind_31 ?_
                rw [nI_pred]
                refine pX12_322 rfl dX12_bind_32 (isM_0 hM) ?_
                rw [← hz]
                refine a_aload_n (i := 0) dX12_bind_35 rfl rfl ?_
                refine gX12_93 rfl dX12_bind_36 (isM_0 hM) ?_
                refine a_aload_n (i := 0) dX12_bind_39 rfl rfl ?_
                refine gX12_322 rfl dX12_bind_40 (isM_0 hM) ?_
                rw [z50]
                refine a_ialdN dX12_bind_43 (isM_49 hM) (by first | with_reducible exact rfl | with_reducible exact ix8 _ _ | with_reducible exact ix12 _ _ | exact rfl) (by omega) (by decide) ?_
                rw [z49, k2']
                refine a_istore_n (i := 2) dX12_bind_44 rfl (by decide) ?_
                refine a_iload_n (i := 2) dX12_bind_45 rfl rfl ?_
                refine a_iconst (v := 2) dX12_bind_46 (by decide) ?_
                refine a_icmp_ne (tg := 54) dX12_bind_47 (by decide) (fun c_47 => ?_) (fun c_47 => ?_)
                · exact absurd rfl c_47
                · refine a_iconst (v := (-1)) dX12_bind_50 (by decide) ?_
                  refine a_goto (tg := 58) dX12_bind_51 (by decide) ?_
                  refine a_istore_n (i := 3) dX12_bind_58 rfl (by decide) ?_
                  refine a_aload_n (i := 0) dX12_bind_59 rfl rfl ?_
                  refine kX12_329 rfl dX12_bind_60 (Nat.le_of_ble_eq_true rfl) (isM_0 hM) (c_X12_dropHeld hM z51 (by omega)) ?_
                  rw [za, ← hu]
                  refine a_istore (i := 4) dX12_bind_63 (by decide) ?_
                  refine a_aload_n (i := 0) dX12_bind_65 rfl rfl ?_
                  refine a_iload_n (i := 2) dX12_bind_66 rfl rfl ?_
                  refine a_iload (i := 4) dX12_bind_67 rfl ?_
                  refine a_iload_n (i := 3) dX12_bind_69 rfl rfl ?_
                  refine kX12_333 rfl dX12_bind_70 (Nat.le_of_ble_eq_true rfl) (isM_0 hM) (c_X12_grown hM u23 u51 c64 (by omega)) ?_
                  refine a_goto (tg := 0) dX12_bind_73 (by decide) ?_
                  exact a_loc _ rfl X
        · have k2' : ¬ kcd (s w) = 2 := fun e => q14 ((kcd_2 (s w) s39 sb).mp e)
          have sb1 : 1 ≤ kBd (s w) := by omega
          obtain ⟨kb, kc⟩ := kBd_bin (s w) s39 sb1 q14
          obtain ⟨n0, n1, n2⟩ := kc_bin (s w) s39 sb1 q14
          have wb1 : wbn s (w + 1) = wbn s w + 1 := by show wbn s w + (if s w = 24 ∨ s w = 14 then 0 else 1) = _; rw [if_neg (by omega)]
          cases I with
          | nil => exact absurd el (by rw [List.length_nil]; omega)
          | cons b' I1 =>
            cases I1 with
            | nil => exact absurd el (by rw [List.length_cons, List.length_nil]; omega)
            | cons a R =>
              have el : R.length + 1 + 1 + 0 = 1 + wbn s (w + 1) := el
              have z51 : z.1 bM 51 = nI (R.length + 1 + 1) := z51
              have il : R.length + 1 + 1 ≤ 65 := il
              have zb : z.1 (bM + 50) (R.length + 1) = nI b' := by rw [zo _ _ (by omega)]; exact eh.1
              obtain ⟨t, ht⟩ : ∃ t, t = aWr z bM 51 (nI (R.length + 1)) := ⟨_, rfl⟩
              have t51 : t.1 bM 51 = nI (R.length + 1) := by rw [ht, aWr_s]
              have ta : t.1 (bM + 50) R.length = nI a := by rw [ht, aWr_n _ _ _ (by decide), zo _ _ (by omega)]; exact eh.2.1
              obtain ⟨u, hu⟩ : ∃ u, u = aWr t bM 51 (nI R.length) := ⟨_, rfl⟩
              have uo : ∀ m j, ¬ (m = bM ∧ (j = 50 ∨ j = 51)) → u.1 m j = y.1 m j := fun m j e => by rw [hu, aWr_o _ _ (by omega), ht, aWr_o _ _ (by omega), zo _ _ (by omega)]
              have u51 : u.1 bM 51 = nI R.length := by rw [hu, aWr_s]
              have u50 : u.1 bM 50 = nI w := by rw [hu, aWr_j _ _ _ (by decide), ht, aWr_j _ _ _ (by decide), z50]
              have u23 : u.1 bM 23 = nI (f + L.1) := by rw [uo _ _ (by omega)]; exact e23
              have Fu : mEb f y u := by rw [hu, ht]; exact mEb_t Fz (mEb_t (mEb_w (Or.inl ⟨rfl, by omega⟩)) (mEb_w (Or.inl ⟨rfl, by omega⟩)))
              obtain ⟨v46, v47, v48, v50, v51, v23⟩ := mGw_v (x := u) (c := f + L.1) (i := R.length) (k := kcd (s w)) (a := nI a) (b := nI b')
              have X := ih (lAp L (nI (s w)) 0) (mGw u (f + L.1) R.length (kcd (s w)) (nI a) (nI b')) (by omega) (by show f + (L.1 + 1) + wcn s w ≤ 64; omega) (fun j hj => h5 j (by omega)) (by
                refine es_g (I := b' :: a :: R) (R := R) (k := nI (s w)) (y := y) c64 (by rw [mGw_o (by omega) (by omega) (by omega)]; exact u50) (fun j hj => by rw [mGw_o (by omega) (by omega) (by omega), uo _ _ (by omega)]; exact e49 j (by omega)) (by rw [mGw_o (by omega) (by omega) (by omega), uo _ _ (by omega)]; exact e52) (by rw [mGw_o (by omega) (by omega) (by omega), uo _ _ (by omega)]; exact e53) (by rw [mGw_o (by omega) (by omega) (by omega), uo _ _ (by omega)]; exact e54) v23 v51 v50 (hL_f R (fun j hj => by rw [mGw_o (by omega) (by omega) (by omega), uo _ _ (by omega)]) eh.2.2) eN (fun m j h1 h2 h3 => by rw [mGw_o (by omega) (by omega) (by omega), uo _ _ (by omega)]) (by rw [v46]; exact kc) ?_ (by omega)
                exact Or.inr (Or.inr (Or.inr ⟨kb, n0, n1, n2, b', a, R, rfl, by rw [shr_6 _ (by omega) (by omega)]; exact v47, by rw [shr_6 _ (by omega) (by omega)]; exact v48, rfl⟩))) (mEb_t F (mEb_t Fu (mGw_e (by omega))))
              refine a_aload_n (i := 0) dX12_bind_0 rfl rfl ?_
              refine gX12_322 rfl dX12_bind_1 (isM_0 hM) ?_
              rw [e50]
              refine a_if_le (tg := 76) dX12_bind_4 (by decide) (fun c_4 => ?_) (fun c_4 => ?_)
              · exact absurd c_4 (nI_nle (by omega) (by omega))
              · refine a_aload_n (i := 0) dX12_bind_7 rfl rfl ?_
                refine gX12_93 rfl dX12_bind_8 (isM_0 hM) ?_
                refine a_aload_n (i := 0) dX12_bind_11 rfl rfl ?_
                refine gX12_322 rfl dX12_bind_12 (isM_0 hM) ?_
                rw [e50]
                refine a_iconst (v := 1) dX12_bind_15 (by decide) ?_
                refine a_isub dX12_bind_16 ?_
                rw [nI_pred]
                refine a_ialdN dX12_bind_17 (isM_49 hM) (by first | with_reducible exact rfl | with_reducible exact ix8 _ _ | with_reducible exact ix12 _ _ | exact rfl) (by omega) (by decide) ?_
                rw [et]
                refine kX12_325 rfl dX12_bind_18 (Nat.le_of_ble_eq_true rfl) (c_X12_rank) ?_
                rw [rk]
                refine a_iload_n (i := 1) dX12_bind_21 rfl rfl ?_
                refine a_icmp_lt (tg := 76) dX12_bind_22 (by decide) (fun c_22 => ?_) (fun c_22 => ?_)
                · exact absurd c_22 (nI_nlt q (by omega))
                · refine a_aload_n (i := 0) dX12_bind_25 rfl rfl ?_
                  refine a_dup dX12_bind_26 rfl ?_
                  refine gX12_322 rfl dX12_bind_27 (isM_0 hM) ?_
                  rw [e50]
                  refine a_iconst (v := 1) dX12_bind_30 (by decide) ?_
                  refine a_isub dX12_bind_31 ?_
                  rw [nI_pred]
                  refine pX12_322 rfl dX12_bind_32 (isM_0 hM) ?_
                  rw [← hz]
                  refine a_aload_n (i := 0) dX12_bind_35 rfl rfl ?_
                  refine gX12_93 rfl dX12_bind_36 (isM_0 hM) ?_
                  refine a_aload_n (i := 0) dX12_bind_39 rfl rfl ?_
                  refine gX12_322 rfl dX12_bind_40 (isM_0 hM) ?_
                  rw [z50]
                  refine a_ialdN dX12_bind_43 (isM_49 hM) (by first | with_reducible exact rfl | with_reducible exact ix8 _ _ | with_reducible exact ix12 _ _ | exact rfl) (by omega) (by decide) ?_
                  rw [z49]
                  refine a_istore_n (i := 2) dX12_bind_44 rfl (by decide) ?_
                  refine a_iload_n (i := 2) dX12_bind_45 rfl rfl ?_
                  refine a_iconst (v := 2) dX12_bind_46 (by decide) ?_
                  refine a_icmp_ne (tg := 54) dX12_bind_47 (by decide) (fun c_47 => ?_) (fun c_47 => ?_)
                  · refine a_aload_n (i := 0) dX12_bind_54 rfl rfl ?_
                    refine kX12_329 rfl dX12_bind_55 (Nat.le_of_ble_eq_true rfl) (isM_0 hM) (c_X12_dropHeld hM z51 (by omega)) ?_
                    rw [zb, ← ht]
                    refine a_istore_n (i := 3) dX12_bind_58 rfl (by decide) ?_
                    refine a_aload_n (i := 0) dX12_bind_59 rfl rfl ?_
                    refine kX12_329 rfl dX12_bind_60 (Nat.le_of_ble_eq_true rfl) (isM_0 hM) (c_X12_dropHeld hM t51 (by omega)) ?_
                    rw [ta, ← hu]
                    refine a_istore (i := 4) dX12_bind_63 (by decide) ?_
                    refine a_aload_n (i := 0) dX12_bind_65 rfl rfl ?_
                    refine a_iload_n (i := 2) dX12_bind_66 rfl rfl ?_
                    refine a_iload (i := 4) dX12_bind_67 rfl ?_
                    refine a_iload_n (i := 3) dX12_bind_69 rfl rfl ?_
                    refine kX12_333 rfl dX12_bind_70 (Nat.le_of_ble_eq_true rfl) (isM_0 hM) (c_X12_grown hM u23 u51 c64 (by omega)) ?_
                    refine a_goto (tg := 0) dX12_bind_73 (by decide) ?_
                    exact a_loc _ rfl X
                  · exact absurd c_47 k2'
      · have rl : rel s b (w + 1) L = (w + 1, L) := by rw [rel, if_neg q]
        rw [rl]
        refine a_aload_n (i := 0) dX12_bind_0 rfl rfl ?_
        refine gX12_322 rfl dX12_bind_1 (isM_0 hM) ?_
        rw [e50]
        refine a_if_le (tg := 76) dX12_bind_4 (by decide) (fun c_4 => ?_) (fun c_4 => ?_)
        · exact absurd c_4 (nI_nle (by omega) (by omega))
        · refine a_aload_n (i := 0) dX12_bind_7 rfl rfl ?_
          refine gX12_93 rfl dX12_bind_8 (isM_0 hM) ?_
          refine a_aload_n (i := 0) dX12_bind_11 rfl rfl ?_
          refine gX12_322 rfl dX12_bind_12 (isM_0 hM) ?_
          rw [e50]
          refine a_iconst (v := 1) dX12_bind_15 (by decide) ?_
          refine a_isub dX12_bind_16 ?_
          rw [nI_pred]
          refine a_ialdN dX12_bind_17 (isM_49 hM) (by first | with_reducible exact rfl | with_reducible exact ix8 _ _ | with_reducible exact ix12 _ _ | exact rfl) (by omega) (by decide) ?_
          rw [et]
          refine kX12_325 rfl dX12_bind_18 (Nat.le_of_ble_eq_true rfl) (c_X12_rank) ?_
          rw [rk]
          refine a_iload_n (i := 1) dX12_bind_21 rfl rfl ?_
          refine a_icmp_lt (tg := 76) dX12_bind_22 (by decide) (fun c_22 => ?_) (fun c_22 => ?_)
          · exact a_vret dX12_bind_76 (by exact ⟨rfl, E, F⟩)
          · exact absurd (nI_lt (by omega) (by omega)) c_22
  refine a_met (by decide) (Nat.le_of_ble_eq_true rfl) (fun v y q => Or.inr (Or.inr (Or.inr ⟨rfl, q.1⟩))) ?_
  have wo := wc_o s w0
  exact a_loc _ rfl (G w0 L0 x (by omega) (by omega) k5 hE (mEb_r x))
end qBB
