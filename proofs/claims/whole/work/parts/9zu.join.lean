/-! THE LAW'S START: all cells by names -/
def Dt : Nat → Bool := fun _ => true
set_option maxRecDepth 100000 in
theorem aLt : aL Dt = (aL D11 ++ aL D12) ++ [(3329, 15, 1)] := by decide +kernel
set_option maxRecDepth 100000 in
theorem n12J_js : n12J 89 n12js := by unfold n12J; decide +kernel
theorem n12o_ad {c : Nat} {ad ad' : Nat → Nat} {x y : aS} (h : ∀ k, k < 90 → ad' (3073 + k) = ad (3073 + k)) (e1 : y.1 3072 = x.1 3072) (e2 : y.2 3072 = x.2 3072) : n12o c ad x = n12o c ad' y := by
  unfold n12o
  refine List.map_congr_left (fun k hk => ?_)
  have hk := List.mem_range.mp hk
  unfold n12f
  rcases n12k k hk with g | g | g
  · rw [n12i g, n12i g, e1]
    rfl
  · rw [n12j g, n12j g, e2]
    rfl
  · rw [n12r hk g, n12r hk g]
    show (if _ then Value.ref (ad (3073 + k)) else _) = (if _ then Value.ref (ad' (3073 + k)) else _)
    rw [h k hk]
theorem lw_world {cy : Nat → ClassId} {w1 : va_W} {aC ad1 : Nat → Nat} {q1 q3 : Nat} {y : aS} (hC : ∀ ad : Nat → Nat, (∀ m, m < 3072 → ad m = aC m) → bSub w1 (List.map (bF ad cy) (aL D11))) (h1 : ∀ m, m < 3072 → ad1 m = aC m) :
    bSub ((([] ++ w1) ++ aW D12 ad1 cy y) ++ [(q3, .inl (cy 15, 1, .inr (.inl (fun _ => 0))))]) (aW Dt (va_up ad1 3329 q3) cy (x1st y)) := by
  have up : ∀ m, m ≠ 3329 → va_up ad1 3329 q3 m = ad1 m := fun m hm => va_up_ne _ _ hm
  have s1 := hC (va_up ad1 3329 q3) (fun m hm => (up m (by omega)).trans (h1 m hm))
  have s1' : bSub ([] ++ w1) ((aL D11).map (fun q => (va_up ad1 3329 q3 q.1, aE (va_up ad1 3329 q3) cy (x1st y) q))) := by
    have e : (aL D11).map (fun q => (va_up ad1 3329 q3 q.1, aE (va_up ad1 3329 q3) cy (x1st y) q)) = List.map (bF (va_up ad1 3329 q3) cy) (aL D11) := List.map_congr_left (fun q hq => by
      have hlt : q.1 < 3072 := by
        have g : decide (q.1 / 256 < 12) = true := (List.mem_filter.mp hq).2
        have g := of_decide_eq_true g
        omega
      have g2 : (x1st y).2 q.1 = x00.2 q.1 := by unfold x1st; simp [hlt]
      show (va_up ad1 3329 q3 q.1, aE (va_up ad1 3329 q3) cy (x1st y) q) = (va_up ad1 3329 q3 q.1, aE (va_up ad1 3329 q3) cy x00 q)
      rw [aE_ext (x := x00) (y := x1st y) (x1_lo hlt) g2])
    rw [e]
    exact s1
  have s2 : aW D12 ad1 cy y = (aL D12).map (fun q => (va_up ad1 3329 q3 q.1, aE (va_up ad1 3329 q3) cy (x1st y) q)) := by
    show aW D12 ad1 cy y = aW D12 (va_up ad1 3329 q3) cy (x1st y)
    rw [← n12l_fin (b := ad1 3072) rfl, ← n12l_fin (b := ad1 3072) (up 3072 (by decide))]
    unfold n12l
    rw [n12o_ad (ad := ad1) (ad' := va_up ad1 3329 q3) (x := y) (y := x1st y) (fun k hk => up _ (by omega)) (x1_hi (by decide)) (x1_hi2 (by decide) (by decide)), n12_js (j := 256) (q := q3) (ad := ad1) (cy := cy) (x := y) (y := x1st y) n12J_js (by decide) (fun m g1 g2 => ⟨x1_hi (by omega), x1_hi2 (by omega) (by omega)⟩)]
  unfold aW at s2 ⊢
  rw [aLt, List.map_append, List.map_append]
  refine bSub_app (bSub_app s1' (bSub_e s2)) (bSub_e ?_)
  show [(q3, (.inl (cy 15, 1, .inr (.inl (fun _ => 0))) : va_E))] = [(va_up ad1 3329 q3 3329, aE (va_up ad1 3329 q3) cy (x1st y) (3329, 15, 1))]
  rw [va_up_self, aE_longs]
  rfl
section bX
variable {p : Program} {l : Launch} {e : Env} {R : Room} {s : State} {mid : MethodId} {args : Array Value} {below : List Frame} {meth : Method} {c : Code} {H : Heap} {locs : List Loc} {cells slots : Nat} {Qs : State → Prop}
  {dC : Nat → ClassId} {dI : Nat → Nat → Nat} {cy : Nat → ClassId} {A : Nat → Prop} {m : aM} {pc : Nat} {ls : Array Slot} {st : List Value} {ws : va_W}
/-- the Model's constructor is called -/
theorem b_callX {idx q d : Nat} {ad : Nat → Nat} (C : bC m p s mid args c dC dI cy A) (hNw : va_Nw aNk s) (hXt : aXt ad A s s.heap) (hab : ad 3072 = q) (hH : bH s dC dI A (ws ++ [(q, .inr (12, dfl 12))]) H locs) (hd : decode m.2.1 pc = .ok (.invokespecial idx, 3)) (hw : Cond.methodLink m.1.cls idx mX12_init.1 ∈ aTb) (hsz : ls.size = m.2.2.1)
    (hfr : d + 5 ≤ R.frames) (hlo : 40 * (d + 5) ≤ R.locals) (hst : (st.map fun v => v.category).sum ≤ 8) (hcells : cells + 50 ≤ R.cells) (hslots : slots + 9396 ≤ R.slots)
    (k : ∀ (w' : va_W) (H1 : Heap) (locs1 : List Loc), bP_X12 cy ad w' → bH s dC dI A (ws ++ w') H1 locs1 → W p l e R s mid args below meth c H1 locs1 (cells + 50) (slots + 9396) Qs (F0 mid (pc + 3) ls st)) : W p l e R s mid args below meth c H locs cells slots Qs (F0 mid pc ls (.ref q :: st)) := by
  have hWd : aWd mX12_init = Cond.code mX12_init.1 mX12_init.2.1 mX12_init.2.2.1 none :: aTb := rfl
  have hG : GoodIn aTb (aWd mX12_init) := by
    intro w hw9
    have h9 : w ∈ aTb := by
      rcases List.mem_cons.mp hw9 with rfl | h
      · exact wi_X12.2.2.1
      · exact h
    exact ⟨h9, aTbl_in h9⟩
  have hlast : (ws ++ [(q, .inr (12, dfl 12))])[ws.length]? = some (q, .inr (12, dfl 12)) := by simp
  have hF : ∀ z, va_A [(q, .inr (12, dfl 12))] H.size z → A z := by
    intro z h
    rcases h with ⟨k, e, h⟩ | h
    · have h1 : k < 1 := (List.getElem?_eq_some_iff.mp h).1
      rw [show k = 0 by omega] at h
      cases h
      exact hH.2.1.2 _ _ hlast
    · exact C.2.2.2.2.2.2 z (Nat.le_trans hH.2.2.1 h)
  refine b_run (P := bP_X12 cy ad) C.2.2.2.2.2.2 hH (va_runI (As := []) (rest := st) (Ts := aTb) ⟨C.1, C.2.1, C.2.2.1, C.2.2.2.1, C.2.2.2.2.1⟩ (i_X12 (d := d) dC dI cy ad q H.size hab) (cwI 0 C.2.2.2.2.1 hG hWd rfl rfl (C.2.2.2.2.1 _ wi_X12.2.1) (C.2.2.2.2.1 _ hw) (C.2.2.2.2.1 _ wi_X12.1) rfl ⟨by decide, by decide, by decide⟩ ⟨by show d + 3 + 1 + 1 ≤ _; omega, by show 8 + (mX12_init.2.2.1 + 11) + 40 * (d + 3 + 1) ≤ _; have : mX12_init.2.2.1 = 1 := rfl; omega⟩) ⟨bPcX_blind, fun U hU hW => ⟨rfl, by rw [hU], fun k x hx => ?_, va_K.moved hW.alike C.2.2.2.2.2.1, va_Nw.warmM hW hNw, by rw [hU]; exact aXt_go hXt hH.2.2 hW hF⟩⟩ rfl rfl hsz rfl (lv_room hst) hd ⟨hcells, hslots⟩) k
  have h1 : k < 1 := (List.getElem?_eq_some_iff.mp hx).1
  rw [show k = 0 by omega] at hx
  cases hx
  rw [hU]
  exact hH.1 ws.length _ hlast
end bX
