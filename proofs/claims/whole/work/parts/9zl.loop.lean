/-! THE LAW: the loop -/
theorem i32_s6 {L i : Nat} (hL : L < 2147483648) (hi : i < 2147483648) : (nI L - 6 < nI i) ↔ L < i + 6 := by
  by_cases h : 6 ≤ L
  · rw [show nI L - 6 = nI (L - 6) from pk_sub (b := 6) h]
    rw [nI_ltI (by omega) (by omega)]
    omega
  · have a : nI L - 6 < 0 := by
      rcases (by omega : L = 0 ∨ L = 1 ∨ L = 2 ∨ L = 3 ∨ L = 4 ∨ L = 5) with rfl | rfl | rfl | rfl | rfl | rfl <;> decide
    have b : (0 : Int32) ≤ nI i := nI_pos' (by omega)
    exact ⟨fun _ => by omega, fun _ => Int32.lt_of_lt_of_le a b⟩
section qBT
variable {l : Launch} {D : Nat → Bool} {L : Nat} {xs : Nat → Int32}
set_option maxHeartbeats 8000000 in
set_option maxRecDepth 100000 in
theorem lw_loop (hl : l.flags = flags0) (hD : aDC D) (hM : D 12 = true) (hO : D 13 = true) (hL0 : L ≤ 3072) : ∀ F i c s x, L < i + 6 * F + 6 → i ≤ 3078 → c + F ≤ room_1.cells → s + 6 * F ≤ room_1.slots → gJ x → aV l mL_law 13 D (some (L, xs, c, s)) 23 (lwV i) [] x (fun v _ => v = some (.int 1)) := by
  intro F
  induction F with
  | zero =>
    intro i c s x hF hi0 hc hs J
    have g := (i32_s6 (L := L) (i := i) (by omega) (by omega)).mpr (by omega)
    have hs0 : some (L, xs, c, s) = some ((L, xs, c, s) : aSc) := rfl
    refine a_iload (i := 4) dL_law_23 rfl ?_
    refine a_aload_n (i := 0) dL_law_25 rfl rfl ?_
    refine a_slen dL_law_26 rfl ?_
    refine a_bipush (v := 6) dL_law_27 (by decide) ?_
    refine a_isub dL_law_29 ?_
    refine a_icmp_gt (tg := 1624) dL_law_30 (by decide) (fun c_30 => ?_) (fun c_30 => ?_)
    · refine a_iconst (v := 1) dL_law_1624 (by decide) ?_
      exact a_iret dL_law_1625 (by rfl)
    · exact absurd g c_30
  | succ F ih =>
    intro i c s x hF hi0 hc hs J
    by_cases hi : i + 6 ≤ L
    · have g : ¬ nI L - 6 < nI i := fun e => by have := (i32_s6 (L := L) (i := i) (by omega) (by omega)).mp e; omega
      have hL : ((L, xs, c, s) : aSc).1 < 2147483648 := by show L < 2147483648; omega
      have hcc : c + 1 ≤ room_1.cells := by omega
      have hss : s + 6 ≤ room_1.slots := by omega
      have T : ∀ c' s', c' ≤ c + 1 → s' ≤ s + 6 → ∀ z, gJ z → aV l mL_law 13 D (some (L, xs, c', s')) 1618 (lwV i) [] z (fun v _ => v = some (.int 1)) := by
        intro c' s' h1 h2 z hz
        have X := ih (i + 6) c' s' z (by omega) (by omega) (by omega) (by omega) hz
        refine a_iincK (i := 4) (u := 6) dL_law_1618 rfl (by decide) (by decide) ?_
        refine a_goto (tg := 23) dL_law_1621 (by decide) ?_
        rw [show nI i + 6 = nI (i + 6) from nI_add i 6]; exact a_loc _ rfl X
      refine a_iload (i := 4) dL_law_23 rfl ?_
      refine a_aload_n (i := 0) dL_law_25 rfl rfl ?_
      refine a_slen dL_law_26 rfl ?_
      refine a_bipush (v := 6) dL_law_27 (by decide) ?_
      refine a_isub dL_law_29 ?_
      refine a_icmp_gt (tg := 1624) dL_law_30 (by decide) (fun c_30 => ?_) (fun c_30 => ?_)
      · exact absurd c_30 g
      · refine a_aload_n (i := 0) dL_law_33 rfl rfl ?_
        refine a_iload (i := 4) dL_law_34 rfl ?_
        refine a_sldN dL_law_36 rfl (rfl) (by (show i < L; omega)) hL ?_
        refine a_bipush (v := 63) dL_law_37 (by decide) ?_
        refine a_iand dL_law_39 ?_
        refine sL_law_40 dL_law_40 (fun s_40 => ?_) (fun s_40 => ?_) (fun s_40 => ?_) (fun s_40 => ?_) (fun s_40 => ?_) (fun s_40 => ?_) (fun s_40 => ?_) (fun s_40 => ?_) (fun s_40 => ?_) (fun s_40 => ?_) (fun s_40 => ?_) (fun s_40 => ?_) (fun s_40 => ?_) (fun s_40 => ?_) (fun s_40 => ?_) (fun s_40 => ?_) (fun s_40 => ?_) (fun s_40 => ?_) (fun s_40 => ?_) (fun s_40 => ?_) (fun s_40 => ?_) (fun s_40 => ?_) (fun s_40 => ?_) (fun s_40 => ?_) (fun s_40 => ?_) (fun s_40 => ?_) (fun s_40 => ?_) (fun s_40 => ?_) (fun s_40 => ?_) (fun s_40 => ?_) (fun s_40 => ?_) (fun s_40 => ?_) (fun s_40 => ?_) (fun s_40 => ?_) (fun s_40 => ?_) (fun s_40 => ?_) (fun s_40 => ?_) (fun s_40 => ?_) (fun s_40 => ?_) (fun s_40 => ?_) (fun s_40 => ?_) (fun s_40_0 s_40_1 s_40_2 s_40_3 s_40_4 s_40_5 s_40_6 s_40_7 s_40_8 s_40_9 s_40_10 s_40_11 s_40_12 s_40_13 s_40_14 s_40_15 s_40_16 s_40_17 s_40_18 s_40_19 s_40_20 s_40_21 s_40_22 s_40_23 s_40_24 s_40_25 s_40_26 s_40_27 s_40_28 s_40_29 s_40_30 s_40_31 s_40_32 s_40_33 s_40_34 s_40_35 s_40_36 s_40_37 s_40_38 s_40_39 s_40_40 => ?_)
        · exact a_loc _ rfl (lw_feed hD hM rfl hL hi J (fun z hz => T c s (by omega) (by omega) z hz))
        · exact a_loc _ rfl (lw_text hD hM rfl hL hi J (fun z hz => T c s (by omega) (by omega) z hz))
        · exact a_loc _ rfl (lw_fault hD hM rfl hL hi J (fun z hz => T c s (by omega) (by omega) z hz))
        · exact a_loc _ rfl (lw_named hD hM rfl hL hi J (fun z hz => T c s (by omega) (by omega) z hz))
        · exact a_loc _ rfl (lw_man hl hD hM hO rfl hL hi hcc hss J (fun z hz => T (c + 1) (s + 6) (by omega) (by omega) z hz))
        · exact a_loc _ rfl (lw_last hD hM rfl hL hi J (fun z hz => T c s (by omega) (by omega) z hz))
        · exact a_loc _ rfl (lw_layer hD hM rfl hL hi J (fun z hz => T c s (by omega) (by omega) z hz))
        · exact a_loc _ rfl (lw_far hD hM rfl hL hi J (fun z hz => T c s (by omega) (by omega) z hz))
        · exact a_loc _ rfl (lw_law hD hM rfl hL hi J (fun z hz => T c s (by omega) (by omega) z hz))
        · exact a_loc _ rfl (lw_lay hD hM rfl hL hi J (fun z hz => T c s (by omega) (by omega) z hz))
        · exact a_loc _ rfl (lw_peel hD hM rfl hL hi J (fun z hz => T c s (by omega) (by omega) z hz))
        · exact a_loc _ rfl (lw_move hD hM rfl hL hi J (fun z hz => T c s (by omega) (by omega) z hz))
        · exact a_loc _ rfl (lw_go hD hM rfl hL hi J (fun z hz => T c s (by omega) (by omega) z hz))
        · exact a_loc _ rfl (lw_ahead hD hM rfl hL hi J (fun z hz => T c s (by omega) (by omega) z hz))
        · exact a_loc _ rfl (lw_firstCorn hD hM rfl hL hi J (fun z hz => T c s (by omega) (by omega) z hz))
        · exact a_loc _ rfl (lw_nearest hD hM rfl hL hi J (fun z hz => T c s (by omega) (by omega) z hz))
        · exact a_loc _ rfl (lw_likeness hD hM rfl hL hi J (fun z hz => T c s (by omega) (by omega) z hz))
        · exact a_loc _ rfl (lw_heart hD hM rfl hL hi J (fun z hz => T c s (by omega) (by omega) z hz))
        · exact a_loc _ rfl (lw_ease hD hM rfl hL hi J (fun z hz => T c s (by omega) (by omega) z hz))
        · exact a_loc _ rfl (lw_match hD hM rfl hL hi J (fun z hz => T c s (by omega) (by omega) z hz))
        · exact a_loc _ rfl (lw_join hD hM rfl hL hi J (fun z hz => T c s (by omega) (by omega) z hz))
        · exact a_loc _ rfl (lw_game hD hM rfl hL hi J (fun z hz => T c s (by omega) (by omega) z hz))
        · exact a_loc _ rfl (lw_rests hD hM rfl hL hi J (fun z hz => T c s (by omega) (by omega) z hz))
        · exact a_loc _ rfl (lw_rest hD hM rfl hL hi J (fun z hz => T c s (by omega) (by omega) z hz))
        · exact a_loc _ rfl (lw_dry hD hM rfl hL hi J (fun z hz => T c s (by omega) (by omega) z hz))
        · exact a_loc _ rfl (lw_sum hD hM rfl hL hi J (fun z hz => T c s (by omega) (by omega) z hz))
        · exact a_loc _ rfl (lw_settle hD hM rfl hL hi J (fun z hz => T c s (by omega) (by omega) z hz))
        · exact a_loc _ rfl (lw_knee hD hM rfl hL hi J (fun z hz => T c s (by omega) (by omega) z hz))
        · exact a_loc _ rfl (lw_walkers hD hM rfl hL hi J (fun z hz => T c s (by omega) (by omega) z hz))
        · exact a_loc _ rfl (lw_barest hD hM rfl hL hi J (fun z hz => T c s (by omega) (by omega) z hz))
        · exact a_loc _ rfl (lw_see hD hM rfl hL hi J (fun z hz => T c s (by omega) (by omega) z hz))
        · exact a_loc _ rfl (lw_strike hD hM rfl hL hi J (fun z hz => T c s (by omega) (by omega) z hz))
        · exact a_loc _ rfl (lw_known hD hM rfl hL hi J (fun z hz => T c s (by omega) (by omega) z hz))
        · exact a_loc _ rfl (lw_bumps hD hM rfl hL hi J (fun z hz => T c s (by omega) (by omega) z hz))
        · exact a_loc _ rfl (lw_ask hD hM rfl hL hi J (fun z hz => T c s (by omega) (by omega) z hz))
        · exact a_loc _ rfl (lw_chance hD hM rfl hL hi J (fun z hz => T c s (by omega) (by omega) z hz))
        · exact a_loc _ rfl (lw_tried hD hM rfl hL hi J (fun z hz => T c s (by omega) (by omega) z hz))
        · exact a_loc _ rfl (lw_undo hD hM rfl hL hi J (fun z hz => T c s (by omega) (by omega) z hz))
        · exact a_loc _ rfl (lw_keep hD hM rfl hL hi J (fun z hz => T c s (by omega) (by omega) z hz))
        · exact a_loc _ rfl (lw_back hD hM rfl hL hi J (fun z hz => T c s (by omega) (by omega) z hz))
        · exact a_loc _ rfl (lw_count hD hM rfl hL hi J (fun z hz => T c s (by omega) (by omega) z hz))
        · exact a_loc _ rfl (T c s (by omega) (by omega) x J)
    · have g := (i32_s6 (L := L) (i := i) (by omega) (by omega)).mpr (by omega)
      refine a_iload (i := 4) dL_law_23 rfl ?_
      refine a_aload_n (i := 0) dL_law_25 rfl rfl ?_
      refine a_slen dL_law_26 rfl ?_
      refine a_bipush (v := 6) dL_law_27 (by decide) ?_
      refine a_isub dL_law_29 ?_
      refine a_icmp_gt (tg := 1624) dL_law_30 (by decide) (fun c_30 => ?_) (fun c_30 => ?_)
      · refine a_iconst (v := 1) dL_law_1624 (by decide) ?_
        exact a_iret dL_law_1625 (by rfl)
      · exact absurd g c_30
end qBT
