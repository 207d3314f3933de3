theorem sub_6 {L : Nat} (h : L < 6) : nI L - nI 6 < nI 0 := by
  rcases (show L = 0 ∨ L = 1 ∨ L = 2 ∨ L = 3 ∨ L = 4 ∨ L = 5 by omega) with rfl | rfl | rfl | rfl | rfl | rfl <;> decide
theorem flat_mo0 (j : Nat) : flat mo0 j = 0 := by unfold flat mo0; (repeat' split) <;> rfl
theorem Rl_0 {Y : Nat} {g : hG} : Rl (Y + 75 + 10) Y g vB (fun _ _ => 0) (fun _ => none) (fun _ => none) mo0 (fun _ => mo0) (fun _ => mo0) (fun _ => 0) (va_up (va_up (va_up (fun _ _ => 0) 2 (tfl T0)) 4 (flat mo0)) 7 (fun _ => 0)) := by
  have hz : (fun _ => 0) = pfl (fun _ => mo0) := by funext j; unfold pfl; rw [flat_mo0]
  refine ⟨fun _ => 2, fun _ => 0, fun _ => 0, fun _ => 0, fun _ => mo0, fun _ => mo0, ⟨fun i hi => absurd hi (Nat.not_lt_zero _), fun i hi => absurd hi (Nat.not_lt_zero _), by decide, by decide, by decide, gd_0 _, Nat.le_refl _⟩, ⟨rfl, Nat.zero_le _, rfl, fun _ => Nat.zero_le _, fun _ => (by decide : 0 < 3000)⟩, ⟨rfl, rfl, gd_0 _⟩, ⟨rfl, Nat.zero_le _, by decide, hz, fun k hk => absurd hk (Nat.not_lt_zero _)⟩, ⟨rfl, fun _ => Nat.zero_le _, hz, fun k _ h => absurd rfl h⟩, ⟨rfl, Nat.zero_le _, fun i hi => absurd hi (Nat.not_lt_zero _), fun k hk => absurd hk (Nat.not_lt_zero _)⟩⟩

set_option maxHeartbeats 4000000 in
set_option maxRecDepth 100000 in
/-- the law's loop -/
theorem law_loop {K : xC} {E : xE} {b L Y : Nat} {xs : Nat → Int32} (X : Sx K E cL_law 4 "BanisterWordLaw" room_1) (hX : va_X b L xs K.2.2.2.2.1 K.2.2.2.2.1.heap) (hbE : b < E.1) (hL : L ≤ 384) (hend : ∀ (cells slots i n : Nat) (g : hG), cells ≤ 600000 → slots ≤ 7302249 → Wg K E cells slots 832 [some (.ref b), some (.ref Y), some (.ref (Y + 75)), some (.int (nI i))] [] g n) : ∀ k, k ≤ L / 6 → ∀ (g : hG) (n : Nat) (v : Nat → Nat) (F : Nat → Nat → Nat) (P SP : Nat → Option Nat) (N : Mo) (Mp Kp : Nat → Mo) (u : Nat → Nat) (B : Nat → Nat → Nat), Rl n Y g v F P SP N Mp Kp u B → Wg K E (86 + 14 * k) (3000 + 14 * k) 18 [some (.ref b), some (.ref Y), some (.ref (Y + 75)), some (.int (nI (6 * k)))] [] (bG E (mG E g (Y + 75) u B) Y v F P SP N Mp Kp) n := by
  refine ind_up _ (L / 6) (fun k hk ih g n v F P SP N Mp Kp u B hR => ?_)
  refine r_iload_n X dL_law_18 rfl ?_
  refine r_aload_n X dL_law_19 rfl ?_
  refine r_slen X hX hbE dL_law_20 ?_
  refine r_bipush (v := nI 6) X dL_law_21 (by decide) ?_
  by_cases hl6 : 6 ≤ L
  · skip
    first | refine r_isubN X dL_law_23 (by omega) ?_ | refine r_isub X _ dL_law_23 rfl ?_
    refine r_icmp_gtN X 832 dL_law_24 (by decide) (by omega) (by omega) (fun c_24 => ?_) (fun c_24 => ?_)
    · skip
      exact hend _ _ _ _ _ (by omega) (by omega)
    · skip
      have kk : Nx K E b Y (6 * k) (86 + 14 * k + 14) (3000 + 14 * k + 14) := fun g n v F P SP N Mp Kp u B hR => by
        refine r_iinc X (nI (6 * (k + 1))) dL_law_826 rfl (by show nI (6 * k) + nI 6 = _; rw [show 6 * (k + 1) = 6 * k + 6 by omega]; exact nI_add _ _) ?_
        try dsimp only [List.set]
        refine r_goto X 18 dL_law_829 (by decide) ?_
        refine r_cs (c2 := 86 + 14 * (k + 1)) (s2 := 3000 + 14 * (k + 1)) (by omega) (by omega) rfl ?_
        exact ih (by omega) g n v F P SP N Mp Kp u B hR
      refine r_aload_n X dL_law_27 rfl ?_
      refine r_iload_n X dL_law_28 rfl ?_
      refine r_sld X hX hbE hL (by omega) rfl dL_law_29 ?_
      refine r_bipush (v := nI 31) X dL_law_30 (by decide) ?_
      refine r_iand X _ dL_law_32 rfl ?_
      generalize xs (6 * k) &&& nI 31 = sx
      cases hsw_33 : inR sx 24
      · skip
        refine r_tableOut X 826 dL_law_33 (sw_out hsw_33) (by decide) ?_
        exact r_widen _ _ (by omega) (by omega) (kk _ _ _ _ _ _ _ _ _ _ _ hR)
      · skip
        obtain ⟨j_33, hj_33, rfl⟩ := inR_ex (by decide) hsw_33
        rcases (show j_33 = 0 ∨ j_33 = 1 ∨ j_33 = 2 ∨ j_33 = 3 ∨ j_33 = 4 ∨ j_33 = 5 ∨ j_33 = 6 ∨ j_33 = 7 ∨ j_33 = 8 ∨ j_33 = 9 ∨ j_33 = 10 ∨ j_33 = 11 ∨ j_33 = 12 ∨ j_33 = 13 ∨ j_33 = 14 ∨ j_33 = 15 ∨ j_33 = 16 ∨ j_33 = 17 ∨ j_33 = 18 ∨ j_33 = 19 ∨ j_33 = 20 ∨ j_33 = 21 ∨ j_33 = 22 ∨ j_33 = 23 by omega) with rfl | rfl | rfl | rfl | rfl | rfl | rfl | rfl | rfl | rfl | rfl | rfl | rfl | rfl | rfl | rfl | rfl | rfl | rfl | rfl | rfl | rfl | rfl | rfl
        · skip
          refine r_tableIn (off := 111) X 144 dL_law_33 (by decide) (by decide) rfl (by decide) ?_
          exact lc_0 X hX hbE hL (by omega) (by omega) (by omega) hR kk
        · skip
          refine r_tableIn (off := 134) X 167 dL_law_33 (by decide) (by decide) rfl (by decide) ?_
          exact lc_1 X hX hbE hL (by omega) (by omega) (by omega) hR kk
        · skip
          refine r_tableIn (off := 147) X 180 dL_law_33 (by decide) (by decide) rfl (by decide) ?_
          exact lc_2 X hX hbE hL (by omega) (by omega) (by omega) hR kk
        · skip
          refine r_tableIn (off := 160) X 193 dL_law_33 (by decide) (by decide) rfl (by decide) ?_
          exact lc_3 X hX hbE hL (by omega) (by omega) (by omega) hR kk
        · skip
          refine r_tableIn (off := 173) X 206 dL_law_33 (by decide) (by decide) rfl (by decide) ?_
          exact lc_4 X hX hbE hL (by omega) (by omega) (by omega) hR kk
        · skip
          refine r_tableIn (off := 206) X 239 dL_law_33 (by decide) (by decide) rfl (by decide) ?_
          exact lc_5 X hX hbE hL (by omega) (by omega) (by omega) hR kk
        · skip
          refine r_tableIn (off := 249) X 282 dL_law_33 (by decide) (by decide) rfl (by decide) ?_
          exact lc_6 X hX hbE hL (by omega) (by omega) (by omega) hR kk
        · skip
          refine r_tableIn (off := 282) X 315 dL_law_33 (by decide) (by decide) rfl (by decide) ?_
          exact lc_7 X hX hbE hL (by omega) (by omega) (by omega) hR kk
        · skip
          refine r_tableIn (off := 325) X 358 dL_law_33 (by decide) (by decide) rfl (by decide) ?_
          exact lc_8 X hX hbE hL (by omega) (by omega) (by omega) hR kk
        · skip
          refine r_tableIn (off := 358) X 391 dL_law_33 (by decide) (by decide) rfl (by decide) ?_
          exact lc_9 X hX hbE hL (by omega) (by omega) (by omega) hR kk
        · skip
          refine r_tableIn (off := 381) X 414 dL_law_33 (by decide) (by decide) rfl (by decide) ?_
          exact lc_10 X hX hbE hL (by omega) (by omega) (by omega) hR kk
        · skip
          refine r_tableIn (off := 394) X 427 dL_law_33 (by decide) (by decide) rfl (by decide) ?_
          exact lc_11 X hX hbE hL (by omega) (by omega) (by omega) hR kk
        · skip
          refine r_tableIn (off := 407) X 440 dL_law_33 (by decide) (by decide) rfl (by decide) ?_
          exact lc_12 X hX hbE hL (by omega) (by omega) (by omega) hR kk
        · skip
          refine r_tableIn (off := 430) X 463 dL_law_33 (by decide) (by decide) rfl (by decide) ?_
          exact lc_13 X hX hbE hL (by omega) (by omega) (by omega) hR kk
        · skip
          refine r_tableIn (off := 453) X 486 dL_law_33 (by decide) (by decide) rfl (by decide) ?_
          exact lc_14 X hX hbE hL (by omega) (by omega) (by omega) hR kk
        · skip
          refine r_tableIn (off := 486) X 519 dL_law_33 (by decide) (by decide) rfl (by decide) ?_
          exact lc_15 X hX hbE hL (by omega) (by omega) (by omega) hR kk
        · skip
          refine r_tableIn (off := 509) X 542 dL_law_33 (by decide) (by decide) rfl (by decide) ?_
          exact lc_16 X hX hbE hL (by omega) (by omega) (by omega) hR kk
        · skip
          refine r_tableIn (off := 542) X 575 dL_law_33 (by decide) (by decide) rfl (by decide) ?_
          exact lc_17 X hX hbE hL (by omega) (by omega) (by omega) hR kk
        · skip
          refine r_tableIn (off := 575) X 608 dL_law_33 (by decide) (by decide) rfl (by decide) ?_
          exact lc_18 X hX hbE hL (by omega) (by omega) (by omega) hR kk
        · skip
          refine r_tableIn (off := 628) X 661 dL_law_33 (by decide) (by decide) rfl (by decide) ?_
          exact lc_19 X hX hbE hL (by omega) (by omega) (by omega) hR kk
        · skip
          refine r_tableIn (off := 641) X 674 dL_law_33 (by decide) (by decide) rfl (by decide) ?_
          exact lc_20 X hX hbE hL (by omega) (by omega) (by omega) hR kk
        · skip
          refine r_tableIn (off := 674) X 707 dL_law_33 (by decide) (by decide) rfl (by decide) ?_
          exact lc_21 X hX hbE hL (by omega) (by omega) (by omega) hR kk
        · skip
          refine r_tableIn (off := 707) X 740 dL_law_33 (by decide) (by decide) rfl (by decide) ?_
          exact lc_22 X hX hbE hL (by omega) (by omega) (by omega) hR kk
        · skip
          refine r_tableIn (off := 770) X 803 dL_law_33 (by decide) (by decide) rfl (by decide) ?_
          exact lc_23 X hX hbE hL (by omega) (by omega) (by omega) hR kk
  · skip
    refine r_isub X _ dL_law_23 rfl ?_
    obtain rfl : k = 0 := by omega
    refine r_icmp_gt X 832 dL_law_24 (by decide) (fun c_24 => ?_) (fun c_24 => ?_)
    · exact hend _ _ _ _ _ (by omega) (by omega)
    · exact absurd (sub_6 (by omega)) c_24

set_option maxHeartbeats 4000000 in
set_option maxRecDepth 100000 in
/-- the law, from its entry -/
theorem law_all {K : xC} {E : xE} {b L : Nat} {xs : Nat → Int32} (X : Sx K E cL_law 4 "BanisterWordLaw" room_1) (hX : va_X b L xs K.2.2.2.2.1 K.2.2.2.2.1.heap) (hbE : b < E.1) (hL : L ≤ 384) (hend : ∀ (cells slots i n : Nat) (g : hG), cells ≤ 600000 → slots ≤ 7302249 → Wg K E cells slots 832 [some (.ref b), some (.ref E.1), some (.ref (E.1 + 75)), some (.int (nI i))] [] g n) : Wg K E 0 0 0 [some (.ref b), none, none, none] [] (fun _ => none) E.1 := by
  refine r_new (ci := 9) (fs := [.null, .null, .null, .null, .null, .null, .null, .null, .null, .int 0, .int 0]) X ti_RX10 tyX10 tyX10_ok tw_19 tw_20 tw_1 rfl (fun j hj => by rcases (show j = 0 ∨ j = 1 ∨ j = 2 ∨ j = 3 ∨ j = 4 ∨ j = 5 ∨ j = 6 ∨ j = 7 ∨ j = 8 ∨ j = 9 ∨ j = 10 by omega) with rfl | rfl | rfl | rfl | rfl | rfl | rfl | rfl | rfl | rfl | rfl <;> rfl) (Nat.le_of_ble_eq_true rfl) (Nat.le_of_ble_eq_true rfl) dL_law_0 ?_
  refine r_dup X dL_law_3 rfl ?_
  refine r_callI X rfl (c_X10_init _ E _ _ E.1 rfl (hu_eq _ _ _)) tw_21 tw_22 tw_1 tw_23 rfl rfl ⟨ok_X10_init, ⟨Nat.le_of_ble_eq_true rfl, Nat.le_of_ble_eq_true rfl⟩, ⟨Nat.le_of_ble_eq_true rfl, Nat.le_of_ble_eq_true rfl⟩, Nat.le_of_ble_eq_true rfl⟩ dL_law_4 (kk_v (Wf := Wg K E _ _ _ _) ?_)
  refine r_heap (show _ = bG E (fun _ => none) E.1 vB (fun _ _ => 0) (fun _ => none) (fun _ => none) mo0 (fun _ => mo0) (fun _ => mo0) from blk_abs (by decide)) ?_
  refine r_astore_n X dL_law_7 (Nat.le_of_ble_eq_true rfl) ?_
  try dsimp only [List.set]
  refine r_new (ci := 10) (fs := [.null, .int 0, .null, .null, .null, .null, .int 0, .null, .null, .null, .int 0, .int 0, .int 0, .int 0, .int 0, .null]) X ti_RX11 tyX11 tyX11_ok tw_648 tw_649 tw_7 rfl (fun j hj => by rcases (show j = 0 ∨ j = 1 ∨ j = 2 ∨ j = 3 ∨ j = 4 ∨ j = 5 ∨ j = 6 ∨ j = 7 ∨ j = 8 ∨ j = 9 ∨ j = 10 ∨ j = 11 ∨ j = 12 ∨ j = 13 ∨ j = 14 ∨ j = 15 by omega) with rfl | rfl | rfl | rfl | rfl | rfl | rfl | rfl | rfl | rfl | rfl | rfl | rfl | rfl | rfl | rfl <;> rfl) (Nat.le_of_ble_eq_true rfl) (Nat.le_of_ble_eq_true rfl) dL_law_8 ?_
  refine r_dup X dL_law_11 rfl ?_
  refine r_callI X rfl (c_X11_init _ E _ _ (E.1 + 75) rfl (hu_eq _ _ _)) tw_650 tw_651 tw_7 tw_652 rfl rfl ⟨ok_X11_init, ⟨Nat.le_of_ble_eq_true rfl, Nat.le_of_ble_eq_true rfl⟩, ⟨Nat.le_of_ble_eq_true rfl, Nat.le_of_ble_eq_true rfl⟩, Nat.le_of_ble_eq_true rfl⟩ dL_law_12 (kk_v (Wf := Wg K E _ _ _ _) ?_)
  refine r_heap (show _ = mG E (bG E (fun _ => none) E.1 vB (fun _ _ => 0) (fun _ => none) (fun _ => none) mo0 (fun _ => mo0) (fun _ => mo0)) (E.1 + 75) (fun _ => 0) (va_up (va_up (va_up (fun _ _ => 0) 2 (tfl T0)) 4 (flat mo0)) 7 (fun _ => 0)) from blk_abs (by decide)) ?_
  refine r_heap bm.symm ?_
  refine r_astore_n X dL_law_15 (Nat.le_of_ble_eq_true rfl) ?_
  try dsimp only [List.set]
  refine r_iconst (v := nI 0) X dL_law_16 (by decide) ?_
  refine r_istore_n X dL_law_17 (Nat.le_of_ble_eq_true rfl) ?_
  try dsimp only [List.set]
  refine r_widen 86 3000 (by decide) (by decide) ?_
  exact law_loop X hX hbE hL hend 0 (Nat.zero_le _) _ _ _ _ _ _ _ _ _ _ _ Rl_0

