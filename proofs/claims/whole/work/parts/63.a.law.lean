set_option maxHeartbeats 4000000 in
set_option maxRecDepth 100000 in
/-- the law, case 13: back -/
theorem lc_13 {K : xC} {E : xE} {b L Y i cells slots n : Nat} {xs : Nat → Int32} {g : hG} {v : Nat → Nat} {F : Nat → Nat → Nat} {P SP : Nat → Option Nat} {N : Mo} {Mp Kp : Nat → Mo} {u : Nat → Nat} {B : Nat → Nat → Nat} (X : Sx K E cL_law 4 "BanisterWordLaw" room_1) (hX : va_X b L xs K.2.2.2.2.1 K.2.2.2.2.1.heap) (hbE : b < E.1) (hL : L ≤ 384) (hi : i + 6 ≤ L) (hc : cells + 14 ≤ 600000) (hs : slots + 14 ≤ 7302249) (hR : Rl n Y g v F P SP N Mp Kp u B) (kk : Nx K E b Y i (cells + 14) (slots + 14)) : Wg K E cells slots 463 [some (.ref b), some (.ref Y), some (.ref (Y + 75)), some (.int (nI i))] [] (bG E (mG E g (Y + 75) u B) Y v F P SP N Mp Kp) n := by
  obtain ⟨cl, wm, pad, si, Q, I, hT, hTx, hNn, hPs, hKk, hSs⟩ := hR
  obtain ⟨hP, hPn, h02, h0, h1, hgt, hYn⟩ := id hT
  obtain ⟨hu0, h5, hB1, hL2, hF3⟩ := id hTx
  obtain ⟨hB2, hB4, hgN⟩ := id hNn
  obtain ⟨hN7, hN9, hNk, hNd, hNf, hNz⟩ := id hgN
  obtain ⟨hu1, h8, h7, hB5, hQ⟩ := id hPs
  obtain ⟨hB7, hz1, hB6, hI⟩ := id hKk
  obtain ⟨hu2, h9, hSo, hB8⟩ := id hSs
  have hP2 : ∀ i, i < v 1 → cl i < 4 ∧ wm i ≤ 9 := fun i h => (hPn i h).2
  have hEq : (if inR (xs (i + 1)) 2 = true then (if F 59 (ix (xs (i + 1))) = 0 then -4 else nI (Kp (ix (xs (i + 1)))).2.2.2) else -2) = (if inR (xs (i + 1)) 2 = true then (if B 7 (ix (xs (i + 1))) = 0 then -4 else nI (I (ix (xs (i + 1)))).2.2.2) else -2) := by
    by_cases e1 : inR (xs (i + 1)) 2 = true
    · rw [if_pos e1, if_pos e1, hB7]
      by_cases e2 : F 59 (ix (xs (i + 1))) = 0
      · rw [if_pos e2, if_pos e2]
      · rw [if_neg e2, if_neg e2, (hI _ (ix_lt (by decide) e1) e2).1]
    · rw [if_neg e1, if_neg e1]
  by_cases hc9 : inR (xs (i + 1)) 2 = true ∧ ¬ F 59 (ix (xs (i + 1))) = 0
  · skip
    have hb9 := hI _ (ix_lt (by decide) hc9.1) hc9.2
    refine r_aload_n X dL_law_463 rfl ?_
    refine r_aload_n X dL_law_464 rfl ?_
    refine r_iload_n X dL_law_465 rfl ?_
    refine r_iconst (v := nI 1) X dL_law_466 (by decide) ?_
    first | refine r_iaddN X dL_law_467 ?_ | refine r_iadd X _ dL_law_467 rfl ?_
    refine r_sld X hX hbE hL (by omega) rfl dL_law_468 ?_
    refine r_callV (ci := 9) X rfl (c_X10_back _ E _ n Y v F P SP N Mp Kp (xs (i + 1)) hz1) tw_554 tw_555 tw_556 tw_1 tw_557 rfl rfl b0 rfl ⟨ok_X10_back, ⟨Nat.le_of_ble_eq_true rfl, Nat.le_of_ble_eq_true rfl⟩, ⟨by show _ ≤ 600000; omega, by show _ ≤ 7302249; omega⟩, Nat.le_of_ble_eq_true rfl⟩ dL_law_469 (kk_r (Wf := Wg K E _ _ _ _) ?_)
    refine r_heap ((if_pos hc9).trans bm) ?_
    refine r_aload_n X dL_law_472 rfl ?_
    refine r_aload_n X dL_law_473 rfl ?_
    refine r_iload_n X dL_law_474 rfl ?_
    refine r_iconst (v := nI 1) X dL_law_475 (by decide) ?_
    first | refine r_iaddN X dL_law_476 ?_ | refine r_iadd X _ dL_law_476 rfl ?_
    refine r_sld X hX hbE hL (by omega) rfl dL_law_477 ?_
    refine r_callV (ci := 10) X rfl (c_X11_back _ E _ _ (Y + 75) u B (xs (i + 1)) I hB6 (by rw [hB7]; exact hz1)) tw_855 tw_856 tw_857 tw_7 tw_858 rfl rfl m0 rfl ⟨ok_X11_back, ⟨Nat.le_of_ble_eq_true rfl, Nat.le_of_ble_eq_true rfl⟩, ⟨by show _ ≤ 600000; omega, by show _ ≤ 7302249; omega⟩, Nat.le_of_ble_eq_true rfl⟩ dL_law_478 (kk_r (Wf := Wg K E _ _ _ _) ?_)
    refine r_heap ((if_pos (by rw [hB7]; exact hc9)).trans bm.symm) ?_
    refine r_icmp_eq X 826 dL_law_481 (by decide) (fun c_481 => ?_) (fun c_481 => ?_)
    rotate_left
    · exact absurd (hEq) c_481
    refine r_widen (cells + 14) (slots + 14) (by omega) (by omega) ?_
    exact kk _ _ _ _ _ _ _ _ _ _ _ ⟨cl, wm, pad, si, Q, I, hT, hTx, ⟨hB2, by show flat (I _) = flat (Kp _); rw [hb9.1], hb9.2⟩, ⟨rfl, Nat.zero_le _, h7, hB5, fun k hk => absurd hk (Nat.not_lt_zero _)⟩, hKk, hSs⟩
  · skip
    refine r_aload_n X dL_law_463 rfl ?_
    refine r_aload_n X dL_law_464 rfl ?_
    refine r_iload_n X dL_law_465 rfl ?_
    refine r_iconst (v := nI 1) X dL_law_466 (by decide) ?_
    first | refine r_iaddN X dL_law_467 ?_ | refine r_iadd X _ dL_law_467 rfl ?_
    refine r_sld X hX hbE hL (by omega) rfl dL_law_468 ?_
    refine r_callV (ci := 9) X rfl (c_X10_back _ E _ n Y v F P SP N Mp Kp (xs (i + 1)) hz1) tw_554 tw_555 tw_556 tw_1 tw_557 rfl rfl b0 rfl ⟨ok_X10_back, ⟨Nat.le_of_ble_eq_true rfl, Nat.le_of_ble_eq_true rfl⟩, ⟨by show _ ≤ 600000; omega, by show _ ≤ 7302249; omega⟩, Nat.le_of_ble_eq_true rfl⟩ dL_law_469 (kk_r (Wf := Wg K E _ _ _ _) ?_)
    refine r_heap ((if_neg hc9).trans bm) ?_
    refine r_aload_n X dL_law_472 rfl ?_
    refine r_aload_n X dL_law_473 rfl ?_
    refine r_iload_n X dL_law_474 rfl ?_
    refine r_iconst (v := nI 1) X dL_law_475 (by decide) ?_
    first | refine r_iaddN X dL_law_476 ?_ | refine r_iadd X _ dL_law_476 rfl ?_
    refine r_sld X hX hbE hL (by omega) rfl dL_law_477 ?_
    refine r_callV (ci := 10) X rfl (c_X11_back _ E _ _ (Y + 75) u B (xs (i + 1)) I hB6 (by rw [hB7]; exact hz1)) tw_855 tw_856 tw_857 tw_7 tw_858 rfl rfl m0 rfl ⟨ok_X11_back, ⟨Nat.le_of_ble_eq_true rfl, Nat.le_of_ble_eq_true rfl⟩, ⟨by show _ ≤ 600000; omega, by show _ ≤ 7302249; omega⟩, Nat.le_of_ble_eq_true rfl⟩ dL_law_478 (kk_r (Wf := Wg K E _ _ _ _) ?_)
    refine r_heap ((if_neg (by rw [hB7]; exact hc9)).trans bm.symm) ?_
    refine r_icmp_eq X 826 dL_law_481 (by decide) (fun c_481 => ?_) (fun c_481 => ?_)
    rotate_left
    · exact absurd (hEq) c_481
    refine r_widen (cells + 14) (slots + 14) (by omega) (by omega) ?_
    exact kk _ _ _ _ _ _ _ _ _ _ _ ⟨cl, wm, pad, si, Q, I, hT, hTx, hNn, hPs, hKk, hSs⟩

set_option maxHeartbeats 4000000 in
set_option maxRecDepth 100000 in
/-- the law, case 14: hears -/
theorem lc_14 {K : xC} {E : xE} {b L Y i cells slots n : Nat} {xs : Nat → Int32} {g : hG} {v : Nat → Nat} {F : Nat → Nat → Nat} {P SP : Nat → Option Nat} {N : Mo} {Mp Kp : Nat → Mo} {u : Nat → Nat} {B : Nat → Nat → Nat} (X : Sx K E cL_law 4 "BanisterWordLaw" room_1) (hX : va_X b L xs K.2.2.2.2.1 K.2.2.2.2.1.heap) (hbE : b < E.1) (hL : L ≤ 384) (hi : i + 6 ≤ L) (hc : cells + 14 ≤ 600000) (hs : slots + 14 ≤ 7302249) (hR : Rl n Y g v F P SP N Mp Kp u B) (kk : Nx K E b Y i (cells + 14) (slots + 14)) : Wg K E cells slots 486 [some (.ref b), some (.ref Y), some (.ref (Y + 75)), some (.int (nI i))] [] (bG E (mG E g (Y + 75) u B) Y v F P SP N Mp Kp) n := by
  obtain ⟨cl, wm, pad, si, Q, I, hT, hTx, hNn, hPs, hKk, hSs⟩ := hR
  obtain ⟨hP, hPn, h02, h0, h1, hgt, hYn⟩ := id hT
  obtain ⟨hu0, h5, hB1, hL2, hF3⟩ := id hTx
  obtain ⟨hB2, hB4, hgN⟩ := id hNn
  obtain ⟨hN7, hN9, hNk, hNd, hNf, hNz⟩ := id hgN
  obtain ⟨hu1, h8, h7, hB5, hQ⟩ := id hPs
  obtain ⟨hB7, hz1, hB6, hI⟩ := id hKk
  obtain ⟨hu2, h9, hSo, hB8⟩ := id hSs
  have hP2 : ∀ i, i < v 1 → cl i < 4 ∧ wm i ≤ 9 := fun i h => (hPn i h).2
  refine r_aload_n X dL_law_486 rfl ?_
  refine r_aload_n X dL_law_487 rfl ?_
  refine r_iload_n X dL_law_488 rfl ?_
  refine r_iconst (v := nI 1) X dL_law_489 (by decide) ?_
  first | refine r_iaddN X dL_law_490 ?_ | refine r_iadd X _ dL_law_490 rfl ?_
  refine r_sld X hX hbE hL (by omega) rfl dL_law_491 ?_
  refine r_aload_n X dL_law_492 rfl ?_
  refine r_iload_n X dL_law_493 rfl ?_
  refine r_iconst (v := nI 2) X dL_law_494 (by decide) ?_
  first | refine r_iaddN X dL_law_495 ?_ | refine r_iadd X _ dL_law_495 rfl ?_
  refine r_sld X hX hbE hL (by omega) rfl dL_law_496 ?_
  refine r_callV (ci := 9) X rfl (c_X10_hears _ E _ n Y v F P SP N Mp Kp pad cl wm (xs (i + 1)) (xs (i + 2)) (pOk_m hP) hN7 h0 h1) tw_558 tw_559 tw_560 tw_1 tw_561 rfl rfl b0 rfl ⟨ok_X10_hears, ⟨Nat.le_of_ble_eq_true rfl, Nat.le_of_ble_eq_true rfl⟩, ⟨by show _ ≤ 600000; omega, by show _ ≤ 7302249; omega⟩, Nat.le_of_ble_eq_true rfl⟩ dL_law_497 (kk_r (Wf := Wg K E _ _ _ _) ?_)
  refine r_heap bm ?_
  refine r_aload_n X dL_law_500 rfl ?_
  refine r_aload_n X dL_law_501 rfl ?_
  refine r_iload_n X dL_law_502 rfl ?_
  refine r_iconst (v := nI 1) X dL_law_503 (by decide) ?_
  first | refine r_iaddN X dL_law_504 ?_ | refine r_iadd X _ dL_law_504 rfl ?_
  refine r_sld X hX hbE hL (by omega) rfl dL_law_505 ?_
  refine r_aload_n X dL_law_506 rfl ?_
  refine r_iload_n X dL_law_507 rfl ?_
  refine r_iconst (v := nI 2) X dL_law_508 (by decide) ?_
  first | refine r_iaddN X dL_law_509 ?_ | refine r_iadd X _ dL_law_509 rfl ?_
  refine r_sld X hX hbE hL (by omega) rfl dL_law_510 ?_
  refine r_callV (ci := 10) X rfl (c_X11_hears _ E _ _ (Y + 75) u B (v 0, v 1, cl, wm, F 6, F 7) N (xs (i + 1)) (xs (i + 2)) hB2 hB4 h0 h1 hP2 hN7) tw_859 tw_860 tw_861 tw_7 tw_862 rfl rfl m0 rfl ⟨ok_X11_hears, ⟨Nat.le_of_ble_eq_true rfl, Nat.le_of_ble_eq_true rfl⟩, ⟨by show _ ≤ 600000; omega, by show _ ≤ 7302249; omega⟩, Nat.le_of_ble_eq_true rfl⟩ dL_law_511 (kk_r (Wf := Wg K E _ _ _ _) ?_)
  refine r_heap bm.symm ?_
  refine r_icmp_eq X 826 dL_law_514 (by decide) (fun c_514 => ?_) (fun c_514 => ?_)
  rotate_left
  · exact absurd (rfl) c_514
  refine r_widen (cells + 14) (slots + 14) (by omega) (by omega) ?_
  exact kk _ _ _ _ _ _ _ _ _ _ _ ⟨cl, wm, pad, si, Q, I, hT, hTx, hNn, hPs, hKk, hSs⟩

set_option maxHeartbeats 4000000 in
set_option maxRecDepth 100000 in
/-- the law, case 15: lasts -/
theorem lc_15 {K : xC} {E : xE} {b L Y i cells slots n : Nat} {xs : Nat → Int32} {g : hG} {v : Nat → Nat} {F : Nat → Nat → Nat} {P SP : Nat → Option Nat} {N : Mo} {Mp Kp : Nat → Mo} {u : Nat → Nat} {B : Nat → Nat → Nat} (X : Sx K E cL_law 4 "BanisterWordLaw" room_1) (hX : va_X b L xs K.2.2.2.2.1 K.2.2.2.2.1.heap) (hbE : b < E.1) (hL : L ≤ 384) (hi : i + 6 ≤ L) (hc : cells + 14 ≤ 600000) (hs : slots + 14 ≤ 7302249) (hR : Rl n Y g v F P SP N Mp Kp u B) (kk : Nx K E b Y i (cells + 14) (slots + 14)) : Wg K E cells slots 519 [some (.ref b), some (.ref Y), some (.ref (Y + 75)), some (.int (nI i))] [] (bG E (mG E g (Y + 75) u B) Y v F P SP N Mp Kp) n := by
  obtain ⟨cl, wm, pad, si, Q, I, hT, hTx, hNn, hPs, hKk, hSs⟩ := hR
  obtain ⟨hP, hPn, h02, h0, h1, hgt, hYn⟩ := id hT
  obtain ⟨hu0, h5, hB1, hL2, hF3⟩ := id hTx
  obtain ⟨hB2, hB4, hgN⟩ := id hNn
  obtain ⟨hN7, hN9, hNk, hNd, hNf, hNz⟩ := id hgN
  obtain ⟨hu1, h8, h7, hB5, hQ⟩ := id hPs
  obtain ⟨hB7, hz1, hB6, hI⟩ := id hKk
  obtain ⟨hu2, h9, hSo, hB8⟩ := id hSs
  have hP2 : ∀ i, i < v 1 → cl i < 4 ∧ wm i ≤ 9 := fun i h => (hPn i h).2
  refine r_aload_n X dL_law_519 rfl ?_
  refine r_aload_n X dL_law_520 rfl ?_
  refine r_iload_n X dL_law_521 rfl ?_
  refine r_iconst (v := nI 1) X dL_law_522 (by decide) ?_
  first | refine r_iaddN X dL_law_523 ?_ | refine r_iadd X _ dL_law_523 rfl ?_
  refine r_sld X hX hbE hL (by omega) rfl dL_law_524 ?_
  refine r_callV (ci := 9) X rfl (c_X10_lasts _ E _ n Y v F P SP N Mp Kp (xs (i + 1)) hN7 hN9) tw_562 tw_563 tw_564 tw_1 tw_565 rfl rfl b0 rfl ⟨ok_X10_lasts, ⟨Nat.le_of_ble_eq_true rfl, Nat.le_of_ble_eq_true rfl⟩, ⟨by show _ ≤ 600000; omega, by show _ ≤ 7302249; omega⟩, Nat.le_of_ble_eq_true rfl⟩ dL_law_525 (kk_r (Wf := Wg K E _ _ _ _) ?_)
  refine r_heap bm ?_
  refine r_aload_n X dL_law_528 rfl ?_
  refine r_aload_n X dL_law_529 rfl ?_
  refine r_iload_n X dL_law_530 rfl ?_
  refine r_iconst (v := nI 1) X dL_law_531 (by decide) ?_
  first | refine r_iaddN X dL_law_532 ?_ | refine r_iadd X _ dL_law_532 rfl ?_
  refine r_sld X hX hbE hL (by omega) rfl dL_law_533 ?_
  refine r_callV (ci := 10) X rfl (c_X11_lasts _ E _ _ (Y + 75) u B N (xs (i + 1)) hB4 hN7 hN9) tw_863 tw_864 tw_865 tw_7 tw_866 rfl rfl m0 rfl ⟨ok_X11_lasts, ⟨Nat.le_of_ble_eq_true rfl, Nat.le_of_ble_eq_true rfl⟩, ⟨by show _ ≤ 600000; omega, by show _ ≤ 7302249; omega⟩, Nat.le_of_ble_eq_true rfl⟩ dL_law_534 (kk_r (Wf := Wg K E _ _ _ _) ?_)
  refine r_heap bm.symm ?_
  refine r_icmp_eq X 826 dL_law_537 (by decide) (fun c_537 => ?_) (fun c_537 => ?_)
  rotate_left
  · exact absurd (rfl) c_537
  refine r_widen (cells + 14) (slots + 14) (by omega) (by omega) ?_
  exact kk _ _ _ _ _ _ _ _ _ _ _ ⟨cl, wm, pad, si, Q, I, hT, hTx, hNn, hPs, hKk, hSs⟩

set_option maxHeartbeats 4000000 in
set_option maxRecDepth 100000 in
/-- the law, case 16: send -/
theorem lc_16 {K : xC} {E : xE} {b L Y i cells slots n : Nat} {xs : Nat → Int32} {g : hG} {v : Nat → Nat} {F : Nat → Nat → Nat} {P SP : Nat → Option Nat} {N : Mo} {Mp Kp : Nat → Mo} {u : Nat → Nat} {B : Nat → Nat → Nat} (X : Sx K E cL_law 4 "BanisterWordLaw" room_1) (hX : va_X b L xs K.2.2.2.2.1 K.2.2.2.2.1.heap) (hbE : b < E.1) (hL : L ≤ 384) (hi : i + 6 ≤ L) (hc : cells + 14 ≤ 600000) (hs : slots + 14 ≤ 7302249) (hR : Rl n Y g v F P SP N Mp Kp u B) (kk : Nx K E b Y i (cells + 14) (slots + 14)) : Wg K E cells slots 542 [some (.ref b), some (.ref Y), some (.ref (Y + 75)), some (.int (nI i))] [] (bG E (mG E g (Y + 75) u B) Y v F P SP N Mp Kp) n := by
  obtain ⟨cl, wm, pad, si, Q, I, hT, hTx, hNn, hPs, hKk, hSs⟩ := hR
  obtain ⟨hP, hPn, h02, h0, h1, hgt, hYn⟩ := id hT
  obtain ⟨hu0, h5, hB1, hL2, hF3⟩ := id hTx
  obtain ⟨hB2, hB4, hgN⟩ := id hNn
  obtain ⟨hN7, hN9, hNk, hNd, hNf, hNz⟩ := id hgN
  obtain ⟨hu1, h8, h7, hB5, hQ⟩ := id hPs
  obtain ⟨hB7, hz1, hB6, hI⟩ := id hKk
  obtain ⟨hu2, h9, hSo, hB8⟩ := id hSs
  have hP2 : ∀ i, i < v 1 → cl i < 4 ∧ wm i ≤ 9 := fun i h => (hPn i h).2
  have hEq : sendR (v 1) cl N (xs (i + 1)) (xs (i + 2)) = (if inR (xs (i + 1)) (v 1) = true ∧ sayB (xs (i + 2)) = true then mO1 (srF (clrB cl (v 0 - 1) (v 1) (ix (xs (i + 1))) (ix (xs (i + 2))) N) (ix (xs (i + 1))) (2 ^ v 1)) else -2) := by
    unfold sendR
    by_cases e1 : inR (xs (i + 1)) (v 1) = true ∧ sayB (xs (i + 2)) = true
    · rw [if_pos e1, if_pos e1, send_eq hNf hNz (by omega) h0 (say_ix e1.2).1 h1 (ix_lt (by omega) e1.1)]
      split <;> rfl
    · rw [if_neg e1, if_neg e1]
  by_cases hc9 : inR (xs (i + 1)) (v 1) = true ∧ sayB (xs (i + 2)) = true
  · skip
    refine r_aload_n X dL_law_542 rfl ?_
    refine r_aload_n X dL_law_543 rfl ?_
    refine r_iload_n X dL_law_544 rfl ?_
    refine r_iconst (v := nI 1) X dL_law_545 (by decide) ?_
    first | refine r_iaddN X dL_law_546 ?_ | refine r_iadd X _ dL_law_546 rfl ?_
    refine r_sld X hX hbE hL (by omega) rfl dL_law_547 ?_
    refine r_aload_n X dL_law_548 rfl ?_
    refine r_iload_n X dL_law_549 rfl ?_
    refine r_iconst (v := nI 2) X dL_law_550 (by decide) ?_
    first | refine r_iaddN X dL_law_551 ?_ | refine r_iadd X _ dL_law_551 rfl ?_
    refine r_sld X hX hbE hL (by omega) rfl dL_law_552 ?_
    refine r_callV (ci := 9) X rfl (c_X10_send _ E _ n Y v F P SP N Mp Kp pad cl wm (xs (i + 1)) (xs (i + 2)) (pOk_m hP) hN7 hN9 h0 h1) tw_573 tw_574 tw_575 tw_1 tw_576 rfl rfl b0 rfl ⟨ok_X10_send, ⟨Nat.le_of_ble_eq_true rfl, Nat.le_of_ble_eq_true rfl⟩, ⟨by show _ ≤ 600000; omega, by show _ ≤ 7302249; omega⟩, Nat.le_of_ble_eq_true rfl⟩ dL_law_553 (kk_r (Wf := Wg K E _ _ _ _) ?_)
    refine r_heap (bm) ?_
    refine r_aload_n X dL_law_556 rfl ?_
    refine r_aload_n X dL_law_557 rfl ?_
    refine r_iload_n X dL_law_558 rfl ?_
    refine r_iconst (v := nI 1) X dL_law_559 (by decide) ?_
    first | refine r_iaddN X dL_law_560 ?_ | refine r_iadd X _ dL_law_560 rfl ?_
    refine r_sld X hX hbE hL (by omega) rfl dL_law_561 ?_
    refine r_aload_n X dL_law_562 rfl ?_
    refine r_iload_n X dL_law_563 rfl ?_
    refine r_iconst (v := nI 2) X dL_law_564 (by decide) ?_
    first | refine r_iaddN X dL_law_565 ?_ | refine r_iadd X _ dL_law_565 rfl ?_
    refine r_sld X hX hbE hL (by omega) rfl dL_law_566 ?_
    refine r_callV (ci := 10) X rfl (c_X11_send _ E _ _ (Y + 75) u B (v 0, v 1, cl, wm, F 6, F 7) N (xs (i + 1)) (xs (i + 2)) hB2 hB4 h0 h1 hP2 hN7 hN9 (show 1 ≤ v 0 by omega)) tw_867 tw_868 tw_869 tw_7 tw_870 rfl rfl m0 rfl ⟨ok_X11_send, ⟨Nat.le_of_ble_eq_true rfl, Nat.le_of_ble_eq_true rfl⟩, ⟨by show _ ≤ 600000; omega, by show _ ≤ 7302249; omega⟩, Nat.le_of_ble_eq_true rfl⟩ dL_law_567 (kk_r (Wf := Wg K E _ _ _ _) ?_)
    refine r_heap ((if_pos hc9).trans bm.symm) ?_
    refine r_icmp_eq X 826 dL_law_570 (by decide) (fun c_570 => ?_) (fun c_570 => ?_)
    rotate_left
    · exact absurd (hEq) c_570
    refine r_widen (cells + 14) (slots + 14) (by omega) (by omega) ?_
    exact kk _ _ _ _ _ _ _ _ _ _ _ ⟨cl, wm, pad, si, Q, I, hT, hTx, hNn, hPs, hKk, hSs⟩
  · skip
    refine r_aload_n X dL_law_542 rfl ?_
    refine r_aload_n X dL_law_543 rfl ?_
    refine r_iload_n X dL_law_544 rfl ?_
    refine r_iconst (v := nI 1) X dL_law_545 (by decide) ?_
    first | refine r_iaddN X dL_law_546 ?_ | refine r_iadd X _ dL_law_546 rfl ?_
    refine r_sld X hX hbE hL (by omega) rfl dL_law_547 ?_
    refine r_aload_n X dL_law_548 rfl ?_
    refine r_iload_n X dL_law_549 rfl ?_
    refine r_iconst (v := nI 2) X dL_law_550 (by decide) ?_
    first | refine r_iaddN X dL_law_551 ?_ | refine r_iadd X _ dL_law_551 rfl ?_
    refine r_sld X hX hbE hL (by omega) rfl dL_law_552 ?_
    refine r_callV (ci := 9) X rfl (c_X10_send _ E _ n Y v F P SP N Mp Kp pad cl wm (xs (i + 1)) (xs (i + 2)) (pOk_m hP) hN7 hN9 h0 h1) tw_573 tw_574 tw_575 tw_1 tw_576 rfl rfl b0 rfl ⟨ok_X10_send, ⟨Nat.le_of_ble_eq_true rfl, Nat.le_of_ble_eq_true rfl⟩, ⟨by show _ ≤ 600000; omega, by show _ ≤ 7302249; omega⟩, Nat.le_of_ble_eq_true rfl⟩ dL_law_553 (kk_r (Wf := Wg K E _ _ _ _) ?_)
    refine r_heap (bm) ?_
    refine r_aload_n X dL_law_556 rfl ?_
    refine r_aload_n X dL_law_557 rfl ?_
    refine r_iload_n X dL_law_558 rfl ?_
    refine r_iconst (v := nI 1) X dL_law_559 (by decide) ?_
    first | refine r_iaddN X dL_law_560 ?_ | refine r_iadd X _ dL_law_560 rfl ?_
    refine r_sld X hX hbE hL (by omega) rfl dL_law_561 ?_
    refine r_aload_n X dL_law_562 rfl ?_
    refine r_iload_n X dL_law_563 rfl ?_
    refine r_iconst (v := nI 2) X dL_law_564 (by decide) ?_
    first | refine r_iaddN X dL_law_565 ?_ | refine r_iadd X _ dL_law_565 rfl ?_
    refine r_sld X hX hbE hL (by omega) rfl dL_law_566 ?_
    refine r_callV (ci := 10) X rfl (c_X11_send _ E _ _ (Y + 75) u B (v 0, v 1, cl, wm, F 6, F 7) N (xs (i + 1)) (xs (i + 2)) hB2 hB4 h0 h1 hP2 hN7 hN9 (show 1 ≤ v 0 by omega)) tw_867 tw_868 tw_869 tw_7 tw_870 rfl rfl m0 rfl ⟨ok_X11_send, ⟨Nat.le_of_ble_eq_true rfl, Nat.le_of_ble_eq_true rfl⟩, ⟨by show _ ≤ 600000; omega, by show _ ≤ 7302249; omega⟩, Nat.le_of_ble_eq_true rfl⟩ dL_law_567 (kk_r (Wf := Wg K E _ _ _ _) ?_)
    refine r_heap ((if_neg hc9).trans bm.symm) ?_
    refine r_icmp_eq X 826 dL_law_570 (by decide) (fun c_570 => ?_) (fun c_570 => ?_)
    rotate_left
    · exact absurd (hEq) c_570
    refine r_widen (cells + 14) (slots + 14) (by omega) (by omega) ?_
    exact kk _ _ _ _ _ _ _ _ _ _ _ ⟨cl, wm, pad, si, Q, I, hT, hTx, hNn, hPs, hKk, hSs⟩

set_option maxHeartbeats 4000000 in
set_option maxRecDepth 100000 in
/-- the law, case 17: cover -/
theorem lc_17 {K : xC} {E : xE} {b L Y i cells slots n : Nat} {xs : Nat → Int32} {g : hG} {v : Nat → Nat} {F : Nat → Nat → Nat} {P SP : Nat → Option Nat} {N : Mo} {Mp Kp : Nat → Mo} {u : Nat → Nat} {B : Nat → Nat → Nat} (X : Sx K E cL_law 4 "BanisterWordLaw" room_1) (hX : va_X b L xs K.2.2.2.2.1 K.2.2.2.2.1.heap) (hbE : b < E.1) (hL : L ≤ 384) (hi : i + 6 ≤ L) (hc : cells + 14 ≤ 600000) (hs : slots + 14 ≤ 7302249) (hR : Rl n Y g v F P SP N Mp Kp u B) (kk : Nx K E b Y i (cells + 14) (slots + 14)) : Wg K E cells slots 575 [some (.ref b), some (.ref Y), some (.ref (Y + 75)), some (.int (nI i))] [] (bG E (mG E g (Y + 75) u B) Y v F P SP N Mp Kp) n := by
  obtain ⟨cl, wm, pad, si, Q, I, hT, hTx, hNn, hPs, hKk, hSs⟩ := hR
  obtain ⟨hP, hPn, h02, h0, h1, hgt, hYn⟩ := id hT
  obtain ⟨hu0, h5, hB1, hL2, hF3⟩ := id hTx
  obtain ⟨hB2, hB4, hgN⟩ := id hNn
  obtain ⟨hN7, hN9, hNk, hNd, hNf, hNz⟩ := id hgN
  obtain ⟨hu1, h8, h7, hB5, hQ⟩ := id hPs
  obtain ⟨hB7, hz1, hB6, hI⟩ := id hKk
  obtain ⟨hu2, h9, hSo, hB8⟩ := id hSs
  have hP2 : ∀ i, i < v 1 → cl i < 4 ∧ wm i ≤ 9 := fun i h => (hPn i h).2
  refine r_aload_n X dL_law_575 rfl ?_
  refine r_aload_n X dL_law_576 rfl ?_
  refine r_iload_n X dL_law_577 rfl ?_
  refine r_iconst (v := nI 1) X dL_law_578 (by decide) ?_
  first | refine r_iaddN X dL_law_579 ?_ | refine r_iadd X _ dL_law_579 rfl ?_
  refine r_sld X hX hbE hL (by omega) rfl dL_law_580 ?_
  refine r_aload_n X dL_law_581 rfl ?_
  refine r_iload_n X dL_law_582 rfl ?_
  refine r_iconst (v := nI 2) X dL_law_583 (by decide) ?_
  first | refine r_iaddN X dL_law_584 ?_ | refine r_iadd X _ dL_law_584 rfl ?_
  refine r_sld X hX hbE hL (by omega) rfl dL_law_585 ?_
  refine r_callV (ci := 9) X rfl (c_X10_cover _ E _ n Y v F P SP N Mp Kp pad cl wm (xs (i + 1)) (xs (i + 2)) (pOk_m hP) hN7 hN9 h0 h1) tw_578 tw_579 tw_580 tw_1 tw_581 rfl rfl b0 rfl ⟨ok_X10_cover, ⟨Nat.le_of_ble_eq_true rfl, Nat.le_of_ble_eq_true rfl⟩, ⟨by show _ ≤ 600000; omega, by show _ ≤ 7302249; omega⟩, Nat.le_of_ble_eq_true rfl⟩ dL_law_586 (kk_r (Wf := Wg K E _ _ _ _) ?_)
  refine r_heap bm ?_
  refine r_aload_n X dL_law_589 rfl ?_
  refine r_aload_n X dL_law_590 rfl ?_
  refine r_iload_n X dL_law_591 rfl ?_
  refine r_iconst (v := nI 1) X dL_law_592 (by decide) ?_
  first | refine r_iaddN X dL_law_593 ?_ | refine r_iadd X _ dL_law_593 rfl ?_
  refine r_sld X hX hbE hL (by omega) rfl dL_law_594 ?_
  refine r_aload_n X dL_law_595 rfl ?_
  refine r_iload_n X dL_law_596 rfl ?_
  refine r_iconst (v := nI 2) X dL_law_597 (by decide) ?_
  first | refine r_iaddN X dL_law_598 ?_ | refine r_iadd X _ dL_law_598 rfl ?_
  refine r_sld X hX hbE hL (by omega) rfl dL_law_599 ?_
  refine r_callV (ci := 10) X rfl (c_X11_cover _ E _ _ (Y + 75) u B (v 0, v 1, cl, wm, F 6, F 7) N (xs (i + 1)) (xs (i + 2)) hB2 hB4 h0 h1 hP2 hN7 hN9) tw_882 tw_883 tw_884 tw_7 tw_885 rfl rfl m0 rfl ⟨ok_X11_cover, ⟨Nat.le_of_ble_eq_true rfl, Nat.le_of_ble_eq_true rfl⟩, ⟨by show _ ≤ 600000; omega, by show _ ≤ 7302249; omega⟩, Nat.le_of_ble_eq_true rfl⟩ dL_law_600 (kk_r (Wf := Wg K E _ _ _ _) ?_)
  refine r_heap bm.symm ?_
  refine r_icmp_eq X 826 dL_law_603 (by decide) (fun c_603 => ?_) (fun c_603 => ?_)
  rotate_left
  · exact absurd (rfl) c_603
  refine r_widen (cells + 14) (slots + 14) (by omega) (by omega) ?_
  exact kk _ _ _ _ _ _ _ _ _ _ _ ⟨cl, wm, pad, si, Q, I, hT, hTx, hNn, hPs, hKk, hSs⟩

set_option maxHeartbeats 4000000 in
set_option maxRecDepth 100000 in
/-- the law, case 18: seen -/
theorem lc_18 {K : xC} {E : xE} {b L Y i cells slots n : Nat} {xs : Nat → Int32} {g : hG} {v : Nat → Nat} {F : Nat → Nat → Nat} {P SP : Nat → Option Nat} {N : Mo} {Mp Kp : Nat → Mo} {u : Nat → Nat} {B : Nat → Nat → Nat} (X : Sx K E cL_law 4 "BanisterWordLaw" room_1) (hX : va_X b L xs K.2.2.2.2.1 K.2.2.2.2.1.heap) (hbE : b < E.1) (hL : L ≤ 384) (hi : i + 6 ≤ L) (hc : cells + 14 ≤ 600000) (hs : slots + 14 ≤ 7302249) (hR : Rl n Y g v F P SP N Mp Kp u B) (kk : Nx K E b Y i (cells + 14) (slots + 14)) : Wg K E cells slots 608 [some (.ref b), some (.ref Y), some (.ref (Y + 75)), some (.int (nI i))] [] (bG E (mG E g (Y + 75) u B) Y v F P SP N Mp Kp) n := by
  obtain ⟨cl, wm, pad, si, Q, I, hT, hTx, hNn, hPs, hKk, hSs⟩ := hR
  obtain ⟨hP, hPn, h02, h0, h1, hgt, hYn⟩ := id hT
  obtain ⟨hu0, h5, hB1, hL2, hF3⟩ := id hTx
  obtain ⟨hB2, hB4, hgN⟩ := id hNn
  obtain ⟨hN7, hN9, hNk, hNd, hNf, hNz⟩ := id hgN
  obtain ⟨hu1, h8, h7, hB5, hQ⟩ := id hPs
  obtain ⟨hB7, hz1, hB6, hI⟩ := id hKk
  obtain ⟨hu2, h9, hSo, hB8⟩ := id hSs
  have hP2 : ∀ i, i < v 1 → cl i < 4 ∧ wm i ≤ 9 := fun i h => (hPn i h).2
  by_cases hc9 : (inR (xs (i + 1)) (v 1) = true ∧ inR (xs (i + 2)) (v 0) = true ∧ sayB (xs (i + 3)) = true) ∧ inR (xs (i + 4)) 2 = true ∧ v 9 < 6
  · skip
    have hx9 := ix_lt (by omega) hc9.1.1
    have hy9 := ix_lt (by omega) hc9.1.2.1
    have hz9 := (say_ix hc9.1.2.2).2
    have hw9 := ix_lt (by decide) hc9.2.1
    have h69 := hc9.2.2
    have hS2 : RS (va_up v 9 (v 9 + 1)) (va_up u 2 (u 2 + 1)) (va_up (va_up (va_up F 62 (va_up (F 62) (v 9) (ix (xs (i + 2))))) 63 (va_up (F 63) (v 9) (ix (xs (i + 3))))) 64 (va_up (F 64) (v 9) (ix (xs (i + 4))))) (va_up B 8 (va_up (B 8) (u 2) (1000 * ix (xs (i + 1)) + 20 * (10 * ix (xs (i + 4)) + ix (xs (i + 3))) + ix (xs (i + 2))))) (va_up SP (v 9) (some (pad (ix (xs (i + 1)))))) pad (va_up si (v 9) (ix (xs (i + 1)))) := by
      refine ⟨by show u 2 + 1 = v 9 + 1; rw [hu2], by show v 9 + 1 ≤ 6; omega, fun k hk => ?_, fun k hk => ?_⟩
      · have hk : k < v 9 + 1 := hk
        show va_up SP (v 9) (some (pad (ix (xs (i + 1))))) k = some (pad (va_up si (v 9) (ix (xs (i + 1))) k)) ∧ va_up si (v 9) (ix (xs (i + 1))) k < v 1 ∧ va_up (F 62) (v 9) (ix (xs (i + 2))) k < v 0 ∧ va_up (F 63) (v 9) (ix (xs (i + 3))) k ≤ 7 ∧ va_up (F 64) (v 9) (ix (xs (i + 4))) k ≤ 1
        by_cases e : k = v 9
        · subst e; rw [vu_eq, vu_eq, vu_eq, vu_eq, vu_eq]; exact ⟨rfl, hx9, hy9, hz9, by omega⟩
        · rw [vu_ne e, vu_ne e, vu_ne e, vu_ne e, vu_ne e]; exact hSo k (by omega)
      · have hk : k < v 9 + 1 := hk
        show va_up (B 8) (u 2) (1000 * ix (xs (i + 1)) + 20 * (10 * ix (xs (i + 4)) + ix (xs (i + 3))) + ix (xs (i + 2))) k = 1000 * va_up si (v 9) (ix (xs (i + 1))) k + 20 * (10 * va_up (F 64) (v 9) (ix (xs (i + 4))) k + va_up (F 63) (v 9) (ix (xs (i + 3))) k) + va_up (F 62) (v 9) (ix (xs (i + 2))) k
        rw [hu2]
        by_cases e : k = v 9
        · subst e; rw [vu_eq, vu_eq, vu_eq, vu_eq, vu_eq]
        · rw [vu_ne e, vu_ne e, vu_ne e, vu_ne e, vu_ne e]; exact hB8 k (by omega)
    refine r_aload_n X dL_law_608 rfl ?_
    refine r_aload_n X dL_law_609 rfl ?_
    refine r_iload_n X dL_law_610 rfl ?_
    refine r_iconst (v := nI 1) X dL_law_611 (by decide) ?_
    first | refine r_iaddN X dL_law_612 ?_ | refine r_iadd X _ dL_law_612 rfl ?_
    refine r_sld X hX hbE hL (by omega) rfl dL_law_613 ?_
    refine r_aload_n X dL_law_614 rfl ?_
    refine r_iload_n X dL_law_615 rfl ?_
    refine r_iconst (v := nI 2) X dL_law_616 (by decide) ?_
    first | refine r_iaddN X dL_law_617 ?_ | refine r_iadd X _ dL_law_617 rfl ?_
    refine r_sld X hX hbE hL (by omega) rfl dL_law_618 ?_
    refine r_aload_n X dL_law_619 rfl ?_
    refine r_iload_n X dL_law_620 rfl ?_
    refine r_iconst (v := nI 3) X dL_law_621 (by decide) ?_
    first | refine r_iaddN X dL_law_622 ?_ | refine r_iadd X _ dL_law_622 rfl ?_
    refine r_sld X hX hbE hL (by omega) rfl dL_law_623 ?_
    refine r_aload_n X dL_law_624 rfl ?_
    refine r_iload_n X dL_law_625 rfl ?_
    refine r_iconst (v := nI 4) X dL_law_626 (by decide) ?_
    first | refine r_iaddN X dL_law_627 ?_ | refine r_iadd X _ dL_law_627 rfl ?_
    refine r_sld X hX hbE hL (by omega) rfl dL_law_628 ?_
    refine r_callV (ci := 9) X rfl (c_X10_seen _ E _ n Y v F P SP N Mp Kp pad cl wm (xs (i + 1)) (xs (i + 2)) (xs (i + 3)) (xs (i + 4)) (pOk_m hP) h9 h0 h1) tw_582 tw_583 tw_584 tw_1 tw_585 rfl rfl b0 rfl ⟨ok_X10_seen, ⟨Nat.le_of_ble_eq_true rfl, Nat.le_of_ble_eq_true rfl⟩, ⟨by show _ ≤ 600000; omega, by show _ ≤ 7302249; omega⟩, Nat.le_of_ble_eq_true rfl⟩ dL_law_629 (kk_r (Wf := Wg K E _ _ _ _) ?_)
    refine r_heap ((if_pos hc9).trans bm) ?_
    refine r_aload_n X dL_law_632 rfl ?_
    refine r_aload_n X dL_law_633 rfl ?_
    refine r_iload_n X dL_law_634 rfl ?_
    refine r_iconst (v := nI 1) X dL_law_635 (by decide) ?_
    first | refine r_iaddN X dL_law_636 ?_ | refine r_iadd X _ dL_law_636 rfl ?_
    refine r_sld X hX hbE hL (by omega) rfl dL_law_637 ?_
    refine r_aload_n X dL_law_638 rfl ?_
    refine r_iload_n X dL_law_639 rfl ?_
    refine r_iconst (v := nI 2) X dL_law_640 (by decide) ?_
    first | refine r_iaddN X dL_law_641 ?_ | refine r_iadd X _ dL_law_641 rfl ?_
    refine r_sld X hX hbE hL (by omega) rfl dL_law_642 ?_
    refine r_aload_n X dL_law_643 rfl ?_
    refine r_iload_n X dL_law_644 rfl ?_
    refine r_iconst (v := nI 3) X dL_law_645 (by decide) ?_
    first | refine r_iaddN X dL_law_646 ?_ | refine r_iadd X _ dL_law_646 rfl ?_
    refine r_sld X hX hbE hL (by omega) rfl dL_law_647 ?_
    refine r_aload_n X dL_law_648 rfl ?_
    refine r_iload_n X dL_law_649 rfl ?_
    refine r_iconst (v := nI 4) X dL_law_650 (by decide) ?_
    first | refine r_iaddN X dL_law_651 ?_ | refine r_iadd X _ dL_law_651 rfl ?_
    refine r_sld X hX hbE hL (by omega) rfl dL_law_652 ?_
    refine r_callV (ci := 10) X rfl (c_X11_seen _ E _ _ (Y + 75) u B (v 0, v 1, cl, wm, F 6, F 7) (xs (i + 1)) (xs (i + 2)) (xs (i + 3)) (xs (i + 4)) hB2 h0 h1 (by rw [hu2]; exact h9)) tw_886 tw_887 tw_888 tw_7 tw_889 rfl rfl m0 rfl ⟨ok_X11_seen, ⟨Nat.le_of_ble_eq_true rfl, Nat.le_of_ble_eq_true rfl⟩, ⟨by show _ ≤ 600000; omega, by show _ ≤ 7302249; omega⟩, Nat.le_of_ble_eq_true rfl⟩ dL_law_653 (kk_r (Wf := Wg K E _ _ _ _) ?_)
    refine r_heap ((if_pos (by rw [hu2]; exact hc9)).trans bm.symm) ?_
    refine r_icmp_eq X 826 dL_law_656 (by decide) (fun c_656 => ?_) (fun c_656 => ?_)
    rotate_left
    · exact absurd (by rw [hu2]) c_656
    refine r_widen (cells + 14) (slots + 14) (by omega) (by omega) ?_
    exact kk _ _ _ _ _ _ _ _ _ _ _ ⟨cl, wm, pad, _, Q, I, hT, hTx, hNn, hPs, hKk, hS2⟩
  · skip
    refine r_aload_n X dL_law_608 rfl ?_
    refine r_aload_n X dL_law_609 rfl ?_
    refine r_iload_n X dL_law_610 rfl ?_
    refine r_iconst (v := nI 1) X dL_law_611 (by decide) ?_
    first | refine r_iaddN X dL_law_612 ?_ | refine r_iadd X _ dL_law_612 rfl ?_
    refine r_sld X hX hbE hL (by omega) rfl dL_law_613 ?_
    refine r_aload_n X dL_law_614 rfl ?_
    refine r_iload_n X dL_law_615 rfl ?_
    refine r_iconst (v := nI 2) X dL_law_616 (by decide) ?_
    first | refine r_iaddN X dL_law_617 ?_ | refine r_iadd X _ dL_law_617 rfl ?_
    refine r_sld X hX hbE hL (by omega) rfl dL_law_618 ?_
    refine r_aload_n X dL_law_619 rfl ?_
    refine r_iload_n X dL_law_620 rfl ?_
    refine r_iconst (v := nI 3) X dL_law_621 (by decide) ?_
    first | refine r_iaddN X dL_law_622 ?_ | refine r_iadd X _ dL_law_622 rfl ?_
    refine r_sld X hX hbE hL (by omega) rfl dL_law_623 ?_
    refine r_aload_n X dL_law_624 rfl ?_
    refine r_iload_n X dL_law_625 rfl ?_
    refine r_iconst (v := nI 4) X dL_law_626 (by decide) ?_
    first | refine r_iaddN X dL_law_627 ?_ | refine r_iadd X _ dL_law_627 rfl ?_
    refine r_sld X hX hbE hL (by omega) rfl dL_law_628 ?_
    refine r_callV (ci := 9) X rfl (c_X10_seen _ E _ n Y v F P SP N Mp Kp pad cl wm (xs (i + 1)) (xs (i + 2)) (xs (i + 3)) (xs (i + 4)) (pOk_m hP) h9 h0 h1) tw_582 tw_583 tw_584 tw_1 tw_585 rfl rfl b0 rfl ⟨ok_X10_seen, ⟨Nat.le_of_ble_eq_true rfl, Nat.le_of_ble_eq_true rfl⟩, ⟨by show _ ≤ 600000; omega, by show _ ≤ 7302249; omega⟩, Nat.le_of_ble_eq_true rfl⟩ dL_law_629 (kk_r (Wf := Wg K E _ _ _ _) ?_)
    refine r_heap ((if_neg hc9).trans bm) ?_
    refine r_aload_n X dL_law_632 rfl ?_
    refine r_aload_n X dL_law_633 rfl ?_
    refine r_iload_n X dL_law_634 rfl ?_
    refine r_iconst (v := nI 1) X dL_law_635 (by decide) ?_
    first | refine r_iaddN X dL_law_636 ?_ | refine r_iadd X _ dL_law_636 rfl ?_
    refine r_sld X hX hbE hL (by omega) rfl dL_law_637 ?_
    refine r_aload_n X dL_law_638 rfl ?_
    refine r_iload_n X dL_law_639 rfl ?_
    refine r_iconst (v := nI 2) X dL_law_640 (by decide) ?_
    first | refine r_iaddN X dL_law_641 ?_ | refine r_iadd X _ dL_law_641 rfl ?_
    refine r_sld X hX hbE hL (by omega) rfl dL_law_642 ?_
    refine r_aload_n X dL_law_643 rfl ?_
    refine r_iload_n X dL_law_644 rfl ?_
    refine r_iconst (v := nI 3) X dL_law_645 (by decide) ?_
    first | refine r_iaddN X dL_law_646 ?_ | refine r_iadd X _ dL_law_646 rfl ?_
    refine r_sld X hX hbE hL (by omega) rfl dL_law_647 ?_
    refine r_aload_n X dL_law_648 rfl ?_
    refine r_iload_n X dL_law_649 rfl ?_
    refine r_iconst (v := nI 4) X dL_law_650 (by decide) ?_
    first | refine r_iaddN X dL_law_651 ?_ | refine r_iadd X _ dL_law_651 rfl ?_
    refine r_sld X hX hbE hL (by omega) rfl dL_law_652 ?_
    refine r_callV (ci := 10) X rfl (c_X11_seen _ E _ _ (Y + 75) u B (v 0, v 1, cl, wm, F 6, F 7) (xs (i + 1)) (xs (i + 2)) (xs (i + 3)) (xs (i + 4)) hB2 h0 h1 (by rw [hu2]; exact h9)) tw_886 tw_887 tw_888 tw_7 tw_889 rfl rfl m0 rfl ⟨ok_X11_seen, ⟨Nat.le_of_ble_eq_true rfl, Nat.le_of_ble_eq_true rfl⟩, ⟨by show _ ≤ 600000; omega, by show _ ≤ 7302249; omega⟩, Nat.le_of_ble_eq_true rfl⟩ dL_law_653 (kk_r (Wf := Wg K E _ _ _ _) ?_)
    refine r_heap ((if_neg (by rw [hu2]; exact hc9)).trans bm.symm) ?_
    refine r_icmp_eq X 826 dL_law_656 (by decide) (fun c_656 => ?_) (fun c_656 => ?_)
    rotate_left
    · exact absurd (by rw [hu2]) c_656
    refine r_widen (cells + 14) (slots + 14) (by omega) (by omega) ?_
    exact kk _ _ _ _ _ _ _ _ _ _ _ ⟨cl, wm, pad, si, Q, I, hT, hTx, hNn, hPs, hKk, hSs⟩

set_option maxHeartbeats 4000000 in
set_option maxRecDepth 100000 in
/-- the law, case 19: forget -/
theorem lc_19 {K : xC} {E : xE} {b L Y i cells slots n : Nat} {xs : Nat → Int32} {g : hG} {v : Nat → Nat} {F : Nat → Nat → Nat} {P SP : Nat → Option Nat} {N : Mo} {Mp Kp : Nat → Mo} {u : Nat → Nat} {B : Nat → Nat → Nat} (X : Sx K E cL_law 4 "BanisterWordLaw" room_1) (hX : va_X b L xs K.2.2.2.2.1 K.2.2.2.2.1.heap) (hbE : b < E.1) (hL : L ≤ 384) (hi : i + 6 ≤ L) (hc : cells + 14 ≤ 600000) (hs : slots + 14 ≤ 7302249) (hR : Rl n Y g v F P SP N Mp Kp u B) (kk : Nx K E b Y i (cells + 14) (slots + 14)) : Wg K E cells slots 661 [some (.ref b), some (.ref Y), some (.ref (Y + 75)), some (.int (nI i))] [] (bG E (mG E g (Y + 75) u B) Y v F P SP N Mp Kp) n := by
  obtain ⟨cl, wm, pad, si, Q, I, hT, hTx, hNn, hPs, hKk, hSs⟩ := hR
  obtain ⟨hP, hPn, h02, h0, h1, hgt, hYn⟩ := id hT
  obtain ⟨hu0, h5, hB1, hL2, hF3⟩ := id hTx
  obtain ⟨hB2, hB4, hgN⟩ := id hNn
  obtain ⟨hN7, hN9, hNk, hNd, hNf, hNz⟩ := id hgN
  obtain ⟨hu1, h8, h7, hB5, hQ⟩ := id hPs
  obtain ⟨hB7, hz1, hB6, hI⟩ := id hKk
  obtain ⟨hu2, h9, hSo, hB8⟩ := id hSs
  have hP2 : ∀ i, i < v 1 → cl i < 4 ∧ wm i ≤ 9 := fun i h => (hPn i h).2
  refine r_aload_n X dL_law_661 rfl ?_
  refine r_callV (ci := 9) X rfl (c_X10_forget _ E _ n Y v F P SP N Mp Kp ) tw_590 tw_591 tw_592 tw_1 tw_593 rfl rfl b0 rfl ⟨ok_X10_forget, ⟨Nat.le_of_ble_eq_true rfl, Nat.le_of_ble_eq_true rfl⟩, ⟨by show _ ≤ 600000; omega, by show _ ≤ 7302249; omega⟩, Nat.le_of_ble_eq_true rfl⟩ dL_law_662 (kk_r (Wf := Wg K E _ _ _ _) ?_)
  refine r_heap bm ?_
  refine r_aload_n X dL_law_665 rfl ?_
  refine r_callV (ci := 10) X rfl (c_X11_forget _ E _ _ (Y + 75) u B ) tw_890 tw_891 tw_892 tw_7 tw_893 rfl rfl m0 rfl ⟨ok_X11_forget, ⟨Nat.le_of_ble_eq_true rfl, Nat.le_of_ble_eq_true rfl⟩, ⟨by show _ ≤ 600000; omega, by show _ ≤ 7302249; omega⟩, Nat.le_of_ble_eq_true rfl⟩ dL_law_666 (kk_r (Wf := Wg K E _ _ _ _) ?_)
  refine r_heap bm.symm ?_
  refine r_icmp_eq X 826 dL_law_669 (by decide) (fun c_669 => ?_) (fun c_669 => ?_)
  rotate_left
  · exact absurd (by rw [hu2]) c_669
  refine r_widen (cells + 14) (slots + 14) (by omega) (by omega) ?_
  exact kk _ _ _ _ _ _ _ _ _ _ _ ⟨cl, wm, pad, si, Q, I, hT, hTx, hNn, hPs, hKk, ⟨rfl, Nat.zero_le _, fun i hi => absurd hi (Nat.not_lt_zero _), fun k hk => absurd hk (Nat.not_lt_zero _)⟩⟩

set_option maxHeartbeats 4000000 in
set_option maxRecDepth 100000 in
/-- the law, case 20: said -/
theorem lc_20 {K : xC} {E : xE} {b L Y i cells slots n : Nat} {xs : Nat → Int32} {g : hG} {v : Nat → Nat} {F : Nat → Nat → Nat} {P SP : Nat → Option Nat} {N : Mo} {Mp Kp : Nat → Mo} {u : Nat → Nat} {B : Nat → Nat → Nat} (X : Sx K E cL_law 4 "BanisterWordLaw" room_1) (hX : va_X b L xs K.2.2.2.2.1 K.2.2.2.2.1.heap) (hbE : b < E.1) (hL : L ≤ 384) (hi : i + 6 ≤ L) (hc : cells + 14 ≤ 600000) (hs : slots + 14 ≤ 7302249) (hR : Rl n Y g v F P SP N Mp Kp u B) (kk : Nx K E b Y i (cells + 14) (slots + 14)) : Wg K E cells slots 674 [some (.ref b), some (.ref Y), some (.ref (Y + 75)), some (.int (nI i))] [] (bG E (mG E g (Y + 75) u B) Y v F P SP N Mp Kp) n := by
  obtain ⟨cl, wm, pad, si, Q, I, hT, hTx, hNn, hPs, hKk, hSs⟩ := hR
  obtain ⟨hP, hPn, h02, h0, h1, hgt, hYn⟩ := id hT
  obtain ⟨hu0, h5, hB1, hL2, hF3⟩ := id hTx
  obtain ⟨hB2, hB4, hgN⟩ := id hNn
  obtain ⟨hN7, hN9, hNk, hNd, hNf, hNz⟩ := id hgN
  obtain ⟨hu1, h8, h7, hB5, hQ⟩ := id hPs
  obtain ⟨hB7, hz1, hB6, hI⟩ := id hKk
  obtain ⟨hu2, h9, hSo, hB8⟩ := id hSs
  have hP2 : ∀ i, i < v 1 → cl i < 4 ∧ wm i ≤ 9 := fun i h => (hPn i h).2
  have hNo : ∀ k, k < u 2 → B 8 k = 1000 * si k + 20 * (10 * F 64 k + F 63 k) + F 62 k ∧ si k < v 1 ∧ F 62 k < 12 ∧ F 63 k ≤ 7 ∧ F 64 k ≤ 1 := fun k hk => by
    rw [hu2] at hk
    obtain ⟨p1, p2, p3, p4, p5⟩ := hSo k hk
    exact ⟨hB8 k hk, p2, by omega, p4, p5⟩
  by_cases hc9 : inR (xs (i + 1)) (v 1) = true ∧ sayB (xs (i + 2)) = true
  · skip
    refine r_aload_n X dL_law_674 rfl ?_
    refine r_aload_n X dL_law_675 rfl ?_
    refine r_iload_n X dL_law_676 rfl ?_
    refine r_iconst (v := nI 1) X dL_law_677 (by decide) ?_
    first | refine r_iaddN X dL_law_678 ?_ | refine r_iadd X _ dL_law_678 rfl ?_
    refine r_sld X hX hbE hL (by omega) rfl dL_law_679 ?_
    refine r_aload_n X dL_law_680 rfl ?_
    refine r_iload_n X dL_law_681 rfl ?_
    refine r_iconst (v := nI 2) X dL_law_682 (by decide) ?_
    first | refine r_iaddN X dL_law_683 ?_ | refine r_iadd X _ dL_law_683 rfl ?_
    refine r_sld X hX hbE hL (by omega) rfl dL_law_684 ?_
    refine r_callV (ci := 9) X rfl (c_X10_said _ E _ n Y v F P SP N Mp Kp pad cl wm si (xs (i + 1)) (xs (i + 2)) (pOk_m hP) hN7 hN9 h0 h1 h9 hSo) tw_594 tw_595 tw_596 tw_1 tw_597 rfl rfl b0 rfl ⟨ok_X10_said, ⟨Nat.le_of_ble_eq_true rfl, Nat.le_of_ble_eq_true rfl⟩, ⟨by show _ ≤ 600000; omega, by show _ ≤ 7302249; omega⟩, Nat.le_of_ble_eq_true rfl⟩ dL_law_685 (fun v_685 g_685 n_685 z_685 => ?_)
    obtain ⟨rfl, hn9, f9, k9, rfl⟩ := z_685
    replace hn9 := hn9.symm
    subst hn9
    refine r_heap bm ?_
    refine r_aload_n X dL_law_688 rfl ?_
    refine r_aload_n X dL_law_689 rfl ?_
    refine r_iload_n X dL_law_690 rfl ?_
    refine r_iconst (v := nI 1) X dL_law_691 (by decide) ?_
    first | refine r_iaddN X dL_law_692 ?_ | refine r_iadd X _ dL_law_692 rfl ?_
    refine r_sld X hX hbE hL (by omega) rfl dL_law_693 ?_
    refine r_aload_n X dL_law_694 rfl ?_
    refine r_iload_n X dL_law_695 rfl ?_
    refine r_iconst (v := nI 2) X dL_law_696 (by decide) ?_
    first | refine r_iaddN X dL_law_697 ?_ | refine r_iadd X _ dL_law_697 rfl ?_
    refine r_sld X hX hbE hL (by omega) rfl dL_law_698 ?_
    refine r_callV (ci := 10) X rfl (c_X11_said _ E _ _ (Y + 75) u B (v 0, v 1, cl, wm, F 6, F 7) N si (F 62) (F 63) (F 64) (xs (i + 1)) (xs (i + 2)) hB2 hB4 h0 h1 hP2 hN7 hN9 (by rw [hu2]; exact h9) hNo) tw_894 tw_895 tw_896 tw_7 tw_897 rfl rfl m0 rfl ⟨ok_X11_said, ⟨Nat.le_of_ble_eq_true rfl, Nat.le_of_ble_eq_true rfl⟩, ⟨by show _ ≤ 600000; omega, by show _ ≤ 7302249; omega⟩, Nat.le_of_ble_eq_true rfl⟩ dL_law_699 (kk_r (Wf := Wg K E _ _ _ _) ?_)
    refine r_heap ((if_pos hc9).trans bm.symm) ?_
    refine r_icmp_eq X 826 dL_law_702 (by decide) (fun c_702 => ?_) (fun c_702 => ?_)
    rotate_left
    · exact absurd (by rw [hu2]; rfl) c_702
    refine r_widen (cells + 14) (slots + 14) (by omega) (by omega) ?_
    exact kk _ _ _ _ _ _ _ _ _ _ _ ⟨cl, wm, pad, si, Q, I, hT, hTx, hNn, hPs, hKk, hSs⟩
  · skip
    refine r_aload_n X dL_law_674 rfl ?_
    refine r_aload_n X dL_law_675 rfl ?_
    refine r_iload_n X dL_law_676 rfl ?_
    refine r_iconst (v := nI 1) X dL_law_677 (by decide) ?_
    first | refine r_iaddN X dL_law_678 ?_ | refine r_iadd X _ dL_law_678 rfl ?_
    refine r_sld X hX hbE hL (by omega) rfl dL_law_679 ?_
    refine r_aload_n X dL_law_680 rfl ?_
    refine r_iload_n X dL_law_681 rfl ?_
    refine r_iconst (v := nI 2) X dL_law_682 (by decide) ?_
    first | refine r_iaddN X dL_law_683 ?_ | refine r_iadd X _ dL_law_683 rfl ?_
    refine r_sld X hX hbE hL (by omega) rfl dL_law_684 ?_
    refine r_callV (ci := 9) X rfl (c_X10_said _ E _ n Y v F P SP N Mp Kp pad cl wm si (xs (i + 1)) (xs (i + 2)) (pOk_m hP) hN7 hN9 h0 h1 h9 hSo) tw_594 tw_595 tw_596 tw_1 tw_597 rfl rfl b0 rfl ⟨ok_X10_said, ⟨Nat.le_of_ble_eq_true rfl, Nat.le_of_ble_eq_true rfl⟩, ⟨by show _ ≤ 600000; omega, by show _ ≤ 7302249; omega⟩, Nat.le_of_ble_eq_true rfl⟩ dL_law_685 (fun v_685 g_685 n_685 z_685 => ?_)
    obtain ⟨rfl, hn9, f9, k9, rfl⟩ := z_685
    replace hn9 := hn9.symm
    subst hn9
    refine r_heap bm ?_
    refine r_aload_n X dL_law_688 rfl ?_
    refine r_aload_n X dL_law_689 rfl ?_
    refine r_iload_n X dL_law_690 rfl ?_
    refine r_iconst (v := nI 1) X dL_law_691 (by decide) ?_
    first | refine r_iaddN X dL_law_692 ?_ | refine r_iadd X _ dL_law_692 rfl ?_
    refine r_sld X hX hbE hL (by omega) rfl dL_law_693 ?_
    refine r_aload_n X dL_law_694 rfl ?_
    refine r_iload_n X dL_law_695 rfl ?_
    refine r_iconst (v := nI 2) X dL_law_696 (by decide) ?_
    first | refine r_iaddN X dL_law_697 ?_ | refine r_iadd X _ dL_law_697 rfl ?_
    refine r_sld X hX hbE hL (by omega) rfl dL_law_698 ?_
    refine r_callV (ci := 10) X rfl (c_X11_said _ E _ _ (Y + 75) u B (v 0, v 1, cl, wm, F 6, F 7) N si (F 62) (F 63) (F 64) (xs (i + 1)) (xs (i + 2)) hB2 hB4 h0 h1 hP2 hN7 hN9 (by rw [hu2]; exact h9) hNo) tw_894 tw_895 tw_896 tw_7 tw_897 rfl rfl m0 rfl ⟨ok_X11_said, ⟨Nat.le_of_ble_eq_true rfl, Nat.le_of_ble_eq_true rfl⟩, ⟨by show _ ≤ 600000; omega, by show _ ≤ 7302249; omega⟩, Nat.le_of_ble_eq_true rfl⟩ dL_law_699 (kk_r (Wf := Wg K E _ _ _ _) ?_)
    refine r_heap ((if_neg hc9).trans bm.symm) ?_
    refine r_icmp_eq X 826 dL_law_702 (by decide) (fun c_702 => ?_) (fun c_702 => ?_)
    rotate_left
    · exact absurd (by rw [hu2]; rfl) c_702
    refine r_widen (cells + 14) (slots + 14) (by omega) (by omega) ?_
    exact kk _ _ _ _ _ _ _ _ _ _ _ ⟨cl, wm, pad, si, Q, I, hT, hTx, hNn, hPs, hKk, hSs⟩

set_option maxHeartbeats 4000000 in
set_option maxRecDepth 100000 in
/-- the law, case 21: who -/
theorem lc_21 {K : xC} {E : xE} {b L Y i cells slots n : Nat} {xs : Nat → Int32} {g : hG} {v : Nat → Nat} {F : Nat → Nat → Nat} {P SP : Nat → Option Nat} {N : Mo} {Mp Kp : Nat → Mo} {u : Nat → Nat} {B : Nat → Nat → Nat} (X : Sx K E cL_law 4 "BanisterWordLaw" room_1) (hX : va_X b L xs K.2.2.2.2.1 K.2.2.2.2.1.heap) (hbE : b < E.1) (hL : L ≤ 384) (hi : i + 6 ≤ L) (hc : cells + 14 ≤ 600000) (hs : slots + 14 ≤ 7302249) (hR : Rl n Y g v F P SP N Mp Kp u B) (kk : Nx K E b Y i (cells + 14) (slots + 14)) : Wg K E cells slots 707 [some (.ref b), some (.ref Y), some (.ref (Y + 75)), some (.int (nI i))] [] (bG E (mG E g (Y + 75) u B) Y v F P SP N Mp Kp) n := by
  obtain ⟨cl, wm, pad, si, Q, I, hT, hTx, hNn, hPs, hKk, hSs⟩ := hR
  obtain ⟨hP, hPn, h02, h0, h1, hgt, hYn⟩ := id hT
  obtain ⟨hu0, h5, hB1, hL2, hF3⟩ := id hTx
  obtain ⟨hB2, hB4, hgN⟩ := id hNn
  obtain ⟨hN7, hN9, hNk, hNd, hNf, hNz⟩ := id hgN
  obtain ⟨hu1, h8, h7, hB5, hQ⟩ := id hPs
  obtain ⟨hB7, hz1, hB6, hI⟩ := id hKk
  obtain ⟨hu2, h9, hSo, hB8⟩ := id hSs
  have hP2 : ∀ i, i < v 1 → cl i < 4 ∧ wm i ≤ 9 := fun i h => (hPn i h).2
  have hNo : ∀ k, k < u 2 → B 8 k = 1000 * si k + 20 * (10 * F 64 k + F 63 k) + F 62 k ∧ si k < v 1 ∧ F 62 k < 12 ∧ F 63 k ≤ 7 ∧ F 64 k ≤ 1 := fun k hk => by
    rw [hu2] at hk
    obtain ⟨p1, p2, p3, p4, p5⟩ := hSo k hk
    exact ⟨hB8 k hk, p2, by omega, p4, p5⟩
  by_cases hc9 : inR (xs (i + 1)) (v 0) = true ∧ sayB (xs (i + 2)) = true
  · skip
    refine r_aload_n X dL_law_707 rfl ?_
    refine r_aload_n X dL_law_708 rfl ?_
    refine r_iload_n X dL_law_709 rfl ?_
    refine r_iconst (v := nI 1) X dL_law_710 (by decide) ?_
    first | refine r_iaddN X dL_law_711 ?_ | refine r_iadd X _ dL_law_711 rfl ?_
    refine r_sld X hX hbE hL (by omega) rfl dL_law_712 ?_
    refine r_aload_n X dL_law_713 rfl ?_
    refine r_iload_n X dL_law_714 rfl ?_
    refine r_iconst (v := nI 2) X dL_law_715 (by decide) ?_
    first | refine r_iaddN X dL_law_716 ?_ | refine r_iadd X _ dL_law_716 rfl ?_
    refine r_sld X hX hbE hL (by omega) rfl dL_law_717 ?_
    refine r_callV (ci := 9) X rfl (c_X10_who _ E _ n Y v F P SP N Mp Kp pad cl wm si (xs (i + 1)) (xs (i + 2)) (pOk_m hP) hN7 hN9 h0 h1 h9 hSo) tw_608 tw_609 tw_610 tw_1 tw_611 rfl rfl b0 rfl ⟨ok_X10_who, ⟨Nat.le_of_ble_eq_true rfl, Nat.le_of_ble_eq_true rfl⟩, ⟨by show _ ≤ 600000; omega, by show _ ≤ 7302249; omega⟩, Nat.le_of_ble_eq_true rfl⟩ dL_law_718 (fun v_718 g_718 n_718 z_718 => ?_)
    obtain ⟨rfl, hn9, f9, k9, rfl⟩ := z_718
    replace hn9 := hn9.symm
    subst hn9
    refine r_heap bm ?_
    refine r_aload_n X dL_law_721 rfl ?_
    refine r_aload_n X dL_law_722 rfl ?_
    refine r_iload_n X dL_law_723 rfl ?_
    refine r_iconst (v := nI 1) X dL_law_724 (by decide) ?_
    first | refine r_iaddN X dL_law_725 ?_ | refine r_iadd X _ dL_law_725 rfl ?_
    refine r_sld X hX hbE hL (by omega) rfl dL_law_726 ?_
    refine r_aload_n X dL_law_727 rfl ?_
    refine r_iload_n X dL_law_728 rfl ?_
    refine r_iconst (v := nI 2) X dL_law_729 (by decide) ?_
    first | refine r_iaddN X dL_law_730 ?_ | refine r_iadd X _ dL_law_730 rfl ?_
    refine r_sld X hX hbE hL (by omega) rfl dL_law_731 ?_
    refine r_callV (ci := 10) X rfl (c_X11_who _ E _ _ (Y + 75) u B (v 0, v 1, cl, wm, F 6, F 7) N si (F 62) (F 63) (F 64) (xs (i + 1)) (xs (i + 2)) hB2 hB4 h0 h1 hP2 hN7 hN9 (by rw [hu2]; exact h9) hNo) tw_902 tw_903 tw_904 tw_7 tw_905 rfl rfl m0 rfl ⟨ok_X11_who, ⟨Nat.le_of_ble_eq_true rfl, Nat.le_of_ble_eq_true rfl⟩, ⟨by show _ ≤ 600000; omega, by show _ ≤ 7302249; omega⟩, Nat.le_of_ble_eq_true rfl⟩ dL_law_732 (kk_r (Wf := Wg K E _ _ _ _) ?_)
    refine r_heap ((if_pos hc9).trans bm.symm) ?_
    refine r_icmp_eq X 826 dL_law_735 (by decide) (fun c_735 => ?_) (fun c_735 => ?_)
    rotate_left
    · exact absurd (by rw [hu2]; rfl) c_735
    refine r_widen (cells + 14) (slots + 14) (by omega) (by omega) ?_
    exact kk _ _ _ _ _ _ _ _ _ _ _ ⟨cl, wm, pad, si, Q, I, hT, hTx, hNn, hPs, hKk, hSs⟩
  · skip
    refine r_aload_n X dL_law_707 rfl ?_
    refine r_aload_n X dL_law_708 rfl ?_
    refine r_iload_n X dL_law_709 rfl ?_
    refine r_iconst (v := nI 1) X dL_law_710 (by decide) ?_
    first | refine r_iaddN X dL_law_711 ?_ | refine r_iadd X _ dL_law_711 rfl ?_
    refine r_sld X hX hbE hL (by omega) rfl dL_law_712 ?_
    refine r_aload_n X dL_law_713 rfl ?_
    refine r_iload_n X dL_law_714 rfl ?_
    refine r_iconst (v := nI 2) X dL_law_715 (by decide) ?_
    first | refine r_iaddN X dL_law_716 ?_ | refine r_iadd X _ dL_law_716 rfl ?_
    refine r_sld X hX hbE hL (by omega) rfl dL_law_717 ?_
    refine r_callV (ci := 9) X rfl (c_X10_who _ E _ n Y v F P SP N Mp Kp pad cl wm si (xs (i + 1)) (xs (i + 2)) (pOk_m hP) hN7 hN9 h0 h1 h9 hSo) tw_608 tw_609 tw_610 tw_1 tw_611 rfl rfl b0 rfl ⟨ok_X10_who, ⟨Nat.le_of_ble_eq_true rfl, Nat.le_of_ble_eq_true rfl⟩, ⟨by show _ ≤ 600000; omega, by show _ ≤ 7302249; omega⟩, Nat.le_of_ble_eq_true rfl⟩ dL_law_718 (fun v_718 g_718 n_718 z_718 => ?_)
    obtain ⟨rfl, hn9, f9, k9, rfl⟩ := z_718
    replace hn9 := hn9.symm
    subst hn9
    refine r_heap bm ?_
    refine r_aload_n X dL_law_721 rfl ?_
    refine r_aload_n X dL_law_722 rfl ?_
    refine r_iload_n X dL_law_723 rfl ?_
    refine r_iconst (v := nI 1) X dL_law_724 (by decide) ?_
    first | refine r_iaddN X dL_law_725 ?_ | refine r_iadd X _ dL_law_725 rfl ?_
    refine r_sld X hX hbE hL (by omega) rfl dL_law_726 ?_
    refine r_aload_n X dL_law_727 rfl ?_
    refine r_iload_n X dL_law_728 rfl ?_
    refine r_iconst (v := nI 2) X dL_law_729 (by decide) ?_
    first | refine r_iaddN X dL_law_730 ?_ | refine r_iadd X _ dL_law_730 rfl ?_
    refine r_sld X hX hbE hL (by omega) rfl dL_law_731 ?_
    refine r_callV (ci := 10) X rfl (c_X11_who _ E _ _ (Y + 75) u B (v 0, v 1, cl, wm, F 6, F 7) N si (F 62) (F 63) (F 64) (xs (i + 1)) (xs (i + 2)) hB2 hB4 h0 h1 hP2 hN7 hN9 (by rw [hu2]; exact h9) hNo) tw_902 tw_903 tw_904 tw_7 tw_905 rfl rfl m0 rfl ⟨ok_X11_who, ⟨Nat.le_of_ble_eq_true rfl, Nat.le_of_ble_eq_true rfl⟩, ⟨by show _ ≤ 600000; omega, by show _ ≤ 7302249; omega⟩, Nat.le_of_ble_eq_true rfl⟩ dL_law_732 (kk_r (Wf := Wg K E _ _ _ _) ?_)
    refine r_heap ((if_neg hc9).trans bm.symm) ?_
    refine r_icmp_eq X 826 dL_law_735 (by decide) (fun c_735 => ?_) (fun c_735 => ?_)
    rotate_left
    · exact absurd (by rw [hu2]; rfl) c_735
    refine r_widen (cells + 14) (slots + 14) (by omega) (by omega) ?_
    exact kk _ _ _ _ _ _ _ _ _ _ _ ⟨cl, wm, pad, si, Q, I, hT, hTx, hNn, hPs, hKk, hSs⟩

set_option maxHeartbeats 4000000 in
set_option maxRecDepth 100000 in
/-- the law, case 22: palms -/
theorem lc_22 {K : xC} {E : xE} {b L Y i cells slots n : Nat} {xs : Nat → Int32} {g : hG} {v : Nat → Nat} {F : Nat → Nat → Nat} {P SP : Nat → Option Nat} {N : Mo} {Mp Kp : Nat → Mo} {u : Nat → Nat} {B : Nat → Nat → Nat} (X : Sx K E cL_law 4 "BanisterWordLaw" room_1) (hX : va_X b L xs K.2.2.2.2.1 K.2.2.2.2.1.heap) (hbE : b < E.1) (hL : L ≤ 384) (hi : i + 6 ≤ L) (hc : cells + 14 ≤ 600000) (hs : slots + 14 ≤ 7302249) (hR : Rl n Y g v F P SP N Mp Kp u B) (kk : Nx K E b Y i (cells + 14) (slots + 14)) : Wg K E cells slots 740 [some (.ref b), some (.ref Y), some (.ref (Y + 75)), some (.int (nI i))] [] (bG E (mG E g (Y + 75) u B) Y v F P SP N Mp Kp) n := by
  obtain ⟨cl, wm, pad, si, Q, I, hT, hTx, hNn, hPs, hKk, hSs⟩ := hR
  obtain ⟨hP, hPn, h02, h0, h1, hgt, hYn⟩ := id hT
  obtain ⟨hu0, h5, hB1, hL2, hF3⟩ := id hTx
  obtain ⟨hB2, hB4, hgN⟩ := id hNn
  obtain ⟨hN7, hN9, hNk, hNd, hNf, hNz⟩ := id hgN
  obtain ⟨hu1, h8, h7, hB5, hQ⟩ := id hPs
  obtain ⟨hB7, hz1, hB6, hI⟩ := id hKk
  obtain ⟨hu2, h9, hSo, hB8⟩ := id hSs
  have hP2 : ∀ i, i < v 1 → cl i < 4 ∧ wm i ≤ 9 := fun i h => (hPn i h).2
  refine r_aload_n X dL_law_740 rfl ?_
  refine r_aload_n X dL_law_741 rfl ?_
  refine r_iload_n X dL_law_742 rfl ?_
  refine r_iconst (v := nI 1) X dL_law_743 (by decide) ?_
  first | refine r_iaddN X dL_law_744 ?_ | refine r_iadd X _ dL_law_744 rfl ?_
  refine r_sld X hX hbE hL (by omega) rfl dL_law_745 ?_
  refine r_aload_n X dL_law_746 rfl ?_
  refine r_iload_n X dL_law_747 rfl ?_
  refine r_iconst (v := nI 2) X dL_law_748 (by decide) ?_
  first | refine r_iaddN X dL_law_749 ?_ | refine r_iadd X _ dL_law_749 rfl ?_
  refine r_sld X hX hbE hL (by omega) rfl dL_law_750 ?_
  refine r_aload_n X dL_law_751 rfl ?_
  refine r_iload_n X dL_law_752 rfl ?_
  refine r_iconst (v := nI 3) X dL_law_753 (by decide) ?_
  first | refine r_iaddN X dL_law_754 ?_ | refine r_iadd X _ dL_law_754 rfl ?_
  refine r_sld X hX hbE hL (by omega) rfl dL_law_755 ?_
  refine r_aload_n X dL_law_756 rfl ?_
  refine r_iload_n X dL_law_757 rfl ?_
  refine r_iconst (v := nI 4) X dL_law_758 (by decide) ?_
  first | refine r_iaddN X dL_law_759 ?_ | refine r_iadd X _ dL_law_759 rfl ?_
  refine r_sld X hX hbE hL (by omega) rfl dL_law_760 ?_
  refine r_aload_n X dL_law_761 rfl ?_
  refine r_iload_n X dL_law_762 rfl ?_
  refine r_iconst (v := nI 5) X dL_law_763 (by decide) ?_
  first | refine r_iaddN X dL_law_764 ?_ | refine r_iadd X _ dL_law_764 rfl ?_
  refine r_sld X hX hbE hL (by omega) rfl dL_law_765 ?_
  refine r_callV (ci := 9) X rfl (c_X10_palms _ E _ n Y v F P SP N Mp Kp (xs (i + 1)) (xs (i + 2)) (xs (i + 3)) (xs (i + 4)) (xs (i + 5)) hN9 h0) tw_612 tw_613 tw_614 tw_1 tw_615 rfl rfl b0 rfl ⟨ok_X10_palms, ⟨Nat.le_of_ble_eq_true rfl, Nat.le_of_ble_eq_true rfl⟩, ⟨by show _ ≤ 600000; omega, by show _ ≤ 7302249; omega⟩, Nat.le_of_ble_eq_true rfl⟩ dL_law_766 (kk_r (Wf := Wg K E _ _ _ _) ?_)
  refine r_heap bm ?_
  refine r_aload_n X dL_law_769 rfl ?_
  refine r_aload_n X dL_law_770 rfl ?_
  refine r_iload_n X dL_law_771 rfl ?_
  refine r_iconst (v := nI 1) X dL_law_772 (by decide) ?_
  first | refine r_iaddN X dL_law_773 ?_ | refine r_iadd X _ dL_law_773 rfl ?_
  refine r_sld X hX hbE hL (by omega) rfl dL_law_774 ?_
  refine r_aload_n X dL_law_775 rfl ?_
  refine r_iload_n X dL_law_776 rfl ?_
  refine r_iconst (v := nI 2) X dL_law_777 (by decide) ?_
  first | refine r_iaddN X dL_law_778 ?_ | refine r_iadd X _ dL_law_778 rfl ?_
  refine r_sld X hX hbE hL (by omega) rfl dL_law_779 ?_
  refine r_aload_n X dL_law_780 rfl ?_
  refine r_iload_n X dL_law_781 rfl ?_
  refine r_iconst (v := nI 3) X dL_law_782 (by decide) ?_
  first | refine r_iaddN X dL_law_783 ?_ | refine r_iadd X _ dL_law_783 rfl ?_
  refine r_sld X hX hbE hL (by omega) rfl dL_law_784 ?_
  refine r_aload_n X dL_law_785 rfl ?_
  refine r_iload_n X dL_law_786 rfl ?_
  refine r_iconst (v := nI 4) X dL_law_787 (by decide) ?_
  first | refine r_iaddN X dL_law_788 ?_ | refine r_iadd X _ dL_law_788 rfl ?_
  refine r_sld X hX hbE hL (by omega) rfl dL_law_789 ?_
  refine r_aload_n X dL_law_790 rfl ?_
  refine r_iload_n X dL_law_791 rfl ?_
  refine r_iconst (v := nI 5) X dL_law_792 (by decide) ?_
  first | refine r_iaddN X dL_law_793 ?_ | refine r_iadd X _ dL_law_793 rfl ?_
  refine r_sld X hX hbE hL (by omega) rfl dL_law_794 ?_
  refine r_callV (ci := 10) X rfl (c_X11_palms _ E _ _ (Y + 75) u B (v 0, v 1, cl, wm, F 6, F 7) N (xs (i + 1)) (xs (i + 2)) (xs (i + 3)) (xs (i + 4)) (xs (i + 5)) hB2 hB4 h0 h1 hN9) tw_906 tw_907 tw_908 tw_7 tw_909 rfl rfl m0 rfl ⟨ok_X11_palms, ⟨Nat.le_of_ble_eq_true rfl, Nat.le_of_ble_eq_true rfl⟩, ⟨by show _ ≤ 600000; omega, by show _ ≤ 7302249; omega⟩, Nat.le_of_ble_eq_true rfl⟩ dL_law_795 (kk_r (Wf := Wg K E _ _ _ _) ?_)
  refine r_heap bm.symm ?_
  refine r_icmp_eq X 826 dL_law_798 (by decide) (fun c_798 => ?_) (fun c_798 => ?_)
  rotate_left
  · exact absurd (rfl) c_798
  refine r_widen (cells + 14) (slots + 14) (by omega) (by omega) ?_
  exact kk _ _ _ _ _ _ _ _ _ _ _ ⟨cl, wm, pad, si, Q, I, hT, hTx, hNn, hPs, hKk, hSs⟩

set_option maxHeartbeats 4000000 in
set_option maxRecDepth 100000 in
/-- the law, case 23: count -/
theorem lc_23 {K : xC} {E : xE} {b L Y i cells slots n : Nat} {xs : Nat → Int32} {g : hG} {v : Nat → Nat} {F : Nat → Nat → Nat} {P SP : Nat → Option Nat} {N : Mo} {Mp Kp : Nat → Mo} {u : Nat → Nat} {B : Nat → Nat → Nat} (X : Sx K E cL_law 4 "BanisterWordLaw" room_1) (hX : va_X b L xs K.2.2.2.2.1 K.2.2.2.2.1.heap) (hbE : b < E.1) (hL : L ≤ 384) (hi : i + 6 ≤ L) (hc : cells + 14 ≤ 600000) (hs : slots + 14 ≤ 7302249) (hR : Rl n Y g v F P SP N Mp Kp u B) (kk : Nx K E b Y i (cells + 14) (slots + 14)) : Wg K E cells slots 803 [some (.ref b), some (.ref Y), some (.ref (Y + 75)), some (.int (nI i))] [] (bG E (mG E g (Y + 75) u B) Y v F P SP N Mp Kp) n := by
  obtain ⟨cl, wm, pad, si, Q, I, hT, hTx, hNn, hPs, hKk, hSs⟩ := hR
  obtain ⟨hP, hPn, h02, h0, h1, hgt, hYn⟩ := id hT
  obtain ⟨hu0, h5, hB1, hL2, hF3⟩ := id hTx
  obtain ⟨hB2, hB4, hgN⟩ := id hNn
  obtain ⟨hN7, hN9, hNk, hNd, hNf, hNz⟩ := id hgN
  obtain ⟨hu1, h8, h7, hB5, hQ⟩ := id hPs
  obtain ⟨hB7, hz1, hB6, hI⟩ := id hKk
  obtain ⟨hu2, h9, hSo, hB8⟩ := id hSs
  have hP2 : ∀ i, i < v 1 → cl i < 4 ∧ wm i ≤ 9 := fun i h => (hPn i h).2
  refine r_aload_n X dL_law_803 rfl ?_
  refine r_aload_n X dL_law_804 rfl ?_
  refine r_iload_n X dL_law_805 rfl ?_
  refine r_iconst (v := nI 1) X dL_law_806 (by decide) ?_
  first | refine r_iaddN X dL_law_807 ?_ | refine r_iadd X _ dL_law_807 rfl ?_
  refine r_sld X hX hbE hL (by omega) rfl dL_law_808 ?_
  refine r_callV (ci := 9) X rfl (c_X10_count _ E _ n Y v F P SP N Mp Kp (xs (i + 1)) hN7 hN9) tw_628 tw_629 tw_630 tw_1 tw_631 rfl rfl b0 rfl ⟨ok_X10_count, ⟨Nat.le_of_ble_eq_true rfl, Nat.le_of_ble_eq_true rfl⟩, ⟨by show _ ≤ 600000; omega, by show _ ≤ 7302249; omega⟩, Nat.le_of_ble_eq_true rfl⟩ dL_law_809 (kk_r (Wf := Wg K E _ _ _ _) ?_)
  refine r_heap bm ?_
  refine r_aload_n X dL_law_812 rfl ?_
  refine r_aload_n X dL_law_813 rfl ?_
  refine r_iload_n X dL_law_814 rfl ?_
  refine r_iconst (v := nI 1) X dL_law_815 (by decide) ?_
  first | refine r_iaddN X dL_law_816 ?_ | refine r_iadd X _ dL_law_816 rfl ?_
  refine r_sld X hX hbE hL (by omega) rfl dL_law_817 ?_
  refine r_callV (ci := 10) X rfl (c_X11_count _ E _ _ (Y + 75) u B (v 0, v 1, cl, wm, F 6, F 7) N (xs (i + 1)) hB2 hB4 hN7 hN9) tw_910 tw_911 tw_912 tw_7 tw_913 rfl rfl m0 rfl ⟨ok_X11_count, ⟨Nat.le_of_ble_eq_true rfl, Nat.le_of_ble_eq_true rfl⟩, ⟨by show _ ≤ 600000; omega, by show _ ≤ 7302249; omega⟩, Nat.le_of_ble_eq_true rfl⟩ dL_law_818 (kk_r (Wf := Wg K E _ _ _ _) ?_)
  refine r_heap bm.symm ?_
  refine r_icmp_eq X 826 dL_law_821 (by decide) (fun c_821 => ?_) (fun c_821 => ?_)
  rotate_left
  · exact absurd (by rw [hu0, hu1, hu2]) c_821
  refine r_widen (cells + 14) (slots + 14) (by omega) (by omega) ?_
  exact kk _ _ _ _ _ _ _ _ _ _ _ ⟨cl, wm, pad, si, Q, I, hT, hTx, hNn, hPs, hKk, hSs⟩

