set_option maxHeartbeats 4000000 in
set_option maxRecDepth 100000 in
/-- the law, case 7: down -/
theorem lc_7 {K : xC} {E : xE} {b L Y i cells slots n : Nat} {xs : Nat → Int32} {g : hG} {v : Nat → Nat} {F : Nat → Nat → Nat} {P SP : Nat → Option Nat} {N : Mo} {Mp Kp : Nat → Mo} {u : Nat → Nat} {B : Nat → Nat → Nat} (X : Sx K E cL_law 4 "BanisterWordLaw" room_1) (hX : va_X b L xs K.2.2.2.2.1 K.2.2.2.2.1.heap) (hbE : b < E.1) (hL : L ≤ 384) (hi : i + 6 ≤ L) (hc : cells + 14 ≤ 600000) (hs : slots + 14 ≤ 7302249) (hR : Rl n Y g v F P SP N Mp Kp u B) (kk : Nx K E b Y i (cells + 14) (slots + 14)) : Wg K E cells slots 315 [some (.ref b), some (.ref Y), some (.ref (Y + 75)), some (.int (nI i))] [] (bG E (mG E g (Y + 75) u B) Y v F P SP N Mp Kp) n := by
  obtain ⟨cl, wm, pad, si, Q, I, hT, hTx, hNn, hPs, hKk, hSs⟩ := hR
  obtain ⟨hP, hPn, h02, h0, h1, hgt, hYn⟩ := id hT
  obtain ⟨hu0, h5, hB1, hL2, hF3⟩ := id hTx
  obtain ⟨hB2, hB4, hgN⟩ := id hNn
  obtain ⟨hN7, hN9, hNk, hNd, hNf, hNz⟩ := id hgN
  obtain ⟨hu1, h8, h7, hB5, hQ⟩ := id hPs
  obtain ⟨hB7, hz1, hB6, hI⟩ := id hKk
  obtain ⟨hu2, h9, hSo, hB8⟩ := id hSs
  have hP2 : ∀ i, i < v 1 → cl i < 4 ∧ wm i ≤ 9 := fun i h => (hPn i h).2
  by_cases hc9 : inR (xs (i + 1)) (v 1) = true ∧ inR (xs (i + 2)) (v 0) = true ∧ sayB (xs (i + 3)) = true
  · skip
    have hx9 := ix_lt (by omega) hc9.1
    have hy9 := ix_lt (by omega) hc9.2.1
    have hz9 := (say_ix hc9.2.2).2
    refine r_aload_n X dL_law_315 rfl ?_
    refine r_aload_n X dL_law_316 rfl ?_
    refine r_iload_n X dL_law_317 rfl ?_
    refine r_iconst (v := nI 1) X dL_law_318 (by decide) ?_
    first | refine r_iaddN X dL_law_319 ?_ | refine r_iadd X _ dL_law_319 rfl ?_
    refine r_sld X hX hbE hL (by omega) rfl dL_law_320 ?_
    refine r_aload_n X dL_law_321 rfl ?_
    refine r_iload_n X dL_law_322 rfl ?_
    refine r_iconst (v := nI 2) X dL_law_323 (by decide) ?_
    first | refine r_iaddN X dL_law_324 ?_ | refine r_iadd X _ dL_law_324 rfl ?_
    refine r_sld X hX hbE hL (by omega) rfl dL_law_325 ?_
    refine r_aload_n X dL_law_326 rfl ?_
    refine r_iload_n X dL_law_327 rfl ?_
    refine r_iconst (v := nI 3) X dL_law_328 (by decide) ?_
    first | refine r_iaddN X dL_law_329 ?_ | refine r_iadd X _ dL_law_329 rfl ?_
    refine r_sld X hX hbE hL (by omega) rfl dL_law_330 ?_
    refine r_callV (ci := 9) X rfl (c_X10_down _ E _ n Y v F P SP N Mp Kp pad cl wm (xs (i + 1)) (xs (i + 2)) (xs (i + 3)) (pOk_m hP) hN7 hN9 h0 h1 h7 h8) tw_454 tw_455 tw_456 tw_1 tw_457 rfl rfl b0 rfl ⟨ok_X10_down, ⟨Nat.le_of_ble_eq_true rfl, Nat.le_of_ble_eq_true rfl⟩, ⟨by show _ ≤ 600000; omega, by show _ ≤ 7302249; omega⟩, Nat.le_of_ble_eq_true rfl⟩ dL_law_331 (kk_r (Wf := Wg K E _ _ _ _) ?_)
    refine r_heap ((if_pos hc9).trans bm) ?_
    refine r_aload_n X dL_law_334 rfl ?_
    refine r_aload_n X dL_law_335 rfl ?_
    refine r_iload_n X dL_law_336 rfl ?_
    refine r_iconst (v := nI 1) X dL_law_337 (by decide) ?_
    first | refine r_iaddN X dL_law_338 ?_ | refine r_iadd X _ dL_law_338 rfl ?_
    refine r_sld X hX hbE hL (by omega) rfl dL_law_339 ?_
    refine r_aload_n X dL_law_340 rfl ?_
    refine r_iload_n X dL_law_341 rfl ?_
    refine r_iconst (v := nI 2) X dL_law_342 (by decide) ?_
    first | refine r_iaddN X dL_law_343 ?_ | refine r_iadd X _ dL_law_343 rfl ?_
    refine r_sld X hX hbE hL (by omega) rfl dL_law_344 ?_
    refine r_aload_n X dL_law_345 rfl ?_
    refine r_iload_n X dL_law_346 rfl ?_
    refine r_iconst (v := nI 3) X dL_law_347 (by decide) ?_
    first | refine r_iaddN X dL_law_348 ?_ | refine r_iadd X _ dL_law_348 rfl ?_
    refine r_sld X hX hbE hL (by omega) rfl dL_law_349 ?_
    refine r_callV (ci := 10) X rfl (c_X11_down _ E _ _ (Y + 75) u B (v 0, v 1, cl, wm, F 6, F 7) N Q (xs (i + 1)) (xs (i + 2)) (xs (i + 3)) hB2 hB4 hB5 (by rw [hu1]; exact h8) h0 h1 hP2 hN7 hN9) tw_796 tw_797 tw_798 tw_7 tw_799 rfl rfl m0 rfl ⟨ok_X11_down, ⟨Nat.le_of_ble_eq_true rfl, Nat.le_of_ble_eq_true rfl⟩, ⟨by show _ ≤ 600000; omega, by show _ ≤ 7302249; omega⟩, Nat.le_of_ble_eq_true rfl⟩ dL_law_350 (kk_r (Wf := Wg K E _ _ _ _) ?_)
    refine r_heap ((if_pos hc9).trans bm.symm) ?_
    refine r_icmp_eq X 826 dL_law_353 (by decide) (fun c_353 => ?_) (fun c_353 => ?_)
    rotate_left
    · exact absurd (rfl) c_353
    refine r_widen (cells + 14) (slots + 14) (by omega) (by omega) ?_
    exact kk _ _ _ _ _ _ _ _ _ _ _ ⟨cl, wm, pad, si, _, I, hT, hTx, ⟨hB2, rfl, gd_dn hgN (hPn _ hx9).2.2 hy9 hz9⟩, RP_keep hPs hgN, hKk, hSs⟩
  · skip
    refine r_aload_n X dL_law_315 rfl ?_
    refine r_aload_n X dL_law_316 rfl ?_
    refine r_iload_n X dL_law_317 rfl ?_
    refine r_iconst (v := nI 1) X dL_law_318 (by decide) ?_
    first | refine r_iaddN X dL_law_319 ?_ | refine r_iadd X _ dL_law_319 rfl ?_
    refine r_sld X hX hbE hL (by omega) rfl dL_law_320 ?_
    refine r_aload_n X dL_law_321 rfl ?_
    refine r_iload_n X dL_law_322 rfl ?_
    refine r_iconst (v := nI 2) X dL_law_323 (by decide) ?_
    first | refine r_iaddN X dL_law_324 ?_ | refine r_iadd X _ dL_law_324 rfl ?_
    refine r_sld X hX hbE hL (by omega) rfl dL_law_325 ?_
    refine r_aload_n X dL_law_326 rfl ?_
    refine r_iload_n X dL_law_327 rfl ?_
    refine r_iconst (v := nI 3) X dL_law_328 (by decide) ?_
    first | refine r_iaddN X dL_law_329 ?_ | refine r_iadd X _ dL_law_329 rfl ?_
    refine r_sld X hX hbE hL (by omega) rfl dL_law_330 ?_
    refine r_callV (ci := 9) X rfl (c_X10_down _ E _ n Y v F P SP N Mp Kp pad cl wm (xs (i + 1)) (xs (i + 2)) (xs (i + 3)) (pOk_m hP) hN7 hN9 h0 h1 h7 h8) tw_454 tw_455 tw_456 tw_1 tw_457 rfl rfl b0 rfl ⟨ok_X10_down, ⟨Nat.le_of_ble_eq_true rfl, Nat.le_of_ble_eq_true rfl⟩, ⟨by show _ ≤ 600000; omega, by show _ ≤ 7302249; omega⟩, Nat.le_of_ble_eq_true rfl⟩ dL_law_331 (kk_r (Wf := Wg K E _ _ _ _) ?_)
    refine r_heap ((if_neg hc9).trans bm) ?_
    refine r_aload_n X dL_law_334 rfl ?_
    refine r_aload_n X dL_law_335 rfl ?_
    refine r_iload_n X dL_law_336 rfl ?_
    refine r_iconst (v := nI 1) X dL_law_337 (by decide) ?_
    first | refine r_iaddN X dL_law_338 ?_ | refine r_iadd X _ dL_law_338 rfl ?_
    refine r_sld X hX hbE hL (by omega) rfl dL_law_339 ?_
    refine r_aload_n X dL_law_340 rfl ?_
    refine r_iload_n X dL_law_341 rfl ?_
    refine r_iconst (v := nI 2) X dL_law_342 (by decide) ?_
    first | refine r_iaddN X dL_law_343 ?_ | refine r_iadd X _ dL_law_343 rfl ?_
    refine r_sld X hX hbE hL (by omega) rfl dL_law_344 ?_
    refine r_aload_n X dL_law_345 rfl ?_
    refine r_iload_n X dL_law_346 rfl ?_
    refine r_iconst (v := nI 3) X dL_law_347 (by decide) ?_
    first | refine r_iaddN X dL_law_348 ?_ | refine r_iadd X _ dL_law_348 rfl ?_
    refine r_sld X hX hbE hL (by omega) rfl dL_law_349 ?_
    refine r_callV (ci := 10) X rfl (c_X11_down _ E _ _ (Y + 75) u B (v 0, v 1, cl, wm, F 6, F 7) N Q (xs (i + 1)) (xs (i + 2)) (xs (i + 3)) hB2 hB4 hB5 (by rw [hu1]; exact h8) h0 h1 hP2 hN7 hN9) tw_796 tw_797 tw_798 tw_7 tw_799 rfl rfl m0 rfl ⟨ok_X11_down, ⟨Nat.le_of_ble_eq_true rfl, Nat.le_of_ble_eq_true rfl⟩, ⟨by show _ ≤ 600000; omega, by show _ ≤ 7302249; omega⟩, Nat.le_of_ble_eq_true rfl⟩ dL_law_350 (kk_r (Wf := Wg K E _ _ _ _) ?_)
    refine r_heap ((if_neg hc9).trans bm.symm) ?_
    refine r_icmp_eq X 826 dL_law_353 (by decide) (fun c_353 => ?_) (fun c_353 => ?_)
    rotate_left
    · exact absurd (rfl) c_353
    refine r_widen (cells + 14) (slots + 14) (by omega) (by omega) ?_
    exact kk _ _ _ _ _ _ _ _ _ _ _ ⟨cl, wm, pad, si, Q, I, hT, hTx, hNn, hPs, hKk, hSs⟩

set_option maxHeartbeats 4000000 in
set_option maxRecDepth 100000 in
/-- the law, case 8: up -/
theorem lc_8 {K : xC} {E : xE} {b L Y i cells slots n : Nat} {xs : Nat → Int32} {g : hG} {v : Nat → Nat} {F : Nat → Nat → Nat} {P SP : Nat → Option Nat} {N : Mo} {Mp Kp : Nat → Mo} {u : Nat → Nat} {B : Nat → Nat → Nat} (X : Sx K E cL_law 4 "BanisterWordLaw" room_1) (hX : va_X b L xs K.2.2.2.2.1 K.2.2.2.2.1.heap) (hbE : b < E.1) (hL : L ≤ 384) (hi : i + 6 ≤ L) (hc : cells + 14 ≤ 600000) (hs : slots + 14 ≤ 7302249) (hR : Rl n Y g v F P SP N Mp Kp u B) (kk : Nx K E b Y i (cells + 14) (slots + 14)) : Wg K E cells slots 358 [some (.ref b), some (.ref Y), some (.ref (Y + 75)), some (.int (nI i))] [] (bG E (mG E g (Y + 75) u B) Y v F P SP N Mp Kp) n := by
  obtain ⟨cl, wm, pad, si, Q, I, hT, hTx, hNn, hPs, hKk, hSs⟩ := hR
  obtain ⟨hP, hPn, h02, h0, h1, hgt, hYn⟩ := id hT
  obtain ⟨hu0, h5, hB1, hL2, hF3⟩ := id hTx
  obtain ⟨hB2, hB4, hgN⟩ := id hNn
  obtain ⟨hN7, hN9, hNk, hNd, hNf, hNz⟩ := id hgN
  obtain ⟨hu1, h8, h7, hB5, hQ⟩ := id hPs
  obtain ⟨hB7, hz1, hB6, hI⟩ := id hKk
  obtain ⟨hu2, h9, hSo, hB8⟩ := id hSs
  have hP2 : ∀ i, i < v 1 → cl i < 4 ∧ wm i ≤ 9 := fun i h => (hPn i h).2
  by_cases hc9 : inR (xs (i + 1)) (v 1) = true ∧ inR (xs (i + 2)) (v 0) = true
  · skip
    refine r_aload_n X dL_law_358 rfl ?_
    refine r_aload_n X dL_law_359 rfl ?_
    refine r_iload_n X dL_law_360 rfl ?_
    refine r_iconst (v := nI 1) X dL_law_361 (by decide) ?_
    first | refine r_iaddN X dL_law_362 ?_ | refine r_iadd X _ dL_law_362 rfl ?_
    refine r_sld X hX hbE hL (by omega) rfl dL_law_363 ?_
    refine r_aload_n X dL_law_364 rfl ?_
    refine r_iload_n X dL_law_365 rfl ?_
    refine r_iconst (v := nI 2) X dL_law_366 (by decide) ?_
    first | refine r_iaddN X dL_law_367 ?_ | refine r_iadd X _ dL_law_367 rfl ?_
    refine r_sld X hX hbE hL (by omega) rfl dL_law_368 ?_
    refine r_callV (ci := 9) X rfl (c_X10_up _ E _ n Y v F P SP N Mp Kp pad cl wm (xs (i + 1)) (xs (i + 2)) (pOk_m hP) hN7 hN9 hNk h0 h1 h7 h8) tw_490 tw_491 tw_492 tw_1 tw_493 rfl rfl b0 rfl ⟨ok_X10_up, ⟨Nat.le_of_ble_eq_true rfl, Nat.le_of_ble_eq_true rfl⟩, ⟨by show _ ≤ 600000; omega, by show _ ≤ 7302249; omega⟩, Nat.le_of_ble_eq_true rfl⟩ dL_law_369 (kk_r (Wf := Wg K E _ _ _ _) ?_)
    refine r_heap ((if_pos hc9).trans bm) ?_
    refine r_aload_n X dL_law_372 rfl ?_
    refine r_aload_n X dL_law_373 rfl ?_
    refine r_iload_n X dL_law_374 rfl ?_
    refine r_iconst (v := nI 1) X dL_law_375 (by decide) ?_
    first | refine r_iaddN X dL_law_376 ?_ | refine r_iadd X _ dL_law_376 rfl ?_
    refine r_sld X hX hbE hL (by omega) rfl dL_law_377 ?_
    refine r_aload_n X dL_law_378 rfl ?_
    refine r_iload_n X dL_law_379 rfl ?_
    refine r_iconst (v := nI 2) X dL_law_380 (by decide) ?_
    first | refine r_iaddN X dL_law_381 ?_ | refine r_iadd X _ dL_law_381 rfl ?_
    refine r_sld X hX hbE hL (by omega) rfl dL_law_382 ?_
    refine r_callV (ci := 10) X rfl (c_X11_up _ E _ _ (Y + 75) u B (v 0, v 1, cl, wm, F 6, F 7) N Q (xs (i + 1)) (xs (i + 2)) hB2 hB4 hB5 (by rw [hu1]; exact h8) h0 h1 hP2 hN7 hN9) tw_819 tw_820 tw_821 tw_7 tw_822 rfl rfl m0 rfl ⟨ok_X11_up, ⟨Nat.le_of_ble_eq_true rfl, Nat.le_of_ble_eq_true rfl⟩, ⟨by show _ ≤ 600000; omega, by show _ ≤ 7302249; omega⟩, Nat.le_of_ble_eq_true rfl⟩ dL_law_383 (kk_r (Wf := Wg K E _ _ _ _) ?_)
    refine r_heap ((if_pos hc9).trans bm.symm) ?_
    refine r_icmp_eq X 826 dL_law_386 (by decide) (fun c_386 => ?_) (fun c_386 => ?_)
    rotate_left
    · exact absurd (rfl) c_386
    refine r_widen (cells + 14) (slots + 14) (by omega) (by omega) ?_
    exact kk _ _ _ _ _ _ _ _ _ _ _ ⟨cl, wm, pad, si, _, I, hT, hTx, ⟨hB2, rfl, gd_up hgN⟩, RP_keep hPs hgN, hKk, hSs⟩
  · skip
    refine r_aload_n X dL_law_358 rfl ?_
    refine r_aload_n X dL_law_359 rfl ?_
    refine r_iload_n X dL_law_360 rfl ?_
    refine r_iconst (v := nI 1) X dL_law_361 (by decide) ?_
    first | refine r_iaddN X dL_law_362 ?_ | refine r_iadd X _ dL_law_362 rfl ?_
    refine r_sld X hX hbE hL (by omega) rfl dL_law_363 ?_
    refine r_aload_n X dL_law_364 rfl ?_
    refine r_iload_n X dL_law_365 rfl ?_
    refine r_iconst (v := nI 2) X dL_law_366 (by decide) ?_
    first | refine r_iaddN X dL_law_367 ?_ | refine r_iadd X _ dL_law_367 rfl ?_
    refine r_sld X hX hbE hL (by omega) rfl dL_law_368 ?_
    refine r_callV (ci := 9) X rfl (c_X10_up _ E _ n Y v F P SP N Mp Kp pad cl wm (xs (i + 1)) (xs (i + 2)) (pOk_m hP) hN7 hN9 hNk h0 h1 h7 h8) tw_490 tw_491 tw_492 tw_1 tw_493 rfl rfl b0 rfl ⟨ok_X10_up, ⟨Nat.le_of_ble_eq_true rfl, Nat.le_of_ble_eq_true rfl⟩, ⟨by show _ ≤ 600000; omega, by show _ ≤ 7302249; omega⟩, Nat.le_of_ble_eq_true rfl⟩ dL_law_369 (kk_r (Wf := Wg K E _ _ _ _) ?_)
    refine r_heap ((if_neg hc9).trans bm) ?_
    refine r_aload_n X dL_law_372 rfl ?_
    refine r_aload_n X dL_law_373 rfl ?_
    refine r_iload_n X dL_law_374 rfl ?_
    refine r_iconst (v := nI 1) X dL_law_375 (by decide) ?_
    first | refine r_iaddN X dL_law_376 ?_ | refine r_iadd X _ dL_law_376 rfl ?_
    refine r_sld X hX hbE hL (by omega) rfl dL_law_377 ?_
    refine r_aload_n X dL_law_378 rfl ?_
    refine r_iload_n X dL_law_379 rfl ?_
    refine r_iconst (v := nI 2) X dL_law_380 (by decide) ?_
    first | refine r_iaddN X dL_law_381 ?_ | refine r_iadd X _ dL_law_381 rfl ?_
    refine r_sld X hX hbE hL (by omega) rfl dL_law_382 ?_
    refine r_callV (ci := 10) X rfl (c_X11_up _ E _ _ (Y + 75) u B (v 0, v 1, cl, wm, F 6, F 7) N Q (xs (i + 1)) (xs (i + 2)) hB2 hB4 hB5 (by rw [hu1]; exact h8) h0 h1 hP2 hN7 hN9) tw_819 tw_820 tw_821 tw_7 tw_822 rfl rfl m0 rfl ⟨ok_X11_up, ⟨Nat.le_of_ble_eq_true rfl, Nat.le_of_ble_eq_true rfl⟩, ⟨by show _ ≤ 600000; omega, by show _ ≤ 7302249; omega⟩, Nat.le_of_ble_eq_true rfl⟩ dL_law_383 (kk_r (Wf := Wg K E _ _ _ _) ?_)
    refine r_heap ((if_neg hc9).trans bm.symm) ?_
    refine r_icmp_eq X 826 dL_law_386 (by decide) (fun c_386 => ?_) (fun c_386 => ?_)
    rotate_left
    · exact absurd (rfl) c_386
    refine r_widen (cells + 14) (slots + 14) (by omega) (by omega) ?_
    exact kk _ _ _ _ _ _ _ _ _ _ _ ⟨cl, wm, pad, si, Q, I, hT, hTx, hNn, hPs, hKk, hSs⟩

set_option maxHeartbeats 4000000 in
set_option maxRecDepth 100000 in
/-- the law, case 9: polish -/
theorem lc_9 {K : xC} {E : xE} {b L Y i cells slots n : Nat} {xs : Nat → Int32} {g : hG} {v : Nat → Nat} {F : Nat → Nat → Nat} {P SP : Nat → Option Nat} {N : Mo} {Mp Kp : Nat → Mo} {u : Nat → Nat} {B : Nat → Nat → Nat} (X : Sx K E cL_law 4 "BanisterWordLaw" room_1) (hX : va_X b L xs K.2.2.2.2.1 K.2.2.2.2.1.heap) (hbE : b < E.1) (hL : L ≤ 384) (hi : i + 6 ≤ L) (hc : cells + 14 ≤ 600000) (hs : slots + 14 ≤ 7302249) (hR : Rl n Y g v F P SP N Mp Kp u B) (kk : Nx K E b Y i (cells + 14) (slots + 14)) : Wg K E cells slots 391 [some (.ref b), some (.ref Y), some (.ref (Y + 75)), some (.int (nI i))] [] (bG E (mG E g (Y + 75) u B) Y v F P SP N Mp Kp) n := by
  obtain ⟨cl, wm, pad, si, Q, I, hT, hTx, hNn, hPs, hKk, hSs⟩ := hR
  obtain ⟨hP, hPn, h02, h0, h1, hgt, hYn⟩ := id hT
  obtain ⟨hu0, h5, hB1, hL2, hF3⟩ := id hTx
  obtain ⟨hB2, hB4, hgN⟩ := id hNn
  obtain ⟨hN7, hN9, hNk, hNd, hNf, hNz⟩ := id hgN
  obtain ⟨hu1, h8, h7, hB5, hQ⟩ := id hPs
  obtain ⟨hB7, hz1, hB6, hI⟩ := id hKk
  obtain ⟨hu2, h9, hSo, hB8⟩ := id hSs
  have hP2 : ∀ i, i < v 1 → cl i < 4 ∧ wm i ≤ 9 := fun i h => (hPn i h).2
  by_cases hc9 : inR (xs (i + 1)) (v 0) = true
  · skip
    refine r_aload_n X dL_law_391 rfl ?_
    refine r_aload_n X dL_law_392 rfl ?_
    refine r_iload_n X dL_law_393 rfl ?_
    refine r_iconst (v := nI 1) X dL_law_394 (by decide) ?_
    first | refine r_iaddN X dL_law_395 ?_ | refine r_iadd X _ dL_law_395 rfl ?_
    refine r_sld X hX hbE hL (by omega) rfl dL_law_396 ?_
    refine r_callV (ci := 9) X rfl (c_X10_polish _ E _ n Y v F P SP N Mp Kp (xs (i + 1)) hN7 hN9 h0 h7 h8) tw_526 tw_527 tw_528 tw_1 tw_529 rfl rfl b0 rfl ⟨ok_X10_polish, ⟨Nat.le_of_ble_eq_true rfl, Nat.le_of_ble_eq_true rfl⟩, ⟨by show _ ≤ 600000; omega, by show _ ≤ 7302249; omega⟩, Nat.le_of_ble_eq_true rfl⟩ dL_law_397 (kk_r (Wf := Wg K E _ _ _ _) ?_)
    refine r_heap ((if_pos hc9).trans bm) ?_
    refine r_aload_n X dL_law_400 rfl ?_
    refine r_aload_n X dL_law_401 rfl ?_
    refine r_iload_n X dL_law_402 rfl ?_
    refine r_iconst (v := nI 1) X dL_law_403 (by decide) ?_
    first | refine r_iaddN X dL_law_404 ?_ | refine r_iadd X _ dL_law_404 rfl ?_
    refine r_sld X hX hbE hL (by omega) rfl dL_law_405 ?_
    refine r_callV (ci := 10) X rfl (c_X11_polish _ E _ _ (Y + 75) u B (v 0, v 1, cl, wm, F 6, F 7) N Q (xs (i + 1)) hB2 hB4 hB5 (by rw [hu1]; exact h8) h0 h1 hN7 hN9) tw_835 tw_836 tw_837 tw_7 tw_838 rfl rfl m0 rfl ⟨ok_X11_polish, ⟨Nat.le_of_ble_eq_true rfl, Nat.le_of_ble_eq_true rfl⟩, ⟨by show _ ≤ 600000; omega, by show _ ≤ 7302249; omega⟩, Nat.le_of_ble_eq_true rfl⟩ dL_law_406 (kk_r (Wf := Wg K E _ _ _ _) ?_)
    refine r_heap ((if_pos hc9).trans bm.symm) ?_
    refine r_icmp_eq X 826 dL_law_409 (by decide) (fun c_409 => ?_) (fun c_409 => ?_)
    rotate_left
    · exact absurd (rfl) c_409
    refine r_widen (cells + 14) (slots + 14) (by omega) (by omega) ?_
    exact kk _ _ _ _ _ _ _ _ _ _ _ ⟨cl, wm, pad, si, _, I, hT, hTx, ⟨hB2, rfl, gd_pl hgN⟩, RP_keep hPs hgN, hKk, hSs⟩
  · skip
    refine r_aload_n X dL_law_391 rfl ?_
    refine r_aload_n X dL_law_392 rfl ?_
    refine r_iload_n X dL_law_393 rfl ?_
    refine r_iconst (v := nI 1) X dL_law_394 (by decide) ?_
    first | refine r_iaddN X dL_law_395 ?_ | refine r_iadd X _ dL_law_395 rfl ?_
    refine r_sld X hX hbE hL (by omega) rfl dL_law_396 ?_
    refine r_callV (ci := 9) X rfl (c_X10_polish _ E _ n Y v F P SP N Mp Kp (xs (i + 1)) hN7 hN9 h0 h7 h8) tw_526 tw_527 tw_528 tw_1 tw_529 rfl rfl b0 rfl ⟨ok_X10_polish, ⟨Nat.le_of_ble_eq_true rfl, Nat.le_of_ble_eq_true rfl⟩, ⟨by show _ ≤ 600000; omega, by show _ ≤ 7302249; omega⟩, Nat.le_of_ble_eq_true rfl⟩ dL_law_397 (kk_r (Wf := Wg K E _ _ _ _) ?_)
    refine r_heap ((if_neg hc9).trans bm) ?_
    refine r_aload_n X dL_law_400 rfl ?_
    refine r_aload_n X dL_law_401 rfl ?_
    refine r_iload_n X dL_law_402 rfl ?_
    refine r_iconst (v := nI 1) X dL_law_403 (by decide) ?_
    first | refine r_iaddN X dL_law_404 ?_ | refine r_iadd X _ dL_law_404 rfl ?_
    refine r_sld X hX hbE hL (by omega) rfl dL_law_405 ?_
    refine r_callV (ci := 10) X rfl (c_X11_polish _ E _ _ (Y + 75) u B (v 0, v 1, cl, wm, F 6, F 7) N Q (xs (i + 1)) hB2 hB4 hB5 (by rw [hu1]; exact h8) h0 h1 hN7 hN9) tw_835 tw_836 tw_837 tw_7 tw_838 rfl rfl m0 rfl ⟨ok_X11_polish, ⟨Nat.le_of_ble_eq_true rfl, Nat.le_of_ble_eq_true rfl⟩, ⟨by show _ ≤ 600000; omega, by show _ ≤ 7302249; omega⟩, Nat.le_of_ble_eq_true rfl⟩ dL_law_406 (kk_r (Wf := Wg K E _ _ _ _) ?_)
    refine r_heap ((if_neg hc9).trans bm.symm) ?_
    refine r_icmp_eq X 826 dL_law_409 (by decide) (fun c_409 => ?_) (fun c_409 => ?_)
    rotate_left
    · exact absurd (rfl) c_409
    refine r_widen (cells + 14) (slots + 14) (by omega) (by omega) ?_
    exact kk _ _ _ _ _ _ _ _ _ _ _ ⟨cl, wm, pad, si, Q, I, hT, hTx, hNn, hPs, hKk, hSs⟩

set_option maxHeartbeats 4000000 in
set_option maxRecDepth 100000 in
/-- the law, case 10: night -/
theorem lc_10 {K : xC} {E : xE} {b L Y i cells slots n : Nat} {xs : Nat → Int32} {g : hG} {v : Nat → Nat} {F : Nat → Nat → Nat} {P SP : Nat → Option Nat} {N : Mo} {Mp Kp : Nat → Mo} {u : Nat → Nat} {B : Nat → Nat → Nat} (X : Sx K E cL_law 4 "BanisterWordLaw" room_1) (hX : va_X b L xs K.2.2.2.2.1 K.2.2.2.2.1.heap) (hbE : b < E.1) (hL : L ≤ 384) (hi : i + 6 ≤ L) (hc : cells + 14 ≤ 600000) (hs : slots + 14 ≤ 7302249) (hR : Rl n Y g v F P SP N Mp Kp u B) (kk : Nx K E b Y i (cells + 14) (slots + 14)) : Wg K E cells slots 414 [some (.ref b), some (.ref Y), some (.ref (Y + 75)), some (.int (nI i))] [] (bG E (mG E g (Y + 75) u B) Y v F P SP N Mp Kp) n := by
  obtain ⟨cl, wm, pad, si, Q, I, hT, hTx, hNn, hPs, hKk, hSs⟩ := hR
  obtain ⟨hP, hPn, h02, h0, h1, hgt, hYn⟩ := id hT
  obtain ⟨hu0, h5, hB1, hL2, hF3⟩ := id hTx
  obtain ⟨hB2, hB4, hgN⟩ := id hNn
  obtain ⟨hN7, hN9, hNk, hNd, hNf, hNz⟩ := id hgN
  obtain ⟨hu1, h8, h7, hB5, hQ⟩ := id hPs
  obtain ⟨hB7, hz1, hB6, hI⟩ := id hKk
  obtain ⟨hu2, h9, hSo, hB8⟩ := id hSs
  have hP2 : ∀ i, i < v 1 → cl i < 4 ∧ wm i ≤ 9 := fun i h => (hPn i h).2
  by_cases hc9 : N.2.2.2 < 999
  · skip
    refine r_aload_n X dL_law_414 rfl ?_
    refine r_callV (ci := 9) X rfl (c_X10_night _ E _ n Y v F P SP N Mp Kp hN9 hNd h7 h8) tw_530 tw_531 tw_532 tw_1 tw_533 rfl rfl b0 rfl ⟨ok_X10_night, ⟨Nat.le_of_ble_eq_true rfl, Nat.le_of_ble_eq_true rfl⟩, ⟨by show _ ≤ 600000; omega, by show _ ≤ 7302249; omega⟩, Nat.le_of_ble_eq_true rfl⟩ dL_law_415 (kk_r (Wf := Wg K E _ _ _ _) ?_)
    refine r_heap ((if_pos hc9).trans bm) ?_
    refine r_aload_n X dL_law_418 rfl ?_
    refine r_callV (ci := 10) X rfl (c_X11_night _ E _ _ (Y + 75) u B N Q hB4 hB5 (by rw [hu1]; exact h8) hN9 hNd) tw_839 tw_840 tw_841 tw_7 tw_842 rfl rfl m0 rfl ⟨ok_X11_night, ⟨Nat.le_of_ble_eq_true rfl, Nat.le_of_ble_eq_true rfl⟩, ⟨by show _ ≤ 600000; omega, by show _ ≤ 7302249; omega⟩, Nat.le_of_ble_eq_true rfl⟩ dL_law_419 (kk_r (Wf := Wg K E _ _ _ _) ?_)
    refine r_heap ((if_pos hc9).trans bm.symm) ?_
    refine r_icmp_eq X 826 dL_law_422 (by decide) (fun c_422 => ?_) (fun c_422 => ?_)
    rotate_left
    · exact absurd (rfl) c_422
    refine r_widen (cells + 14) (slots + 14) (by omega) (by omega) ?_
    exact kk _ _ _ _ _ _ _ _ _ _ _ ⟨cl, wm, pad, si, _, I, hT, hTx, ⟨hB2, rfl, gd_ng hgN hc9⟩, RP_keep hPs hgN, hKk, hSs⟩
  · skip
    refine r_aload_n X dL_law_414 rfl ?_
    refine r_callV (ci := 9) X rfl (c_X10_night _ E _ n Y v F P SP N Mp Kp hN9 hNd h7 h8) tw_530 tw_531 tw_532 tw_1 tw_533 rfl rfl b0 rfl ⟨ok_X10_night, ⟨Nat.le_of_ble_eq_true rfl, Nat.le_of_ble_eq_true rfl⟩, ⟨by show _ ≤ 600000; omega, by show _ ≤ 7302249; omega⟩, Nat.le_of_ble_eq_true rfl⟩ dL_law_415 (kk_r (Wf := Wg K E _ _ _ _) ?_)
    refine r_heap ((if_neg hc9).trans bm) ?_
    refine r_aload_n X dL_law_418 rfl ?_
    refine r_callV (ci := 10) X rfl (c_X11_night _ E _ _ (Y + 75) u B N Q hB4 hB5 (by rw [hu1]; exact h8) hN9 hNd) tw_839 tw_840 tw_841 tw_7 tw_842 rfl rfl m0 rfl ⟨ok_X11_night, ⟨Nat.le_of_ble_eq_true rfl, Nat.le_of_ble_eq_true rfl⟩, ⟨by show _ ≤ 600000; omega, by show _ ≤ 7302249; omega⟩, Nat.le_of_ble_eq_true rfl⟩ dL_law_419 (kk_r (Wf := Wg K E _ _ _ _) ?_)
    refine r_heap ((if_neg hc9).trans bm.symm) ?_
    refine r_icmp_eq X 826 dL_law_422 (by decide) (fun c_422 => ?_) (fun c_422 => ?_)
    rotate_left
    · exact absurd (rfl) c_422
    refine r_widen (cells + 14) (slots + 14) (by omega) (by omega) ?_
    exact kk _ _ _ _ _ _ _ _ _ _ _ ⟨cl, wm, pad, si, Q, I, hT, hTx, hNn, hPs, hKk, hSs⟩

set_option maxHeartbeats 4000000 in
set_option maxRecDepth 100000 in
/-- the law, case 11: undo -/
theorem lc_11 {K : xC} {E : xE} {b L Y i cells slots n : Nat} {xs : Nat → Int32} {g : hG} {v : Nat → Nat} {F : Nat → Nat → Nat} {P SP : Nat → Option Nat} {N : Mo} {Mp Kp : Nat → Mo} {u : Nat → Nat} {B : Nat → Nat → Nat} (X : Sx K E cL_law 4 "BanisterWordLaw" room_1) (hX : va_X b L xs K.2.2.2.2.1 K.2.2.2.2.1.heap) (hbE : b < E.1) (hL : L ≤ 384) (hi : i + 6 ≤ L) (hc : cells + 14 ≤ 600000) (hs : slots + 14 ≤ 7302249) (hR : Rl n Y g v F P SP N Mp Kp u B) (kk : Nx K E b Y i (cells + 14) (slots + 14)) : Wg K E cells slots 427 [some (.ref b), some (.ref Y), some (.ref (Y + 75)), some (.int (nI i))] [] (bG E (mG E g (Y + 75) u B) Y v F P SP N Mp Kp) n := by
  obtain ⟨cl, wm, pad, si, Q, I, hT, hTx, hNn, hPs, hKk, hSs⟩ := hR
  obtain ⟨hP, hPn, h02, h0, h1, hgt, hYn⟩ := id hT
  obtain ⟨hu0, h5, hB1, hL2, hF3⟩ := id hTx
  obtain ⟨hB2, hB4, hgN⟩ := id hNn
  obtain ⟨hN7, hN9, hNk, hNd, hNf, hNz⟩ := id hgN
  obtain ⟨hu1, h8, h7, hB5, hQ⟩ := id hPs
  obtain ⟨hB7, hz1, hB6, hI⟩ := id hKk
  obtain ⟨hu2, h9, hSo, hB8⟩ := id hSs
  have hP2 : ∀ i, i < v 1 → cl i < 4 ∧ wm i ≤ 9 := fun i h => (hPn i h).2
  by_cases hc9 : v 8 = 0
  · skip
    refine r_aload_n X dL_law_427 rfl ?_
    refine r_callV (ci := 9) X rfl (c_X10_undo _ E _ n Y v F P SP N Mp Kp h7 h8) tw_538 tw_539 tw_540 tw_1 tw_541 rfl rfl b0 rfl ⟨ok_X10_undo, ⟨Nat.le_of_ble_eq_true rfl, Nat.le_of_ble_eq_true rfl⟩, ⟨by show _ ≤ 600000; omega, by show _ ≤ 7302249; omega⟩, Nat.le_of_ble_eq_true rfl⟩ dL_law_428 (kk_r (Wf := Wg K E _ _ _ _) ?_)
    refine r_heap ((if_pos hc9).trans bm) ?_
    refine r_aload_n X dL_law_431 rfl ?_
    refine r_callV (ci := 10) X rfl (c_X11_undo _ E _ _ (Y + 75) u B N Q (by rw [hu1]; exact h8) hB5) tw_847 tw_848 tw_849 tw_7 tw_850 rfl rfl m0 rfl ⟨ok_X11_undo, ⟨Nat.le_of_ble_eq_true rfl, Nat.le_of_ble_eq_true rfl⟩, ⟨by show _ ≤ 600000; omega, by show _ ≤ 7302249; omega⟩, Nat.le_of_ble_eq_true rfl⟩ dL_law_432 (kk_r (Wf := Wg K E _ _ _ _) ?_)
    refine r_heap ((if_pos (by rw [hu1]; exact hc9)).trans bm.symm) ?_
    refine r_icmp_eq X 826 dL_law_435 (by decide) (fun c_435 => ?_) (fun c_435 => ?_)
    rotate_left
    · exact absurd (by rw [hu1]) c_435
    refine r_widen (cells + 14) (slots + 14) (by omega) (by omega) ?_
    exact kk _ _ _ _ _ _ _ _ _ _ _ ⟨cl, wm, pad, si, Q, I, hT, hTx, hNn, hPs, hKk, hSs⟩
  · skip
    have hU := RP_undo (X := flat (Q (u 1 - 1))) hPs hc9
    refine r_aload_n X dL_law_427 rfl ?_
    refine r_callV (ci := 9) X rfl (c_X10_undo _ E _ n Y v F P SP N Mp Kp h7 h8) tw_538 tw_539 tw_540 tw_1 tw_541 rfl rfl b0 rfl ⟨ok_X10_undo, ⟨Nat.le_of_ble_eq_true rfl, Nat.le_of_ble_eq_true rfl⟩, ⟨by show _ ≤ 600000; omega, by show _ ≤ 7302249; omega⟩, Nat.le_of_ble_eq_true rfl⟩ dL_law_428 (kk_r (Wf := Wg K E _ _ _ _) ?_)
    refine r_heap ((if_neg hc9).trans bm) ?_
    refine r_aload_n X dL_law_431 rfl ?_
    refine r_callV (ci := 10) X rfl (c_X11_undo _ E _ _ (Y + 75) u B N Q (by rw [hu1]; exact h8) hB5) tw_847 tw_848 tw_849 tw_7 tw_850 rfl rfl m0 rfl ⟨ok_X11_undo, ⟨Nat.le_of_ble_eq_true rfl, Nat.le_of_ble_eq_true rfl⟩, ⟨by show _ ≤ 600000; omega, by show _ ≤ 7302249; omega⟩, Nat.le_of_ble_eq_true rfl⟩ dL_law_432 (kk_r (Wf := Wg K E _ _ _ _) ?_)
    refine r_heap ((if_neg (by rw [hu1]; exact hc9)).trans bm.symm) ?_
    refine r_icmp_eq X 826 dL_law_435 (by decide) (fun c_435 => ?_) (fun c_435 => ?_)
    rotate_left
    · exact absurd (by rw [hu1]) c_435
    refine r_widen (cells + 14) (slots + 14) (by omega) (by omega) ?_
    exact kk _ _ _ _ _ _ _ _ _ _ _ ⟨cl, wm, pad, si, Q, I, hT, hTx, ⟨hB2, by show flat (Q (u 1 - 1)) = flat (Mp _); rw [hU.2.1], by show gdM (v 0) (Mp _); rw [← hU.2.1]; exact hU.2.2⟩, hU.1, hKk, hSs⟩

set_option maxHeartbeats 4000000 in
set_option maxRecDepth 100000 in
/-- the law, case 12: keep -/
theorem lc_12 {K : xC} {E : xE} {b L Y i cells slots n : Nat} {xs : Nat → Int32} {g : hG} {v : Nat → Nat} {F : Nat → Nat → Nat} {P SP : Nat → Option Nat} {N : Mo} {Mp Kp : Nat → Mo} {u : Nat → Nat} {B : Nat → Nat → Nat} (X : Sx K E cL_law 4 "BanisterWordLaw" room_1) (hX : va_X b L xs K.2.2.2.2.1 K.2.2.2.2.1.heap) (hbE : b < E.1) (hL : L ≤ 384) (hi : i + 6 ≤ L) (hc : cells + 14 ≤ 600000) (hs : slots + 14 ≤ 7302249) (hR : Rl n Y g v F P SP N Mp Kp u B) (kk : Nx K E b Y i (cells + 14) (slots + 14)) : Wg K E cells slots 440 [some (.ref b), some (.ref Y), some (.ref (Y + 75)), some (.int (nI i))] [] (bG E (mG E g (Y + 75) u B) Y v F P SP N Mp Kp) n := by
  obtain ⟨cl, wm, pad, si, Q, I, hT, hTx, hNn, hPs, hKk, hSs⟩ := hR
  obtain ⟨hP, hPn, h02, h0, h1, hgt, hYn⟩ := id hT
  obtain ⟨hu0, h5, hB1, hL2, hF3⟩ := id hTx
  obtain ⟨hB2, hB4, hgN⟩ := id hNn
  obtain ⟨hN7, hN9, hNk, hNd, hNf, hNz⟩ := id hgN
  obtain ⟨hu1, h8, h7, hB5, hQ⟩ := id hPs
  obtain ⟨hB7, hz1, hB6, hI⟩ := id hKk
  obtain ⟨hu2, h9, hSo, hB8⟩ := id hSs
  have hP2 : ∀ i, i < v 1 → cl i < 4 ∧ wm i ≤ 9 := fun i h => (hPn i h).2
  by_cases hc9 : inR (xs (i + 1)) 2 = true
  · skip
    have hK2 : RK v (va_up F 59 (va_up (F 59) (ix (xs (i + 1))) 1)) (va_up (va_up B 6 (pfl (va_up I (ix (xs (i + 1))) N))) 7 (va_up (B 7) (ix (xs (i + 1))) 1)) (va_up Kp (ix (xs (i + 1))) N) (va_up I (ix (xs (i + 1))) N) := by
      refine ⟨by show va_up (B 7) _ 1 = va_up (F 59) _ 1; rw [hB7], fun j => ?_, rfl, fun k hk h => ?_⟩
      · show va_up (F 59) (ix (xs (i + 1))) 1 j ≤ 1
        have := hz1 j
        simp only [va_up]; split <;> omega
      · by_cases e : k = ix (xs (i + 1))
        · rw [e, vu_eq, vu_eq]; exact ⟨rfl, hgN⟩
        · rw [vu_ne e, vu_ne e]; exact hI k hk (fun q => h (by show va_up (F 59) _ 1 k = 0; rw [vu_ne e]; exact q))
    refine r_aload_n X dL_law_440 rfl ?_
    refine r_aload_n X dL_law_441 rfl ?_
    refine r_iload_n X dL_law_442 rfl ?_
    refine r_iconst (v := nI 1) X dL_law_443 (by decide) ?_
    first | refine r_iaddN X dL_law_444 ?_ | refine r_iadd X _ dL_law_444 rfl ?_
    refine r_sld X hX hbE hL (by omega) rfl dL_law_445 ?_
    refine r_callV (ci := 9) X rfl (c_X10_keep _ E _ n Y v F P SP N Mp Kp (xs (i + 1))) tw_546 tw_547 tw_548 tw_1 tw_549 rfl rfl b0 rfl ⟨ok_X10_keep, ⟨Nat.le_of_ble_eq_true rfl, Nat.le_of_ble_eq_true rfl⟩, ⟨by show _ ≤ 600000; omega, by show _ ≤ 7302249; omega⟩, Nat.le_of_ble_eq_true rfl⟩ dL_law_446 (kk_r (Wf := Wg K E _ _ _ _) ?_)
    refine r_heap ((if_pos hc9).trans bm) ?_
    refine r_aload_n X dL_law_449 rfl ?_
    refine r_aload_n X dL_law_450 rfl ?_
    refine r_iload_n X dL_law_451 rfl ?_
    refine r_iconst (v := nI 1) X dL_law_452 (by decide) ?_
    first | refine r_iaddN X dL_law_453 ?_ | refine r_iadd X _ dL_law_453 rfl ?_
    refine r_sld X hX hbE hL (by omega) rfl dL_law_454 ?_
    refine r_callV (ci := 10) X rfl (c_X11_keep _ E _ _ (Y + 75) u B (xs (i + 1)) N I hB4 hB6) tw_851 tw_852 tw_853 tw_7 tw_854 rfl rfl m0 rfl ⟨ok_X11_keep, ⟨Nat.le_of_ble_eq_true rfl, Nat.le_of_ble_eq_true rfl⟩, ⟨by show _ ≤ 600000; omega, by show _ ≤ 7302249; omega⟩, Nat.le_of_ble_eq_true rfl⟩ dL_law_455 (kk_r (Wf := Wg K E _ _ _ _) ?_)
    refine r_heap ((if_pos hc9).trans bm.symm) ?_
    refine r_icmp_eq X 826 dL_law_458 (by decide) (fun c_458 => ?_) (fun c_458 => ?_)
    rotate_left
    · exact absurd (rfl) c_458
    refine r_widen (cells + 14) (slots + 14) (by omega) (by omega) ?_
    exact kk _ _ _ _ _ _ _ _ _ _ _ ⟨cl, wm, pad, si, Q, _, hT, hTx, hNn, hPs, hK2, hSs⟩
  · skip
    refine r_aload_n X dL_law_440 rfl ?_
    refine r_aload_n X dL_law_441 rfl ?_
    refine r_iload_n X dL_law_442 rfl ?_
    refine r_iconst (v := nI 1) X dL_law_443 (by decide) ?_
    first | refine r_iaddN X dL_law_444 ?_ | refine r_iadd X _ dL_law_444 rfl ?_
    refine r_sld X hX hbE hL (by omega) rfl dL_law_445 ?_
    refine r_callV (ci := 9) X rfl (c_X10_keep _ E _ n Y v F P SP N Mp Kp (xs (i + 1))) tw_546 tw_547 tw_548 tw_1 tw_549 rfl rfl b0 rfl ⟨ok_X10_keep, ⟨Nat.le_of_ble_eq_true rfl, Nat.le_of_ble_eq_true rfl⟩, ⟨by show _ ≤ 600000; omega, by show _ ≤ 7302249; omega⟩, Nat.le_of_ble_eq_true rfl⟩ dL_law_446 (kk_r (Wf := Wg K E _ _ _ _) ?_)
    refine r_heap ((if_neg hc9).trans bm) ?_
    refine r_aload_n X dL_law_449 rfl ?_
    refine r_aload_n X dL_law_450 rfl ?_
    refine r_iload_n X dL_law_451 rfl ?_
    refine r_iconst (v := nI 1) X dL_law_452 (by decide) ?_
    first | refine r_iaddN X dL_law_453 ?_ | refine r_iadd X _ dL_law_453 rfl ?_
    refine r_sld X hX hbE hL (by omega) rfl dL_law_454 ?_
    refine r_callV (ci := 10) X rfl (c_X11_keep _ E _ _ (Y + 75) u B (xs (i + 1)) N I hB4 hB6) tw_851 tw_852 tw_853 tw_7 tw_854 rfl rfl m0 rfl ⟨ok_X11_keep, ⟨Nat.le_of_ble_eq_true rfl, Nat.le_of_ble_eq_true rfl⟩, ⟨by show _ ≤ 600000; omega, by show _ ≤ 7302249; omega⟩, Nat.le_of_ble_eq_true rfl⟩ dL_law_455 (kk_r (Wf := Wg K E _ _ _ _) ?_)
    refine r_heap ((if_neg hc9).trans bm.symm) ?_
    refine r_icmp_eq X 826 dL_law_458 (by decide) (fun c_458 => ?_) (fun c_458 => ?_)
    rotate_left
    · exact absurd (rfl) c_458
    refine r_widen (cells + 14) (slots + 14) (by omega) (by omega) ?_
    exact kk _ _ _ _ _ _ _ _ _ _ _ ⟨cl, wm, pad, si, Q, I, hT, hTx, hNn, hPs, hKk, hSs⟩

