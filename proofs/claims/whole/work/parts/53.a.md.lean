/-- behind a token -/
def tok (u L : Nat → Nat) : Nat → Nat := tk u (tkE L (u 0) (sc (okB L) (u 0) (u 3))) (tkS L (u 0) (sc (okB L) (u 0) (u 3))) (sc (okB L) (u 0) (u 3)) (tkV L (u 0) (sc (okB L) (u 0) (u 3)))
theorem tkS_le (L : Nat → Nat) (ln b : Nat) : tkS L ln b ≤ 3 := by unfold tkS; (repeat' split) <;> omega
theorem tkV_le {L : Nat → Nat} (hL : ∀ j, L j ≤ 255) (ln b : Nat) : tkV L ln b ≤ 3000 := by
  have := tv_le (b := b) hL (sc (okD L) ln b - b)
  unfold tkV; split <;> omega
theorem tkE_le {L : Nat → Nat} {ln b : Nat} (h : b ≤ ln) : tkE L ln b ≤ ln := by
  have h1 := sc_hi (ok := okL L) h
  have h2 := sc_hi (ok := okD L) h
  unfold tkE
  by_cases e0 : tkS L ln b = 0
  · rw [if_pos e0]; exact h
  · rw [if_neg e0]
    have h3 : b < ln := by
      unfold tkS at e0
      by_cases e1 : ln ≤ b
      · rw [if_pos e1] at e0; exact absurd rfl e0
      · omega
    (repeat' split) <;> omega
theorem tkE_ge {L : Nat → Nat} {ln b : Nat} : b ≤ tkE L ln b := by
  have h1 := sc_lo (ok := okL L) (ln := ln) (p := b)
  have h2 := sc_lo (ok := okD L) (ln := ln) (p := b)
  unfold tkE
  (repeat' split) <;> omega
theorem tok_3 {u L : Nat → Nat} (h : u 3 ≤ u 0) : tok u L 3 ≤ tok u L 0 := tkE_le (sc_hi h)
/-- a number that fits -/
def numB (L : Nat → Nat) (ln b lo hi : Nat) : Bool := match rdN L ln b with
  | none => false
  | some v => decide (lo ≤ v ∧ v ≤ hi)
theorem rdN_no {L : Nat → Nat} {ln b : Nat} (h : tkS L ln b ≠ 2) : rdN L ln b = none := by
  have h9 : sc (okD L) ln b = b := by
    by_cases e : b < ln
    · cases hd : okD L b with
      | false => exact sc_f hd
      | true =>
        cases hl : okL L b with
        | false => exact absurd (tkS_2 e hl hd) h
        | true =>
          have h1 : 48 ≤ L b ∧ L b ≤ 57 := of_decide_eq_true hd
          have h2 : 97 ≤ L b ∧ L b ≤ 122 := of_decide_eq_true hl
          omega
    · exact sc_ge (by omega)
  unfold rdN
  rw [if_pos (Or.inl h9)]
theorem tkS2 {L : Nat → Nat} {ln b : Nat} (h : tkS L ln b = 2) : b < ln ∧ okD L b = true := by
  unfold tkS at h
  by_cases e1 : ln ≤ b
  · rw [if_pos e1] at h; omega
  · rw [if_neg e1] at h
    by_cases e2 : okL L b = true
    · rw [if_pos e2] at h; omega
    · rw [if_neg e2] at h
      by_cases e3 : okD L b = true
      · exact ⟨by omega, e3⟩
      · rw [if_neg e3] at h; omega
theorem num_eq {L : Nat → Nat} {ln b lo hi : Nat} (hh : hi < 100) : numB L ln b lo hi = (decide (tkS L ln b = 2) && decide (lo ≤ tkV L ln b ∧ tkV L ln b ≤ hi)) := by
  by_cases e : tkS L ln b = 2
  · obtain ⟨h1, h2⟩ := tkS2 e
    have h3 : b + 1 ≤ sc (okD L) ln b := by rw [sc_t h1 h2]; exact sc_lo
    have h4 : tkV L ln b = tv L b (sc (okD L) ln b - b) := if_pos e
    rw [decide_eq_true e, Bool.true_and, h4]
    unfold numB rdN tv
    by_cases e2 : sc (okD L) ln b - b ≤ 2
    · rw [if_neg (by omega), if_pos e2]
    · rw [if_pos (Or.inr (by omega)), if_neg e2, decide_eq_false (by omega)]
  · rw [decide_eq_false e]
    unfold numB
    rw [rdN_no e]
    rfl
theorem num_t {L : Nat → Nat} {ln b lo hi : Nat} (hh : hi < 100) (h : numB L ln b lo hi = true) : rdN L ln b = some (tkV L ln b) ∧ (lo ≤ tkV L ln b ∧ tkV L ln b ≤ hi) ∧ tkE L ln b = sc (okD L) ln b := by
  have h0 := h
  rw [num_eq hh] at h
  obtain ⟨h1, h2⟩ := and_dt h
  have h2 := of_decide_eq_true h2
  obtain ⟨h5, h6⟩ := tkS2 h1
  have h3 : b + 1 ≤ sc (okD L) ln b := by rw [sc_t h5 h6]; exact sc_lo
  have h4 : tkV L ln b = tv L b (sc (okD L) ln b - b) := if_pos h1
  refine ⟨?_, h2, by unfold tkE; rw [h1]; rfl⟩
  rw [h4] at h2 ⊢
  unfold tv at h2 ⊢
  unfold rdN
  by_cases e2 : sc (okD L) ln b - b ≤ 2
  · rw [if_neg (by omega), if_pos e2]
  · rw [if_neg e2] at h2; omega
theorem nmb_nf {L : Nat → Nat} {ln w st d i p : Nat} {a : Nat → Nat} {lo hi : Nat} (h : numB L ln (sc (okB L) ln p) lo hi = false) (h1 : loN w i = lo) (h2 : hiN w st i = hi) : nmb L ln w st (d + 1) i p a = .inl (sc (okB L) ln p) := by
  subst h1; subst h2
  unfold numB at h
  rcases hr : rdN L ln (sc (okB L) ln p) with _ | v
  · exact nmb_none hr
  · rw [hr] at h; exact nmb_bad hr (of_decide_eq_false h)
theorem nmb_nt {L : Nat → Nat} {ln w st d i p : Nat} {a : Nat → Nat} {lo hi : Nat} (hh : hi < 100) (h : numB L ln (sc (okB L) ln p) lo hi = true) (h1 : loN w i = lo) (h2 : hiN w st i = hi) : nmb L ln w st (d + 1) i p a = nmb L ln w st d (i + 1) (tkE L ln (sc (okB L) ln p)) (va_up a i (tkV L ln (sc (okB L) ln p))) := by
  subst h1; subst h2
  obtain ⟨a1, a2, a3⟩ := num_t hh h
  rw [nmb_ok a1 a2, a3]
/-- behind readsStair, readsSaying -/
def Zrd (E : xE) (g : hG) (n M : Nat) (u : Nat → Nat) (B : Nat → Nat → Nat) (T : hsT) (w : Nat) : Option Value → hG → Nat → Prop := fun v g' n' => n' = n ∧ ∃ u2 : Nat → Nat, (u2 0 = u 0 ∧ u2 1 = u 1 ∧ u2 2 = u 2) ∧ ((∃ r, nmb (B 1) (u 0) w T.1 (nbN w) 0 (u 3) (fun _ => 0) = .inl r ∧ v = some (.int 0) ∧ u2 5 = r ∧ g' = mG E g M u2 B) ∨ (∃ a e, nmb (B 1) (u 0) w T.1 (nbN w) 0 (u 3) (fun _ => 0) = .inr (a, e) ∧ v = some (.int 1) ∧ u2 3 = e ∧ g' = mG E g M u2 (va_up B 3 (tfl (cStep w a T)))))
def Zrp (E : xE) (g : hG) (n M : Nat) (u : Nat → Nat) (B : Nat → Nat → Nat) (T : hsT) (w : Nat) : Option Value → hG → Nat → Prop := fun v g' n' => (T.2.1 = 6 ∧ v = some (.int 0) ∧ g' = mG E g M u B ∧ n' = n) ∨ (T.2.1 < 6 ∧ Zrd E g n M u B T w v g' n')

set_option maxHeartbeats 4000000 in
set_option maxRecDepth 100000 in
/-- BanisterWordModel.number  -/
theorem c_X11_number (l : Launch) (E : xE) (g : hG) (n : Nat) (M : Nat) (u : Nat → Nat) (B : Nat → Nat → Nat) (lo hi : Nat) (h5 : u 0 ≤ 160) (h3 : u 3 ≤ u 0) (hL : ∀ j, B 1 j ≤ 255) (hlo : lo < 100) (hhi : hi < 100) : Ct l yX11_number cX11_number 3 (some .boolean) 3 63 0 0 E [.ref M, .int (nI lo), .int (nI hi)] (mG E g M u B) n (zr (some (.int (bI (numB (B 1) (u 0) (sc (okB (B 1)) (u 0) (u 3)) lo hi)))) (mG E g M (tok u (B 1)) B) (n)) := by
  refine Ct.of (by decide +kernel) (Nat.le_of_ble_eq_true rfl) (fun v hv => by simp only [List.mem_cons, List.not_mem_nil, or_false] at hv; (try rcases hv with rfl | rfl | rfl) <;> first | rfl | (subst hv; rfl) | exact hv.elim) ?_
  intro K hKl S
  subst hKl
  have X := S.1
  have hs4 : tok u (B 1) 4 ≤ 3 := tkS_le _ _ _
  have hv6 : tok u (B 1) 6 ≤ 3000 := tkV_le hL _ _
  refine r_aload_n X dX11_number_0 rfl ?_
  refine r_callV (ci := 10) X rfl (c_X11_token _ E g n M u B h5 h3 hL) tw_726 tw_728 tp_19 tw_7 tw_729 rfl rfl (by first | exact m0 | exact m1 | exact m2 | exact m3 | exact m4 | exact m5 | exact m6 | exact m7 | exact m8 | exact m9 | assumption) rfl ⟨ok_X11_token, ⟨Nat.le_of_ble_eq_true rfl, Nat.le_of_ble_eq_true rfl⟩, ⟨Nat.le_of_ble_eq_true rfl, Nat.le_of_ble_eq_true rfl⟩, Nat.le_of_ble_eq_true rfl⟩ dX11_number_1 (kk_v (Wf := Wg K E _ _ _ _) ?_)
  refine r_heap (show _ = mG E g M (tok u (B 1)) B from rfl) ?_
  refine r_aload_n X dX11_number_4 rfl ?_
  refine r_get (ci := 10) X 12 _ ti_RX11 rfl (by decide) tw_670 (fun _ h => h) dX11_number_5 (by first | exact m0 | exact m1 | exact m2 | exact m3 | exact m4 | exact m5 | exact m6 | exact m7 | exact m8 | exact m9 | assumption) rfl ?_
  refine r_iconst (v := nI 2) X dX11_number_8 (by decide) ?_
  refine r_icmp_neN X 28 dX11_number_9 (by decide) (by omega) (by omega) (fun c_9 => ?_) (fun c_9 => ?_)
  · skip
    refine r_iconst (v := nI 0) X dX11_number_28 (by decide) ?_
    refine r_zret S dX11_number_29 (by first | rfl | exact bI_nar _) ?_
    refine ⟨?_, rfl, rfl⟩
    rw [num_eq hhi]
    first | (rw [decide_eq_true (show tkS (B 1) (u 0) (sc (okB (B 1)) (u 0) (u 3)) = 2 from c_9), show decide (lo ≤ tkV (B 1) (u 0) (sc (okB (B 1)) (u 0) (u 3)) ∧ tkV (B 1) (u 0) (sc (okB (B 1)) (u 0) (u 3)) ≤ hi) = true from c_21]; rfl) | (rw [show decide (lo ≤ tkV (B 1) (u 0) (sc (okB (B 1)) (u 0) (u 3)) ∧ tkV (B 1) (u 0) (sc (okB (B 1)) (u 0) (u 3)) ≤ hi) = false from c_21, Bool.and_false]; rfl) | (rw [decide_eq_false (show ¬ tkS (B 1) (u 0) (sc (okB (B 1)) (u 0) (u 3)) = 2 from c_9)]; rfl)
  · skip
    refine r_aload_n X dX11_number_12 rfl ?_
    refine r_get (ci := 10) X 14 _ ti_RX11 rfl (by decide) tw_672 (fun _ h => h) dX11_number_13 (by first | exact m0 | exact m1 | exact m2 | exact m3 | exact m4 | exact m5 | exact m6 | exact m7 | exact m8 | exact m9 | assumption) rfl ?_
    refine r_iload_n X dX11_number_16 rfl ?_
    refine r_iload_n X dX11_number_17 rfl ?_
    refine r_callS X rfl (c_X11_in _ E _ n _ _ _) tw_711 tw_712 tw_7 tw_713 rfl ⟨ok_X11_in, ⟨Nat.le_of_ble_eq_true rfl, Nat.le_of_ble_eq_true rfl⟩, ⟨Nat.le_of_ble_eq_true rfl, Nat.le_of_ble_eq_true rfl⟩, Nat.le_of_ble_eq_true rfl⟩ dX11_number_18 (kk_r (Wf := Wg K E _ _ _ _) ?_)
    refine r_top _ (bI (decide (lo ≤ tok u (B 1) 6 ∧ tok u (B 1) 6 ≤ hi))) (congrArg bI (inQ_N (by omega) (by omega) (by omega))) ?_
    refine r_if_eqB X 28 dX11_number_21 (by decide) (fun c_21 => ?_) (fun c_21 => ?_)
    · skip
      refine r_iconst (v := nI 0) X dX11_number_28 (by decide) ?_
      refine r_zret S dX11_number_29 (by first | rfl | exact bI_nar _) ?_
      refine ⟨?_, rfl, rfl⟩
      rw [num_eq hhi]
      first | (rw [decide_eq_true (show tkS (B 1) (u 0) (sc (okB (B 1)) (u 0) (u 3)) = 2 from c_9), show decide (lo ≤ tkV (B 1) (u 0) (sc (okB (B 1)) (u 0) (u 3)) ∧ tkV (B 1) (u 0) (sc (okB (B 1)) (u 0) (u 3)) ≤ hi) = true from c_21]; rfl) | (rw [show decide (lo ≤ tkV (B 1) (u 0) (sc (okB (B 1)) (u 0) (u 3)) ∧ tkV (B 1) (u 0) (sc (okB (B 1)) (u 0) (u 3)) ≤ hi) = false from c_21, Bool.and_false]; rfl) | (rw [decide_eq_false (show ¬ tkS (B 1) (u 0) (sc (okB (B 1)) (u 0) (u 3)) = 2 from c_9)]; rfl)
    · skip
      refine r_iconst (v := nI 1) X dX11_number_24 (by decide) ?_
      refine r_goto X 29 dX11_number_25 (by decide) ?_
      refine r_zret S dX11_number_29 (by first | rfl | exact bI_nar _) ?_
      refine ⟨?_, rfl, rfl⟩
      rw [num_eq hhi]
      first | (rw [decide_eq_true (show tkS (B 1) (u 0) (sc (okB (B 1)) (u 0) (u 3)) = 2 from c_9), show decide (lo ≤ tkV (B 1) (u 0) (sc (okB (B 1)) (u 0) (u 3)) ∧ tkV (B 1) (u 0) (sc (okB (B 1)) (u 0) (u 3)) ≤ hi) = true from c_21]; rfl) | (rw [show decide (lo ≤ tkV (B 1) (u 0) (sc (okB (B 1)) (u 0) (u 3)) ∧ tkV (B 1) (u 0) (sc (okB (B 1)) (u 0) (u 3)) ≤ hi) = false from c_21, Bool.and_false]; rfl) | (rw [decide_eq_false (show ¬ tkS (B 1) (u 0) (sc (okB (B 1)) (u 0) (u 3)) = 2 from c_9)]; rfl)

set_option maxHeartbeats 4000000 in
set_option maxRecDepth 100000 in
/-- BanisterWordModel.cleans  -/
theorem c_X11_cleans (l : Launch) (E : xE) (g : hG) (n : Nat) (M : Nat) (u : Nat → Nat) (B : Nat → Nat → Nat)   : Ct l yX11_cleans cX11_cleans 2 none 0 0 0 0 E [.ref M] (mG E g M u B) n (zr (none) (mG E g M u (va_up B 3 (fun j => if j < 14 then B 3 j else 0))) (n)) := by
  refine Ct.of (by decide +kernel) (Nat.le_of_ble_eq_true rfl) (fun v hv => by simp only [List.mem_cons, List.not_mem_nil, or_false] at hv; (try rcases hv with rfl) <;> first | rfl | (subst hv; rfl) | exact hv.elim) ?_
  intro K hKl S
  subst hKl
  have X := S.1
  refine r_bipush (v := nI 14) X dX11_cleans_0 (by decide) ?_
  refine r_istore_n X dX11_cleans_2 (Nat.le_of_ble_eq_true rfl) ?_
  try dsimp only [List.set]
  have hloop : ∀ (k : Nat), k ≤ 62 → (14 ≤ k) → Wg K E (0) (0) 3 [some (.ref M), some (.int (nI k))] [] (mG E g M u (va_up B 3 (fun j => if 14 ≤ j ∧ j < k then 0 else B 3 j))) (n) := by
    refine ind_up _ (62) (fun k hk ih hq => ?_)
    refine r_iload_n X dX11_cleans_3 rfl ?_
    refine r_bipush (v := nI 62) X dX11_cleans_4 (by decide) ?_
    refine r_icmp_geN X 22 dX11_cleans_6 (by decide) (by omega) (by omega) (fun c_6 => ?_) (fun c_6 => ?_)
    · skip
      refine r_vret S dX11_cleans_22 ?_
      refine ⟨rfl, ?_, rfl⟩
      refine mc3 (fun j hj => ?_)
      (repeat' split) <;> first | rfl | omega
    · skip
      refine r_aload_n X dX11_cleans_9 rfl ?_
      refine r_get (ci := 10) X 3 _ ti_RX11 rfl (by decide) tw_661 (fun _ h => h) dX11_cleans_10 (by first | exact m0 | exact m1 | exact m2 | exact m3 | exact m4 | exact m5 | exact m6 | exact m7 | exact m8 | exact m9 | assumption) rfl ?_
      refine r_iload_n X dX11_cleans_13 rfl ?_
      refine r_iconst (v := nI 0) X dX11_cleans_14 (by decide) ?_
      refine r_nast X _ dX11_cleans_15 (by first | exact m0 | exact m1 | exact m2 | exact m3 | exact m4 | exact m5 | exact m6 | exact m7 | exact m8 | exact m9 | assumption) (rfl) (by omega) (by decide) ?_
      refine r_heap um3 ?_
      refine r_heap (congrArg (fun w => mG E g M u w) vu_vu) ?_
      first | refine r_iincN X dX11_cleans_16 rfl ?_ | refine r_iinc X _ dX11_cleans_16 rfl rfl ?_
      try dsimp only [List.set]
      refine r_goto X 3 dX11_cleans_19 (by decide) ?_
      refine r_heap ?_ (ih (by omega) (by omega))
      refine mc3 (fun j hj => ?_)
      show va_up (fun j => if 14 ≤ j ∧ j < k then 0 else B 3 j) k 0 j = _
      simp only [va_up]; (repeat' split) <;> first | rfl | omega
  refine r_heap ?_ (hloop 14 (by decide) (by decide))
  rw [show (fun j => if 14 ≤ j ∧ j < 14 then 0 else B 3 j) = B 3 from funext (fun j => if_neg (by omega)), vu_self rfl]

set_option maxHeartbeats 4000000 in
set_option maxRecDepth 100000 in
/-- BanisterWordModel.readsStair  -/
theorem c_X11_readsStair (l : Launch) (E : xE) (g : hG) (n : Nat) (M : Nat) (u : Nat → Nat) (B : Nat → Nat → Nat) (T : hsT) (h5 : u 0 ≤ 160) (h3 : u 3 ≤ u 0) (hL : ∀ j, B 1 j ≤ 255) (hD : B 3 = tfl T) : Ct l yX11_readsStair cX11_readsStair 1 (some .boolean) 4 85 0 0 E [.ref M] (mG E g M u B) n (Zrd E g n M u B T 4) := by
  refine Ct.of (by decide +kernel) (Nat.le_of_ble_eq_true rfl) (fun v hv => by simp only [List.mem_cons, List.not_mem_nil, or_false] at hv; (try rcases hv with rfl) <;> first | rfl | (subst hv; rfl) | exact hv.elim) ?_
  intro K hKl S
  subst hKl
  have X := S.1
  refine r_aload_n X dX11_readsStair_0 rfl ?_
  refine r_iconst (v := nI 2) X dX11_readsStair_1 (by decide) ?_
  refine r_bipush (v := nI 12) X dX11_readsStair_2 (by decide) ?_
  refine r_callV (ci := 10) X rfl (c_X11_number _ E g n M (u) B 2 12 h5 h3 hL (by omega) (by omega)) tw_752 tw_754 tp_24 tw_7 tw_755 rfl rfl (by first | exact m0 | exact m1 | exact m2 | exact m3 | exact m4 | exact m5 | exact m6 | exact m7 | exact m8 | exact m9 | assumption) rfl ⟨ok_X11_number, ⟨Nat.le_of_ble_eq_true rfl, Nat.le_of_ble_eq_true rfl⟩, ⟨Nat.le_of_ble_eq_true rfl, Nat.le_of_ble_eq_true rfl⟩, Nat.le_of_ble_eq_true rfl⟩ dX11_readsStair_4 (kk_r (Wf := Wg K E _ _ _ _) ?_)
  refine r_if_neB X 12 dX11_readsStair_7 (by decide) (fun c_7 => ?_) (fun c_7 => ?_)
  · skip
    refine r_aload_n X dX11_readsStair_12 rfl ?_
    refine r_get (ci := 10) X 3 _ ti_RX11 rfl (by decide) tw_661 (fun _ h => h) dX11_readsStair_13 (by first | exact m0 | exact m1 | exact m2 | exact m3 | exact m4 | exact m5 | exact m6 | exact m7 | exact m8 | exact m9 | assumption) rfl ?_
    refine r_iconst (v := nI 0) X dX11_readsStair_16 (by decide) ?_
    refine r_aload_n X dX11_readsStair_17 rfl ?_
    refine r_get (ci := 10) X 14 _ ti_RX11 rfl (by decide) tw_672 (fun _ h => h) dX11_readsStair_18 (by first | exact m0 | exact m1 | exact m2 | exact m3 | exact m4 | exact m5 | exact m6 | exact m7 | exact m8 | exact m9 | assumption) rfl ?_
    refine r_nast X _ dX11_readsStair_21 (by first | exact m0 | exact m1 | exact m2 | exact m3 | exact m4 | exact m5 | exact m6 | exact m7 | exact m8 | exact m9 | assumption) (rfl) (by omega) (by decide) ?_
    refine r_heap um3 ?_
    refine r_aload_n X dX11_readsStair_22 rfl ?_
    refine r_get (ci := 10) X 3 _ ti_RX11 rfl (by decide) tw_661 (fun _ h => h) dX11_readsStair_23 (by first | exact m0 | exact m1 | exact m2 | exact m3 | exact m4 | exact m5 | exact m6 | exact m7 | exact m8 | exact m9 | assumption) rfl ?_
    refine r_iconst (v := nI 1) X dX11_readsStair_26 (by decide) ?_
    refine r_iconst (v := nI 0) X dX11_readsStair_27 (by decide) ?_
    refine r_nast X _ dX11_readsStair_28 (by first | exact m0 | exact m1 | exact m2 | exact m3 | exact m4 | exact m5 | exact m6 | exact m7 | exact m8 | exact m9 | assumption) (rfl) (by omega) (by decide) ?_
    refine r_heap um3 ?_
    refine r_aload_n X dX11_readsStair_29 rfl ?_
    refine r_callV (ci := 10) X rfl (c_X11_cleans _ E g n M _ _) tw_756 tw_758 tp_25 tw_7 tw_759 rfl rfl (by first | exact m0 | exact m1 | exact m2 | exact m3 | exact m4 | exact m5 | exact m6 | exact m7 | exact m8 | exact m9 | assumption) rfl ⟨ok_X11_cleans, ⟨Nat.le_of_ble_eq_true rfl, Nat.le_of_ble_eq_true rfl⟩, ⟨Nat.le_of_ble_eq_true rfl, Nat.le_of_ble_eq_true rfl⟩, Nat.le_of_ble_eq_true rfl⟩ dX11_readsStair_30 (kk_v (Wf := Wg K E _ _ _ _) ?_)
    refine r_iconst (v := nI 1) X dX11_readsStair_33 (by decide) ?_
    refine r_zret S dX11_readsStair_34 (by first | rfl | exact bI_nar _) ?_
    refine ⟨rfl, tok u (B 1), ⟨rfl, rfl, rfl⟩, Or.inr ⟨_, _, nmb_nt (by decide) c_7 rfl rfl, rfl, rfl, ?_⟩⟩
    rw [vu_vu, vu_vu]
    refine mc3 (fun j hj => ?_)
    show _ = tfl (tkV (B 1) (u 0) (sc (okB (B 1)) (u 0) (u 3)), 0, T.2.2.1, T.2.2.2.1, fun _ => 0, fun _ => 0) j
    show (if j < 14 then va_up (va_up (B 3) 0 (tkV (B 1) (u 0) (sc (okB (B 1)) (u 0) (u 3)))) 1 0 j else 0) = _
    rw [hD]
    simp only [va_up, tfl]
    (repeat' split) <;> first | rfl | omega
  · skip
    refine r_iconst (v := nI 0) X dX11_readsStair_10 (by decide) ?_
    refine r_zret S dX11_readsStair_11 (by first | rfl | exact bI_nar _) ?_
    exact ⟨rfl, tok u (B 1), ⟨rfl, rfl, rfl⟩, Or.inl ⟨_, nmb_nf c_7 rfl rfl, rfl, rfl, rfl⟩⟩

set_option maxHeartbeats 4000000 in
set_option maxRecDepth 100000 in
/-- BanisterWordModel.readsPerson  -/
theorem c_X11_readsPerson (l : Launch) (E : xE) (g : hG) (n : Nat) (M : Nat) (u : Nat → Nat) (B : Nat → Nat → Nat) (T : hsT) (w : Nat) (h5 : u 0 ≤ 160) (h3 : u 3 ≤ u 0) (hL : ∀ j, B 1 j ≤ 255) (hD : B 3 = tfl T) (hw : w ≤ 3) (hp : T.2.1 ≤ 6) : Ct l yX11_readsPerson cX11_readsPerson 3 (some .boolean) 4 85 0 0 E [.ref M, .int (nI w)] (mG E g M u B) n (Zrp E g n M u B T w) := by
  refine Ct.of (by decide +kernel) (Nat.le_of_ble_eq_true rfl) (fun v hv => by simp only [List.mem_cons, List.not_mem_nil, or_false] at hv; (try rcases hv with rfl | rfl) <;> first | rfl | (subst hv; rfl) | exact hv.elim) ?_
  intro K hKl S
  subst hKl
  have X := S.1
  have h01 : loN w 0 = 1 := by unfold loN; rw [if_neg (by omega), if_neg (by omega)]
  have h09 : hiN w T.1 0 = 9 := by unfold hiN; rw [if_neg (by omega), if_neg (by omega)]
  have hnb : nbN w = 1 := by unfold nbN; rw [if_neg (by omega), if_neg (by omega)]
  refine r_aload_n X dX11_readsPerson_0 rfl ?_
  refine r_get (ci := 10) X 3 _ ti_RX11 rfl (by decide) tw_661 (fun _ h => h) dX11_readsPerson_1 (by first | exact m0 | exact m1 | exact m2 | exact m3 | exact m4 | exact m5 | exact m6 | exact m7 | exact m8 | exact m9 | assumption) rfl ?_
  refine r_iconst (v := nI 1) X dX11_readsPerson_4 (by decide) ?_
  refine r_nald X _ dX11_readsPerson_5 (by first | exact m0 | exact m1 | exact m2 | exact m3 | exact m4 | exact m5 | exact m6 | exact m7 | exact m8 | exact m9 | assumption) (rfl) (by omega) (by decide) ?_
  refine r_top _ (nI T.2.1) (congrArg nI (show B 3 1 = T.2.1 by rw [hD]; rfl)) ?_
  refine r_istore_n X dX11_readsPerson_6 (Nat.le_of_ble_eq_true rfl) ?_
  try dsimp only [List.set]
  refine r_iload_n X dX11_readsPerson_7 rfl ?_
  refine r_bipush (v := nI 6) X dX11_readsPerson_8 (by decide) ?_
  refine r_icmp_eqN X 23 dX11_readsPerson_10 (by decide) (by omega) (by omega) (fun c_10 => ?_) (fun c_10 => ?_)
  · skip
    refine r_iconst (v := nI 0) X dX11_readsPerson_23 (by decide) ?_
    refine r_zret S dX11_readsPerson_24 (by first | rfl | exact bI_nar _) ?_
    first | exact Or.inl ⟨c_10, rfl, rfl, rfl⟩ | exact Or.inr ⟨by omega, rfl, tok u (B 1), ⟨rfl, rfl, rfl⟩, Or.inl ⟨_, by rw [hnb]; exact nmb_nf c_20 h01 h09, rfl, rfl, rfl⟩⟩
  · skip
    refine r_aload_n X dX11_readsPerson_13 rfl ?_
    refine r_iconst (v := nI 1) X dX11_readsPerson_14 (by decide) ?_
    refine r_bipush (v := nI 9) X dX11_readsPerson_15 (by decide) ?_
    refine r_callV (ci := 10) X rfl (c_X11_number _ E g n M (u) B 1 9 h5 h3 hL (by omega) (by omega)) tw_752 tw_754 tp_24 tw_7 tw_755 rfl rfl (by first | exact m0 | exact m1 | exact m2 | exact m3 | exact m4 | exact m5 | exact m6 | exact m7 | exact m8 | exact m9 | assumption) rfl ⟨ok_X11_number, ⟨Nat.le_of_ble_eq_true rfl, Nat.le_of_ble_eq_true rfl⟩, ⟨Nat.le_of_ble_eq_true rfl, Nat.le_of_ble_eq_true rfl⟩, Nat.le_of_ble_eq_true rfl⟩ dX11_readsPerson_17 (kk_r (Wf := Wg K E _ _ _ _) ?_)
    refine r_if_neB X 25 dX11_readsPerson_20 (by decide) (fun c_20 => ?_) (fun c_20 => ?_)
    · skip
      refine r_aload_n X dX11_readsPerson_25 rfl ?_
      refine r_get (ci := 10) X 3 _ ti_RX11 rfl (by decide) tw_661 (fun _ h => h) dX11_readsPerson_26 (by first | exact m0 | exact m1 | exact m2 | exact m3 | exact m4 | exact m5 | exact m6 | exact m7 | exact m8 | exact m9 | assumption) rfl ?_
      refine r_iconst (v := nI 2) X dX11_readsPerson_29 (by decide) ?_
      refine r_iload_n X dX11_readsPerson_30 rfl ?_
      first | refine r_iaddN X dX11_readsPerson_31 ?_ | refine r_iadd X _ dX11_readsPerson_31 rfl ?_
      refine r_iload_n X dX11_readsPerson_32 rfl ?_
      refine r_nast X _ dX11_readsPerson_33 (by first | exact m0 | exact m1 | exact m2 | exact m3 | exact m4 | exact m5 | exact m6 | exact m7 | exact m8 | exact m9 | assumption) (rfl) (by omega) (by decide) ?_
      refine r_heap um3 ?_
      refine r_aload_n X dX11_readsPerson_34 rfl ?_
      refine r_get (ci := 10) X 3 _ ti_RX11 rfl (by decide) tw_661 (fun _ h => h) dX11_readsPerson_35 (by first | exact m0 | exact m1 | exact m2 | exact m3 | exact m4 | exact m5 | exact m6 | exact m7 | exact m8 | exact m9 | assumption) rfl ?_
      refine r_bipush (v := nI 8) X dX11_readsPerson_38 (by decide) ?_
      refine r_iload_n X dX11_readsPerson_40 rfl ?_
      first | refine r_iaddN X dX11_readsPerson_41 ?_ | refine r_iadd X _ dX11_readsPerson_41 rfl ?_
      refine r_aload_n X dX11_readsPerson_42 rfl ?_
      refine r_get (ci := 10) X 14 _ ti_RX11 rfl (by decide) tw_672 (fun _ h => h) dX11_readsPerson_43 (by first | exact m0 | exact m1 | exact m2 | exact m3 | exact m4 | exact m5 | exact m6 | exact m7 | exact m8 | exact m9 | assumption) rfl ?_
      refine r_nast X _ dX11_readsPerson_46 (by first | exact m0 | exact m1 | exact m2 | exact m3 | exact m4 | exact m5 | exact m6 | exact m7 | exact m8 | exact m9 | assumption) (rfl) (by omega) (by decide) ?_
      refine r_heap um3 ?_
      refine r_aload_n X dX11_readsPerson_47 rfl ?_
      refine r_get (ci := 10) X 3 _ ti_RX11 rfl (by decide) tw_661 (fun _ h => h) dX11_readsPerson_48 (by first | exact m0 | exact m1 | exact m2 | exact m3 | exact m4 | exact m5 | exact m6 | exact m7 | exact m8 | exact m9 | assumption) rfl ?_
      refine r_iconst (v := nI 1) X dX11_readsPerson_51 (by decide) ?_
      refine r_dup2 X dX11_readsPerson_52 rfl rfl ?_
      refine r_nald X _ dX11_readsPerson_53 (by first | exact m0 | exact m1 | exact m2 | exact m3 | exact m4 | exact m5 | exact m6 | exact m7 | exact m8 | exact m9 | assumption) (rfl) (by omega) (by decide) ?_
      refine r_top _ (nI T.2.1) (congrArg nI (show va_up (va_up (B 3) (2 + T.2.1) w) (8 + T.2.1) (tkV (B 1) (u 0) (sc (okB (B 1)) (u 0) (u 3))) 1 = T.2.1 by rw [vu_ne (by omega), vu_ne (by omega), hD]; rfl)) ?_
      refine r_iconst (v := nI 1) X dX11_readsPerson_54 (by decide) ?_
      first | refine r_iaddN X dX11_readsPerson_55 ?_ | refine r_iadd X _ dX11_readsPerson_55 rfl ?_
      refine r_nast X _ dX11_readsPerson_56 (by first | exact m0 | exact m1 | exact m2 | exact m3 | exact m4 | exact m5 | exact m6 | exact m7 | exact m8 | exact m9 | assumption) (rfl) (by omega) (by decide) ?_
      refine r_heap um3 ?_
      refine r_iconst (v := nI 1) X dX11_readsPerson_57 (by decide) ?_
      refine r_zret S dX11_readsPerson_58 (by first | rfl | exact bI_nar _) ?_
      refine Or.inr ⟨by omega, rfl, tok u (B 1), ⟨rfl, rfl, rfl⟩, Or.inr ⟨_, _, by rw [hnb]; exact nmb_nt (by decide) c_20 h01 h09, rfl, rfl, ?_⟩⟩
      rw [vu_vu, vu_vu]
      refine mc3 (fun j hj => ?_)
      have hcs : cStep w (va_up (fun _ => 0) 0 (tkV (B 1) (u 0) (sc (okB (B 1)) (u 0) (u 3)))) T = (T.1, T.2.1 + 1, va_up T.2.2.1 T.2.1 (ckN w), va_up T.2.2.2.1 T.2.1 (tkV (B 1) (u 0) (sc (okB (B 1)) (u 0) (u 3))), T.2.2.2.2.1, T.2.2.2.2.2) := by unfold cStep; rw [if_neg (by omega), if_neg (by omega), if_neg (by omega)]; rfl
      rw [hcs]
      show va_up (va_up (va_up (B 3) (2 + T.2.1) w) (8 + T.2.1) (tkV (B 1) (u 0) (sc (okB (B 1)) (u 0) (u 3)))) 1 (T.2.1 + 1) j = _
      rw [hD]
      have hkc := kind_ck hw
      have hp6 : T.2.1 < 6 := by omega
      simp only [va_up, tfl]
      (repeat' split) <;> first | rfl | omega | (rw [hkc]; done) | (exact hkc.symm)
    · skip
      refine r_iconst (v := nI 0) X dX11_readsPerson_23 (by decide) ?_
      refine r_zret S dX11_readsPerson_24 (by first | rfl | exact bI_nar _) ?_
      first | exact Or.inl ⟨c_10, rfl, rfl, rfl⟩ | exact Or.inr ⟨by omega, rfl, tok u (B 1), ⟨rfl, rfl, rfl⟩, Or.inl ⟨_, by rw [hnb]; exact nmb_nf c_20 h01 h09, rfl, rfl, rfl⟩⟩

set_option maxHeartbeats 4000000 in
set_option maxRecDepth 100000 in
/-- BanisterWordModel.readsSaying  -/
theorem c_X11_readsSaying (l : Launch) (E : xE) (g : hG) (n : Nat) (M : Nat) (u : Nat → Nat) (B : Nat → Nat → Nat) (T : hsT) (h5 : u 0 ≤ 160) (h3 : u 3 ≤ u 0) (hL : ∀ j, B 1 j ≤ 255) (hD : B 3 = tfl T) (h02 : 2 ≤ T.1) (h0 : T.1 ≤ 12) : Ct l yX11_readsSaying cX11_readsSaying 3 (some .boolean) 4 85 0 0 E [.ref M] (mG E g M u B) n (Zrd E g n M u B T 5) := by
  refine Ct.of (by decide +kernel) (Nat.le_of_ble_eq_true rfl) (fun v hv => by simp only [List.mem_cons, List.not_mem_nil, or_false] at hv; (try rcases hv with rfl) <;> first | rfl | (subst hv; rfl) | exact hv.elim) ?_
  intro K hKl S
  subst hKl
  have X := S.1
  refine r_aload_n X dX11_readsSaying_0 rfl ?_
  refine r_iconst (v := nI 0) X dX11_readsSaying_1 (by decide) ?_
  refine r_aload_n X dX11_readsSaying_2 rfl ?_
  refine r_get (ci := 10) X 3 _ ti_RX11 rfl (by decide) tw_661 (fun _ h => h) dX11_readsSaying_3 (by first | exact m0 | exact m1 | exact m2 | exact m3 | exact m4 | exact m5 | exact m6 | exact m7 | exact m8 | exact m9 | assumption) rfl ?_
  refine r_iconst (v := nI 0) X dX11_readsSaying_6 (by decide) ?_
  refine r_nald X _ dX11_readsSaying_7 (by first | exact m0 | exact m1 | exact m2 | exact m3 | exact m4 | exact m5 | exact m6 | exact m7 | exact m8 | exact m9 | assumption) (rfl) (by omega) (by decide) ?_
  refine r_top _ (nI T.1) (congrArg nI (show B 3 0 = T.1 by rw [hD]; rfl)) ?_
  refine r_iconst (v := nI 1) X dX11_readsSaying_8 (by decide) ?_
  first | refine r_isubN X dX11_readsSaying_9 (by omega) ?_ | refine r_isub X _ dX11_readsSaying_9 rfl ?_
  refine r_callV (ci := 10) X rfl (c_X11_number _ E g n M (u) B 0 (T.1 - 1) h5 h3 hL (by omega) (by omega)) tw_752 tw_754 tp_24 tw_7 tw_755 rfl rfl (by first | exact m0 | exact m1 | exact m2 | exact m3 | exact m4 | exact m5 | exact m6 | exact m7 | exact m8 | exact m9 | assumption) rfl ⟨ok_X11_number, ⟨Nat.le_of_ble_eq_true rfl, Nat.le_of_ble_eq_true rfl⟩, ⟨Nat.le_of_ble_eq_true rfl, Nat.le_of_ble_eq_true rfl⟩, Nat.le_of_ble_eq_true rfl⟩ dX11_readsSaying_10 (kk_r (Wf := Wg K E _ _ _ _) ?_)
  refine r_if_neB X 18 dX11_readsSaying_13 (by decide) (fun c_13 => ?_) (fun c_13 => ?_)
  · skip
    have hn1 := (num_t (by omega) c_13).2.1
    have hv1 : (tok u (B 1)) 6 ≤ T.1 - 1 := hn1.2
    refine r_iconst (v := nI 2) X dX11_readsSaying_18 (by decide) ?_
    refine r_aload_n X dX11_readsSaying_19 rfl ?_
    refine r_get (ci := 10) X 14 _ ti_RX11 rfl (by decide) tw_672 (fun _ h => h) dX11_readsSaying_20 (by first | exact m0 | exact m1 | exact m2 | exact m3 | exact m4 | exact m5 | exact m6 | exact m7 | exact m8 | exact m9 | assumption) rfl ?_
    first | refine r_imulN X dX11_readsSaying_23 ?_ | refine r_imul X _ dX11_readsSaying_23 rfl ?_
    refine r_istore_n X dX11_readsSaying_24 (Nat.le_of_ble_eq_true rfl) ?_
    try dsimp only [List.set]
    refine r_aload_n X dX11_readsSaying_25 rfl ?_
    refine r_iconst (v := nI 0) X dX11_readsSaying_26 (by decide) ?_
    refine r_iconst (v := nI 1) X dX11_readsSaying_27 (by decide) ?_
    refine r_callV (ci := 10) X rfl (c_X11_number _ E g n M (tok u (B 1)) B 0 1 h5 (tok_3 h3) hL (by omega) (by omega)) tw_752 tw_754 tp_24 tw_7 tw_755 rfl rfl (by first | exact m0 | exact m1 | exact m2 | exact m3 | exact m4 | exact m5 | exact m6 | exact m7 | exact m8 | exact m9 | assumption) rfl ⟨ok_X11_number, ⟨Nat.le_of_ble_eq_true rfl, Nat.le_of_ble_eq_true rfl⟩, ⟨Nat.le_of_ble_eq_true rfl, Nat.le_of_ble_eq_true rfl⟩, Nat.le_of_ble_eq_true rfl⟩ dX11_readsSaying_28 (kk_r (Wf := Wg K E _ _ _ _) ?_)
    refine r_if_neB X 36 dX11_readsSaying_31 (by decide) (fun c_31 => ?_) (fun c_31 => ?_)
    · skip
      have hv2 : (tok (tok u (B 1)) (B 1)) 6 ≤ 1 := (num_t (by decide) c_31).2.1.2
      refine r_iload_n X dX11_readsSaying_36 rfl ?_
      refine r_aload_n X dX11_readsSaying_37 rfl ?_
      refine r_get (ci := 10) X 14 _ ti_RX11 rfl (by decide) tw_672 (fun _ h => h) dX11_readsSaying_38 (by first | exact m0 | exact m1 | exact m2 | exact m3 | exact m4 | exact m5 | exact m6 | exact m7 | exact m8 | exact m9 | assumption) rfl ?_
      first | refine r_iaddN X dX11_readsSaying_41 ?_ | refine r_iadd X _ dX11_readsSaying_41 rfl ?_
      refine r_istore_n X dX11_readsSaying_42 (Nat.le_of_ble_eq_true rfl) ?_
      try dsimp only [List.set]
      refine r_aload_n X dX11_readsSaying_43 rfl ?_
      refine r_iconst (v := nI 1) X dX11_readsSaying_44 (by decide) ?_
      refine r_bipush (v := nI 7) X dX11_readsSaying_45 (by decide) ?_
      refine r_callV (ci := 10) X rfl (c_X11_number _ E g n M (tok (tok u (B 1)) (B 1)) B 1 7 h5 (tok_3 (tok_3 h3)) hL (by omega) (by omega)) tw_752 tw_754 tp_24 tw_7 tw_755 rfl rfl (by first | exact m0 | exact m1 | exact m2 | exact m3 | exact m4 | exact m5 | exact m6 | exact m7 | exact m8 | exact m9 | assumption) rfl ⟨ok_X11_number, ⟨Nat.le_of_ble_eq_true rfl, Nat.le_of_ble_eq_true rfl⟩, ⟨Nat.le_of_ble_eq_true rfl, Nat.le_of_ble_eq_true rfl⟩, Nat.le_of_ble_eq_true rfl⟩ dX11_readsSaying_47 (kk_r (Wf := Wg K E _ _ _ _) ?_)
      refine r_if_neB X 55 dX11_readsSaying_50 (by decide) (fun c_50 => ?_) (fun c_50 => ?_)
      · skip
        refine r_aload_n X dX11_readsSaying_55 rfl ?_
        refine r_get (ci := 10) X 14 _ ti_RX11 rfl (by decide) tw_672 (fun _ h => h) dX11_readsSaying_56 (by first | exact m0 | exact m1 | exact m2 | exact m3 | exact m4 | exact m5 | exact m6 | exact m7 | exact m8 | exact m9 | assumption) rfl ?_
        refine r_istore_n X dX11_readsSaying_59 (Nat.le_of_ble_eq_true rfl) ?_
        try dsimp only [List.set]
        refine r_aload_n X dX11_readsSaying_60 rfl ?_
        refine r_iconst (v := nI 1) X dX11_readsSaying_61 (by decide) ?_
        refine r_bipush (v := nI 20) X dX11_readsSaying_62 (by decide) ?_
        refine r_callV (ci := 10) X rfl (c_X11_number _ E g n M (tok (tok (tok u (B 1)) (B 1)) (B 1)) B 1 20 h5 (tok_3 (tok_3 (tok_3 h3))) hL (by omega) (by omega)) tw_752 tw_754 tp_24 tw_7 tw_755 rfl rfl (by first | exact m0 | exact m1 | exact m2 | exact m3 | exact m4 | exact m5 | exact m6 | exact m7 | exact m8 | exact m9 | assumption) rfl ⟨ok_X11_number, ⟨Nat.le_of_ble_eq_true rfl, Nat.le_of_ble_eq_true rfl⟩, ⟨Nat.le_of_ble_eq_true rfl, Nat.le_of_ble_eq_true rfl⟩, Nat.le_of_ble_eq_true rfl⟩ dX11_readsSaying_64 (kk_r (Wf := Wg K E _ _ _ _) ?_)
        refine r_if_neB X 72 dX11_readsSaying_67 (by decide) (fun c_67 => ?_) (fun c_67 => ?_)
        · skip
          refine r_aload_n X dX11_readsSaying_72 rfl ?_
          refine r_get (ci := 10) X 3 _ ti_RX11 rfl (by decide) tw_661 (fun _ h => h) dX11_readsSaying_73 (by first | exact m0 | exact m1 | exact m2 | exact m3 | exact m4 | exact m5 | exact m6 | exact m7 | exact m8 | exact m9 | assumption) rfl ?_
          refine r_bipush (v := nI 14) X dX11_readsSaying_76 (by decide) ?_
          refine r_iload_n X dX11_readsSaying_78 rfl ?_
          first | refine r_iaddN X dX11_readsSaying_79 ?_ | refine r_iadd X _ dX11_readsSaying_79 rfl ?_
          refine r_iload_n X dX11_readsSaying_80 rfl ?_
          refine r_nast X _ dX11_readsSaying_81 (by first | exact m0 | exact m1 | exact m2 | exact m3 | exact m4 | exact m5 | exact m6 | exact m7 | exact m8 | exact m9 | assumption) (rfl) (by omega) (by decide) ?_
          refine r_heap um3 ?_
          refine r_aload_n X dX11_readsSaying_82 rfl ?_
          refine r_get (ci := 10) X 3 _ ti_RX11 rfl (by decide) tw_661 (fun _ h => h) dX11_readsSaying_83 (by first | exact m0 | exact m1 | exact m2 | exact m3 | exact m4 | exact m5 | exact m6 | exact m7 | exact m8 | exact m9 | assumption) rfl ?_
          refine r_bipush (v := nI 38) X dX11_readsSaying_86 (by decide) ?_
          refine r_iload_n X dX11_readsSaying_88 rfl ?_
          first | refine r_iaddN X dX11_readsSaying_89 ?_ | refine r_iadd X _ dX11_readsSaying_89 rfl ?_
          refine r_aload_n X dX11_readsSaying_90 rfl ?_
          refine r_get (ci := 10) X 14 _ ti_RX11 rfl (by decide) tw_672 (fun _ h => h) dX11_readsSaying_91 (by first | exact m0 | exact m1 | exact m2 | exact m3 | exact m4 | exact m5 | exact m6 | exact m7 | exact m8 | exact m9 | assumption) rfl ?_
          refine r_nast X _ dX11_readsSaying_94 (by first | exact m0 | exact m1 | exact m2 | exact m3 | exact m4 | exact m5 | exact m6 | exact m7 | exact m8 | exact m9 | assumption) (rfl) (by omega) (by decide) ?_
          refine r_heap um3 ?_
          refine r_iconst (v := nI 1) X dX11_readsSaying_95 (by decide) ?_
          refine r_zret S dX11_readsSaying_96 (by first | rfl | exact bI_nar _) ?_
          refine ⟨rfl, tok (tok (tok (tok u (B 1)) (B 1)) (B 1)) (B 1), ⟨rfl, rfl, rfl⟩, Or.inr ⟨_, _, (nmb_nt (by omega) c_13 rfl rfl).trans ((nmb_nt (by decide) c_31 rfl rfl).trans ((nmb_nt (by decide) c_50 rfl rfl).trans (nmb_nt (by decide) c_67 rfl rfl))), rfl, rfl, ?_⟩⟩
          rw [vu_vu]
          refine mc3 (fun j hj => ?_)
          show _ = tfl (T.1, T.2.1, T.2.2.1, T.2.2.2.1, va_up T.2.2.2.2.1 ((tok u (B 1)) 6 * 2 + (tok (tok u (B 1)) (B 1)) 6) ((tok (tok (tok u (B 1)) (B 1)) (B 1)) 6), va_up T.2.2.2.2.2 ((tok u (B 1)) 6 * 2 + (tok (tok u (B 1)) (B 1)) 6) ((tok (tok (tok (tok u (B 1)) (B 1)) (B 1)) (B 1)) 6)) j
          show va_up (va_up (B 3) (14 + (2 * (tok u (B 1)) 6 + (tok (tok u (B 1)) (B 1)) 6)) ((tok (tok (tok u (B 1)) (B 1)) (B 1)) 6)) (38 + (2 * (tok u (B 1)) 6 + (tok (tok u (B 1)) (B 1)) 6)) ((tok (tok (tok (tok u (B 1)) (B 1)) (B 1)) (B 1)) 6) j = _
          rw [hD]
          simp only [va_up, tfl]
          (repeat' split) <;> first | rfl | omega
        · skip
          refine r_iconst (v := nI 0) X dX11_readsSaying_70 (by decide) ?_
          refine r_zret S dX11_readsSaying_71 (by first | rfl | exact bI_nar _) ?_
          exact ⟨rfl, tok (tok (tok (tok u (B 1)) (B 1)) (B 1)) (B 1), ⟨rfl, rfl, rfl⟩, Or.inl ⟨_, (nmb_nt (by omega) c_13 rfl rfl).trans ((nmb_nt (by decide) c_31 rfl rfl).trans ((nmb_nt (by decide) c_50 rfl rfl).trans (nmb_nf c_67 rfl rfl))), rfl, rfl, rfl⟩⟩
      · skip
        refine r_iconst (v := nI 0) X dX11_readsSaying_53 (by decide) ?_
        refine r_zret S dX11_readsSaying_54 (by first | rfl | exact bI_nar _) ?_
        exact ⟨rfl, tok (tok (tok u (B 1)) (B 1)) (B 1), ⟨rfl, rfl, rfl⟩, Or.inl ⟨_, (nmb_nt (by omega) c_13 rfl rfl).trans ((nmb_nt (by decide) c_31 rfl rfl).trans (nmb_nf c_50 rfl rfl)), rfl, rfl, rfl⟩⟩
    · skip
      refine r_iconst (v := nI 0) X dX11_readsSaying_34 (by decide) ?_
      refine r_zret S dX11_readsSaying_35 (by first | rfl | exact bI_nar _) ?_
      exact ⟨rfl, tok (tok u (B 1)) (B 1), ⟨rfl, rfl, rfl⟩, Or.inl ⟨_, (nmb_nt (by omega) c_13 rfl rfl).trans (nmb_nf c_31 rfl rfl), rfl, rfl, rfl⟩⟩
  · skip
    refine r_iconst (v := nI 0) X dX11_readsSaying_16 (by decide) ?_
    refine r_zret S dX11_readsSaying_17 (by first | rfl | exact bI_nar _) ?_
    exact ⟨rfl, tok u (B 1), ⟨rfl, rfl, rfl⟩, Or.inl ⟨_, nmb_nf c_13 rfl rfl, rfl, rfl, rfl⟩⟩

