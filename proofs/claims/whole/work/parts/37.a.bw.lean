def faultR (L : Nat → Nat) (ln s pn : Nat) : Int32 := match prs L ln 14 0 s pn 0 (fun _ => (0, fun _ => 0)) with
  | .inl q => nI q
  | .inr _ => -1
/-- the text's own numbers and parts are free -/
def txV (v : Nat → Nat) (a b c d : Nat) : Nat → Nat := va_up (va_up (va_up (va_up v 2 a) 3 b) 4 c) 6 d
theorem tH_bG {E : xE} {g : hG} {Y : Nat} {v : Nat → Nat} {F : Nat → Nat → Nat} {P SP : Nat → Option Nat} {N : Mo} {Mp Kp : Nat → Mo} (Pt : Nat → Nat) (a b c d : Nat) : tH E (bG E g Y v F P SP N Mp Kp) (Y + 1) Pt a b c (v 5) d = bG E g Y (txV v a b c d) (va_up F 3 Pt) P SP N Mp Kp := by
  unfold tH
  rw [u_pt, u_txt]
  congr 1
  funext k
  simp only [txV, va_up]
  (repeat' split) <;> first | rfl | omega | (subst_vars; rfl)
def ckN (k : Nat) : Nat := if k = 0 then 2 else if k = 1 then 0 else if k = 2 then 1 else 3
theorem ckN_lt (k : Nat) : ckN k < 4 := by unfold ckN; (repeat' split) <;> omega
theorem kind_ck {k : Nat} (h : k ≤ 3) : kindN (ckN k) = k := by
  rcases (show k = 0 ∨ k = 1 ∨ k = 2 ∨ k = 3 by omega) with rfl | rfl | rfl | rfl <;> rfl
theorem hu_bG {E : xE} {g : hG} {Y q : Nat} {e : va_E} {v : Nat → Nat} {F : Nat → Nat → Nat} {P SP : Nat → Option Nat} {N : Mo} {Mp Kp : Nat → Mo} (h : Y + 75 ≤ q) : hu (bG E g Y v F P SP N Mp Kp) q e = bG E (hu g q e) Y v F P SP N Mp Kp := by
  funext k
  by_cases e1 : k = q
  · subst e1; rw [hu_eq, bout (by omega), hu_eq]
  · rw [hu_ne _ _ e1]
    unfold bG blk
    rw [hu_ne _ _ e1]

set_option maxHeartbeats 4000000 in
set_option maxRecDepth 100000 in
/-- BanisterWord.fault  -/
theorem c_X10_fault (l : Launch) (E : xE) (g : hG) (n : Nat) (Y : Nat) (v : Nat → Nat) (F : Nat → Nat → Nat) (P SP : Nat → Option Nat) (N : Mo) (Mp Kp : Nat → Mo)  (hL : ∀ j, F 2 j ≤ 255) (h5 : v 5 ≤ 160) (h02 : 2 ≤ v 0) (hF3 : ∀ j, F 3 j < 3000) (h0 : v 0 ≤ 12) (h1 : v 1 ≤ 6) : Ct l yX10_fault cX10_fault 1 (some .int) 9 201 0 0 E [.ref Y] (bG E g Y v F P SP N Mp Kp) n (fun u_ g_ n_ => u_ = some (.int (faultR (F 2) (v 5) (v 0) (v 1))) ∧ n_ = n ∧ ∃ Pt a b c d, (∀ j, Pt j < 3000) ∧ g_ = bG E g Y (txV v a b c d) (va_up F 3 Pt) P SP N Mp Kp) := by
  refine Ct.of (by decide +kernel) (Nat.le_of_ble_eq_true rfl) (fun v hv => by simp only [List.mem_cons, List.not_mem_nil, or_false] at hv; (try rcases hv with rfl) <;> first | rfl | (subst hv; rfl) | exact hv.elim) ?_
  intro K hKl S
  subst hKl
  have X := S.1
  refine r_aload_n X dX10_fault_0 rfl ?_
  refine r_get (ci := 9) X 0 _ ti_RX10 rfl (by decide) tw_139 (fun _ h => h) dX10_fault_1 (by first | exact b0 | exact bnow.c0 | exact bnow.rl.1 | exact bnow.c4 | exact bta.1 | exact b4 | exact btold.1 | exact btrial.1 | exact bpast.c0 | exact bk | exact bz | exact bsi.c0 | assumption) rfl ?_
  refine r_aload_n X dX10_fault_4 rfl ?_
  refine r_get (ci := 9) X 9 _ ti_RX10 rfl (by decide) tw_148 (fun _ h => h) dX10_fault_5 (by first | exact b0 | exact bnow.c0 | exact bnow.rl.1 | exact bnow.c4 | exact bta.1 | exact b4 | exact btold.1 | exact btrial.1 | exact bpast.c0 | exact bk | exact bz | exact bsi.c0 | assumption) rfl ?_
  refine r_aload_n X dX10_fault_8 rfl ?_
  refine r_get (ci := 9) X 10 _ ti_RX10 rfl (by decide) tw_149 (fun _ h => h) dX10_fault_9 (by first | exact b0 | exact bnow.c0 | exact bnow.rl.1 | exact bnow.c4 | exact bta.1 | exact b4 | exact btold.1 | exact btrial.1 | exact bpast.c0 | exact bk | exact bz | exact bsi.c0 | assumption) rfl ?_
  refine r_callV (ci := 8) X rfl (c_X9_readClauses _ E _ n (Y + 1) (F 2) (F 3) (v 2) (v 3) (v 4) (v 5) (v 6) (v 0) (v 1) bta hL h5 h02 h0 h1 hF3) tw_189 tw_190 tw_191 tw_2 tw_192 rfl rfl bta.1 rfl ⟨ok_X9_readClauses, ⟨Nat.le_of_ble_eq_true rfl, Nat.le_of_ble_eq_true rfl⟩, ⟨Nat.le_of_ble_eq_true rfl, Nat.le_of_ble_eq_true rfl⟩, Nat.le_of_ble_eq_true rfl⟩ dX10_fault_12 (fun v_12 g_12 n_12 z_12 => ?_)
  rcases z_12 with ⟨hn9, Pt, a, b, c, d, rfl, hf9, ⟨q, hR, hql, rfl⟩ | ⟨C, hR, hc, rfl, hpt⟩⟩
  · skip
    replace hn9 := hn9.symm
    subst hn9
    refine r_iret S dX10_fault_15 ?_
    exact ⟨by unfold faultR; rw [hR], rfl, Pt, a, b, c, d, hf9, tH_bG _ _ _ _ _⟩
  · skip
    replace hn9 := hn9.symm
    subst hn9
    refine r_iret S dX10_fault_15 ?_
    exact ⟨by unfold faultR; rw [hR], rfl, Pt, a, b, c, _, hf9, tH_bG _ _ _ _ _⟩

set_option maxHeartbeats 4000000 in
set_option maxRecDepth 100000 in
/-- BanisterWord.newPerson  -/
theorem c_X10_newPerson (l : Launch) (E : xE) (g : hG) (n : Nat) (k w : Nat) (hk : k ≤ 3) : Ct l yX10_newPerson cX10_newPerson 2 (some (.object "BanisterWord$Person")) 4 111 1 1 E [.int (nI k), .int (nI w)] (g) n (zr (some (.ref n)) (hu g n (oc (ckN k) [.int (nI w)])) (n + 1)) := by
  refine Ct.of (by decide +kernel) (Nat.le_of_ble_eq_true rfl) (fun v hv => by simp only [List.mem_cons, List.not_mem_nil, or_false] at hv; (try rcases hv with rfl | rfl) <;> first | rfl | (subst hv; rfl) | exact hv.elim) ?_
  intro K hKl S
  subst hKl
  have X := S.1
  refine r_iload_n X dX10_newPerson_0 rfl ?_
  rcases (show k = 0 ∨ k = 1 ∨ k = 2 ∨ k = 3 by omega) with rfl | rfl | rfl | rfl
  · refine r_tableIn (off := 27) X 28 dX10_newPerson_1 (by decide) (by decide) rfl (by decide) ?_
    refine r_new (ci := 2) (fs := [.int 0]) X ti_RX2 tyX2 tyX2_ok tw_327 tw_328 tw_13 rfl (fun j hj => by rcases (show j = 0 by omega) with rfl; rfl) (Nat.le_of_ble_eq_true rfl) (Nat.le_of_ble_eq_true rfl) dX10_newPerson_28 ?_
    refine r_dup X dX10_newPerson_31 rfl ?_
    refine r_iload_n X dX10_newPerson_32 rfl ?_
    refine r_callI X rfl (c_X2_init_2 _ E _ _ n w (hu_eq _ _ _)) tw_329 tw_330 tw_13 tw_331 rfl rfl ⟨ok_X2_init, ⟨Nat.le_of_ble_eq_true rfl, Nat.le_of_ble_eq_true rfl⟩, ⟨Nat.le_of_ble_eq_true rfl, Nat.le_of_ble_eq_true rfl⟩, Nat.le_of_ble_eq_true rfl⟩ dX10_newPerson_33 (kk_v (Wf := Wg K E _ _ _ _) ?_)
    refine r_aret S dX10_newPerson_36 (Or.inr ⟨_, rfl⟩) ?_
    exact ⟨rfl, hu_hu, rfl⟩
  · refine r_tableIn (off := 36) X 37 dX10_newPerson_1 (by decide) (by decide) rfl (by decide) ?_
    refine r_new (ci := 0) (fs := [.int 0]) X ti_RX0 tyX0 tyX0_ok tw_347 tw_348 tw_14 rfl (fun j hj => by rcases (show j = 0 by omega) with rfl; rfl) (Nat.le_of_ble_eq_true rfl) (Nat.le_of_ble_eq_true rfl) dX10_newPerson_37 ?_
    refine r_dup X dX10_newPerson_40 rfl ?_
    refine r_iload_n X dX10_newPerson_41 rfl ?_
    refine r_callI X rfl (c_X0_init _ E _ _ n w (hu_eq _ _ _)) tw_349 tw_350 tw_14 tw_351 rfl rfl ⟨ok_X0_init, ⟨Nat.le_of_ble_eq_true rfl, Nat.le_of_ble_eq_true rfl⟩, ⟨Nat.le_of_ble_eq_true rfl, Nat.le_of_ble_eq_true rfl⟩, Nat.le_of_ble_eq_true rfl⟩ dX10_newPerson_42 (kk_v (Wf := Wg K E _ _ _ _) ?_)
    refine r_aret S dX10_newPerson_45 (Or.inr ⟨_, rfl⟩) ?_
    exact ⟨rfl, hu_hu, rfl⟩
  · refine r_tableIn (off := 45) X 46 dX10_newPerson_1 (by decide) (by decide) rfl (by decide) ?_
    refine r_new (ci := 1) (fs := [.int 0]) X ti_RX1 tyX1 tyX1_ok tw_355 tw_356 tw_15 rfl (fun j hj => by rcases (show j = 0 by omega) with rfl; rfl) (Nat.le_of_ble_eq_true rfl) (Nat.le_of_ble_eq_true rfl) dX10_newPerson_46 ?_
    refine r_dup X dX10_newPerson_49 rfl ?_
    refine r_iload_n X dX10_newPerson_50 rfl ?_
    refine r_callI X rfl (c_X1_init _ E _ _ n w (hu_eq _ _ _)) tw_357 tw_358 tw_15 tw_359 rfl rfl ⟨ok_X1_init, ⟨Nat.le_of_ble_eq_true rfl, Nat.le_of_ble_eq_true rfl⟩, ⟨Nat.le_of_ble_eq_true rfl, Nat.le_of_ble_eq_true rfl⟩, Nat.le_of_ble_eq_true rfl⟩ dX10_newPerson_51 (kk_v (Wf := Wg K E _ _ _ _) ?_)
    refine r_aret S dX10_newPerson_54 (Or.inr ⟨_, rfl⟩) ?_
    exact ⟨rfl, hu_hu, rfl⟩
  · refine r_tableOut X 55 dX10_newPerson_1 (by decide) (by decide) ?_
    refine r_new (ci := 3) (fs := [.int 0]) X ti_RX3 tyX3 tyX3_ok tw_363 tw_364 tw_16 rfl (fun j hj => by rcases (show j = 0 by omega) with rfl; rfl) (Nat.le_of_ble_eq_true rfl) (Nat.le_of_ble_eq_true rfl) dX10_newPerson_55 ?_
    refine r_dup X dX10_newPerson_58 rfl ?_
    refine r_iload_n X dX10_newPerson_59 rfl ?_
    refine r_callI X rfl (c_X3_init _ E _ _ n w (hu_eq _ _ _)) tw_365 tw_366 tw_16 tw_367 rfl rfl ⟨ok_X3_init, ⟨Nat.le_of_ble_eq_true rfl, Nat.le_of_ble_eq_true rfl⟩, ⟨Nat.le_of_ble_eq_true rfl, Nat.le_of_ble_eq_true rfl⟩, Nat.le_of_ble_eq_true rfl⟩ dX10_newPerson_60 (kk_v (Wf := Wg K E _ _ _ _) ?_)
    refine r_aret S dX10_newPerson_63 (Or.inr ⟨_, rfl⟩) ?_
    exact ⟨rfl, hu_hu, rfl⟩

set_option maxHeartbeats 4000000 in
set_option maxRecDepth 100000 in
/-- BanisterWord.addPerson  -/
theorem c_X10_addPerson (l : Launch) (E : xE) (g : hG) (n : Nat) (Y : Nat) (v : Nat → Nat) (F : Nat → Nat → Nat) (P SP : Nat → Option Nat) (N : Mo) (Mp Kp : Nat → Mo) (k w : Nat) (hk : k ≤ 3) (h1 : v 1 < 6) (hn : Y + 85 ≤ n) : Ct l yX10_addPerson cX10_addPerson 3 none 5 132 1 1 E [.ref Y, .int (nI k), .int (nI w)] (bG E g Y v F P SP N Mp Kp) n (zr (none) (bG E (hu g n (oc (ckN k) [.int (nI w)])) Y (va_up v 1 (v 1 + 1)) F (va_up P (v 1) (some n)) SP N Mp Kp) (n + 1)) := by
  refine Ct.of (by decide +kernel) (Nat.le_of_ble_eq_true rfl) (fun v hv => by simp only [List.mem_cons, List.not_mem_nil, or_false] at hv; (try rcases hv with rfl | rfl | rfl) <;> first | rfl | (subst hv; rfl) | exact hv.elim) ?_
  intro K hKl S
  subst hKl
  have X := S.1
  refine r_aload_n X dX10_addPerson_0 rfl ?_
  refine r_get (ci := 9) X 10 _ ti_RX10 rfl (by decide) tw_149 (fun _ h => h) dX10_addPerson_1 (by first | exact b0 | exact bnow.c0 | exact bnow.rl.1 | exact bnow.c4 | exact bta.1 | exact b4 | exact btold.1 | exact btrial.1 | exact bpast.c0 | exact bk | exact bz | exact bsi.c0 | assumption) rfl ?_
  refine r_bipush (v := nI 6) X dX10_addPerson_4 (by decide) ?_
  refine r_icmp_geN X 33 dX10_addPerson_6 (by decide) (by omega) (by omega) (fun c_6 => ?_) (fun c_6 => ?_)
  · exact absurd c_6 (by omega)
  refine r_aload_n X dX10_addPerson_9 rfl ?_
  refine r_get (ci := 9) X 1 _ ti_RX10 rfl (by decide) tw_140 (fun _ h => h) dX10_addPerson_10 (by first | exact b0 | exact bnow.c0 | exact bnow.rl.1 | exact bnow.c4 | exact bta.1 | exact b4 | exact btold.1 | exact btrial.1 | exact bpast.c0 | exact bk | exact bz | exact bsi.c0 | assumption) rfl ?_
  refine r_aload_n X dX10_addPerson_13 rfl ?_
  refine r_get (ci := 9) X 10 _ ti_RX10 rfl (by decide) tw_149 (fun _ h => h) dX10_addPerson_14 (by first | exact b0 | exact bnow.c0 | exact bnow.rl.1 | exact bnow.c4 | exact bta.1 | exact b4 | exact btold.1 | exact btrial.1 | exact bpast.c0 | exact bk | exact bz | exact bsi.c0 | assumption) rfl ?_
  refine r_iload_n X dX10_addPerson_17 rfl ?_
  refine r_iload_n X dX10_addPerson_18 rfl ?_
  refine r_callS X rfl (c_X10_newPerson _ E _ n k w hk) tw_324 tw_325 tw_1 tw_326 rfl ⟨ok_X10_newPerson, ⟨Nat.le_of_ble_eq_true rfl, Nat.le_of_ble_eq_true rfl⟩, ⟨Nat.le_of_ble_eq_true rfl, Nat.le_of_ble_eq_true rfl⟩, Nat.le_of_ble_eq_true rfl⟩ dX10_addPerson_19 (kk_r (Wf := Wg K E _ _ _ _) ?_)
  refine r_heap (hu_bG (by omega)) ?_
  refine r_aast (k := 3) X _ dX10_addPerson_22 rfl b4 (any_P X (ckN_lt k) (by rw [bout (by omega)]; exact hu_eq _ _ _)) (rfl) (by omega) (by decide) ?_
  refine r_heap (u_ppl _) ?_
  refine r_aload_n X dX10_addPerson_23 rfl ?_
  refine r_dup X dX10_addPerson_24 rfl ?_
  refine r_get (ci := 9) X 10 _ ti_RX10 rfl (by decide) tw_149 (fun _ h => h) dX10_addPerson_25 (by first | exact b0 | exact bnow.c0 | exact bnow.rl.1 | exact bnow.c4 | exact bta.1 | exact b4 | exact btold.1 | exact btrial.1 | exact bpast.c0 | exact bk | exact bz | exact bsi.c0 | assumption) rfl ?_
  refine r_iconst (v := nI 1) X dX10_addPerson_28 (by decide) ?_
  first | refine r_iaddN X dX10_addPerson_29 ?_ | refine r_iadd X _ dX10_addPerson_29 rfl ?_
  refine r_put (ci := 9) (ty := .int) X 10 ti_RX10 tyX10 tyX10_ok nmX10 rfl (by decide) tw_149 (fun _ h => h) rfl (by decide +kernel) dX10_addPerson_30 (by first | exact b0 | exact bnow.c0 | exact bnow.rl.1 | exact bnow.c4 | exact bta.1 | exact b4 | exact btold.1 | exact btrial.1 | exact bpast.c0 | exact bk | exact bz | exact bsi.c0 | assumption) rfl rfl (Nat.le_of_ble_eq_true rfl) ?_
  try dsimp only [List.set]
  refine r_heap (u_obj _ _) ?_
  refine r_vret S dX10_addPerson_33 ?_
  refine ⟨rfl, ?_, rfl⟩
  congr 1
  funext j; simp only [va_up]; (repeat' split) <;> first | rfl | omega | (subst_vars; rfl)

set_option maxHeartbeats 4000000 in
set_option maxRecDepth 100000 in
/-- BanisterWord.doClause  -/
theorem c_X10_doClause_4 (l : Launch) (E : xE) (g : hG) (n : Nat) (Y : Nat) (v : Nat → Nat) (F : Nat → Nat → Nat) (P SP : Nat → Option Nat) (N : Mo) (Mp Kp : Nat → Mo) (i : Nat) (hi : i < 14) (hw : F 3 (i * 5) = 4) : Ct l yX10_doClause cX10_doClause 3 none 6 154 0 0 E [.ref Y, .int (nI i)] (bG E g Y v F P SP N Mp Kp) n (zr (none) (bG E g Y (va_up (va_up v 0 (F 3 (i * 5 + 1 + 0))) 1 0) (va_up (va_up F 6 (fun _ => 0)) 7 (fun _ => 0)) P SP N Mp Kp) (n)) := by
  refine Ct.of (by decide +kernel) (Nat.le_of_ble_eq_true rfl) (fun v hv => by simp only [List.mem_cons, List.not_mem_nil, or_false] at hv; (try rcases hv with rfl | rfl) <;> first | rfl | (subst hv; rfl) | exact hv.elim) ?_
  intro K hKl S
  subst hKl
  have X := S.1
  refine r_aload_n X dX10_doClause_0 rfl ?_
  refine r_get (ci := 9) X 0 _ ti_RX10 rfl (by decide) tw_139 (fun _ h => h) dX10_doClause_1 (by first | exact b0 | exact bnow.c0 | exact bnow.rl.1 | exact bnow.c4 | exact bta.1 | exact b4 | exact btold.1 | exact btrial.1 | exact bpast.c0 | exact bk | exact bz | exact bsi.c0 | assumption) rfl ?_
  refine r_iload_n X dX10_doClause_4 rfl ?_
  refine r_iconst (v := nI 0) X dX10_doClause_5 (by decide) ?_
  refine r_callV (ci := 8) X rfl (c_X9_numberOf _ E _ n (Y + 1) (F 2) (F 3) (v 2) (v 3) (v 4) (v 5) (v 6) i 0 bta hi (by decide)) tw_297 tw_298 tw_299 tw_2 tw_300 rfl rfl bta.1 rfl ⟨ok_X9_numberOf, ⟨Nat.le_of_ble_eq_true rfl, Nat.le_of_ble_eq_true rfl⟩, ⟨Nat.le_of_ble_eq_true rfl, Nat.le_of_ble_eq_true rfl⟩, Nat.le_of_ble_eq_true rfl⟩ dX10_doClause_6 (kk_r (Wf := Wg K E _ _ _ _) ?_)
  refine r_istore_n X dX10_doClause_9 (Nat.le_of_ble_eq_true rfl) ?_
  try dsimp only [List.set]
  refine r_aload_n X dX10_doClause_10 rfl ?_
  refine r_get (ci := 9) X 0 _ ti_RX10 rfl (by decide) tw_139 (fun _ h => h) dX10_doClause_11 (by first | exact b0 | exact bnow.c0 | exact bnow.rl.1 | exact bnow.c4 | exact bta.1 | exact b4 | exact btold.1 | exact btrial.1 | exact bpast.c0 | exact bk | exact bz | exact bsi.c0 | assumption) rfl ?_
  refine r_iload_n X dX10_doClause_14 rfl ?_
  refine r_callV (ci := 8) X rfl (c_X9_wordOf _ E _ n (Y + 1) (F 2) (F 3) (v 2) (v 3) (v 4) (v 5) (v 6) i bta hi) tw_301 tw_302 tw_303 tw_2 tw_304 rfl rfl bta.1 rfl ⟨ok_X9_wordOf, ⟨Nat.le_of_ble_eq_true rfl, Nat.le_of_ble_eq_true rfl⟩, ⟨Nat.le_of_ble_eq_true rfl, Nat.le_of_ble_eq_true rfl⟩, Nat.le_of_ble_eq_true rfl⟩ dX10_doClause_15 (kk_r (Wf := Wg K E _ _ _ _) ?_)
  refine r_tableIn (off := 26) X 44 dX10_doClause_18 (by rw [hw]; decide) (by rw [hw]; decide) (by rw [hw]; rfl) (by decide) ?_
  refine r_aload_n X dX10_doClause_44 rfl ?_
  refine r_iload_n X dX10_doClause_45 rfl ?_
  refine r_put (ci := 9) (ty := .int) X 9 ti_RX10 tyX10 tyX10_ok nmX10 rfl (by decide) tw_148 (fun _ h => h) rfl (by decide +kernel) dX10_doClause_46 (by first | exact b0 | exact bnow.c0 | exact bnow.rl.1 | exact bnow.c4 | exact bta.1 | exact b4 | exact btold.1 | exact btrial.1 | exact bpast.c0 | exact bk | exact bz | exact bsi.c0 | assumption) rfl rfl (Nat.le_of_ble_eq_true rfl) ?_
  try dsimp only [List.set]
  refine r_heap (u_obj (F 3 (i * 5 + 1 + 0)) (v 1)) ?_
  refine r_aload_n X dX10_doClause_49 rfl ?_
  refine r_iconst (v := nI 0) X dX10_doClause_50 (by decide) ?_
  refine r_put (ci := 9) (ty := .int) X 10 ti_RX10 tyX10 tyX10_ok nmX10 rfl (by decide) tw_149 (fun _ h => h) rfl (by decide +kernel) dX10_doClause_51 (by first | exact b0 | exact bnow.c0 | exact bnow.rl.1 | exact bnow.c4 | exact bta.1 | exact b4 | exact btold.1 | exact btrial.1 | exact bpast.c0 | exact bk | exact bz | exact bsi.c0 | assumption) rfl rfl (Nat.le_of_ble_eq_true rfl) ?_
  try dsimp only [List.set]
  refine r_heap (u_obj (F 3 (i * 5 + 1 + 0)) 0) ?_
  refine r_aload_n X dX10_doClause_54 rfl ?_
  refine r_get (ci := 9) X 2 _ ti_RX10 rfl (by decide) tw_141 (fun _ h => h) dX10_doClause_55 (by first | exact b0 | exact bnow.c0 | exact bnow.rl.1 | exact bnow.c4 | exact bta.1 | exact b4 | exact btold.1 | exact btrial.1 | exact bpast.c0 | exact bk | exact bz | exact bsi.c0 | assumption) rfl ?_
  refine r_callV (ci := 6) X rfl (c_X7_clear _ E _ n (Y + 5) (F 6) (F 7) btold) tw_305 tw_306 tw_307 tw_3 tw_308 rfl rfl btold.1 rfl ⟨ok_X7_clear, ⟨Nat.le_of_ble_eq_true rfl, Nat.le_of_ble_eq_true rfl⟩, ⟨Nat.le_of_ble_eq_true rfl, Nat.le_of_ble_eq_true rfl⟩, Nat.le_of_ble_eq_true rfl⟩ dX10_doClause_58 (kk_v (Wf := Wg K E _ _ _ _) ?_)
  refine r_heap (u_told _ _) ?_
  refine r_goto X 125 dX10_doClause_61 (by decide) ?_
  refine r_vret S dX10_doClause_125 ?_
  refine ⟨rfl, ?_, rfl⟩
  congr 1
  funext j; simp only [va_up]; (repeat' split) <;> first | rfl | omega | (subst_vars; rfl)

set_option maxHeartbeats 4000000 in
set_option maxRecDepth 100000 in
/-- BanisterWord.doClause  -/
theorem c_X10_doClause_5 (l : Launch) (E : xE) (g : hG) (n : Nat) (Y : Nat) (v : Nat → Nat) (F : Nat → Nat → Nat) (P SP : Nat → Option Nat) (N : Mo) (Mp Kp : Nat → Mo) (i : Nat) (hi : i < 14) (hw : F 3 (i * 5) = 5) (hp : (F 3 (i * 5 + 1 + 0) * 2 + F 3 (i * 5 + 1 + 1)) < 24) (hF3 : ∀ j, F 3 j < 3000) : Ct l yX10_doClause cX10_doClause 3 none 6 154 0 0 E [.ref Y, .int (nI i)] (bG E g Y v F P SP N Mp Kp) n (zr (none) (bG E g Y v (va_up (va_up F 6 (va_up (F 6) (F 3 (i * 5 + 1 + 0) * 2 + F 3 (i * 5 + 1 + 1)) (if F 3 (i * 5 + 1 + 3) = 0 then 0 else F 3 (i * 5 + 1 + 2)))) 7 (va_up (F 7) (F 3 (i * 5 + 1 + 0) * 2 + F 3 (i * 5 + 1 + 1)) (F 3 (i * 5 + 1 + 3)))) P SP N Mp Kp) (n)) := by
  refine Ct.of (by decide +kernel) (Nat.le_of_ble_eq_true rfl) (fun v hv => by simp only [List.mem_cons, List.not_mem_nil, or_false] at hv; (try rcases hv with rfl | rfl) <;> first | rfl | (subst hv; rfl) | exact hv.elim) ?_
  intro K hKl S
  subst hKl
  have X := S.1
  refine r_aload_n X dX10_doClause_0 rfl ?_
  refine r_get (ci := 9) X 0 _ ti_RX10 rfl (by decide) tw_139 (fun _ h => h) dX10_doClause_1 (by first | exact b0 | exact bnow.c0 | exact bnow.rl.1 | exact bnow.c4 | exact bta.1 | exact b4 | exact btold.1 | exact btrial.1 | exact bpast.c0 | exact bk | exact bz | exact bsi.c0 | assumption) rfl ?_
  refine r_iload_n X dX10_doClause_4 rfl ?_
  refine r_iconst (v := nI 0) X dX10_doClause_5 (by decide) ?_
  refine r_callV (ci := 8) X rfl (c_X9_numberOf _ E _ n (Y + 1) (F 2) (F 3) (v 2) (v 3) (v 4) (v 5) (v 6) i 0 bta hi (by decide)) tw_297 tw_298 tw_299 tw_2 tw_300 rfl rfl bta.1 rfl ⟨ok_X9_numberOf, ⟨Nat.le_of_ble_eq_true rfl, Nat.le_of_ble_eq_true rfl⟩, ⟨Nat.le_of_ble_eq_true rfl, Nat.le_of_ble_eq_true rfl⟩, Nat.le_of_ble_eq_true rfl⟩ dX10_doClause_6 (kk_r (Wf := Wg K E _ _ _ _) ?_)
  refine r_istore_n X dX10_doClause_9 (Nat.le_of_ble_eq_true rfl) ?_
  try dsimp only [List.set]
  refine r_aload_n X dX10_doClause_10 rfl ?_
  refine r_get (ci := 9) X 0 _ ti_RX10 rfl (by decide) tw_139 (fun _ h => h) dX10_doClause_11 (by first | exact b0 | exact bnow.c0 | exact bnow.rl.1 | exact bnow.c4 | exact bta.1 | exact b4 | exact btold.1 | exact btrial.1 | exact bpast.c0 | exact bk | exact bz | exact bsi.c0 | assumption) rfl ?_
  refine r_iload_n X dX10_doClause_14 rfl ?_
  refine r_callV (ci := 8) X rfl (c_X9_wordOf _ E _ n (Y + 1) (F 2) (F 3) (v 2) (v 3) (v 4) (v 5) (v 6) i bta hi) tw_301 tw_302 tw_303 tw_2 tw_304 rfl rfl bta.1 rfl ⟨ok_X9_wordOf, ⟨Nat.le_of_ble_eq_true rfl, Nat.le_of_ble_eq_true rfl⟩, ⟨Nat.le_of_ble_eq_true rfl, Nat.le_of_ble_eq_true rfl⟩, Nat.le_of_ble_eq_true rfl⟩ dX10_doClause_15 (kk_r (Wf := Wg K E _ _ _ _) ?_)
  refine r_tableIn (off := 46) X 64 dX10_doClause_18 (by rw [hw]; decide) (by rw [hw]; decide) (by rw [hw]; rfl) (by decide) ?_
  refine r_aload_n X dX10_doClause_64 rfl ?_
  refine r_get (ci := 9) X 2 _ ti_RX10 rfl (by decide) tw_141 (fun _ h => h) dX10_doClause_65 (by first | exact b0 | exact bnow.c0 | exact bnow.rl.1 | exact bnow.c4 | exact bta.1 | exact b4 | exact btold.1 | exact btrial.1 | exact bpast.c0 | exact bk | exact bz | exact bsi.c0 | assumption) rfl ?_
  refine r_iload_n X dX10_doClause_68 rfl ?_
  refine r_aload_n X dX10_doClause_69 rfl ?_
  refine r_get (ci := 9) X 0 _ ti_RX10 rfl (by decide) tw_139 (fun _ h => h) dX10_doClause_70 (by first | exact b0 | exact bnow.c0 | exact bnow.rl.1 | exact bnow.c4 | exact bta.1 | exact b4 | exact btold.1 | exact btrial.1 | exact bpast.c0 | exact bk | exact bz | exact bsi.c0 | assumption) rfl ?_
  refine r_iload_n X dX10_doClause_73 rfl ?_
  refine r_iconst (v := nI 1) X dX10_doClause_74 (by decide) ?_
  refine r_callV (ci := 8) X rfl (c_X9_numberOf _ E _ n (Y + 1) (F 2) (F 3) (v 2) (v 3) (v 4) (v 5) (v 6) i 1 bta hi (by decide)) tw_297 tw_298 tw_299 tw_2 tw_300 rfl rfl bta.1 rfl ⟨ok_X9_numberOf, ⟨Nat.le_of_ble_eq_true rfl, Nat.le_of_ble_eq_true rfl⟩, ⟨Nat.le_of_ble_eq_true rfl, Nat.le_of_ble_eq_true rfl⟩, Nat.le_of_ble_eq_true rfl⟩ dX10_doClause_75 (kk_r (Wf := Wg K E _ _ _ _) ?_)
  refine r_aload_n X dX10_doClause_78 rfl ?_
  refine r_get (ci := 9) X 0 _ ti_RX10 rfl (by decide) tw_139 (fun _ h => h) dX10_doClause_79 (by first | exact b0 | exact bnow.c0 | exact bnow.rl.1 | exact bnow.c4 | exact bta.1 | exact b4 | exact btold.1 | exact btrial.1 | exact bpast.c0 | exact bk | exact bz | exact bsi.c0 | assumption) rfl ?_
  refine r_iload_n X dX10_doClause_82 rfl ?_
  refine r_iconst (v := nI 2) X dX10_doClause_83 (by decide) ?_
  refine r_callV (ci := 8) X rfl (c_X9_numberOf _ E _ n (Y + 1) (F 2) (F 3) (v 2) (v 3) (v 4) (v 5) (v 6) i 2 bta hi (by decide)) tw_297 tw_298 tw_299 tw_2 tw_300 rfl rfl bta.1 rfl ⟨ok_X9_numberOf, ⟨Nat.le_of_ble_eq_true rfl, Nat.le_of_ble_eq_true rfl⟩, ⟨Nat.le_of_ble_eq_true rfl, Nat.le_of_ble_eq_true rfl⟩, Nat.le_of_ble_eq_true rfl⟩ dX10_doClause_84 (kk_r (Wf := Wg K E _ _ _ _) ?_)
  refine r_aload_n X dX10_doClause_87 rfl ?_
  refine r_get (ci := 9) X 0 _ ti_RX10 rfl (by decide) tw_139 (fun _ h => h) dX10_doClause_88 (by first | exact b0 | exact bnow.c0 | exact bnow.rl.1 | exact bnow.c4 | exact bta.1 | exact b4 | exact btold.1 | exact btrial.1 | exact bpast.c0 | exact bk | exact bz | exact bsi.c0 | assumption) rfl ?_
  refine r_iload_n X dX10_doClause_91 rfl ?_
  refine r_iconst (v := nI 3) X dX10_doClause_92 (by decide) ?_
  refine r_callV (ci := 8) X rfl (c_X9_numberOf _ E _ n (Y + 1) (F 2) (F 3) (v 2) (v 3) (v 4) (v 5) (v 6) i 3 bta hi (by decide)) tw_297 tw_298 tw_299 tw_2 tw_300 rfl rfl bta.1 rfl ⟨ok_X9_numberOf, ⟨Nat.le_of_ble_eq_true rfl, Nat.le_of_ble_eq_true rfl⟩, ⟨Nat.le_of_ble_eq_true rfl, Nat.le_of_ble_eq_true rfl⟩, Nat.le_of_ble_eq_true rfl⟩ dX10_doClause_93 (kk_r (Wf := Wg K E _ _ _ _) ?_)
  refine r_callV (ci := 6) X rfl (c_X7_put _ E _ n (Y + 5) (F 6) (F 7) _ _ _ _ btold hp (by have := hF3 (i * 5 + 1 + 3); omega)) tw_313 tw_314 tw_315 tw_3 tw_316 rfl rfl btold.1 rfl ⟨ok_X7_put, ⟨Nat.le_of_ble_eq_true rfl, Nat.le_of_ble_eq_true rfl⟩, ⟨Nat.le_of_ble_eq_true rfl, Nat.le_of_ble_eq_true rfl⟩, Nat.le_of_ble_eq_true rfl⟩ dX10_doClause_96 (kk_v (Wf := Wg K E _ _ _ _) ?_)
  refine r_heap (u_told _ _) ?_
  refine r_goto X 125 dX10_doClause_99 (by decide) ?_
  refine r_vret S dX10_doClause_125 ?_
  exact ⟨rfl, rfl, rfl⟩

set_option maxHeartbeats 4000000 in
set_option maxRecDepth 100000 in
/-- BanisterWord.doClause  -/
theorem c_X10_doClause_6 (l : Launch) (E : xE) (g : hG) (n : Nat) (Y : Nat) (v : Nat → Nat) (F : Nat → Nat → Nat) (P SP : Nat → Option Nat) (N : Mo) (Mp Kp : Nat → Mo) (i : Nat) (hi : i < 14) (hw : F 3 (i * 5) = 6) : Ct l yX10_doClause cX10_doClause 3 none 6 154 0 0 E [.ref Y, .int (nI i)] (bG E g Y v F P SP N Mp Kp) n (zr (none) (bG E g Y v (va_up (va_up F 6 (fun _ => 0)) 7 (fun _ => 0)) P SP N Mp Kp) (n)) := by
  refine Ct.of (by decide +kernel) (Nat.le_of_ble_eq_true rfl) (fun v hv => by simp only [List.mem_cons, List.not_mem_nil, or_false] at hv; (try rcases hv with rfl | rfl) <;> first | rfl | (subst hv; rfl) | exact hv.elim) ?_
  intro K hKl S
  subst hKl
  have X := S.1
  refine r_aload_n X dX10_doClause_0 rfl ?_
  refine r_get (ci := 9) X 0 _ ti_RX10 rfl (by decide) tw_139 (fun _ h => h) dX10_doClause_1 (by first | exact b0 | exact bnow.c0 | exact bnow.rl.1 | exact bnow.c4 | exact bta.1 | exact b4 | exact btold.1 | exact btrial.1 | exact bpast.c0 | exact bk | exact bz | exact bsi.c0 | assumption) rfl ?_
  refine r_iload_n X dX10_doClause_4 rfl ?_
  refine r_iconst (v := nI 0) X dX10_doClause_5 (by decide) ?_
  refine r_callV (ci := 8) X rfl (c_X9_numberOf _ E _ n (Y + 1) (F 2) (F 3) (v 2) (v 3) (v 4) (v 5) (v 6) i 0 bta hi (by decide)) tw_297 tw_298 tw_299 tw_2 tw_300 rfl rfl bta.1 rfl ⟨ok_X9_numberOf, ⟨Nat.le_of_ble_eq_true rfl, Nat.le_of_ble_eq_true rfl⟩, ⟨Nat.le_of_ble_eq_true rfl, Nat.le_of_ble_eq_true rfl⟩, Nat.le_of_ble_eq_true rfl⟩ dX10_doClause_6 (kk_r (Wf := Wg K E _ _ _ _) ?_)
  refine r_istore_n X dX10_doClause_9 (Nat.le_of_ble_eq_true rfl) ?_
  try dsimp only [List.set]
  refine r_aload_n X dX10_doClause_10 rfl ?_
  refine r_get (ci := 9) X 0 _ ti_RX10 rfl (by decide) tw_139 (fun _ h => h) dX10_doClause_11 (by first | exact b0 | exact bnow.c0 | exact bnow.rl.1 | exact bnow.c4 | exact bta.1 | exact b4 | exact btold.1 | exact btrial.1 | exact bpast.c0 | exact bk | exact bz | exact bsi.c0 | assumption) rfl ?_
  refine r_iload_n X dX10_doClause_14 rfl ?_
  refine r_callV (ci := 8) X rfl (c_X9_wordOf _ E _ n (Y + 1) (F 2) (F 3) (v 2) (v 3) (v 4) (v 5) (v 6) i bta hi) tw_301 tw_302 tw_303 tw_2 tw_304 rfl rfl bta.1 rfl ⟨ok_X9_wordOf, ⟨Nat.le_of_ble_eq_true rfl, Nat.le_of_ble_eq_true rfl⟩, ⟨Nat.le_of_ble_eq_true rfl, Nat.le_of_ble_eq_true rfl⟩, Nat.le_of_ble_eq_true rfl⟩ dX10_doClause_15 (kk_r (Wf := Wg K E _ _ _ _) ?_)
  refine r_tableIn (off := 84) X 102 dX10_doClause_18 (by rw [hw]; decide) (by rw [hw]; decide) (by rw [hw]; rfl) (by decide) ?_
  refine r_aload_n X dX10_doClause_102 rfl ?_
  refine r_get (ci := 9) X 2 _ ti_RX10 rfl (by decide) tw_141 (fun _ h => h) dX10_doClause_103 (by first | exact b0 | exact bnow.c0 | exact bnow.rl.1 | exact bnow.c4 | exact bta.1 | exact b4 | exact btold.1 | exact btrial.1 | exact bpast.c0 | exact bk | exact bz | exact bsi.c0 | assumption) rfl ?_
  refine r_callV (ci := 6) X rfl (c_X7_clear _ E _ n (Y + 5) (F 6) (F 7) btold) tw_305 tw_306 tw_307 tw_3 tw_308 rfl rfl btold.1 rfl ⟨ok_X7_clear, ⟨Nat.le_of_ble_eq_true rfl, Nat.le_of_ble_eq_true rfl⟩, ⟨Nat.le_of_ble_eq_true rfl, Nat.le_of_ble_eq_true rfl⟩, Nat.le_of_ble_eq_true rfl⟩ dX10_doClause_106 (kk_v (Wf := Wg K E _ _ _ _) ?_)
  refine r_heap (u_told _ _) ?_
  refine r_goto X 125 dX10_doClause_109 (by decide) ?_
  refine r_vret S dX10_doClause_125 ?_
  exact ⟨rfl, rfl, rfl⟩

set_option maxHeartbeats 4000000 in
set_option maxRecDepth 100000 in
/-- BanisterWord.doClause  -/
theorem c_X10_doClause_p (l : Launch) (E : xE) (g : hG) (n : Nat) (Y : Nat) (v : Nat → Nat) (F : Nat → Nat → Nat) (P SP : Nat → Option Nat) (N : Mo) (Mp Kp : Nat → Mo) (i : Nat) (hi : i < 14) (hw : F 3 (i * 5) ≤ 3) (h1 : v 1 < 6) (hn : Y + 85 ≤ n) : Ct l yX10_doClause cX10_doClause 3 none 6 154 1 1 E [.ref Y, .int (nI i)] (bG E g Y v F P SP N Mp Kp) n (zr (none) (bG E (hu g n (oc (ckN (F 3 (i * 5))) [.int (nI (F 3 (i * 5 + 1 + 0)))])) Y (va_up v 1 (v 1 + 1)) F (va_up P (v 1) (some n)) SP N Mp Kp) (n + 1)) := by
  refine Ct.of (by decide +kernel) (Nat.le_of_ble_eq_true rfl) (fun v hv => by simp only [List.mem_cons, List.not_mem_nil, or_false] at hv; (try rcases hv with rfl | rfl) <;> first | rfl | (subst hv; rfl) | exact hv.elim) ?_
  intro K hKl S
  subst hKl
  have X := S.1
  refine r_aload_n X dX10_doClause_0 rfl ?_
  refine r_get (ci := 9) X 0 _ ti_RX10 rfl (by decide) tw_139 (fun _ h => h) dX10_doClause_1 (by first | exact b0 | exact bnow.c0 | exact bnow.rl.1 | exact bnow.c4 | exact bta.1 | exact b4 | exact btold.1 | exact btrial.1 | exact bpast.c0 | exact bk | exact bz | exact bsi.c0 | assumption) rfl ?_
  refine r_iload_n X dX10_doClause_4 rfl ?_
  refine r_iconst (v := nI 0) X dX10_doClause_5 (by decide) ?_
  refine r_callV (ci := 8) X rfl (c_X9_numberOf _ E _ n (Y + 1) (F 2) (F 3) (v 2) (v 3) (v 4) (v 5) (v 6) i 0 bta hi (by decide)) tw_297 tw_298 tw_299 tw_2 tw_300 rfl rfl bta.1 rfl ⟨ok_X9_numberOf, ⟨Nat.le_of_ble_eq_true rfl, Nat.le_of_ble_eq_true rfl⟩, ⟨Nat.le_of_ble_eq_true rfl, Nat.le_of_ble_eq_true rfl⟩, Nat.le_of_ble_eq_true rfl⟩ dX10_doClause_6 (kk_r (Wf := Wg K E _ _ _ _) ?_)
  refine r_istore_n X dX10_doClause_9 (Nat.le_of_ble_eq_true rfl) ?_
  try dsimp only [List.set]
  refine r_aload_n X dX10_doClause_10 rfl ?_
  refine r_get (ci := 9) X 0 _ ti_RX10 rfl (by decide) tw_139 (fun _ h => h) dX10_doClause_11 (by first | exact b0 | exact bnow.c0 | exact bnow.rl.1 | exact bnow.c4 | exact bta.1 | exact b4 | exact btold.1 | exact btrial.1 | exact bpast.c0 | exact bk | exact bz | exact bsi.c0 | assumption) rfl ?_
  refine r_iload_n X dX10_doClause_14 rfl ?_
  refine r_callV (ci := 8) X rfl (c_X9_wordOf _ E _ n (Y + 1) (F 2) (F 3) (v 2) (v 3) (v 4) (v 5) (v 6) i bta hi) tw_301 tw_302 tw_303 tw_2 tw_304 rfl rfl bta.1 rfl ⟨ok_X9_wordOf, ⟨Nat.le_of_ble_eq_true rfl, Nat.le_of_ble_eq_true rfl⟩, ⟨Nat.le_of_ble_eq_true rfl, Nat.le_of_ble_eq_true rfl⟩, Nat.le_of_ble_eq_true rfl⟩ dX10_doClause_15 (kk_r (Wf := Wg K E _ _ _ _) ?_)
  refine r_tableOut X 112 dX10_doClause_18 (Or.inl (by rw [nI_toInt (by omega)]; omega)) (by decide) ?_
  refine r_aload_n X dX10_doClause_112 rfl ?_
  refine r_aload_n X dX10_doClause_113 rfl ?_
  refine r_get (ci := 9) X 0 _ ti_RX10 rfl (by decide) tw_139 (fun _ h => h) dX10_doClause_114 (by first | exact b0 | exact bnow.c0 | exact bnow.rl.1 | exact bnow.c4 | exact bta.1 | exact b4 | exact btold.1 | exact btrial.1 | exact bpast.c0 | exact bk | exact bz | exact bsi.c0 | assumption) rfl ?_
  refine r_iload_n X dX10_doClause_117 rfl ?_
  refine r_callV (ci := 8) X rfl (c_X9_wordOf _ E _ n (Y + 1) (F 2) (F 3) (v 2) (v 3) (v 4) (v 5) (v 6) i bta hi) tw_301 tw_302 tw_303 tw_2 tw_304 rfl rfl bta.1 rfl ⟨ok_X9_wordOf, ⟨Nat.le_of_ble_eq_true rfl, Nat.le_of_ble_eq_true rfl⟩, ⟨Nat.le_of_ble_eq_true rfl, Nat.le_of_ble_eq_true rfl⟩, Nat.le_of_ble_eq_true rfl⟩ dX10_doClause_118 (kk_r (Wf := Wg K E _ _ _ _) ?_)
  refine r_iload_n X dX10_doClause_121 rfl ?_
  refine r_callV (ci := 9) X rfl (c_X10_addPerson _ E g n Y v F P SP N Mp Kp _ _ hw h1 hn) tw_320 tw_322 tp_9 tw_1 tw_323 rfl rfl (by first | exact b0 | exact bnow.c0 | exact bnow.rl.1 | exact bnow.c4 | exact bta.1 | exact b4 | exact btold.1 | exact btrial.1 | exact bpast.c0 | exact bk | exact bz | exact bsi.c0 | assumption) rfl ⟨ok_X10_addPerson, ⟨Nat.le_of_ble_eq_true rfl, Nat.le_of_ble_eq_true rfl⟩, ⟨Nat.le_of_ble_eq_true rfl, Nat.le_of_ble_eq_true rfl⟩, Nat.le_of_ble_eq_true rfl⟩ dX10_doClause_122 (kk_v (Wf := Wg K E _ _ _ _) ?_)
  refine r_vret S dX10_doClause_125 ?_
  exact ⟨rfl, rfl, rfl⟩

set_option maxHeartbeats 4000000 in
set_option maxRecDepth 100000 in
/-- BanisterWord.beginAsTold  -/
theorem c_X10_beginAsTold (l : Launch) (E : xE) (g : hG) (n : Nat) (Y : Nat) (v : Nat → Nat) (F : Nat → Nat → Nat) (P SP : Nat → Option Nat) (N : Mo) (Mp Kp : Nat → Mo)   : Ct l yX10_beginAsTold cX10_beginAsTold 2 none 3 91 0 0 E [.ref Y] (bG E g Y v F P SP N Mp Kp) n (zr (none) (bG E g Y (va_up (va_up v 9 0) 8 0) (va_up F 59 (fun _ => 0)) P SP (F 6, F 7, fun _ => 0, 0) Mp Kp) (n)) := by
  refine Ct.of (by decide +kernel) (Nat.le_of_ble_eq_true rfl) (fun v hv => by simp only [List.mem_cons, List.not_mem_nil, or_false] at hv; (try rcases hv with rfl) <;> first | rfl | (subst hv; rfl) | exact hv.elim) ?_
  intro K hKl S
  subst hKl
  have X := S.1
  refine r_aload_n X dX10_beginAsTold_0 rfl ?_
  refine r_get (ci := 9) X 4 _ ti_RX10 rfl (by decide) tw_143 (fun _ h => h) dX10_beginAsTold_1 (by first | exact b0 | exact bnow.c0 | exact bnow.rl.1 | exact bnow.c4 | exact bta.1 | exact b4 | exact btold.1 | exact btrial.1 | exact bpast.c0 | exact bk | exact bz | exact bsi.c0 | assumption) rfl ?_
  refine r_aload_n X dX10_beginAsTold_4 rfl ?_
  refine r_get (ci := 9) X 2 _ ti_RX10 rfl (by decide) tw_141 (fun _ h => h) dX10_beginAsTold_5 (by first | exact b0 | exact bnow.c0 | exact bnow.rl.1 | exact bnow.c4 | exact bta.1 | exact b4 | exact btold.1 | exact btrial.1 | exact bpast.c0 | exact bk | exact bz | exact bsi.c0 | assumption) rfl ?_
  refine r_callV (ci := 4) X rfl (c_X4_begin _ E _ n (Y + 11) (Y + 5) N (F 6) (F 7) bnow btold (by omega)) tw_375 tw_376 tw_377 tw_4 tw_378 rfl rfl bnow.c0 rfl ⟨ok_X4_begin, ⟨Nat.le_of_ble_eq_true rfl, Nat.le_of_ble_eq_true rfl⟩, ⟨Nat.le_of_ble_eq_true rfl, Nat.le_of_ble_eq_true rfl⟩, Nat.le_of_ble_eq_true rfl⟩ dX10_beginAsTold_8 (kk_v (Wf := Wg K E _ _ _ _) ?_)
  refine r_heap (u_now _) ?_
  refine r_aload_n X dX10_beginAsTold_11 rfl ?_
  refine r_get (ci := 9) X 8 _ ti_RX10 rfl (by decide) tw_147 (fun _ h => h) dX10_beginAsTold_12 (by first | exact b0 | exact bnow.c0 | exact bnow.rl.1 | exact bnow.c4 | exact bta.1 | exact b4 | exact btold.1 | exact btrial.1 | exact bpast.c0 | exact bk | exact bz | exact bsi.c0 | assumption) rfl ?_
  refine r_iconst (v := nI 0) X dX10_beginAsTold_15 (by decide) ?_
  refine r_put (ci := 7) (ty := .int) X 4 ti_RX8 tyX8 tyX8_ok nmX8 rfl (by decide) tw_126 (fun _ h => h) rfl (by decide +kernel) dX10_beginAsTold_16 (by first | exact b0 | exact bnow.c0 | exact bnow.rl.1 | exact bnow.c4 | exact bta.1 | exact b4 | exact btold.1 | exact btrial.1 | exact bpast.c0 | exact bk | exact bz | exact bsi.c0 | assumption) rfl rfl (Nat.le_of_ble_eq_true rfl) ?_
  try dsimp only [List.set]
  refine r_heap (u_sih _) ?_
  refine r_aload_n X dX10_beginAsTold_19 rfl ?_
  refine r_get (ci := 9) X 5 _ ti_RX10 rfl (by decide) tw_144 (fun _ h => h) dX10_beginAsTold_20 (by first | exact b0 | exact bnow.c0 | exact bnow.rl.1 | exact bnow.c4 | exact bta.1 | exact b4 | exact btold.1 | exact btrial.1 | exact bpast.c0 | exact bk | exact bz | exact bsi.c0 | assumption) rfl ?_
  refine r_iconst (v := nI 0) X dX10_beginAsTold_23 (by decide) ?_
  refine r_put (ci := 5) (ty := .int) X 2 ti_RX5 tyX5 tyX5_ok nmX5 rfl (by decide) tw_106 (fun _ h => h) rfl (by decide +kernel) dX10_beginAsTold_24 (by first | exact b0 | exact bnow.c0 | exact bnow.rl.1 | exact bnow.c4 | exact bta.1 | exact b4 | exact btold.1 | exact btrial.1 | exact bpast.c0 | exact bk | exact bz | exact bsi.c0 | assumption) rfl rfl (Nat.le_of_ble_eq_true rfl) ?_
  try dsimp only [List.set]
  refine r_heap (u_pasth _ _) ?_
  refine r_iconst (v := nI 0) X dX10_beginAsTold_27 (by decide) ?_
  refine r_istore_n X dX10_beginAsTold_28 (Nat.le_of_ble_eq_true rfl) ?_
  try dsimp only [List.set]
  have hloop : ∀ (k : Nat), k ≤ 2 → Wg K E (0) (0) 29 [some (.ref Y), some (.int (nI k))] [] (bG E g Y (va_up (va_up v 9 0) 8 0) (va_up F 59 (fun i => if i < k then 0 else F 59 i)) P SP (F 6, F 7, fun _ => 0, 0) Mp Kp) (n) := by
    refine ind_up _ (2) (fun k hk ih => ?_)
    refine r_iload_n X dX10_beginAsTold_29 rfl ?_
    refine r_iconst (v := nI 2) X dX10_beginAsTold_30 (by decide) ?_
    refine r_icmp_geN X 47 dX10_beginAsTold_31 (by decide) (by omega) (by omega) (fun c_31 => ?_) (fun c_31 => ?_)
    · skip
      refine r_vret S dX10_beginAsTold_47 ?_
      obtain rfl : k = 2 := by omega
      refine ⟨rfl, ?_, rfl⟩
      refine blk_congr (fun j hj => ?_)
      unfold bwCell
      (repeat' split) <;> first | rfl | (exact zc_congr (fun i hi => by simp [va_up, hi]))
    · skip
      refine r_aload_n X dX10_beginAsTold_34 rfl ?_
      refine r_get (ci := 9) X 7 _ ti_RX10 rfl (by decide) tw_146 (fun _ h => h) dX10_beginAsTold_35 (by first | exact b0 | exact bnow.c0 | exact bnow.rl.1 | exact bnow.c4 | exact bta.1 | exact b4 | exact btold.1 | exact btrial.1 | exact bpast.c0 | exact bk | exact bz | exact bsi.c0 | assumption) rfl ?_
      refine r_iload_n X dX10_beginAsTold_38 rfl ?_
      refine r_iconst (v := nI 0) X dX10_beginAsTold_39 (by decide) ?_
      refine r_zast X _ dX10_beginAsTold_40 (by first | exact b0 | exact bnow.c0 | exact bnow.rl.1 | exact bnow.c4 | exact bta.1 | exact b4 | exact btold.1 | exact btrial.1 | exact bpast.c0 | exact bk | exact bz | exact bsi.c0 | assumption) (rfl) (by omega) (by decide) (by decide) ?_
      refine r_heap ((congrArg (fun e => hu _ _ e) (show zc E 2 (upd (fun i => nI ((va_up F 59 (fun i => if i < k then 0 else F 59 i)) 59 i)) k (nI 0)) = zc E 2 (fun i => nI (if i < k + 1 then 0 else F 59 i)) from zc_congr (fun i _ => by by_cases e : i = k <;> by_cases e2 : i < k <;> simp [upd, va_up, e, e2] <;> (have : i < k + 1 ↔ i < k := by omega) <;> simp [this, e2]))).trans (u_z _)) ?_
      first | refine r_iincN X dX10_beginAsTold_41 rfl ?_ | refine r_iinc X _ dX10_beginAsTold_41 rfl rfl ?_
      try dsimp only [List.set]
      refine r_goto X 29 dX10_beginAsTold_44 (by decide) ?_
      refine r_heap ?_ (ih (by omega))
      congr 1
      funext j; simp only [va_up]; (repeat' split) <;> first | rfl | omega
  refine r_heap ?_ (hloop 0 (Nat.zero_le _))
  rw [show va_up F 59 (fun i => if i < 0 then 0 else F 59 i) = F from by funext j i; simp only [va_up]; (repeat' split) <;> first | rfl | omega | (subst_vars; rfl)]
  congr 1
  funext j; simp only [va_up]; (repeat' split) <;> first | rfl | omega | (subst_vars; rfl)

