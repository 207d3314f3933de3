theorem sw_out {x : Int32} {n : Nat} (h : inR x (n + 1) = false) : x.toInt < 0 ∨ (n : Int) < x.toInt := by
  have := of_decide_eq_false h
  omega
theorem inR_ne {x : Int32} {j n : Nat} (h : inR x n = false) (hj : j < n) (hn : n < 2 ^ 31) : ¬ x = nI j := fun e => by
  rw [e, inR_nI hj hn] at h
  cases h
theorem sw_lk {x : Int32} {a b d : Int} (h : inR x 2 = false) : Op.lookupswitch.offset [((0 : Int), a), ((1 : Int), b)] d x.toInt = d := (lv_osw (k := nI 0) (inR_ne h (by decide) (by decide)) (by decide)).trans ((lv_osw (k := nI 1) (inR_ne h (by decide) (by decide)) (by decide)).trans rfl)
theorem ix_0 : ix (nI 0) = 0 := rfl
theorem ix_1 : ix (nI 1) = 1 := rfl
theorem ix_2 : ix (nI 2) = 2 := rfl
/-- answers -/
def noneI (t : Nat) : Int32 := if t = 0 then -1 else nI t
def personR (pn : Nat) (kd wm kn : Nat → Nat) (a b : Int32) : Int32 := if inR a pn = true then (if inR b 3 = true then nI (if ix b = 0 then kd (ix a) else if ix b = 1 then wm (ix a) else kn (ix a)) else -3) else -2
def railR (s : Nat) (f h : Nat → Nat) (a b c : Int32) : Int32 := if inR a s = true ∧ inR b 2 = true then (if inR c 2 = true then (if ix c = 0 then noneI (f (ix a * 2 + ix b)) else nI (h (ix a * 2 + ix b))) else -3) else -2
def asR (pn : Nat) (cl wm : Nat → Nat) (a b : Int32) : Int32 := if inR a pn = true then (if inR b 5 = true then (if okK (cl (ix a)) (ix b) = true then nI (firmN (cl (ix a)) (wm (ix a))) else -4) else -3) else -2
def hearsR (s pn : Nat) (cl : Nat → Nat) (f : Nat → Nat) (a b : Int32) : Int32 := if inR a pn = true ∧ inR b s = true then nI (hearN (cl (ix a)) f (ix b + 1)) else -2
def lastsR (f h : Nat → Nat) (a : Int32) : Int32 := if sayB a = true then nI (max (fmx f h (ix a) 0 12) (fmx f h (ix a) 1 12)) else -2
def covF (cl wm : Nat → Nat) (ht fm : Nat) : Nat → Nat
  | 0 => 0
  | k + 1 => covF cl wm ht fm k ||| (if handN (cl k) = ht ∧ fm ≤ firmN (cl k) (wm k) then 2 ^ k else 0)
theorem covF_lt (cl wm : Nat → Nat) (ht fm : Nat) : ∀ k, k ≤ 6 → covF cl wm ht fm k < 256
  | 0, _ => (by decide : 0 < 256)
  | k + 1, h => or_lt (covF_lt cl wm ht fm k (by omega)) (by
    split
    · have : 2 ^ k ≤ 2 ^ 5 := Nat.pow_le_pow_right (by decide) (by omega)
      omega
    · decide)
def coverR (s pn : Nat) (cl wm f h : Nat → Nat) (a b : Int32) : Int32 := if inR a s = true ∧ inR b 2 = true then (if f (ix a * 2 + ix b) = 0 then nI 0 else nI (covF cl wm (ix b) (h (ix a * 2 + ix b)) pn)) else -2
def countR (s pn dy : Nat) (f h kn : Nat → Nat) (sn un ln : Nat) (a : Int32) : Int32 := if inR a 10 = true then nI (if ix a = 0 then s else if ix a = 1 then pn else if ix a = 2 then dy else if ix a = 3 then cntF f 24 else if ix a = 4 then sumF h 24 else if ix a = 5 then orN kn 6 else if ix a = 6 then orF f 24 else if ix a = 7 then sn else if ix a = 8 then un else ln) else -3

theorem gt4_out {y : Int32} (h : ¬ y ≤ nI 4) : inR y 5 = false := inR_ge (by decide) (by
  have := Int32.not_le.mp h
  have h1 := Int32.lt_iff_toInt_lt.mp this
  rw [show (nI 4).toInt = 4 from by decide] at h1
  exact Int32.le_iff_toInt_le.mpr (by rw [show (nI 5).toInt = 5 from by decide]; omega))
theorem le4_in {y : Int32} (h0 : ¬ y < 0) (h : y ≤ nI 4) : inR y 5 = true := inR_in (by decide) h0 (fun q => by
  have h1 := Int32.le_iff_toInt_le.mp h
  have h2 := Int32.le_iff_toInt_le.mp q
  rw [show (nI 4).toInt = 4 from by decide] at h1
  rw [show (nI 5).toInt = 5 from by decide] at h2
  omega)

set_option maxHeartbeats 4000000 in
set_option maxRecDepth 100000 in
/-- BanisterWord.person  -/
theorem c_X10_person (l : Launch) (E : xE) (g : hG) (n : Nat) (Y : Nat) (v : Nat → Nat) (F : Nat → Nat → Nat) (P SP : Nat → Option Nat) (N : Mo) (Mp Kp : Nat → Mo) (pad cl wm : Nat → Nat) (x y : Int32) (hP : pOk g Y P (v 1) pad cl wm) (h1 : v 1 ≤ 6) : Ct l yX10_person cX10_person 4 (some .int) 1 21 0 0 E [.ref Y, .int x, .int y] (bG E g Y v F P SP N Mp Kp) n (zr (some (.int (personR (v 1) (fun i => kindN (cl i)) wm N.2.2.1 x y))) (bG E g Y v F P SP N Mp Kp) (n)) := by
  refine Ct.of (by decide +kernel) (Nat.le_of_ble_eq_true rfl) (fun v hv => by simp only [List.mem_cons, List.not_mem_nil, or_false] at hv; (try rcases hv with rfl | rfl | rfl) <;> first | rfl | (subst hv; rfl) | exact hv.elim) ?_
  intro K hKl S
  subst hKl
  have X := S.1
  refine r_aload_n X dX10_person_0 rfl ?_
  refine r_iload_n X dX10_person_1 rfl ?_
  rcases hpx : inR x (v 1)
  · skip
    refine r_callV (ci := 9) X rfl (c_X10_personAt_f _ E g n Y v F P SP N Mp Kp x hpx (by omega)) tw_390 tw_392 tp_11 tw_1 tw_393 rfl rfl (by first | exact b0 | exact bnow.c0 | exact bnow.rl.1 | exact bnow.c4 | exact bta.1 | exact b4 | exact btold.1 | exact btrial.1 | exact bpast.c0 | exact bk | exact bz | exact bsi.c0 | assumption) rfl ⟨ok_X10_personAt, ⟨Nat.le_of_ble_eq_true rfl, Nat.le_of_ble_eq_true rfl⟩, ⟨Nat.le_of_ble_eq_true rfl, Nat.le_of_ble_eq_true rfl⟩, Nat.le_of_ble_eq_true rfl⟩ dX10_person_2 (kk_r (Wf := Wg K E _ _ _ _) ?_)
    refine r_astore_nN X dX10_person_5 (Nat.le_of_ble_eq_true rfl) ?_
    try dsimp only [List.set]
    refine r_aload_nN X dX10_person_6 rfl ?_
    refine r_ifnonnullN X dX10_person_7 ?_
    refine r_bipush (v := (-2)) X dX10_person_10 (by decide) ?_
    refine r_iret S dX10_person_12 ?_
    exact ⟨by simp [personR, hpx], rfl, rfl⟩
  · skip
    obtain ⟨i, hi, rfl⟩ := inR_ex (by omega) hpx
    have hix : ix (nI i) = i := ix_nI (by omega)
    refine r_callV (ci := 9) X rfl (c_X10_personAt_t _ E g n Y v F P SP N Mp Kp pad cl wm i hP hi (by omega)) tw_390 tw_392 tp_11 tw_1 tw_393 rfl rfl (by first | exact b0 | exact bnow.c0 | exact bnow.rl.1 | exact bnow.c4 | exact bta.1 | exact b4 | exact btold.1 | exact btrial.1 | exact bpast.c0 | exact bk | exact bz | exact bsi.c0 | assumption) rfl ⟨ok_X10_personAt, ⟨Nat.le_of_ble_eq_true rfl, Nat.le_of_ble_eq_true rfl⟩, ⟨Nat.le_of_ble_eq_true rfl, Nat.le_of_ble_eq_true rfl⟩, Nat.le_of_ble_eq_true rfl⟩ dX10_person_2 (kk_r (Wf := Wg K E _ _ _ _) ?_)
    refine r_astore_n X dX10_person_5 (Nat.le_of_ble_eq_true rfl) ?_
    try dsimp only [List.set]
    refine r_aload_n X dX10_person_6 rfl ?_
    refine r_ifnonnull X 13 dX10_person_7 (by decide) ?_
    refine r_iload_n X dX10_person_13 rfl ?_
    cases hsw_14 : inR y 3
    · skip
      refine r_tableOut X 60 dX10_person_14 (sw_out hsw_14) (by decide) ?_
      refine r_bipush (v := (-3)) X dX10_person_60 (by decide) ?_
      refine r_iret S dX10_person_62 ?_
      exact ⟨by simp [personR, hpx, hsw_14], rfl, rfl⟩
    · skip
      obtain ⟨j_14, hj_14, rfl⟩ := inR_ex (by decide) hsw_14
      rcases (show j_14 = 0 ∨ j_14 = 1 ∨ j_14 = 2 by omega) with rfl | rfl | rfl
      · skip
        refine r_tableIn (off := 26) X 40 dX10_person_14 (by decide) (by decide) rfl (by decide) ?_
        refine r_aload_n X dX10_person_40 rfl ?_
        refine vc_RX10_kindNumber X rfl (hP.c hi) (hP.w hi) (hP.b hi) ⟨Nat.le_of_ble_eq_true rfl, Nat.le_of_ble_eq_true rfl⟩ ⟨⟨Nat.le_of_ble_eq_true rfl, Nat.le_of_ble_eq_true rfl⟩, Nat.le_of_ble_eq_true rfl⟩ dX10_person_41 ?_
        refine r_iret S dX10_person_44 ?_
        exact ⟨by simp [personR, hpx, hix, hsw_14, ix_0], rfl, rfl⟩
      · skip
        refine r_tableIn (off := 31) X 45 dX10_person_14 (by decide) (by decide) rfl (by decide) ?_
        refine r_aload_n X dX10_person_45 rfl ?_
        rcases (show cl i = 0 ∨ cl i = 1 ∨ cl i = 2 ∨ cl i = 3 by have := hP.c hi; omega) with hc | hc | hc | hc
        · refine r_get (ci := 0) X 0 _ ti_RX0 rfl (by decide) tw_343 (fun _ h => h) dX10_person_46 ((hP.b hi).trans (by rw [hc])) rfl ?_
          refine r_iret S dX10_person_49 ?_
          exact ⟨by simp [personR, hpx, hix, hsw_14, ix_1], rfl, rfl⟩
        · refine r_get (ci := 1) X 0 _ ti_RX1 rfl (by decide) tw_343 (fun _ h => h) dX10_person_46 ((hP.b hi).trans (by rw [hc])) rfl ?_
          refine r_iret S dX10_person_49 ?_
          exact ⟨by simp [personR, hpx, hix, hsw_14, ix_1], rfl, rfl⟩
        · refine r_get (ci := 2) X 0 _ ti_RX2 rfl (by decide) tw_343 (fun _ h => h) dX10_person_46 ((hP.b hi).trans (by rw [hc])) rfl ?_
          refine r_iret S dX10_person_49 ?_
          exact ⟨by simp [personR, hpx, hix, hsw_14, ix_1], rfl, rfl⟩
        · refine r_get (ci := 3) X 0 _ ti_RX3 rfl (by decide) tw_343 (fun _ h => h) dX10_person_46 ((hP.b hi).trans (by rw [hc])) rfl ?_
          refine r_iret S dX10_person_49 ?_
          exact ⟨by simp [personR, hpx, hix, hsw_14, ix_1], rfl, rfl⟩
      · skip
        refine r_tableIn (off := 36) X 50 dX10_person_14 (by decide) (by decide) rfl (by decide) ?_
        refine r_aload_n X dX10_person_50 rfl ?_
        refine r_get (ci := 9) X 4 _ ti_RX10 rfl (by decide) tw_143 (fun _ h => h) dX10_person_51 (by first | exact b0 | exact bnow.c0 | exact bnow.rl.1 | exact bnow.c4 | exact bta.1 | exact b4 | exact btold.1 | exact btrial.1 | exact bpast.c0 | exact bk | exact bz | exact bsi.c0 | assumption) rfl ?_
        refine r_get (ci := 4) X 1 _ ti_RX4 rfl (by decide) tw_84 (fun _ h => h) dX10_person_54 (by first | exact b0 | exact bnow.c0 | exact bnow.rl.1 | exact bnow.c4 | exact bta.1 | exact b4 | exact btold.1 | exact btrial.1 | exact bpast.c0 | exact bk | exact bz | exact bsi.c0 | assumption) rfl ?_
        refine r_iload_n X dX10_person_57 rfl ?_
        refine r_nald X _ dX10_person_58 (by first | exact b0 | exact bnow.c0 | exact bnow.rl.1 | exact bnow.c4 | exact bta.1 | exact b4 | exact btold.1 | exact btrial.1 | exact bpast.c0 | exact bk | exact bz | exact bsi.c0 | assumption) (rfl) (by omega) (by decide) ?_
        refine r_iret S dX10_person_59 ?_
        exact ⟨by simp [personR, hpx, hix, hsw_14, ix_2], rfl, rfl⟩

set_option maxHeartbeats 4000000 in
set_option maxRecDepth 100000 in
/-- BanisterWord.rail  -/
theorem c_X10_rail (l : Launch) (E : xE) (g : hG) (n : Nat) (Y : Nat) (v : Nat → Nat) (F : Nat → Nat → Nat) (P SP : Nat → Option Nat) (N : Mo) (Mp Kp : Nat → Mo) (x y z : Int32) (h0 : v 0 ≤ 12) (hN : ∀ j, N.1 j ≤ 7) : Ct l yX10_rail cX10_rail 4 (some .int) 3 66 0 0 E [.ref Y, .int x, .int y, .int z] (bG E g Y v F P SP N Mp Kp) n (zr (some (.int (railR (v 0) N.1 N.2.1 x y z))) (bG E g Y v F P SP N Mp Kp) (n)) := by
  refine Ct.of (by decide +kernel) (Nat.le_of_ble_eq_true rfl) (fun v hv => by simp only [List.mem_cons, List.not_mem_nil, or_false] at hv; (try rcases hv with rfl | rfl | rfl | rfl) <;> first | rfl | (subst hv; rfl) | exact hv.elim) ?_
  intro K hKl S
  subst hKl
  have X := S.1
  refine r_aload_n X dX10_rail_0 rfl ?_
  refine r_iload_n X dX10_rail_1 rfl ?_
  refine r_callV (ci := 9) X rfl (c_X10_isStep _ E g n Y v F P SP N Mp Kp x h0) tw_413 tw_415 tp_12 tw_1 tw_416 rfl rfl (by first | exact b0 | exact bnow.c0 | exact bnow.rl.1 | exact bnow.c4 | exact bta.1 | exact b4 | exact btold.1 | exact btrial.1 | exact bpast.c0 | exact bk | exact bz | exact bsi.c0 | assumption) rfl ⟨ok_X10_isStep, ⟨Nat.le_of_ble_eq_true rfl, Nat.le_of_ble_eq_true rfl⟩, ⟨Nat.le_of_ble_eq_true rfl, Nat.le_of_ble_eq_true rfl⟩, Nat.le_of_ble_eq_true rfl⟩ dX10_rail_2 (kk_r (Wf := Wg K E _ _ _ _) ?_)
  refine r_if_eqB X 15 dX10_rail_5 (by decide) (fun c_5 => ?_) (fun c_5 => ?_)
  · skip
    refine r_bipush (v := (-2)) X dX10_rail_15 (by decide) ?_
    refine r_iret S dX10_rail_17 ?_
    exact ⟨by unfold railR; rw [if_neg (by simp [*])], rfl, rfl⟩
  · skip
    refine r_iload_n X dX10_rail_8 rfl ?_
    refine r_callS X rfl (c_X10_isHeight _ E _ n y) tw_417 tw_418 tw_1 tw_419 rfl ⟨ok_X10_isHeight, ⟨Nat.le_of_ble_eq_true rfl, Nat.le_of_ble_eq_true rfl⟩, ⟨Nat.le_of_ble_eq_true rfl, Nat.le_of_ble_eq_true rfl⟩, Nat.le_of_ble_eq_true rfl⟩ dX10_rail_9 (kk_r (Wf := Wg K E _ _ _ _) ?_)
    refine r_if_neB X 18 dX10_rail_12 (by decide) (fun c_12 => ?_) (fun c_12 => ?_)
    · skip
      obtain ⟨s, hs, rfl⟩ := inR_ex (by omega) c_5
      obtain ⟨t, ht, rfl⟩ := inR_ex (by decide) c_12
      have h1x : ix (nI s) = s := ix_nI (by omega)
      have h2x : ix (nI t) = t := ix_nI (by omega)
      refine r_iload_n X dX10_rail_18 rfl ?_
      cases hsw_19 : inR z 2
      · skip
        refine r_lookup (off := 45) X 64 dX10_rail_19 (by decide) (sw_lk hsw_19) (by decide) ?_
        refine r_bipush (v := (-3)) X dX10_rail_64 (by decide) ?_
        refine r_iret S dX10_rail_66 ?_
        exact ⟨by simp [railR, c_5, c_12, hsw_19], rfl, rfl⟩
      · skip
        obtain ⟨j_19, hj_19, rfl⟩ := inR_ex (by decide) hsw_19
        rcases (show j_19 = 0 ∨ j_19 = 1 by omega) with rfl | rfl
        · skip
          refine r_lookup (off := 25) X 44 dX10_rail_19 (by decide) (by decide) (by decide) ?_
          refine r_aload_n X dX10_rail_44 rfl ?_
          refine r_iload_n X dX10_rail_45 rfl ?_
          refine r_iload_n X dX10_rail_46 rfl ?_
          refine r_callV (ci := 9) X rfl (c_X10_sayingOrNone _ E g n Y v F P SP N Mp Kp s t (by omega) hN) tw_420 tw_422 tp_13 tw_1 tw_423 rfl rfl (by first | exact b0 | exact bnow.c0 | exact bnow.rl.1 | exact bnow.c4 | exact bta.1 | exact b4 | exact btold.1 | exact btrial.1 | exact bpast.c0 | exact bk | exact bz | exact bsi.c0 | assumption) rfl ⟨ok_X10_sayingOrNone, ⟨Nat.le_of_ble_eq_true rfl, Nat.le_of_ble_eq_true rfl⟩, ⟨Nat.le_of_ble_eq_true rfl, Nat.le_of_ble_eq_true rfl⟩, Nat.le_of_ble_eq_true rfl⟩ dX10_rail_47 (kk_r (Wf := Wg K E _ _ _ _) ?_)
          refine r_iret S dX10_rail_50 ?_
          exact ⟨by simp [railR, noneI, c_5, c_12, hsw_19, h1x, h2x, ix_0], rfl, rfl⟩
        · skip
          refine r_lookup (off := 32) X 51 dX10_rail_19 (by decide) (by decide) (by decide) ?_
          refine r_aload_n X dX10_rail_51 rfl ?_
          refine r_get (ci := 9) X 4 _ ti_RX10 rfl (by decide) tw_143 (fun _ h => h) dX10_rail_52 (by first | exact b0 | exact bnow.c0 | exact bnow.rl.1 | exact bnow.c4 | exact bta.1 | exact b4 | exact btold.1 | exact btrial.1 | exact bpast.c0 | exact bk | exact bz | exact bsi.c0 | assumption) rfl ?_
          refine r_get (ci := 4) X 0 _ ti_RX4 rfl (by decide) tw_82 (fun _ h => h) dX10_rail_55 (by first | exact b0 | exact bnow.c0 | exact bnow.rl.1 | exact bnow.c4 | exact bta.1 | exact b4 | exact btold.1 | exact btrial.1 | exact bpast.c0 | exact bk | exact bz | exact bsi.c0 | assumption) rfl ?_
          refine r_iload_n X dX10_rail_58 rfl ?_
          refine r_iload_n X dX10_rail_59 rfl ?_
          refine r_callV (ci := 6) X rfl (c_X7_firmAt _ E _ n (Y + 11 + 1) N.1 N.2.1 s t bnow.rl (by omega)) tw_428 tw_429 tw_430 tw_3 tw_431 rfl rfl (by first | exact b0 | exact bnow.c0 | exact bnow.rl.1 | exact bnow.c4 | exact bta.1 | exact b4 | exact btold.1 | exact btrial.1 | exact bpast.c0 | exact bk | exact bz | exact bsi.c0 | assumption) rfl ⟨ok_X7_firmAt, ⟨Nat.le_of_ble_eq_true rfl, Nat.le_of_ble_eq_true rfl⟩, ⟨Nat.le_of_ble_eq_true rfl, Nat.le_of_ble_eq_true rfl⟩, Nat.le_of_ble_eq_true rfl⟩ dX10_rail_60 (kk_r (Wf := Wg K E _ _ _ _) ?_)
          refine r_iret S dX10_rail_63 ?_
          exact ⟨by simp [railR, c_5, c_12, hsw_19, h1x, h2x, ix_1], rfl, rfl⟩
    · skip
      refine r_bipush (v := (-2)) X dX10_rail_15 (by decide) ?_
      refine r_iret S dX10_rail_17 ?_
      exact ⟨by unfold railR; rw [if_neg (by simp [*])], rfl, rfl⟩

set_option maxHeartbeats 4000000 in
set_option maxRecDepth 100000 in
/-- BanisterWord.as  -/
theorem c_X10_as (l : Launch) (E : xE) (g : hG) (n : Nat) (Y : Nat) (v : Nat → Nat) (F : Nat → Nat → Nat) (P SP : Nat → Option Nat) (N : Mo) (Mp Kp : Nat → Mo) (pad cl wm : Nat → Nat) (x y : Int32) (hP : pOk g Y P (v 1) pad cl wm) (h1 : v 1 ≤ 6) : Ct l yX10_as cX10_as 4 (some .int) 1 21 0 0 E [.ref Y, .int x, .int y] (bG E g Y v F P SP N Mp Kp) n (zr (some (.int (asR (v 1) cl wm x y))) (bG E g Y v F P SP N Mp Kp) (n)) := by
  refine Ct.of (by decide +kernel) (Nat.le_of_ble_eq_true rfl) (fun v hv => by simp only [List.mem_cons, List.not_mem_nil, or_false] at hv; (try rcases hv with rfl | rfl | rfl) <;> first | rfl | (subst hv; rfl) | exact hv.elim) ?_
  intro K hKl S
  subst hKl
  have X := S.1
  refine r_aload_n X dX10_as_0 rfl ?_
  refine r_iload_n X dX10_as_1 rfl ?_
  rcases hpx : inR x (v 1)
  · skip
    refine r_callV (ci := 9) X rfl (c_X10_personAt_f _ E g n Y v F P SP N Mp Kp x hpx (by omega)) tw_390 tw_392 tp_11 tw_1 tw_393 rfl rfl (by first | exact b0 | exact bnow.c0 | exact bnow.rl.1 | exact bnow.c4 | exact bta.1 | exact b4 | exact btold.1 | exact btrial.1 | exact bpast.c0 | exact bk | exact bz | exact bsi.c0 | assumption) rfl ⟨ok_X10_personAt, ⟨Nat.le_of_ble_eq_true rfl, Nat.le_of_ble_eq_true rfl⟩, ⟨Nat.le_of_ble_eq_true rfl, Nat.le_of_ble_eq_true rfl⟩, Nat.le_of_ble_eq_true rfl⟩ dX10_as_2 (kk_r (Wf := Wg K E _ _ _ _) ?_)
    refine r_astore_nN X dX10_as_5 (Nat.le_of_ble_eq_true rfl) ?_
    try dsimp only [List.set]
    refine r_aload_nN X dX10_as_6 rfl ?_
    refine r_ifnonnullN X dX10_as_7 ?_
    refine r_bipush (v := (-2)) X dX10_as_10 (by decide) ?_
    refine r_iret S dX10_as_12 ?_
    exact ⟨by simp [asR, hpx], rfl, rfl⟩
  · skip
    obtain ⟨i, hi, rfl⟩ := inR_ex (by omega) hpx
    have hix : ix (nI i) = i := ix_nI (by omega)
    refine r_callV (ci := 9) X rfl (c_X10_personAt_t _ E g n Y v F P SP N Mp Kp pad cl wm i hP hi (by omega)) tw_390 tw_392 tp_11 tw_1 tw_393 rfl rfl (by first | exact b0 | exact bnow.c0 | exact bnow.rl.1 | exact bnow.c4 | exact bta.1 | exact b4 | exact btold.1 | exact btrial.1 | exact bpast.c0 | exact bk | exact bz | exact bsi.c0 | assumption) rfl ⟨ok_X10_personAt, ⟨Nat.le_of_ble_eq_true rfl, Nat.le_of_ble_eq_true rfl⟩, ⟨Nat.le_of_ble_eq_true rfl, Nat.le_of_ble_eq_true rfl⟩, Nat.le_of_ble_eq_true rfl⟩ dX10_as_2 (kk_r (Wf := Wg K E _ _ _ _) ?_)
    refine r_astore_n X dX10_as_5 (Nat.le_of_ble_eq_true rfl) ?_
    try dsimp only [List.set]
    refine r_aload_n X dX10_as_6 rfl ?_
    refine r_ifnonnull X 13 dX10_as_7 (by decide) ?_
    refine r_iload_n X dX10_as_13 rfl ?_
    refine r_if_lt X 22 dX10_as_14 (by decide) (fun c_14 => ?_) (fun c_14 => ?_)
    · skip
      refine r_bipush (v := (-3)) X dX10_as_22 (by decide) ?_
      refine r_iret S dX10_as_24 ?_
      have hy : inR y 5 = false := by first | exact inR_lt c_14 | exact gt4_out c_19
      exact ⟨by simp [asR, hpx, hy], rfl, rfl⟩
    · skip
      refine r_iload_n X dX10_as_17 rfl ?_
      refine r_iconst (v := nI 4) X dX10_as_18 (by decide) ?_
      refine r_icmp_le X 25 dX10_as_19 (by decide) (fun c_19 => ?_) (fun c_19 => ?_)
      · skip
        have hy : inR y 5 = true := le4_in c_14 c_19
        obtain ⟨k, hk, rfl⟩ := inR_ex (by decide) hy
        have hkx : ix (nI k) = k := ix_nI (by omega)
        refine r_aload_n X dX10_as_25 rfl ?_
        refine r_iload_n X dX10_as_26 rfl ?_
        refine r_callS X rfl (c_X10_isOfKind _ E _ n (pad i) (cl i) (wm i) k (hP.c hi) hk (hP.b hi)) tw_436 tw_437 tw_1 tw_438 rfl ⟨ok_X10_isOfKind, ⟨Nat.le_of_ble_eq_true rfl, Nat.le_of_ble_eq_true rfl⟩, ⟨Nat.le_of_ble_eq_true rfl, Nat.le_of_ble_eq_true rfl⟩, Nat.le_of_ble_eq_true rfl⟩ dX10_as_27 (kk_r (Wf := Wg K E _ _ _ _) ?_)
        refine r_if_eqB X 40 dX10_as_30 (by decide) (fun c_30 => ?_) (fun c_30 => ?_)
        · skip
          refine r_bipush (v := (-4)) X dX10_as_40 (by decide) ?_
          refine r_iret S dX10_as_42 ?_
          exact ⟨by simp [asR, hpx, hix, hy, hkx, c_30], rfl, rfl⟩
        · skip
          refine r_aload_n X dX10_as_33 rfl ?_
          refine vc_RX10_firmness X rfl (hP.c hi) (hP.w hi) (hP.b hi) ⟨Nat.le_of_ble_eq_true rfl, Nat.le_of_ble_eq_true rfl⟩ ⟨⟨Nat.le_of_ble_eq_true rfl, Nat.le_of_ble_eq_true rfl⟩, Nat.le_of_ble_eq_true rfl⟩ dX10_as_34 ?_
          refine r_goto X 42 dX10_as_37 (by decide) ?_
          refine r_iret S dX10_as_42 ?_
          exact ⟨by simp [asR, hpx, hix, hy, hkx, c_30], rfl, rfl⟩
      · skip
        refine r_bipush (v := (-3)) X dX10_as_22 (by decide) ?_
        refine r_iret S dX10_as_24 ?_
        have hy : inR y 5 = false := by first | exact inR_lt c_14 | exact gt4_out c_19
        exact ⟨by simp [asR, hpx, hy], rfl, rfl⟩

set_option maxHeartbeats 4000000 in
set_option maxRecDepth 100000 in
/-- BanisterWord.hears  -/
theorem c_X10_hears (l : Launch) (E : xE) (g : hG) (n : Nat) (Y : Nat) (v : Nat → Nat) (F : Nat → Nat → Nat) (P SP : Nat → Option Nat) (N : Mo) (Mp Kp : Nat → Mo) (pad cl wm : Nat → Nat) (x y : Int32) (hP : pOk g Y P (v 1) pad cl wm) (hN : ∀ j, N.1 j ≤ 7) (h0 : v 0 ≤ 12) (h1 : v 1 ≤ 6) : Ct l yX10_hears cX10_hears 4 (some .int) 2 45 0 0 E [.ref Y, .int x, .int y] (bG E g Y v F P SP N Mp Kp) n (zr (some (.int (hearsR (v 0) (v 1) cl N.1 x y))) (bG E g Y v F P SP N Mp Kp) (n)) := by
  refine Ct.of (by decide +kernel) (Nat.le_of_ble_eq_true rfl) (fun v hv => by simp only [List.mem_cons, List.not_mem_nil, or_false] at hv; (try rcases hv with rfl | rfl | rfl) <;> first | rfl | (subst hv; rfl) | exact hv.elim) ?_
  intro K hKl S
  subst hKl
  have X := S.1
  refine r_aload_n X dX10_hears_0 rfl ?_
  refine r_iload_n X dX10_hears_1 rfl ?_
  rcases hpx : inR x (v 1)
  · skip
    refine r_callV (ci := 9) X rfl (c_X10_personAt_f _ E g n Y v F P SP N Mp Kp x hpx (by omega)) tw_390 tw_392 tp_11 tw_1 tw_393 rfl rfl (by first | exact b0 | exact bnow.c0 | exact bnow.rl.1 | exact bnow.c4 | exact bta.1 | exact b4 | exact btold.1 | exact btrial.1 | exact bpast.c0 | exact bk | exact bz | exact bsi.c0 | assumption) rfl ⟨ok_X10_personAt, ⟨Nat.le_of_ble_eq_true rfl, Nat.le_of_ble_eq_true rfl⟩, ⟨Nat.le_of_ble_eq_true rfl, Nat.le_of_ble_eq_true rfl⟩, Nat.le_of_ble_eq_true rfl⟩ dX10_hears_2 (kk_r (Wf := Wg K E _ _ _ _) ?_)
    refine r_astore_nN X dX10_hears_5 (Nat.le_of_ble_eq_true rfl) ?_
    try dsimp only [List.set]
    refine r_aload_nN X dX10_hears_6 rfl ?_
    refine r_ifnullN X 18 dX10_hears_7 (by decide) ?_
    refine r_bipush (v := (-2)) X dX10_hears_18 (by decide) ?_
    refine r_iret S dX10_hears_20 ?_
    exact ⟨by unfold hearsR; rw [if_neg (by simp [*])], rfl, rfl⟩
  · skip
    obtain ⟨i, hi, rfl⟩ := inR_ex (by omega) hpx
    have hix : ix (nI i) = i := ix_nI (by omega)
    refine r_callV (ci := 9) X rfl (c_X10_personAt_t _ E g n Y v F P SP N Mp Kp pad cl wm i hP hi (by omega)) tw_390 tw_392 tp_11 tw_1 tw_393 rfl rfl (by first | exact b0 | exact bnow.c0 | exact bnow.rl.1 | exact bnow.c4 | exact bta.1 | exact b4 | exact btold.1 | exact btrial.1 | exact bpast.c0 | exact bk | exact bz | exact bsi.c0 | assumption) rfl ⟨ok_X10_personAt, ⟨Nat.le_of_ble_eq_true rfl, Nat.le_of_ble_eq_true rfl⟩, ⟨Nat.le_of_ble_eq_true rfl, Nat.le_of_ble_eq_true rfl⟩, Nat.le_of_ble_eq_true rfl⟩ dX10_hears_2 (kk_r (Wf := Wg K E _ _ _ _) ?_)
    refine r_astore_n X dX10_hears_5 (Nat.le_of_ble_eq_true rfl) ?_
    try dsimp only [List.set]
    refine r_aload_n X dX10_hears_6 rfl ?_
    refine r_ifnull X dX10_hears_7 ?_
    refine r_aload_n X dX10_hears_10 rfl ?_
    refine r_iload_n X dX10_hears_11 rfl ?_
    refine r_callV (ci := 9) X rfl (c_X10_isStep _ E g n Y v F P SP N Mp Kp y h0) tw_413 tw_415 tp_12 tw_1 tw_416 rfl rfl (by first | exact b0 | exact bnow.c0 | exact bnow.rl.1 | exact bnow.c4 | exact bta.1 | exact b4 | exact btold.1 | exact btrial.1 | exact bpast.c0 | exact bk | exact bz | exact bsi.c0 | assumption) rfl ⟨ok_X10_isStep, ⟨Nat.le_of_ble_eq_true rfl, Nat.le_of_ble_eq_true rfl⟩, ⟨Nat.le_of_ble_eq_true rfl, Nat.le_of_ble_eq_true rfl⟩, Nat.le_of_ble_eq_true rfl⟩ dX10_hears_12 (kk_r (Wf := Wg K E _ _ _ _) ?_)
    refine r_if_neB X 21 dX10_hears_15 (by decide) (fun c_15 => ?_) (fun c_15 => ?_)
    · skip
      obtain ⟨s, hs, rfl⟩ := inR_ex (by omega) c_15
      have h1x : ix (nI s) = s := ix_nI (by omega)
      refine r_aload_n X dX10_hears_21 rfl ?_
      refine r_get (ci := 9) X 4 _ ti_RX10 rfl (by decide) tw_143 (fun _ h => h) dX10_hears_22 (by first | exact b0 | exact bnow.c0 | exact bnow.rl.1 | exact bnow.c4 | exact bta.1 | exact b4 | exact btold.1 | exact btrial.1 | exact bpast.c0 | exact bk | exact bz | exact bsi.c0 | assumption) rfl ?_
      refine r_get (ci := 4) X 0 _ ti_RX4 rfl (by decide) tw_82 (fun _ h => h) dX10_hears_25 (by first | exact b0 | exact bnow.c0 | exact bnow.rl.1 | exact bnow.c4 | exact bta.1 | exact b4 | exact btold.1 | exact btrial.1 | exact bpast.c0 | exact bk | exact bz | exact bsi.c0 | assumption) rfl ?_
      refine r_aload_n X dX10_hears_28 rfl ?_
      refine r_iload_n X dX10_hears_29 rfl ?_
      refine r_callV (ci := 6) X rfl (c_X7_heardBy _ E _ n (Y + 11 + 1) (pad i) (cl i) (wm i) s N.1 N.2.1 bnow.rl (hP.c hi) (hP.w hi) (hP.b hi) hN (by omega)) tw_494 tw_495 tw_496 tw_3 tw_497 rfl rfl (by first | exact b0 | exact bnow.c0 | exact bnow.rl.1 | exact bnow.c4 | exact bta.1 | exact b4 | exact btold.1 | exact btrial.1 | exact bpast.c0 | exact bk | exact bz | exact bsi.c0 | assumption) rfl ⟨ok_X7_heardBy, ⟨Nat.le_of_ble_eq_true rfl, Nat.le_of_ble_eq_true rfl⟩, ⟨Nat.le_of_ble_eq_true rfl, Nat.le_of_ble_eq_true rfl⟩, Nat.le_of_ble_eq_true rfl⟩ dX10_hears_30 (kk_r (Wf := Wg K E _ _ _ _) ?_)
      refine r_iret S dX10_hears_33 ?_
      exact ⟨by simp [hearsR, hpx, c_15, hix, h1x], rfl, rfl⟩
    · skip
      refine r_bipush (v := (-2)) X dX10_hears_18 (by decide) ?_
      refine r_iret S dX10_hears_20 ?_
      exact ⟨by unfold hearsR; rw [if_neg (by simp [*])], rfl, rfl⟩

set_option maxHeartbeats 4000000 in
set_option maxRecDepth 100000 in
/-- BanisterWord.lasts  -/
theorem c_X10_lasts (l : Launch) (E : xE) (g : hG) (n : Nat) (Y : Nat) (v : Nat → Nat) (F : Nat → Nat → Nat) (P SP : Nat → Option Nat) (N : Mo) (Mp Kp : Nat → Mo) (x : Int32) (hN : ∀ j, N.1 j ≤ 7) (hN9 : ∀ j, N.2.1 j ≤ 99) : Ct l yX10_lasts cX10_lasts 2 (some .int) 3 72 0 0 E [.ref Y, .int x] (bG E g Y v F P SP N Mp Kp) n (zr (some (.int (lastsR N.1 N.2.1 x))) (bG E g Y v F P SP N Mp Kp) (n)) := by
  refine Ct.of (by decide +kernel) (Nat.le_of_ble_eq_true rfl) (fun v hv => by simp only [List.mem_cons, List.not_mem_nil, or_false] at hv; (try rcases hv with rfl | rfl) <;> first | rfl | (subst hv; rfl) | exact hv.elim) ?_
  intro K hKl S
  subst hKl
  have X := S.1
  refine r_iload_n X dX10_lasts_0 rfl ?_
  refine r_callS X rfl (c_X10_isSaying _ E _ n x) tw_458 tw_459 tw_1 tw_460 rfl ⟨ok_X10_isSaying, ⟨Nat.le_of_ble_eq_true rfl, Nat.le_of_ble_eq_true rfl⟩, ⟨Nat.le_of_ble_eq_true rfl, Nat.le_of_ble_eq_true rfl⟩, Nat.le_of_ble_eq_true rfl⟩ dX10_lasts_1 (kk_r (Wf := Wg K E _ _ _ _) ?_)
  refine r_if_neB X 10 dX10_lasts_4 (by decide) (fun c_4 => ?_) (fun c_4 => ?_)
  · skip
    obtain ⟨s, hs1, hs7, rfl⟩ := sayB_ex c_4
    have h1x : ix (nI s) = s := ix_nI (by omega)
    refine r_aload_n X dX10_lasts_10 rfl ?_
    refine r_get (ci := 9) X 4 _ ti_RX10 rfl (by decide) tw_143 (fun _ h => h) dX10_lasts_11 (by first | exact b0 | exact bnow.c0 | exact bnow.rl.1 | exact bnow.c4 | exact bta.1 | exact b4 | exact btold.1 | exact btrial.1 | exact bpast.c0 | exact bk | exact bz | exact bsi.c0 | assumption) rfl ?_
    refine r_get (ci := 4) X 0 _ ti_RX4 rfl (by decide) tw_82 (fun _ h => h) dX10_lasts_14 (by first | exact b0 | exact bnow.c0 | exact bnow.rl.1 | exact bnow.c4 | exact bta.1 | exact b4 | exact btold.1 | exact btrial.1 | exact bpast.c0 | exact bk | exact bz | exact bsi.c0 | assumption) rfl ?_
    refine r_iload_n X dX10_lasts_17 rfl ?_
    refine r_iconst (v := nI 0) X dX10_lasts_18 (by decide) ?_
    refine r_callV (ci := 6) X rfl (c_X7_firmest _ E _ n (Y + 11 + 1) s 0 N.1 N.2.1 bnow.rl hN hN9 (by omega) (by omega)) tw_566 tw_567 tw_568 tw_3 tw_569 rfl rfl (by first | exact b0 | exact bnow.c0 | exact bnow.rl.1 | exact bnow.c4 | exact bta.1 | exact b4 | exact btold.1 | exact btrial.1 | exact bpast.c0 | exact bk | exact bz | exact bsi.c0 | assumption) rfl ⟨ok_X7_firmest, ⟨Nat.le_of_ble_eq_true rfl, Nat.le_of_ble_eq_true rfl⟩, ⟨Nat.le_of_ble_eq_true rfl, Nat.le_of_ble_eq_true rfl⟩, Nat.le_of_ble_eq_true rfl⟩ dX10_lasts_19 (kk_r (Wf := Wg K E _ _ _ _) ?_)
    refine r_aload_n X dX10_lasts_22 rfl ?_
    refine r_get (ci := 9) X 4 _ ti_RX10 rfl (by decide) tw_143 (fun _ h => h) dX10_lasts_23 (by first | exact b0 | exact bnow.c0 | exact bnow.rl.1 | exact bnow.c4 | exact bta.1 | exact b4 | exact btold.1 | exact btrial.1 | exact bpast.c0 | exact bk | exact bz | exact bsi.c0 | assumption) rfl ?_
    refine r_get (ci := 4) X 0 _ ti_RX4 rfl (by decide) tw_82 (fun _ h => h) dX10_lasts_26 (by first | exact b0 | exact bnow.c0 | exact bnow.rl.1 | exact bnow.c4 | exact bta.1 | exact b4 | exact btold.1 | exact btrial.1 | exact bpast.c0 | exact bk | exact bz | exact bsi.c0 | assumption) rfl ?_
    refine r_iload_n X dX10_lasts_29 rfl ?_
    refine r_iconst (v := nI 1) X dX10_lasts_30 (by decide) ?_
    refine r_callV (ci := 6) X rfl (c_X7_firmest _ E _ n (Y + 11 + 1) s 1 N.1 N.2.1 bnow.rl hN hN9 (by omega) (by omega)) tw_566 tw_567 tw_568 tw_3 tw_569 rfl rfl (by first | exact b0 | exact bnow.c0 | exact bnow.rl.1 | exact bnow.c4 | exact bta.1 | exact b4 | exact btold.1 | exact btrial.1 | exact bpast.c0 | exact bk | exact bz | exact bsi.c0 | assumption) rfl ⟨ok_X7_firmest, ⟨Nat.le_of_ble_eq_true rfl, Nat.le_of_ble_eq_true rfl⟩, ⟨Nat.le_of_ble_eq_true rfl, Nat.le_of_ble_eq_true rfl⟩, Nat.le_of_ble_eq_true rfl⟩ dX10_lasts_31 (kk_r (Wf := Wg K E _ _ _ _) ?_)
    refine r_max X rfl tw_572 tw_524 tw_18 tw_525 (Nat.le_of_ble_eq_true rfl) (Nat.le_of_ble_eq_true rfl) (Nat.le_of_ble_eq_true rfl) (Nat.le_of_ble_eq_true rfl) dX10_lasts_34 ?_
    refine r_top _ _ (nI_max (by have := fmx_le (f := N.1) hN9 s 0 12; omega) (by have := fmx_le (f := N.1) hN9 s 1 12; omega)) ?_
    refine r_iret S dX10_lasts_37 ?_
    exact ⟨by simp [lastsR, c_4, h1x], rfl, rfl⟩
  · skip
    refine r_bipush (v := (-2)) X dX10_lasts_7 (by decide) ?_
    refine r_iret S dX10_lasts_9 ?_
    exact ⟨by simp [lastsR, c_4], rfl, rfl⟩

set_option maxHeartbeats 4000000 in
set_option maxRecDepth 100000 in
/-- BanisterWord.cover  -/
theorem c_X10_cover (l : Launch) (E : xE) (g : hG) (n : Nat) (Y : Nat) (v : Nat → Nat) (F : Nat → Nat → Nat) (P SP : Nat → Option Nat) (N : Mo) (Mp Kp : Nat → Mo) (pad cl wm : Nat → Nat) (x y : Int32) (hP : pOk g Y P (v 1) pad cl wm) (hN : ∀ j, N.1 j ≤ 7) (hN9 : ∀ j, N.2.1 j ≤ 99) (h0 : v 0 ≤ 12) (h1 : v 1 ≤ 6) : Ct l yX10_cover cX10_cover 7 (some .int) 2 43 0 0 E [.ref Y, .int x, .int y] (bG E g Y v F P SP N Mp Kp) n (zr (some (.int (coverR (v 0) (v 1) cl wm N.1 N.2.1 x y))) (bG E g Y v F P SP N Mp Kp) (n)) := by
  refine Ct.of (by decide +kernel) (Nat.le_of_ble_eq_true rfl) (fun v hv => by simp only [List.mem_cons, List.not_mem_nil, or_false] at hv; (try rcases hv with rfl | rfl | rfl) <;> first | rfl | (subst hv; rfl) | exact hv.elim) ?_
  intro K hKl S
  subst hKl
  have X := S.1
  refine r_aload_n X dX10_cover_0 rfl ?_
  refine r_iload_n X dX10_cover_1 rfl ?_
  refine r_callV (ci := 9) X rfl (c_X10_isStep _ E g n Y v F P SP N Mp Kp x h0) tw_413 tw_415 tp_12 tw_1 tw_416 rfl rfl (by first | exact b0 | exact bnow.c0 | exact bnow.rl.1 | exact bnow.c4 | exact bta.1 | exact b4 | exact btold.1 | exact btrial.1 | exact bpast.c0 | exact bk | exact bz | exact bsi.c0 | assumption) rfl ⟨ok_X10_isStep, ⟨Nat.le_of_ble_eq_true rfl, Nat.le_of_ble_eq_true rfl⟩, ⟨Nat.le_of_ble_eq_true rfl, Nat.le_of_ble_eq_true rfl⟩, Nat.le_of_ble_eq_true rfl⟩ dX10_cover_2 (kk_r (Wf := Wg K E _ _ _ _) ?_)
  refine r_if_eqB X 15 dX10_cover_5 (by decide) (fun c_5 => ?_) (fun c_5 => ?_)
  · skip
    refine r_bipush (v := (-2)) X dX10_cover_15 (by decide) ?_
    refine r_iret S dX10_cover_17 ?_
    exact ⟨by unfold coverR; rw [if_neg (by simp [*])], rfl, rfl⟩
  · skip
    refine r_iload_n X dX10_cover_8 rfl ?_
    refine r_callS X rfl (c_X10_isHeight _ E _ n y) tw_417 tw_418 tw_1 tw_419 rfl ⟨ok_X10_isHeight, ⟨Nat.le_of_ble_eq_true rfl, Nat.le_of_ble_eq_true rfl⟩, ⟨Nat.le_of_ble_eq_true rfl, Nat.le_of_ble_eq_true rfl⟩, Nat.le_of_ble_eq_true rfl⟩ dX10_cover_9 (kk_r (Wf := Wg K E _ _ _ _) ?_)
    refine r_if_neB X 18 dX10_cover_12 (by decide) (fun c_12 => ?_) (fun c_12 => ?_)
    · skip
      obtain ⟨s, hs, rfl⟩ := inR_ex (by omega) c_5
      obtain ⟨t, ht, rfl⟩ := inR_ex (by decide) c_12
      have h1x : ix (nI s) = s := ix_nI (by omega)
      have h2x : ix (nI t) = t := ix_nI (by omega)
      have b1 := hN (s * 2 + t)
      have b2 := hN9 (s * 2 + t)
      refine r_aload_n X dX10_cover_18 rfl ?_
      refine r_get (ci := 9) X 4 _ ti_RX10 rfl (by decide) tw_143 (fun _ h => h) dX10_cover_19 (by first | exact b0 | exact bnow.c0 | exact bnow.rl.1 | exact bnow.c4 | exact bta.1 | exact b4 | exact btold.1 | exact btrial.1 | exact bpast.c0 | exact bk | exact bz | exact bsi.c0 | assumption) rfl ?_
      refine r_get (ci := 4) X 0 _ ti_RX4 rfl (by decide) tw_82 (fun _ h => h) dX10_cover_22 (by first | exact b0 | exact bnow.c0 | exact bnow.rl.1 | exact bnow.c4 | exact bta.1 | exact b4 | exact btold.1 | exact btrial.1 | exact bpast.c0 | exact bk | exact bz | exact bsi.c0 | assumption) rfl ?_
      refine r_iload_n X dX10_cover_25 rfl ?_
      refine r_iload_n X dX10_cover_26 rfl ?_
      refine r_callV (ci := 6) X rfl (c_X7_sayingAt _ E _ n (Y + 11 + 1) N.1 N.2.1 s t bnow.rl (by omega)) tw_424 tw_425 tw_426 tw_3 tw_427 rfl rfl (by first | exact b0 | exact bnow.c0 | exact bnow.rl.1 | exact bnow.c4 | exact bta.1 | exact b4 | exact btold.1 | exact btrial.1 | exact bpast.c0 | exact bk | exact bz | exact bsi.c0 | assumption) rfl ⟨ok_X7_sayingAt, ⟨Nat.le_of_ble_eq_true rfl, Nat.le_of_ble_eq_true rfl⟩, ⟨Nat.le_of_ble_eq_true rfl, Nat.le_of_ble_eq_true rfl⟩, Nat.le_of_ble_eq_true rfl⟩ dX10_cover_27 (kk_r (Wf := Wg K E _ _ _ _) ?_)
      refine r_if_neN X 35 dX10_cover_30 (by decide) (by omega) (fun c_30 => ?_) (fun c_30 => ?_)
      · skip
        refine r_aload_n X dX10_cover_35 rfl ?_
        refine r_get (ci := 9) X 4 _ ti_RX10 rfl (by decide) tw_143 (fun _ h => h) dX10_cover_36 (by first | exact b0 | exact bnow.c0 | exact bnow.rl.1 | exact bnow.c4 | exact bta.1 | exact b4 | exact btold.1 | exact btrial.1 | exact bpast.c0 | exact bk | exact bz | exact bsi.c0 | assumption) rfl ?_
        refine r_get (ci := 4) X 0 _ ti_RX4 rfl (by decide) tw_82 (fun _ h => h) dX10_cover_39 (by first | exact b0 | exact bnow.c0 | exact bnow.rl.1 | exact bnow.c4 | exact bta.1 | exact b4 | exact btold.1 | exact btrial.1 | exact bpast.c0 | exact bk | exact bz | exact bsi.c0 | assumption) rfl ?_
        refine r_iload_n X dX10_cover_42 rfl ?_
        refine r_iload_n X dX10_cover_43 rfl ?_
        refine r_callV (ci := 6) X rfl (c_X7_firmAt _ E _ n (Y + 11 + 1) N.1 N.2.1 s t bnow.rl (by omega)) tw_428 tw_429 tw_430 tw_3 tw_431 rfl rfl (by first | exact b0 | exact bnow.c0 | exact bnow.rl.1 | exact bnow.c4 | exact bta.1 | exact b4 | exact btold.1 | exact btrial.1 | exact bpast.c0 | exact bk | exact bz | exact bsi.c0 | assumption) rfl ⟨ok_X7_firmAt, ⟨Nat.le_of_ble_eq_true rfl, Nat.le_of_ble_eq_true rfl⟩, ⟨Nat.le_of_ble_eq_true rfl, Nat.le_of_ble_eq_true rfl⟩, Nat.le_of_ble_eq_true rfl⟩ dX10_cover_44 (kk_r (Wf := Wg K E _ _ _ _) ?_)
        refine r_istore_n X dX10_cover_47 (Nat.le_of_ble_eq_true rfl) ?_
        try dsimp only [List.set]
        refine r_iconst (v := nI 0) X dX10_cover_48 (by decide) ?_
        refine r_istore X dX10_cover_49 (Nat.le_of_ble_eq_true rfl) ?_
        try dsimp only [List.set]
        refine r_iconst (v := nI 0) X dX10_cover_51 (by decide) ?_
        refine r_istore X dX10_cover_52 (Nat.le_of_ble_eq_true rfl) ?_
        try dsimp only [List.set]
        have hloop : ∀ (k : Nat), k ≤ v 1 → ∀ u_ : Option Value, Wg K E (0) (0) 54 [some (.ref Y), some (.int (nI s)), some (.int (nI t)), some (.int (nI (N.2.1 (s * 2 + t)))), some (.int (nI (covF cl wm t (N.2.1 (s * 2 + t)) k))), some (.int (nI k)), u_] [] (bG E g Y v F P SP N Mp Kp) (n) := by
          refine ind_up _ (v 1) (fun k hk ih u_ => ?_)
          refine r_iload X dX10_cover_54 rfl ?_
          refine r_aload_n X dX10_cover_56 rfl ?_
          refine r_get (ci := 9) X 10 _ ti_RX10 rfl (by decide) tw_149 (fun _ h => h) dX10_cover_57 (by first | exact b0 | exact bnow.c0 | exact bnow.rl.1 | exact bnow.c4 | exact bta.1 | exact b4 | exact btold.1 | exact btrial.1 | exact bpast.c0 | exact bk | exact bz | exact bsi.c0 | assumption) rfl ?_
          refine r_icmp_geN X 109 dX10_cover_60 (by decide) (by omega) (by omega) (fun c_60 => ?_) (fun c_60 => ?_)
          · skip
            refine r_iload X dX10_cover_109 rfl ?_
            refine r_iret S dX10_cover_111 ?_
            obtain rfl : k = v 1 := by omega
            exact ⟨by simp [coverR, c_5, c_12, h1x, h2x, Nat.ne_of_gt c_30], rfl, rfl⟩
          · skip
            have q1 := handN_le (cl k)
            have q2 := firmN_le (cl k) (wm k)
            have q3 := hP.w c_60
            refine r_aload_n X dX10_cover_63 rfl ?_
            refine r_iload X dX10_cover_64 rfl ?_
            refine r_callV (ci := 9) X rfl (c_X10_personAt_t _ E g n Y v F P SP N Mp Kp pad cl wm k hP c_60 (by omega)) tw_390 tw_392 tp_11 tw_1 tw_393 rfl rfl (by first | exact b0 | exact bnow.c0 | exact bnow.rl.1 | exact bnow.c4 | exact bta.1 | exact b4 | exact btold.1 | exact btrial.1 | exact bpast.c0 | exact bk | exact bz | exact bsi.c0 | assumption) rfl ⟨ok_X10_personAt, ⟨Nat.le_of_ble_eq_true rfl, Nat.le_of_ble_eq_true rfl⟩, ⟨Nat.le_of_ble_eq_true rfl, Nat.le_of_ble_eq_true rfl⟩, Nat.le_of_ble_eq_true rfl⟩ dX10_cover_66 (kk_r (Wf := Wg K E _ _ _ _) ?_)
            refine r_astore X dX10_cover_69 (Nat.le_of_ble_eq_true rfl) ?_
            try dsimp only [List.set]
            refine r_aload X dX10_cover_71 rfl ?_
            refine r_ifnull X dX10_cover_73 ?_
            refine r_aload X dX10_cover_76 rfl ?_
            refine vc_RX10_handHeight X rfl (hP.c c_60) (hP.w c_60) (hP.b c_60) ⟨Nat.le_of_ble_eq_true rfl, Nat.le_of_ble_eq_true rfl⟩ ⟨⟨Nat.le_of_ble_eq_true rfl, Nat.le_of_ble_eq_true rfl⟩, Nat.le_of_ble_eq_true rfl⟩ dX10_cover_78 ?_
            refine r_iload_n X dX10_cover_81 rfl ?_
            refine r_icmp_neN X 103 dX10_cover_82 (by decide) (by omega) (by omega) (fun c_82 => ?_) (fun c_82 => ?_)
            · skip
              first | refine r_iincN X dX10_cover_103 rfl ?_ | refine r_iinc X _ dX10_cover_103 rfl rfl ?_
              try dsimp only [List.set]
              refine r_goto X 54 dX10_cover_106 (by decide) ?_
              have e9 : covF cl wm t (N.2.1 (s * 2 + t)) (k + 1) = covF cl wm t (N.2.1 (s * 2 + t)) k ||| (if handN (cl k) = t ∧ N.2.1 (s * 2 + t) ≤ firmN (cl k) (wm k) then 2 ^ k else 0) := rfl
              have ih9 := ih (by omega) (some (.ref (pad k)))
              rw [e9] at ih9
              first | (rw [if_pos ⟨c_82, c_91⟩] at ih9; exact ih9) | (rw [if_neg (by omega), Nat.or_zero] at ih9; exact ih9)
            · skip
              refine r_aload X dX10_cover_85 rfl ?_
              refine vc_RX10_firmness X rfl (hP.c c_60) (hP.w c_60) (hP.b c_60) ⟨Nat.le_of_ble_eq_true rfl, Nat.le_of_ble_eq_true rfl⟩ ⟨⟨Nat.le_of_ble_eq_true rfl, Nat.le_of_ble_eq_true rfl⟩, Nat.le_of_ble_eq_true rfl⟩ dX10_cover_87 ?_
              refine r_iload_n X dX10_cover_90 rfl ?_
              refine r_icmp_ltN X 103 dX10_cover_91 (by decide) (by omega) (by omega) (fun c_91 => ?_) (fun c_91 => ?_)
              · skip
                first | refine r_iincN X dX10_cover_103 rfl ?_ | refine r_iinc X _ dX10_cover_103 rfl rfl ?_
                try dsimp only [List.set]
                refine r_goto X 54 dX10_cover_106 (by decide) ?_
                have e9 : covF cl wm t (N.2.1 (s * 2 + t)) (k + 1) = covF cl wm t (N.2.1 (s * 2 + t)) k ||| (if handN (cl k) = t ∧ N.2.1 (s * 2 + t) ≤ firmN (cl k) (wm k) then 2 ^ k else 0) := rfl
                have ih9 := ih (by omega) (some (.ref (pad k)))
                rw [e9] at ih9
                first | (rw [if_pos ⟨c_82, c_91⟩] at ih9; exact ih9) | (rw [if_neg (by omega), Nat.or_zero] at ih9; exact ih9)
              · skip
                refine r_iload X dX10_cover_94 rfl ?_
                refine r_iconst (v := nI 1) X dX10_cover_96 (by decide) ?_
                refine r_iload X dX10_cover_97 rfl ?_
                refine r_ishl1N X dX10_cover_99 (by omega) ?_
                refine r_iorN X dX10_cover_100 ?_
                refine r_istore X dX10_cover_101 (Nat.le_of_ble_eq_true rfl) ?_
                try dsimp only [List.set]
                first | refine r_iincN X dX10_cover_103 rfl ?_ | refine r_iinc X _ dX10_cover_103 rfl rfl ?_
                try dsimp only [List.set]
                refine r_goto X 54 dX10_cover_106 (by decide) ?_
                have e9 : covF cl wm t (N.2.1 (s * 2 + t)) (k + 1) = covF cl wm t (N.2.1 (s * 2 + t)) k ||| (if handN (cl k) = t ∧ N.2.1 (s * 2 + t) ≤ firmN (cl k) (wm k) then 2 ^ k else 0) := rfl
                have ih9 := ih (by omega) (some (.ref (pad k)))
                rw [e9] at ih9
                first | (rw [if_pos ⟨c_82, c_91⟩] at ih9; exact ih9) | (rw [if_neg (by omega), Nat.or_zero] at ih9; exact ih9)
        exact hloop 0 (Nat.zero_le _) _
      · skip
        refine r_iconst (v := nI 0) X dX10_cover_33 (by decide) ?_
        refine r_iret S dX10_cover_34 ?_
        exact ⟨by simp [coverR, c_5, c_12, h1x, h2x, c_30], rfl, rfl⟩
    · skip
      refine r_bipush (v := (-2)) X dX10_cover_15 (by decide) ?_
      refine r_iret S dX10_cover_17 ?_
      exact ⟨by unfold coverR; rw [if_neg (by simp [*])], rfl, rfl⟩

set_option maxHeartbeats 4000000 in
set_option maxRecDepth 100000 in
/-- BanisterWord.count  -/
theorem c_X10_count (l : Launch) (E : xE) (g : hG) (n : Nat) (Y : Nat) (v : Nat → Nat) (F : Nat → Nat → Nat) (P SP : Nat → Option Nat) (N : Mo) (Mp Kp : Nat → Mo) (x : Int32) (hN : ∀ j, N.1 j ≤ 7) (hN9 : ∀ j, N.2.1 j ≤ 99) : Ct l yX10_count cX10_count 2 (some .int) 2 43 0 0 E [.ref Y, .int x] (bG E g Y v F P SP N Mp Kp) n (zr (some (.int (countR (v 0) (v 1) N.2.2.2 N.1 N.2.1 N.2.2.1 (v 9) (v 8) (v 5) x))) (bG E g Y v F P SP N Mp Kp) (n)) := by
  refine Ct.of (by decide +kernel) (Nat.le_of_ble_eq_true rfl) (fun v hv => by simp only [List.mem_cons, List.not_mem_nil, or_false] at hv; (try rcases hv with rfl | rfl) <;> first | rfl | (subst hv; rfl) | exact hv.elim) ?_
  intro K hKl S
  subst hKl
  have X := S.1
  refine r_iload_n X dX10_count_0 rfl ?_
  cases hsw_1 : inR x 10
  · skip
    refine r_tableOut X 139 dX10_count_1 (sw_out hsw_1) (by decide) ?_
    refine r_bipush (v := (-3)) X dX10_count_139 (by decide) ?_
    refine r_iret S dX10_count_141 ?_
    exact ⟨by unfold countR; rw [hsw_1]; rfl, rfl, rfl⟩
  · skip
    obtain ⟨j_1, hj_1, rfl⟩ := inR_ex (by decide) hsw_1
    rcases (show j_1 = 0 ∨ j_1 = 1 ∨ j_1 = 2 ∨ j_1 = 3 ∨ j_1 = 4 ∨ j_1 = 5 ∨ j_1 = 6 ∨ j_1 = 7 ∨ j_1 = 8 ∨ j_1 = 9 by omega) with rfl | rfl | rfl | rfl | rfl | rfl | rfl | rfl | rfl | rfl
    · skip
      refine r_tableIn (off := 55) X 56 dX10_count_1 (by decide) (by decide) rfl (by decide) ?_
      refine r_aload_n X dX10_count_56 rfl ?_
      refine r_get (ci := 9) X 9 _ ti_RX10 rfl (by decide) tw_148 (fun _ h => h) dX10_count_57 (by first | exact b0 | exact bnow.c0 | exact bnow.rl.1 | exact bnow.c4 | exact bta.1 | exact b4 | exact btold.1 | exact btrial.1 | exact bpast.c0 | exact bk | exact bz | exact bsi.c0 | assumption) rfl ?_
      refine r_iret S dX10_count_60 ?_
      exact ⟨by unfold countR; rw [hsw_1]; rfl, rfl, rfl⟩
    · skip
      refine r_tableIn (off := 60) X 61 dX10_count_1 (by decide) (by decide) rfl (by decide) ?_
      refine r_aload_n X dX10_count_61 rfl ?_
      refine r_get (ci := 9) X 10 _ ti_RX10 rfl (by decide) tw_149 (fun _ h => h) dX10_count_62 (by first | exact b0 | exact bnow.c0 | exact bnow.rl.1 | exact bnow.c4 | exact bta.1 | exact b4 | exact btold.1 | exact btrial.1 | exact bpast.c0 | exact bk | exact bz | exact bsi.c0 | assumption) rfl ?_
      refine r_iret S dX10_count_65 ?_
      exact ⟨by unfold countR; rw [hsw_1]; rfl, rfl, rfl⟩
    · skip
      refine r_tableIn (off := 65) X 66 dX10_count_1 (by decide) (by decide) rfl (by decide) ?_
      refine r_aload_n X dX10_count_66 rfl ?_
      refine r_get (ci := 9) X 4 _ ti_RX10 rfl (by decide) tw_143 (fun _ h => h) dX10_count_67 (by first | exact b0 | exact bnow.c0 | exact bnow.rl.1 | exact bnow.c4 | exact bta.1 | exact b4 | exact btold.1 | exact btrial.1 | exact bpast.c0 | exact bk | exact bz | exact bsi.c0 | assumption) rfl ?_
      refine r_get (ci := 4) X 2 _ ti_RX4 rfl (by decide) tw_86 (fun _ h => h) dX10_count_70 (by first | exact b0 | exact bnow.c0 | exact bnow.rl.1 | exact bnow.c4 | exact bta.1 | exact b4 | exact btold.1 | exact btrial.1 | exact bpast.c0 | exact bk | exact bz | exact bsi.c0 | assumption) rfl ?_
      refine r_iret S dX10_count_73 ?_
      exact ⟨by unfold countR; rw [hsw_1]; rfl, rfl, rfl⟩
    · skip
      refine r_tableIn (off := 73) X 74 dX10_count_1 (by decide) (by decide) rfl (by decide) ?_
      refine r_aload_n X dX10_count_74 rfl ?_
      refine r_get (ci := 9) X 4 _ ti_RX10 rfl (by decide) tw_143 (fun _ h => h) dX10_count_75 (by first | exact b0 | exact bnow.c0 | exact bnow.rl.1 | exact bnow.c4 | exact bta.1 | exact b4 | exact btold.1 | exact btrial.1 | exact bpast.c0 | exact bk | exact bz | exact bsi.c0 | assumption) rfl ?_
      refine r_get (ci := 4) X 0 _ ti_RX4 rfl (by decide) tw_82 (fun _ h => h) dX10_count_78 (by first | exact b0 | exact bnow.c0 | exact bnow.rl.1 | exact bnow.c4 | exact bta.1 | exact b4 | exact btold.1 | exact btrial.1 | exact bpast.c0 | exact bk | exact bz | exact bsi.c0 | assumption) rfl ?_
      refine r_callV (ci := 6) X rfl (c_X7_taken _ E _ n (Y + 11 + 1) N.1 N.2.1 bnow.rl hN) tw_632 tw_633 tw_634 tw_3 tw_635 rfl rfl (by first | exact b0 | exact bnow.c0 | exact bnow.rl.1 | exact bnow.c4 | exact bta.1 | exact b4 | exact btold.1 | exact btrial.1 | exact bpast.c0 | exact bk | exact bz | exact bsi.c0 | assumption) rfl ⟨ok_X7_taken, ⟨Nat.le_of_ble_eq_true rfl, Nat.le_of_ble_eq_true rfl⟩, ⟨Nat.le_of_ble_eq_true rfl, Nat.le_of_ble_eq_true rfl⟩, Nat.le_of_ble_eq_true rfl⟩ dX10_count_81 (kk_r (Wf := Wg K E _ _ _ _) ?_)
      refine r_iret S dX10_count_84 ?_
      exact ⟨by unfold countR; rw [hsw_1]; rfl, rfl, rfl⟩
    · skip
      refine r_tableIn (off := 84) X 85 dX10_count_1 (by decide) (by decide) rfl (by decide) ?_
      refine r_aload_n X dX10_count_85 rfl ?_
      refine r_get (ci := 9) X 4 _ ti_RX10 rfl (by decide) tw_143 (fun _ h => h) dX10_count_86 (by first | exact b0 | exact bnow.c0 | exact bnow.rl.1 | exact bnow.c4 | exact bta.1 | exact b4 | exact btold.1 | exact btrial.1 | exact bpast.c0 | exact bk | exact bz | exact bsi.c0 | assumption) rfl ?_
      refine r_get (ci := 4) X 0 _ ti_RX4 rfl (by decide) tw_82 (fun _ h => h) dX10_count_89 (by first | exact b0 | exact bnow.c0 | exact bnow.rl.1 | exact bnow.c4 | exact bta.1 | exact b4 | exact btold.1 | exact btrial.1 | exact bpast.c0 | exact bk | exact bz | exact bsi.c0 | assumption) rfl ?_
      refine r_callV (ci := 6) X rfl (c_X7_firmTogether _ E _ n (Y + 11 + 1) N.1 N.2.1 bnow.rl) tw_636 tw_637 tw_638 tw_3 tw_639 rfl rfl (by first | exact b0 | exact bnow.c0 | exact bnow.rl.1 | exact bnow.c4 | exact bta.1 | exact b4 | exact btold.1 | exact btrial.1 | exact bpast.c0 | exact bk | exact bz | exact bsi.c0 | assumption) rfl ⟨ok_X7_firmTogether, ⟨Nat.le_of_ble_eq_true rfl, Nat.le_of_ble_eq_true rfl⟩, ⟨Nat.le_of_ble_eq_true rfl, Nat.le_of_ble_eq_true rfl⟩, Nat.le_of_ble_eq_true rfl⟩ dX10_count_92 (kk_r (Wf := Wg K E _ _ _ _) ?_)
      refine r_iret S dX10_count_95 ?_
      exact ⟨by unfold countR; rw [hsw_1]; rfl, rfl, rfl⟩
    · skip
      refine r_tableIn (off := 95) X 96 dX10_count_1 (by decide) (by decide) rfl (by decide) ?_
      refine r_aload_n X dX10_count_96 rfl ?_
      refine r_get (ci := 9) X 4 _ ti_RX10 rfl (by decide) tw_143 (fun _ h => h) dX10_count_97 (by first | exact b0 | exact bnow.c0 | exact bnow.rl.1 | exact bnow.c4 | exact bta.1 | exact b4 | exact btold.1 | exact btrial.1 | exact bpast.c0 | exact bk | exact bz | exact bsi.c0 | assumption) rfl ?_
      refine r_callV (ci := 4) X rfl (c_X4_knownByAnybody _ E _ n (Y + 11) N bnow) tw_640 tw_641 tw_642 tw_4 tw_643 rfl rfl (by first | exact b0 | exact bnow.c0 | exact bnow.rl.1 | exact bnow.c4 | exact bta.1 | exact b4 | exact btold.1 | exact btrial.1 | exact bpast.c0 | exact bk | exact bz | exact bsi.c0 | assumption) rfl ⟨ok_X4_knownByAnybody, ⟨Nat.le_of_ble_eq_true rfl, Nat.le_of_ble_eq_true rfl⟩, ⟨Nat.le_of_ble_eq_true rfl, Nat.le_of_ble_eq_true rfl⟩, Nat.le_of_ble_eq_true rfl⟩ dX10_count_100 (kk_r (Wf := Wg K E _ _ _ _) ?_)
      refine r_iret S dX10_count_103 ?_
      exact ⟨by unfold countR; rw [hsw_1]; rfl, rfl, rfl⟩
    · skip
      refine r_tableIn (off := 103) X 104 dX10_count_1 (by decide) (by decide) rfl (by decide) ?_
      refine r_aload_n X dX10_count_104 rfl ?_
      refine r_get (ci := 9) X 4 _ ti_RX10 rfl (by decide) tw_143 (fun _ h => h) dX10_count_105 (by first | exact b0 | exact bnow.c0 | exact bnow.rl.1 | exact bnow.c4 | exact bta.1 | exact b4 | exact btold.1 | exact btrial.1 | exact bpast.c0 | exact bk | exact bz | exact bsi.c0 | assumption) rfl ?_
      refine r_get (ci := 4) X 0 _ ti_RX4 rfl (by decide) tw_82 (fun _ h => h) dX10_count_108 (by first | exact b0 | exact bnow.c0 | exact bnow.rl.1 | exact bnow.c4 | exact bta.1 | exact b4 | exact btold.1 | exact btrial.1 | exact bpast.c0 | exact bk | exact bz | exact bsi.c0 | assumption) rfl ?_
      refine r_callV (ci := 6) X rfl (c_X7_sayingBits _ E _ n (Y + 11 + 1) N.1 N.2.1 bnow.rl hN) tw_644 tw_645 tw_646 tw_3 tw_647 rfl rfl (by first | exact b0 | exact bnow.c0 | exact bnow.rl.1 | exact bnow.c4 | exact bta.1 | exact b4 | exact btold.1 | exact btrial.1 | exact bpast.c0 | exact bk | exact bz | exact bsi.c0 | assumption) rfl ⟨ok_X7_sayingBits, ⟨Nat.le_of_ble_eq_true rfl, Nat.le_of_ble_eq_true rfl⟩, ⟨Nat.le_of_ble_eq_true rfl, Nat.le_of_ble_eq_true rfl⟩, Nat.le_of_ble_eq_true rfl⟩ dX10_count_111 (kk_r (Wf := Wg K E _ _ _ _) ?_)
      refine r_iret S dX10_count_114 ?_
      exact ⟨by unfold countR; rw [hsw_1]; rfl, rfl, rfl⟩
    · skip
      refine r_tableIn (off := 114) X 115 dX10_count_1 (by decide) (by decide) rfl (by decide) ?_
      refine r_aload_n X dX10_count_115 rfl ?_
      refine r_get (ci := 9) X 8 _ ti_RX10 rfl (by decide) tw_147 (fun _ h => h) dX10_count_116 (by first | exact b0 | exact bnow.c0 | exact bnow.rl.1 | exact bnow.c4 | exact bta.1 | exact b4 | exact btold.1 | exact btrial.1 | exact bpast.c0 | exact bk | exact bz | exact bsi.c0 | assumption) rfl ?_
      refine r_get (ci := 7) X 4 _ ti_RX8 rfl (by decide) tw_126 (fun _ h => h) dX10_count_119 (by first | exact b0 | exact bnow.c0 | exact bnow.rl.1 | exact bnow.c4 | exact bta.1 | exact b4 | exact btold.1 | exact btrial.1 | exact bpast.c0 | exact bk | exact bz | exact bsi.c0 | assumption) rfl ?_
      refine r_iret S dX10_count_122 ?_
      exact ⟨by unfold countR; rw [hsw_1]; rfl, rfl, rfl⟩
    · skip
      refine r_tableIn (off := 122) X 123 dX10_count_1 (by decide) (by decide) rfl (by decide) ?_
      refine r_aload_n X dX10_count_123 rfl ?_
      refine r_get (ci := 9) X 5 _ ti_RX10 rfl (by decide) tw_144 (fun _ h => h) dX10_count_124 (by first | exact b0 | exact bnow.c0 | exact bnow.rl.1 | exact bnow.c4 | exact bta.1 | exact b4 | exact btold.1 | exact btrial.1 | exact bpast.c0 | exact bk | exact bz | exact bsi.c0 | assumption) rfl ?_
      refine r_get (ci := 5) X 2 _ ti_RX5 rfl (by decide) tw_106 (fun _ h => h) dX10_count_127 (by first | exact b0 | exact bnow.c0 | exact bnow.rl.1 | exact bnow.c4 | exact bta.1 | exact b4 | exact btold.1 | exact btrial.1 | exact bpast.c0 | exact bk | exact bz | exact bsi.c0 | assumption) rfl ?_
      refine r_iret S dX10_count_130 ?_
      exact ⟨by unfold countR; rw [hsw_1]; rfl, rfl, rfl⟩
    · skip
      refine r_tableIn (off := 130) X 131 dX10_count_1 (by decide) (by decide) rfl (by decide) ?_
      refine r_aload_n X dX10_count_131 rfl ?_
      refine r_get (ci := 9) X 0 _ ti_RX10 rfl (by decide) tw_139 (fun _ h => h) dX10_count_132 (by first | exact b0 | exact bnow.c0 | exact bnow.rl.1 | exact bnow.c4 | exact bta.1 | exact b4 | exact btold.1 | exact btrial.1 | exact bpast.c0 | exact bk | exact bz | exact bsi.c0 | assumption) rfl ?_
      refine r_get (ci := 8) X 5 _ ti_RX9 rfl (by decide) tw_39 (fun _ h => h) dX10_count_135 (by first | exact b0 | exact bnow.c0 | exact bnow.rl.1 | exact bnow.c4 | exact bta.1 | exact b4 | exact btold.1 | exact btrial.1 | exact bpast.c0 | exact bk | exact bz | exact bsi.c0 | assumption) rfl ?_
      refine r_iret S dX10_count_138 ?_
      exact ⟨by unfold countR; rw [hsw_1]; rfl, rfl, rfl⟩

set_option maxHeartbeats 4000000 in
set_option maxRecDepth 100000 in
/-- BanisterWord.erase  -/
theorem c_X10_erase (l : Launch) (E : xE) (g : hG) (n : Nat) (Y : Nat) (v : Nat → Nat) (F : Nat → Nat → Nat) (P SP : Nat → Option Nat) (N : Mo) (Mp Kp : Nat → Mo)   : Ct l yX10_erase cX10_erase 2 (some .int) 0 0 0 0 E [.ref Y] (bG E g Y v F P SP N Mp Kp) n (zr (some (.int (nI (v 5)))) (bG E g Y (va_up v 5 0) F P SP N Mp Kp) (n)) := by
  refine Ct.of (by decide +kernel) (Nat.le_of_ble_eq_true rfl) (fun v hv => by simp only [List.mem_cons, List.not_mem_nil, or_false] at hv; (try rcases hv with rfl) <;> first | rfl | (subst hv; rfl) | exact hv.elim) ?_
  intro K hKl S
  subst hKl
  have X := S.1
  refine r_aload_n X dX10_erase_0 rfl ?_
  refine r_get (ci := 9) X 0 _ ti_RX10 rfl (by decide) tw_139 (fun _ h => h) dX10_erase_1 (by first | exact b0 | exact bnow.c0 | exact bnow.rl.1 | exact bnow.c4 | exact bta.1 | exact b4 | exact btold.1 | exact btrial.1 | exact bpast.c0 | exact bk | exact bz | exact bsi.c0 | assumption) rfl ?_
  refine r_get (ci := 8) X 5 _ ti_RX9 rfl (by decide) tw_39 (fun _ h => h) dX10_erase_4 (by first | exact b0 | exact bnow.c0 | exact bnow.rl.1 | exact bnow.c4 | exact bta.1 | exact b4 | exact btold.1 | exact btrial.1 | exact bpast.c0 | exact bk | exact bz | exact bsi.c0 | assumption) rfl ?_
  refine r_istore_n X dX10_erase_7 (Nat.le_of_ble_eq_true rfl) ?_
  try dsimp only [List.set]
  refine r_aload_n X dX10_erase_8 rfl ?_
  refine r_get (ci := 9) X 0 _ ti_RX10 rfl (by decide) tw_139 (fun _ h => h) dX10_erase_9 (by first | exact b0 | exact bnow.c0 | exact bnow.rl.1 | exact bnow.c4 | exact bta.1 | exact b4 | exact btold.1 | exact btrial.1 | exact bpast.c0 | exact bk | exact bz | exact bsi.c0 | assumption) rfl ?_
  refine r_iconst (v := nI 0) X dX10_erase_12 (by decide) ?_
  refine r_put (ci := 8) (ty := .int) X 5 ti_RX9 tyX9 tyX9_ok nmX9 rfl (by decide) tw_39 (fun _ h => h) rfl (by decide +kernel) dX10_erase_13 (by first | exact b0 | exact bnow.c0 | exact bnow.rl.1 | exact bnow.c4 | exact bta.1 | exact b4 | exact btold.1 | exact btrial.1 | exact bpast.c0 | exact bk | exact bz | exact bsi.c0 | assumption) rfl rfl (Nat.le_of_ble_eq_true rfl) ?_
  try dsimp only [List.set]
  refine r_heap (u_txt _ _ _ _ _) ?_
  refine r_iload_n X dX10_erase_16 rfl ?_
  refine r_iret S dX10_erase_17 ?_
  refine ⟨rfl, ?_, rfl⟩
  congr 1
  funext k; simp only [va_up]; (repeat' split) <;> first | rfl | omega | (subst_vars; rfl)

set_option maxHeartbeats 4000000 in
set_option maxRecDepth 100000 in
/-- BanisterWord.forget  -/
theorem c_X10_forget (l : Launch) (E : xE) (g : hG) (n : Nat) (Y : Nat) (v : Nat → Nat) (F : Nat → Nat → Nat) (P SP : Nat → Option Nat) (N : Mo) (Mp Kp : Nat → Mo)   : Ct l yX10_forget cX10_forget 2 (some .int) 0 0 0 0 E [.ref Y] (bG E g Y v F P SP N Mp Kp) n (zr (some (.int (nI (v 9)))) (bG E g Y (va_up v 9 0) F P SP N Mp Kp) (n)) := by
  refine Ct.of (by decide +kernel) (Nat.le_of_ble_eq_true rfl) (fun v hv => by simp only [List.mem_cons, List.not_mem_nil, or_false] at hv; (try rcases hv with rfl) <;> first | rfl | (subst hv; rfl) | exact hv.elim) ?_
  intro K hKl S
  subst hKl
  have X := S.1
  refine r_aload_n X dX10_forget_0 rfl ?_
  refine r_get (ci := 9) X 8 _ ti_RX10 rfl (by decide) tw_147 (fun _ h => h) dX10_forget_1 (by first | exact b0 | exact bnow.c0 | exact bnow.rl.1 | exact bnow.c4 | exact bta.1 | exact b4 | exact btold.1 | exact btrial.1 | exact bpast.c0 | exact bk | exact bz | exact bsi.c0 | assumption) rfl ?_
  refine r_get (ci := 7) X 4 _ ti_RX8 rfl (by decide) tw_126 (fun _ h => h) dX10_forget_4 (by first | exact b0 | exact bnow.c0 | exact bnow.rl.1 | exact bnow.c4 | exact bta.1 | exact b4 | exact btold.1 | exact btrial.1 | exact bpast.c0 | exact bk | exact bz | exact bsi.c0 | assumption) rfl ?_
  refine r_istore_n X dX10_forget_7 (Nat.le_of_ble_eq_true rfl) ?_
  try dsimp only [List.set]
  refine r_aload_n X dX10_forget_8 rfl ?_
  refine r_get (ci := 9) X 8 _ ti_RX10 rfl (by decide) tw_147 (fun _ h => h) dX10_forget_9 (by first | exact b0 | exact bnow.c0 | exact bnow.rl.1 | exact bnow.c4 | exact bta.1 | exact b4 | exact btold.1 | exact btrial.1 | exact bpast.c0 | exact bk | exact bz | exact bsi.c0 | assumption) rfl ?_
  refine r_iconst (v := nI 0) X dX10_forget_12 (by decide) ?_
  refine r_put (ci := 7) (ty := .int) X 4 ti_RX8 tyX8 tyX8_ok nmX8 rfl (by decide) tw_126 (fun _ h => h) rfl (by decide +kernel) dX10_forget_13 (by first | exact b0 | exact bnow.c0 | exact bnow.rl.1 | exact bnow.c4 | exact bta.1 | exact b4 | exact btold.1 | exact btrial.1 | exact bpast.c0 | exact bk | exact bz | exact bsi.c0 | assumption) rfl rfl (Nat.le_of_ble_eq_true rfl) ?_
  try dsimp only [List.set]
  refine r_heap (u_sih _) ?_
  refine r_iload_n X dX10_forget_16 rfl ?_
  refine r_iret S dX10_forget_17 ?_
  exact ⟨rfl, rfl, rfl⟩

