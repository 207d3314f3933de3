theorem gt_out {y : Int32} {n : Nat} (hn : n < 1000000) (h : ¬ y ≤ nI n) : inR y (n + 1) = false := inR_ge (by omega) (by
  have h1 := Int32.lt_iff_toInt_lt.mp (Int32.not_le.mp h)
  rw [nI_toInt (by omega)] at h1
  exact Int32.le_iff_toInt_le.mpr (by rw [nI_toInt (by omega)]; omega))
theorem le_in {y : Int32} {n : Nat} (hn : n < 1000000) (h0 : ¬ y < 0) (h : y ≤ nI n) : inR y (n + 1) = true := inR_in (by omega) h0 (fun q => by
  have h1 := Int32.le_iff_toInt_le.mp h
  have h2 := Int32.le_iff_toInt_le.mp q
  rw [nI_toInt (by omega)] at h1
  rw [nI_toInt (by omega)] at h2
  omega)
def rmV (v : Nat → Nat) : Nat → Nat := va_up (va_up v 7 ((v 7 + 1) % 8)) 8 (min 8 (v 8 + 1))
def writeR (ln : Nat) (x : Int32) : Int32 := if inR x 256 = true then (if ln < 160 then nI (ln + 1) else -5) else -3
def dnN (N : Mo) (c w s t : Nat) : Mo := (takeF N.1 N.2.1 (s * 2 + handN c) (firmN c w) t, takeH N.1 N.2.1 (s * 2 + handN c) (firmN c w) t, N.2.2.1, N.2.2.2)
def upN (N : Mo) (c i s : Nat) : Mo := (rubF (upQ c (s + 1)) N.1 N.2.1, rubH (upQ c (s + 1)) N.2.1, va_up N.2.2.1 i (N.2.2.1 i ||| hearN c N.1 (s + 1)), N.2.2.2)
def plF (s k : Nat) (f : Nat → Nat) : Nat → Nat := fun j => if s * 2 ≤ j ∧ j < s * 2 + k then 0 else f j
def plN (N : Mo) (s : Nat) : Mo := (plF s 2 N.1, plF s 2 N.2.1, N.2.2.1, N.2.2.2)
def plC (f : Nat → Nat) (s : Nat) : Nat → Nat
  | 0 => 0
  | k + 1 => plC f s k + (if f (s * 2 + k) = 0 then 0 else 1)
def ngN (N : Mo) : Mo := (rubF (ltP 24) N.1 N.2.1, rubH (ltP 24) N.2.1, N.2.2.1, N.2.2.2 + 1)
def downR (s pn : Nat) (cl wm : Nat → Nat) (N : Mo) (a b c : Int32) : Int32 := if inR a pn = true ∧ inR b s = true ∧ sayB c = true then noneI (takeF N.1 N.2.1 (ix b * 2 + handN (cl (ix a))) (firmN (cl (ix a)) (wm (ix a))) (ix c) (ix b * 2 + handN (cl (ix a)))) else -2
def upR (s pn : Nat) (cl : Nat → Nat) (N : Mo) (a b : Int32) : Int32 := if inR a pn = true ∧ inR b s = true then nI (N.2.2.1 (ix a) ||| hearN (cl (ix a)) N.1 (ix b + 1)) else -2
def polishR (s : Nat) (N : Mo) (a : Int32) : Int32 := if inR a s = true then nI (plC N.1 (ix a) 2) else -2
def seenR (s pn sn : Nat) (a b c d : Int32) : Int32 := if inR a pn = true ∧ inR b s = true ∧ sayB c = true then (if inR d 2 = true then (if sn < 6 then nI (sn + 1) else -5) else -3) else -2
theorem takeF_le {f h : Nat → Nat} {j q t : Nat} (hf : ∀ i, f i ≤ 7) (ht : t ≤ 7) (i : Nat) : takeF f h j q t i ≤ 7 := by
  have h1 := hf i
  have h2 := hf j
  unfold takeF
  (repeat' split) <;> (simp only [va_up]; (repeat' split) <;> omega)
theorem takeH_le {f h : Nat → Nat} {j q t : Nat} (hh : ∀ i, h i ≤ 99) (hq : q ≤ 99) (i : Nat) : takeH f h j q t i ≤ 99 := by
  have h1 := hh i
  have h2 := hh j
  unfold takeH
  (repeat' split) <;> (simp only [va_up]; (repeat' split) <;> omega)

set_option maxHeartbeats 4000000 in
set_option maxRecDepth 100000 in
/-- BanisterWord.write  -/
theorem c_X10_write (l : Launch) (E : xE) (g : hG) (n : Nat) (Y : Nat) (v : Nat → Nat) (F : Nat → Nat → Nat) (P SP : Nat → Option Nat) (N : Mo) (Mp Kp : Nat → Mo) (x : Int32) (h5 : v 5 ≤ 160) : Ct l yX10_write cX10_write 2 (some .int) 1 21 0 0 E [.ref Y, .int x] (bG E g Y v F P SP N Mp Kp) n (zr (some (.int (writeR (v 5) x))) (if inR x 256 = true ∧ v 5 < 160 then bG E g Y (va_up v 5 (v 5 + 1)) (va_up F 2 (va_up (F 2) (v 5) (ix x))) P SP N Mp Kp else bG E g Y v F P SP N Mp Kp) (n)) := by
  refine Ct.of (by decide +kernel) (Nat.le_of_ble_eq_true rfl) (fun v hv => by simp only [List.mem_cons, List.not_mem_nil, or_false] at hv; (try rcases hv with rfl | rfl) <;> first | rfl | (subst hv; rfl) | exact hv.elim) ?_
  intro K hKl S
  subst hKl
  have X := S.1
  refine r_iload_n X dX10_write_0 rfl ?_
  refine r_if_lt X 11 dX10_write_1 (by decide) (fun c_1 => ?_) (fun c_1 => ?_)
  · skip
    refine r_bipush (v := (-3)) X dX10_write_11 (by decide) ?_
    refine r_iret S dX10_write_13 ?_
    have hx : inR x 256 = false := by first | exact inR_lt c_1 | exact gt_out (by decide) c_8
    exact ⟨by simp [writeR, hx], by rw [if_neg (by simp [hx])], rfl⟩
  · skip
    refine r_iload_n X dX10_write_4 rfl ?_
    refine r_sipush (v := nI 255) X dX10_write_5 (by decide) ?_
    refine r_icmp_le X 14 dX10_write_8 (by decide) (fun c_8 => ?_) (fun c_8 => ?_)
    · skip
      have hx := le_in (by decide) c_1 c_8
      obtain ⟨c, hc, rfl⟩ := inR_ex (by decide) hx
      have hix : ix (nI c) = c := ix_nI (by omega)
      refine r_aload_n X dX10_write_14 rfl ?_
      refine r_get (ci := 9) X 0 _ ti_RX10 rfl (by decide) tw_139 (fun _ h => h) dX10_write_15 (by first | exact b0 | exact bnow.c0 | exact bnow.rl.1 | exact bnow.c4 | exact bta.1 | exact b4 | exact btold.1 | exact btrial.1 | exact bpast.c0 | exact bk | exact bz | exact bsi.c0 | assumption) rfl ?_
      refine r_get (ci := 8) X 5 _ ti_RX9 rfl (by decide) tw_39 (fun _ h => h) dX10_write_18 (by first | exact b0 | exact bnow.c0 | exact bnow.rl.1 | exact bnow.c4 | exact bta.1 | exact b4 | exact btold.1 | exact btrial.1 | exact bpast.c0 | exact bk | exact bz | exact bsi.c0 | assumption) rfl ?_
      refine r_sipush (v := nI 160) X dX10_write_21 (by decide) ?_
      refine r_icmp_ltN X 30 dX10_write_24 (by decide) (by omega) (by omega) (fun c_24 => ?_) (fun c_24 => ?_)
      · skip
        refine r_aload_n X dX10_write_30 rfl ?_
        refine r_get (ci := 9) X 0 _ ti_RX10 rfl (by decide) tw_139 (fun _ h => h) dX10_write_31 (by first | exact b0 | exact bnow.c0 | exact bnow.rl.1 | exact bnow.c4 | exact bta.1 | exact b4 | exact btold.1 | exact btrial.1 | exact bpast.c0 | exact bk | exact bz | exact bsi.c0 | assumption) rfl ?_
        refine r_iload_n X dX10_write_34 rfl ?_
        refine r_callV (ci := 8) X rfl (c_X9_add _ E _ n (Y + 1) (F 2) (F 3) (v 2) (v 3) (v 4) (v 5) (v 6) c bta c_24) tw_177 tw_178 tw_179 tw_2 tw_180 rfl rfl (by first | exact b0 | exact bnow.c0 | exact bnow.rl.1 | exact bnow.c4 | exact bta.1 | exact b4 | exact btold.1 | exact btrial.1 | exact bpast.c0 | exact bk | exact bz | exact bsi.c0 | assumption) rfl ⟨ok_X9_add, ⟨Nat.le_of_ble_eq_true rfl, Nat.le_of_ble_eq_true rfl⟩, ⟨Nat.le_of_ble_eq_true rfl, Nat.le_of_ble_eq_true rfl⟩, Nat.le_of_ble_eq_true rfl⟩ dX10_write_35 (kk_v (Wf := Wg K E _ _ _ _) ?_)
        refine r_heap ((congrArg (fun G => hu G _ _) (u_let _)).trans (u_txt _ _ _ _ _)) ?_
        refine r_aload_n X dX10_write_38 rfl ?_
        refine r_get (ci := 9) X 0 _ ti_RX10 rfl (by decide) tw_139 (fun _ h => h) dX10_write_39 (by first | exact b0 | exact bnow.c0 | exact bnow.rl.1 | exact bnow.c4 | exact bta.1 | exact b4 | exact btold.1 | exact btrial.1 | exact bpast.c0 | exact bk | exact bz | exact bsi.c0 | assumption) rfl ?_
        refine r_get (ci := 8) X 5 _ ti_RX9 rfl (by decide) tw_39 (fun _ h => h) dX10_write_42 (by first | exact b0 | exact bnow.c0 | exact bnow.rl.1 | exact bnow.c4 | exact bta.1 | exact b4 | exact btold.1 | exact btrial.1 | exact bpast.c0 | exact bk | exact bz | exact bsi.c0 | assumption) rfl ?_
        refine r_iret S dX10_write_45 ?_
        refine ⟨by simp [writeR, hx, c_24]; rfl, ?_, rfl⟩
        rw [if_pos ⟨hx, c_24⟩, hix]
        congr 1
        funext k; simp only [va_up]; (repeat' split) <;> first | rfl | omega | (subst_vars; rfl)
      · skip
        refine r_bipush (v := (-5)) X dX10_write_27 (by decide) ?_
        refine r_iret S dX10_write_29 ?_
        exact ⟨by simp [writeR, hx, show ¬ v 5 < 160 by omega], by rw [if_neg (by omega)], rfl⟩
    · skip
      refine r_bipush (v := (-3)) X dX10_write_11 (by decide) ?_
      refine r_iret S dX10_write_13 ?_
      have hx : inR x 256 = false := by first | exact inR_lt c_1 | exact gt_out (by decide) c_8
      exact ⟨by simp [writeR, hx], by rw [if_neg (by simp [hx])], rfl⟩

set_option maxHeartbeats 4000000 in
set_option maxRecDepth 100000 in
/-- BanisterWord.down  -/
theorem c_X10_down (l : Launch) (E : xE) (g : hG) (n : Nat) (Y : Nat) (v : Nat → Nat) (F : Nat → Nat → Nat) (P SP : Nat → Option Nat) (N : Mo) (Mp Kp : Nat → Mo) (pad cl wm : Nat → Nat) (x y z : Int32) (hP : pOk g Y P (v 1) pad cl wm) (hN : ∀ j, N.1 j ≤ 7) (hN9 : ∀ j, N.2.1 j ≤ 99) (h0 : v 0 ≤ 12) (h1 : v 1 ≤ 6) (h7 : v 7 < 8) (h8 : v 8 ≤ 8) : Ct l yX10_down cX10_down 5 (some .int) 4 111 0 0 E [.ref Y, .int x, .int y, .int z] (bG E g Y v F P SP N Mp Kp) n (zr (some (.int (downR (v 0) (v 1) cl wm N x y z))) (if inR x (v 1) = true ∧ inR y (v 0) = true ∧ sayB z = true then bG E g Y (rmV v) F P SP (dnN N (cl (ix x)) (wm (ix x)) (ix y) (ix z)) (va_up Mp (v 7) N) Kp else bG E g Y v F P SP N Mp Kp) (n)) := by
  refine Ct.of (by decide +kernel) (Nat.le_of_ble_eq_true rfl) (fun v hv => by simp only [List.mem_cons, List.not_mem_nil, or_false] at hv; (try rcases hv with rfl | rfl | rfl | rfl) <;> first | rfl | (subst hv; rfl) | exact hv.elim) ?_
  intro K hKl S
  subst hKl
  have X := S.1
  refine r_aload_n X dX10_down_0 rfl ?_
  refine r_iload_n X dX10_down_1 rfl ?_
  rcases hpx : inR x (v 1)
  · skip
    refine r_callV (ci := 9) X rfl (c_X10_personAt_f _ E g n Y v F P SP N Mp Kp x hpx (by omega)) tw_390 tw_392 tp_11 tw_1 tw_393 rfl rfl (by first | exact b0 | exact bnow.c0 | exact bnow.rl.1 | exact bnow.c4 | exact bta.1 | exact b4 | exact btold.1 | exact btrial.1 | exact bpast.c0 | exact bk | exact bz | exact bsi.c0 | assumption) rfl ⟨ok_X10_personAt, ⟨Nat.le_of_ble_eq_true rfl, Nat.le_of_ble_eq_true rfl⟩, ⟨Nat.le_of_ble_eq_true rfl, Nat.le_of_ble_eq_true rfl⟩, Nat.le_of_ble_eq_true rfl⟩ dX10_down_2 (kk_r (Wf := Wg K E _ _ _ _) ?_)
    refine r_astoreN X dX10_down_5 (Nat.le_of_ble_eq_true rfl) ?_
    try dsimp only [List.set]
    refine r_aloadN X dX10_down_7 rfl ?_
    refine r_ifnullN X 27 dX10_down_9 (by decide) ?_
    refine r_bipush (v := (-2)) X dX10_down_27 (by decide) ?_
    refine r_iret S dX10_down_29 ?_
    exact ⟨by unfold downR; rw [if_neg (by simp [*])], by rw [if_neg (by simp [*])], rfl⟩
  · skip
    obtain ⟨i, hi, rfl⟩ := inR_ex (by omega) hpx
    have hix : ix (nI i) = i := ix_nI (by omega)
    have hcl := hP.c hi
    have hwm := hP.w hi
    have hhd := handN_le (cl i)
    refine r_callV (ci := 9) X rfl (c_X10_personAt_t _ E g n Y v F P SP N Mp Kp pad cl wm i hP hi (by omega)) tw_390 tw_392 tp_11 tw_1 tw_393 rfl rfl (by first | exact b0 | exact bnow.c0 | exact bnow.rl.1 | exact bnow.c4 | exact bta.1 | exact b4 | exact btold.1 | exact btrial.1 | exact bpast.c0 | exact bk | exact bz | exact bsi.c0 | assumption) rfl ⟨ok_X10_personAt, ⟨Nat.le_of_ble_eq_true rfl, Nat.le_of_ble_eq_true rfl⟩, ⟨Nat.le_of_ble_eq_true rfl, Nat.le_of_ble_eq_true rfl⟩, Nat.le_of_ble_eq_true rfl⟩ dX10_down_2 (kk_r (Wf := Wg K E _ _ _ _) ?_)
    refine r_astore X dX10_down_5 (Nat.le_of_ble_eq_true rfl) ?_
    try dsimp only [List.set]
    refine r_aload X dX10_down_7 rfl ?_
    refine r_ifnull X dX10_down_9 ?_
    refine r_aload_n X dX10_down_12 rfl ?_
    refine r_iload_n X dX10_down_13 rfl ?_
    refine r_callV (ci := 9) X rfl (c_X10_isStep _ E g n Y v F P SP N Mp Kp y h0) tw_413 tw_415 tp_12 tw_1 tw_416 rfl rfl (by first | exact b0 | exact bnow.c0 | exact bnow.rl.1 | exact bnow.c4 | exact bta.1 | exact b4 | exact btold.1 | exact btrial.1 | exact bpast.c0 | exact bk | exact bz | exact bsi.c0 | assumption) rfl ⟨ok_X10_isStep, ⟨Nat.le_of_ble_eq_true rfl, Nat.le_of_ble_eq_true rfl⟩, ⟨Nat.le_of_ble_eq_true rfl, Nat.le_of_ble_eq_true rfl⟩, Nat.le_of_ble_eq_true rfl⟩ dX10_down_14 (kk_r (Wf := Wg K E _ _ _ _) ?_)
    refine r_if_eqB X 27 dX10_down_17 (by decide) (fun c_17 => ?_) (fun c_17 => ?_)
    · skip
      refine r_bipush (v := (-2)) X dX10_down_27 (by decide) ?_
      refine r_iret S dX10_down_29 ?_
      exact ⟨by unfold downR; rw [if_neg (by simp [*])], by rw [if_neg (by simp [*])], rfl⟩
    · skip
      refine r_iload_n X dX10_down_20 rfl ?_
      refine r_callS X rfl (c_X10_isSaying _ E _ n z) tw_458 tw_459 tw_1 tw_460 rfl ⟨ok_X10_isSaying, ⟨Nat.le_of_ble_eq_true rfl, Nat.le_of_ble_eq_true rfl⟩, ⟨Nat.le_of_ble_eq_true rfl, Nat.le_of_ble_eq_true rfl⟩, Nat.le_of_ble_eq_true rfl⟩ dX10_down_21 (kk_r (Wf := Wg K E _ _ _ _) ?_)
      refine r_if_neB X 30 dX10_down_24 (by decide) (fun c_24 => ?_) (fun c_24 => ?_)
      · skip
        obtain ⟨s, hs, rfl⟩ := inR_ex (by omega) c_17
        obtain ⟨t, ht1, ht7, rfl⟩ := sayB_ex c_24
        have h1x : ix (nI s) = s := ix_nI (by omega)
        have h2x : ix (nI t) = t := ix_nI (by omega)
        refine r_aload_n X dX10_down_30 rfl ?_
        refine r_get (ci := 9) X 5 _ ti_RX10 rfl (by decide) tw_144 (fun _ h => h) dX10_down_31 (by first | exact b0 | exact bnow.c0 | exact bnow.rl.1 | exact bnow.c4 | exact bta.1 | exact b4 | exact btold.1 | exact btrial.1 | exact bpast.c0 | exact bk | exact bz | exact bsi.c0 | assumption) rfl ?_
        refine r_aload_n X dX10_down_34 rfl ?_
        refine r_get (ci := 9) X 4 _ ti_RX10 rfl (by decide) tw_143 (fun _ h => h) dX10_down_35 (by first | exact b0 | exact bnow.c0 | exact bnow.rl.1 | exact bnow.c4 | exact bta.1 | exact b4 | exact btold.1 | exact btrial.1 | exact bpast.c0 | exact bk | exact bz | exact bsi.c0 | assumption) rfl ?_
        refine r_callV (ci := 5) X rfl (c_X5_remember _ E _ n (Y + 16) (v 7) (v 8) (Y + 11) Mp N bpast h7 h8 bnow (by omega)) tw_461 tw_462 tw_463 tw_5 tw_464 rfl rfl (by first | exact b0 | exact bnow.c0 | exact bnow.rl.1 | exact bnow.c4 | exact bta.1 | exact b4 | exact btold.1 | exact btrial.1 | exact bpast.c0 | exact bk | exact bz | exact bsi.c0 | assumption) rfl ⟨ok_X5_remember, ⟨Nat.le_of_ble_eq_true rfl, Nat.le_of_ble_eq_true rfl⟩, ⟨Nat.le_of_ble_eq_true rfl, Nat.le_of_ble_eq_true rfl⟩, Nat.le_of_ble_eq_true rfl⟩ dX10_down_38 (kk_v (Wf := Wg K E _ _ _ _) ?_)
        refine r_heap (u_past _ _ _) ?_
        refine r_aload_n X dX10_down_41 rfl ?_
        refine r_get (ci := 9) X 4 _ ti_RX10 rfl (by decide) tw_143 (fun _ h => h) dX10_down_42 (by first | exact b0 | exact bnow.c0 | exact bnow.rl.1 | exact bnow.c4 | exact bta.1 | exact b4 | exact btold.1 | exact btrial.1 | exact bpast.c0 | exact bk | exact bz | exact bsi.c0 | assumption) rfl ?_
        refine r_get (ci := 4) X 0 _ ti_RX4 rfl (by decide) tw_82 (fun _ h => h) dX10_down_45 (by first | exact b0 | exact bnow.c0 | exact bnow.rl.1 | exact bnow.c4 | exact bta.1 | exact b4 | exact btold.1 | exact btrial.1 | exact bpast.c0 | exact bk | exact bz | exact bsi.c0 | assumption) rfl ?_
        refine r_aload X dX10_down_48 rfl ?_
        refine r_iload_n X dX10_down_50 rfl ?_
        refine r_iload_n X dX10_down_51 rfl ?_
        refine r_callV (ci := 6) X rfl (c_X7_takeSaying _ E _ n (Y + 11 + 1) (pad i) (cl i) (wm i) s t N.1 N.2.1 bnow.rl hcl hwm (hP.b hi) hN hN9 (by omega) (by omega)) tw_473 tw_474 tw_475 tw_3 tw_476 rfl rfl bnow.rl.1 rfl ⟨ok_X7_takeSaying, ⟨Nat.le_of_ble_eq_true rfl, Nat.le_of_ble_eq_true rfl⟩, ⟨Nat.le_of_ble_eq_true rfl, Nat.le_of_ble_eq_true rfl⟩, Nat.le_of_ble_eq_true rfl⟩ dX10_down_52 (kk_v (Wf := Wg K E _ _ _ _) ?_)
        refine r_heap (u_nowr _ _) ?_
        refine r_aload_n X dX10_down_55 rfl ?_
        refine r_iload_n X dX10_down_56 rfl ?_
        refine r_aload X dX10_down_57 rfl ?_
        refine vc_RX10_handHeight X rfl hcl hwm (hP.b hi) ⟨Nat.le_of_ble_eq_true rfl, Nat.le_of_ble_eq_true rfl⟩ ⟨⟨Nat.le_of_ble_eq_true rfl, Nat.le_of_ble_eq_true rfl⟩, Nat.le_of_ble_eq_true rfl⟩ dX10_down_59 ?_
        refine r_callV (ci := 9) X rfl (c_X10_sayingOrNone _ E g n Y _ F P SP _ _ Kp s (handN (cl i)) (by omega) (takeF_le hN ht7)) tw_420 tw_422 tp_13 tw_1 tw_423 rfl rfl (by first | exact b0 | exact bnow.c0 | exact bnow.rl.1 | exact bnow.c4 | exact bta.1 | exact b4 | exact btold.1 | exact btrial.1 | exact bpast.c0 | exact bk | exact bz | exact bsi.c0 | assumption) rfl ⟨ok_X10_sayingOrNone, ⟨Nat.le_of_ble_eq_true rfl, Nat.le_of_ble_eq_true rfl⟩, ⟨Nat.le_of_ble_eq_true rfl, Nat.le_of_ble_eq_true rfl⟩, Nat.le_of_ble_eq_true rfl⟩ dX10_down_62 (kk_r (Wf := Wg K E _ _ _ _) ?_)
        refine r_iret S dX10_down_65 ?_
        exact ⟨by simp [downR, noneI, hpx, c_17, c_24, hix, h1x, h2x], by rw [if_pos ⟨hpx, c_17, c_24⟩, hix, h1x, h2x]; rfl, rfl⟩
      · skip
        refine r_bipush (v := (-2)) X dX10_down_27 (by decide) ?_
        refine r_iret S dX10_down_29 ?_
        exact ⟨by unfold downR; rw [if_neg (by simp [*])], by rw [if_neg (by simp [*])], rfl⟩

set_option maxHeartbeats 4000000 in
set_option maxRecDepth 100000 in
/-- BanisterWord.up  -/
theorem c_X10_up (l : Launch) (E : xE) (g : hG) (n : Nat) (Y : Nat) (v : Nat → Nat) (F : Nat → Nat → Nat) (P SP : Nat → Option Nat) (N : Mo) (Mp Kp : Nat → Mo) (pad cl wm : Nat → Nat) (x y : Int32) (hP : pOk g Y P (v 1) pad cl wm) (hN : ∀ j, N.1 j ≤ 7) (hN9 : ∀ j, N.2.1 j ≤ 99) (hk : ∀ j, N.2.2.1 j < 256) (h0 : v 0 ≤ 12) (h1 : v 1 ≤ 6) (h7 : v 7 < 8) (h8 : v 8 ≤ 8) : Ct l yX10_up cX10_up 4 (some .int) 4 111 0 0 E [.ref Y, .int x, .int y] (bG E g Y v F P SP N Mp Kp) n (zr (some (.int (upR (v 0) (v 1) cl N x y))) (if inR x (v 1) = true ∧ inR y (v 0) = true then bG E g Y (rmV v) F P SP (upN N (cl (ix x)) (ix x) (ix y)) (va_up Mp (v 7) N) Kp else bG E g Y v F P SP N Mp Kp) (n)) := by
  refine Ct.of (by decide +kernel) (Nat.le_of_ble_eq_true rfl) (fun v hv => by simp only [List.mem_cons, List.not_mem_nil, or_false] at hv; (try rcases hv with rfl | rfl | rfl) <;> first | rfl | (subst hv; rfl) | exact hv.elim) ?_
  intro K hKl S
  subst hKl
  have X := S.1
  refine r_aload_n X dX10_up_0 rfl ?_
  refine r_iload_n X dX10_up_1 rfl ?_
  rcases hpx : inR x (v 1)
  · skip
    refine r_callV (ci := 9) X rfl (c_X10_personAt_f _ E g n Y v F P SP N Mp Kp x hpx (by omega)) tw_390 tw_392 tp_11 tw_1 tw_393 rfl rfl (by first | exact b0 | exact bnow.c0 | exact bnow.rl.1 | exact bnow.c4 | exact bta.1 | exact b4 | exact btold.1 | exact btrial.1 | exact bpast.c0 | exact bk | exact bz | exact bsi.c0 | assumption) rfl ⟨ok_X10_personAt, ⟨Nat.le_of_ble_eq_true rfl, Nat.le_of_ble_eq_true rfl⟩, ⟨Nat.le_of_ble_eq_true rfl, Nat.le_of_ble_eq_true rfl⟩, Nat.le_of_ble_eq_true rfl⟩ dX10_up_2 (kk_r (Wf := Wg K E _ _ _ _) ?_)
    refine r_astore_nN X dX10_up_5 (Nat.le_of_ble_eq_true rfl) ?_
    try dsimp only [List.set]
    refine r_aload_nN X dX10_up_6 rfl ?_
    refine r_ifnullN X 18 dX10_up_7 (by decide) ?_
    refine r_bipush (v := (-2)) X dX10_up_18 (by decide) ?_
    refine r_iret S dX10_up_20 ?_
    exact ⟨by unfold upR; rw [if_neg (by simp [*])], by rw [if_neg (by simp [*])], rfl⟩
  · skip
    obtain ⟨i, hi, rfl⟩ := inR_ex (by omega) hpx
    have hix : ix (nI i) = i := ix_nI (by omega)
    have hcl := hP.c hi
    have hwm := hP.w hi
    have hhd := handN_le (cl i)
    refine r_callV (ci := 9) X rfl (c_X10_personAt_t _ E g n Y v F P SP N Mp Kp pad cl wm i hP hi (by omega)) tw_390 tw_392 tp_11 tw_1 tw_393 rfl rfl (by first | exact b0 | exact bnow.c0 | exact bnow.rl.1 | exact bnow.c4 | exact bta.1 | exact b4 | exact btold.1 | exact btrial.1 | exact bpast.c0 | exact bk | exact bz | exact bsi.c0 | assumption) rfl ⟨ok_X10_personAt, ⟨Nat.le_of_ble_eq_true rfl, Nat.le_of_ble_eq_true rfl⟩, ⟨Nat.le_of_ble_eq_true rfl, Nat.le_of_ble_eq_true rfl⟩, Nat.le_of_ble_eq_true rfl⟩ dX10_up_2 (kk_r (Wf := Wg K E _ _ _ _) ?_)
    refine r_astore_n X dX10_up_5 (Nat.le_of_ble_eq_true rfl) ?_
    try dsimp only [List.set]
    refine r_aload_n X dX10_up_6 rfl ?_
    refine r_ifnull X dX10_up_7 ?_
    refine r_aload_n X dX10_up_10 rfl ?_
    refine r_iload_n X dX10_up_11 rfl ?_
    refine r_callV (ci := 9) X rfl (c_X10_isStep _ E g n Y v F P SP N Mp Kp y h0) tw_413 tw_415 tp_12 tw_1 tw_416 rfl rfl (by first | exact b0 | exact bnow.c0 | exact bnow.rl.1 | exact bnow.c4 | exact bta.1 | exact b4 | exact btold.1 | exact btrial.1 | exact bpast.c0 | exact bk | exact bz | exact bsi.c0 | assumption) rfl ⟨ok_X10_isStep, ⟨Nat.le_of_ble_eq_true rfl, Nat.le_of_ble_eq_true rfl⟩, ⟨Nat.le_of_ble_eq_true rfl, Nat.le_of_ble_eq_true rfl⟩, Nat.le_of_ble_eq_true rfl⟩ dX10_up_12 (kk_r (Wf := Wg K E _ _ _ _) ?_)
    refine r_if_neB X 21 dX10_up_15 (by decide) (fun c_15 => ?_) (fun c_15 => ?_)
    · skip
      obtain ⟨s, hs, rfl⟩ := inR_ex (by omega) c_15
      have h1x : ix (nI s) = s := ix_nI (by omega)
      refine r_aload_n X dX10_up_21 rfl ?_
      refine r_get (ci := 9) X 5 _ ti_RX10 rfl (by decide) tw_144 (fun _ h => h) dX10_up_22 (by first | exact b0 | exact bnow.c0 | exact bnow.rl.1 | exact bnow.c4 | exact bta.1 | exact b4 | exact btold.1 | exact btrial.1 | exact bpast.c0 | exact bk | exact bz | exact bsi.c0 | assumption) rfl ?_
      refine r_aload_n X dX10_up_25 rfl ?_
      refine r_get (ci := 9) X 4 _ ti_RX10 rfl (by decide) tw_143 (fun _ h => h) dX10_up_26 (by first | exact b0 | exact bnow.c0 | exact bnow.rl.1 | exact bnow.c4 | exact bta.1 | exact b4 | exact btold.1 | exact btrial.1 | exact bpast.c0 | exact bk | exact bz | exact bsi.c0 | assumption) rfl ?_
      refine r_callV (ci := 5) X rfl (c_X5_remember _ E _ n (Y + 16) (v 7) (v 8) (Y + 11) Mp N bpast h7 h8 bnow (by omega)) tw_461 tw_462 tw_463 tw_5 tw_464 rfl rfl (by first | exact b0 | exact bnow.c0 | exact bnow.rl.1 | exact bnow.c4 | exact bta.1 | exact b4 | exact btold.1 | exact btrial.1 | exact bpast.c0 | exact bk | exact bz | exact bsi.c0 | assumption) rfl ⟨ok_X5_remember, ⟨Nat.le_of_ble_eq_true rfl, Nat.le_of_ble_eq_true rfl⟩, ⟨Nat.le_of_ble_eq_true rfl, Nat.le_of_ble_eq_true rfl⟩, Nat.le_of_ble_eq_true rfl⟩ dX10_up_29 (kk_v (Wf := Wg K E _ _ _ _) ?_)
      refine r_heap (u_past _ _ _) ?_
      refine r_aload_n X dX10_up_32 rfl ?_
      refine r_get (ci := 9) X 4 _ ti_RX10 rfl (by decide) tw_143 (fun _ h => h) dX10_up_33 (by first | exact b0 | exact bnow.c0 | exact bnow.rl.1 | exact bnow.c4 | exact bta.1 | exact b4 | exact btold.1 | exact btrial.1 | exact bpast.c0 | exact bk | exact bz | exact bsi.c0 | assumption) rfl ?_
      refine r_get (ci := 4) X 1 _ ti_RX4 rfl (by decide) tw_84 (fun _ h => h) dX10_up_36 (by first | exact b0 | exact bnow.c0 | exact bnow.rl.1 | exact bnow.c4 | exact bta.1 | exact b4 | exact btold.1 | exact btrial.1 | exact bpast.c0 | exact bk | exact bz | exact bsi.c0 | assumption) rfl ?_
      refine r_iload_n X dX10_up_39 rfl ?_
      refine r_dup2 X dX10_up_40 rfl rfl ?_
      refine r_nald X _ dX10_up_41 (by first | exact b0 | exact bnow.c0 | exact bnow.rl.1 | exact bnow.c4 | exact bta.1 | exact b4 | exact btold.1 | exact btrial.1 | exact bpast.c0 | exact bk | exact bz | exact bsi.c0 | assumption) (rfl) (by omega) (by decide) ?_
      refine r_aload_n X dX10_up_42 rfl ?_
      refine r_get (ci := 9) X 4 _ ti_RX10 rfl (by decide) tw_143 (fun _ h => h) dX10_up_43 (by first | exact b0 | exact bnow.c0 | exact bnow.rl.1 | exact bnow.c4 | exact bta.1 | exact b4 | exact btold.1 | exact btrial.1 | exact bpast.c0 | exact bk | exact bz | exact bsi.c0 | assumption) rfl ?_
      refine r_get (ci := 4) X 0 _ ti_RX4 rfl (by decide) tw_82 (fun _ h => h) dX10_up_46 (by first | exact b0 | exact bnow.c0 | exact bnow.rl.1 | exact bnow.c4 | exact bta.1 | exact b4 | exact btold.1 | exact btrial.1 | exact bpast.c0 | exact bk | exact bz | exact bsi.c0 | assumption) rfl ?_
      refine r_aload_n X dX10_up_49 rfl ?_
      refine r_iload_n X dX10_up_50 rfl ?_
      refine r_callV (ci := 6) X rfl (c_X7_heardBy _ E _ n (Y + 11 + 1) (pad i) (cl i) (wm i) s N.1 N.2.1 bnow.rl hcl hwm (hP.b hi) hN (by omega)) tw_494 tw_495 tw_496 tw_3 tw_497 rfl rfl bnow.rl.1 rfl ⟨ok_X7_heardBy, ⟨Nat.le_of_ble_eq_true rfl, Nat.le_of_ble_eq_true rfl⟩, ⟨Nat.le_of_ble_eq_true rfl, Nat.le_of_ble_eq_true rfl⟩, Nat.le_of_ble_eq_true rfl⟩ dX10_up_51 (kk_r (Wf := Wg K E _ _ _ _) ?_)
      refine r_iorN X dX10_up_54 ?_
      refine r_nast X _ dX10_up_55 (by first | exact b0 | exact bnow.c0 | exact bnow.rl.1 | exact bnow.c4 | exact bta.1 | exact b4 | exact btold.1 | exact btrial.1 | exact bpast.c0 | exact bk | exact bz | exact bsi.c0 | assumption) (rfl) (by omega) (by decide) ?_
      refine r_heap (u_nowk _) ?_
      refine r_aload_n X dX10_up_56 rfl ?_
      refine r_get (ci := 9) X 4 _ ti_RX10 rfl (by decide) tw_143 (fun _ h => h) dX10_up_57 (by first | exact b0 | exact bnow.c0 | exact bnow.rl.1 | exact bnow.c4 | exact bta.1 | exact b4 | exact btold.1 | exact btrial.1 | exact bpast.c0 | exact bk | exact bz | exact bsi.c0 | assumption) rfl ?_
      refine r_get (ci := 4) X 0 _ ti_RX4 rfl (by decide) tw_82 (fun _ h => h) dX10_up_60 (by first | exact b0 | exact bnow.c0 | exact bnow.rl.1 | exact bnow.c4 | exact bta.1 | exact b4 | exact btold.1 | exact btrial.1 | exact bpast.c0 | exact bk | exact bz | exact bsi.c0 | assumption) rfl ?_
      refine r_aload_n X dX10_up_63 rfl ?_
      refine r_iload_n X dX10_up_64 rfl ?_
      refine r_callV (ci := 6) X rfl (c_X7_rubOff _ E _ n (Y + 11 + 1) (pad i) (cl i) (wm i) s N.1 N.2.1 bnow.rl hcl hwm (hP.b hi) hN9 (by omega)) tw_515 tw_516 tw_517 tw_3 tw_518 rfl rfl bnow.rl.1 rfl ⟨ok_X7_rubOff, ⟨Nat.le_of_ble_eq_true rfl, Nat.le_of_ble_eq_true rfl⟩, ⟨Nat.le_of_ble_eq_true rfl, Nat.le_of_ble_eq_true rfl⟩, Nat.le_of_ble_eq_true rfl⟩ dX10_up_65 (kk_v (Wf := Wg K E _ _ _ _) ?_)
      refine r_heap (u_nowr _ _) ?_
      refine r_aload_n X dX10_up_68 rfl ?_
      refine r_get (ci := 9) X 4 _ ti_RX10 rfl (by decide) tw_143 (fun _ h => h) dX10_up_69 (by first | exact b0 | exact bnow.c0 | exact bnow.rl.1 | exact bnow.c4 | exact bta.1 | exact b4 | exact btold.1 | exact btrial.1 | exact bpast.c0 | exact bk | exact bz | exact bsi.c0 | assumption) rfl ?_
      refine r_get (ci := 4) X 1 _ ti_RX4 rfl (by decide) tw_84 (fun _ h => h) dX10_up_72 (by first | exact b0 | exact bnow.c0 | exact bnow.rl.1 | exact bnow.c4 | exact bta.1 | exact b4 | exact btold.1 | exact btrial.1 | exact bpast.c0 | exact bk | exact bz | exact bsi.c0 | assumption) rfl ?_
      refine r_iload_n X dX10_up_75 rfl ?_
      refine r_nald X _ dX10_up_76 (by first | exact b0 | exact bnow.c0 | exact bnow.rl.1 | exact bnow.c4 | exact bta.1 | exact b4 | exact btold.1 | exact btrial.1 | exact bpast.c0 | exact bk | exact bz | exact bsi.c0 | assumption) (rfl) (by omega) (by decide) ?_
      refine r_iret S dX10_up_77 ?_
      exact ⟨by simp [upR, hpx, c_15, hix, h1x, va_up], by rw [if_pos ⟨hpx, c_15⟩, hix, h1x]; rfl, rfl⟩
    · skip
      refine r_bipush (v := (-2)) X dX10_up_18 (by decide) ?_
      refine r_iret S dX10_up_20 ?_
      exact ⟨by unfold upR; rw [if_neg (by simp [*])], by rw [if_neg (by simp [*])], rfl⟩

set_option maxHeartbeats 4000000 in
set_option maxRecDepth 100000 in
/-- BanisterWord.polish  -/
theorem c_X10_polish (l : Launch) (E : xE) (g : hG) (n : Nat) (Y : Nat) (v : Nat → Nat) (F : Nat → Nat → Nat) (P SP : Nat → Option Nat) (N : Mo) (Mp Kp : Nat → Mo) (x : Int32) (hN : ∀ j, N.1 j ≤ 7) (hN9 : ∀ j, N.2.1 j ≤ 99) (h0 : v 0 ≤ 12) (h7 : v 7 < 8) (h8 : v 8 ≤ 8) : Ct l yX10_polish cX10_polish 4 (some .int) 4 111 0 0 E [.ref Y, .int x] (bG E g Y v F P SP N Mp Kp) n (zr (some (.int (polishR (v 0) N x))) (if inR x (v 0) = true then bG E g Y (rmV v) F P SP (plN N (ix x)) (va_up Mp (v 7) N) Kp else bG E g Y v F P SP N Mp Kp) (n)) := by
  refine Ct.of (by decide +kernel) (Nat.le_of_ble_eq_true rfl) (fun v hv => by simp only [List.mem_cons, List.not_mem_nil, or_false] at hv; (try rcases hv with rfl | rfl) <;> first | rfl | (subst hv; rfl) | exact hv.elim) ?_
  intro K hKl S
  subst hKl
  have X := S.1
  refine r_aload_n X dX10_polish_0 rfl ?_
  refine r_iload_n X dX10_polish_1 rfl ?_
  refine r_callV (ci := 9) X rfl (c_X10_isStep _ E g n Y v F P SP N Mp Kp x h0) tw_413 tw_415 tp_12 tw_1 tw_416 rfl rfl (by first | exact b0 | exact bnow.c0 | exact bnow.rl.1 | exact bnow.c4 | exact bta.1 | exact b4 | exact btold.1 | exact btrial.1 | exact bpast.c0 | exact bk | exact bz | exact bsi.c0 | assumption) rfl ⟨ok_X10_isStep, ⟨Nat.le_of_ble_eq_true rfl, Nat.le_of_ble_eq_true rfl⟩, ⟨Nat.le_of_ble_eq_true rfl, Nat.le_of_ble_eq_true rfl⟩, Nat.le_of_ble_eq_true rfl⟩ dX10_polish_2 (kk_r (Wf := Wg K E _ _ _ _) ?_)
  refine r_if_neB X 11 dX10_polish_5 (by decide) (fun c_5 => ?_) (fun c_5 => ?_)
  · skip
    obtain ⟨s, hs, rfl⟩ := inR_ex (by omega) c_5
    have h1x : ix (nI s) = s := ix_nI (by omega)
    refine r_aload_n X dX10_polish_11 rfl ?_
    refine r_get (ci := 9) X 5 _ ti_RX10 rfl (by decide) tw_144 (fun _ h => h) dX10_polish_12 (by first | exact b0 | exact bnow.c0 | exact bnow.rl.1 | exact bnow.c4 | exact bta.1 | exact b4 | exact btold.1 | exact btrial.1 | exact bpast.c0 | exact bk | exact bz | exact bsi.c0 | assumption) rfl ?_
    refine r_aload_n X dX10_polish_15 rfl ?_
    refine r_get (ci := 9) X 4 _ ti_RX10 rfl (by decide) tw_143 (fun _ h => h) dX10_polish_16 (by first | exact b0 | exact bnow.c0 | exact bnow.rl.1 | exact bnow.c4 | exact bta.1 | exact b4 | exact btold.1 | exact btrial.1 | exact bpast.c0 | exact bk | exact bz | exact bsi.c0 | assumption) rfl ?_
    refine r_callV (ci := 5) X rfl (c_X5_remember _ E _ n (Y + 16) (v 7) (v 8) (Y + 11) Mp N bpast h7 h8 bnow (by omega)) tw_461 tw_462 tw_463 tw_5 tw_464 rfl rfl (by first | exact b0 | exact bnow.c0 | exact bnow.rl.1 | exact bnow.c4 | exact bta.1 | exact b4 | exact btold.1 | exact btrial.1 | exact bpast.c0 | exact bk | exact bz | exact bsi.c0 | assumption) rfl ⟨ok_X5_remember, ⟨Nat.le_of_ble_eq_true rfl, Nat.le_of_ble_eq_true rfl⟩, ⟨Nat.le_of_ble_eq_true rfl, Nat.le_of_ble_eq_true rfl⟩, Nat.le_of_ble_eq_true rfl⟩ dX10_polish_19 (kk_v (Wf := Wg K E _ _ _ _) ?_)
    refine r_heap (u_past _ _ _) ?_
    refine r_iconst (v := nI 0) X dX10_polish_22 (by decide) ?_
    refine r_istore_n X dX10_polish_23 (Nat.le_of_ble_eq_true rfl) ?_
    try dsimp only [List.set]
    refine r_iconst (v := nI 0) X dX10_polish_24 (by decide) ?_
    refine r_istore_n X dX10_polish_25 (Nat.le_of_ble_eq_true rfl) ?_
    try dsimp only [List.set]
    have hloop : ∀ (k : Nat), k ≤ 2 → Wg K E (0) (0) 26 [some (.ref Y), some (.int (nI s)), some (.int (nI (plC N.1 s k))), some (.int (nI k))] [] (bG E g Y (rmV v) F P SP (plF s k N.1, plF s k N.2.1, N.2.2.1, N.2.2.2) (va_up Mp (v 7) N) Kp) (n) := by
      refine ind_up _ (2) (fun k hk ih => ?_)
      have b1 := hN (s * 2 + k)
      have b2 : plF s k N.1 (s * 2 + k) = N.1 (s * 2 + k) := if_neg (by omega)
      have b3 : plF s k N.1 (s * 2 + k) ≤ 7 := by omega
      refine r_iload_n X dX10_polish_26 rfl ?_
      refine r_iconst (v := nI 2) X dX10_polish_27 (by decide) ?_
      refine r_icmp_geN X 69 dX10_polish_28 (by decide) (by omega) (by omega) (fun c_28 => ?_) (fun c_28 => ?_)
      · skip
        refine r_iload_n X dX10_polish_69 rfl ?_
        refine r_iret S dX10_polish_70 ?_
        obtain rfl : k = 2 := by omega
        exact ⟨by simp [polishR, c_5, h1x], by rw [if_pos c_5, h1x]; rfl, rfl⟩
      · skip
        refine r_aload_n X dX10_polish_31 rfl ?_
        refine r_get (ci := 9) X 4 _ ti_RX10 rfl (by decide) tw_143 (fun _ h => h) dX10_polish_32 (by first | exact b0 | exact bnow.c0 | exact bnow.rl.1 | exact bnow.c4 | exact bta.1 | exact b4 | exact btold.1 | exact btrial.1 | exact bpast.c0 | exact bk | exact bz | exact bsi.c0 | assumption) rfl ?_
        refine r_get (ci := 4) X 0 _ ti_RX4 rfl (by decide) tw_82 (fun _ h => h) dX10_polish_35 (by first | exact b0 | exact bnow.c0 | exact bnow.rl.1 | exact bnow.c4 | exact bta.1 | exact b4 | exact btold.1 | exact btrial.1 | exact bpast.c0 | exact bk | exact bz | exact bsi.c0 | assumption) rfl ?_
        refine r_iload_n X dX10_polish_38 rfl ?_
        refine r_iload_n X dX10_polish_39 rfl ?_
        refine r_callV (ci := 6) X rfl (c_X7_sayingAt _ E _ n (Y + 11 + 1) _ _ s k bnow.rl (by omega)) tw_424 tw_425 tw_426 tw_3 tw_427 rfl rfl bnow.rl.1 rfl ⟨ok_X7_sayingAt, ⟨Nat.le_of_ble_eq_true rfl, Nat.le_of_ble_eq_true rfl⟩, ⟨Nat.le_of_ble_eq_true rfl, Nat.le_of_ble_eq_true rfl⟩, Nat.le_of_ble_eq_true rfl⟩ dX10_polish_40 (kk_r (Wf := Wg K E _ _ _ _) ?_)
        refine r_top _ (nI (N.1 (s * 2 + k))) (congrArg nI b2) ?_
        refine r_if_eqN X 49 dX10_polish_43 (by decide) (by omega) (fun c_43 => ?_) (fun c_43 => ?_)
        · skip
          refine r_aload_n X dX10_polish_49 rfl ?_
          refine r_get (ci := 9) X 4 _ ti_RX10 rfl (by decide) tw_143 (fun _ h => h) dX10_polish_50 (by first | exact b0 | exact bnow.c0 | exact bnow.rl.1 | exact bnow.c4 | exact bta.1 | exact b4 | exact btold.1 | exact btrial.1 | exact bpast.c0 | exact bk | exact bz | exact bsi.c0 | assumption) rfl ?_
          refine r_get (ci := 4) X 0 _ ti_RX4 rfl (by decide) tw_82 (fun _ h => h) dX10_polish_53 (by first | exact b0 | exact bnow.c0 | exact bnow.rl.1 | exact bnow.c4 | exact bta.1 | exact b4 | exact btold.1 | exact btrial.1 | exact bpast.c0 | exact bk | exact bz | exact bsi.c0 | assumption) rfl ?_
          refine r_iload_n X dX10_polish_56 rfl ?_
          refine r_iload_n X dX10_polish_57 rfl ?_
          refine r_iconst (v := nI 0) X dX10_polish_58 (by decide) ?_
          refine r_iconst (v := nI 0) X dX10_polish_59 (by decide) ?_
          refine r_callV (ci := 6) X rfl (c_X7_put _ E _ n (Y + 11 + 1) _ _ s k 0 0 bnow.rl (by omega) (by omega)) tw_313 tw_314 tw_315 tw_3 tw_316 rfl rfl bnow.rl.1 rfl ⟨ok_X7_put, ⟨Nat.le_of_ble_eq_true rfl, Nat.le_of_ble_eq_true rfl⟩, ⟨Nat.le_of_ble_eq_true rfl, Nat.le_of_ble_eq_true rfl⟩, Nat.le_of_ble_eq_true rfl⟩ dX10_polish_60 (kk_v (Wf := Wg K E _ _ _ _) ?_)
          refine r_heap (u_nowr _ _) ?_
          first | refine r_iincN X dX10_polish_63 rfl ?_ | refine r_iinc X _ dX10_polish_63 rfl rfl ?_
          try dsimp only [List.set]
          refine r_goto X 26 dX10_polish_66 (by decide) ?_
          have e9 : plC N.1 s (k + 1) = plC N.1 s k + (if N.1 (s * 2 + k) = 0 then 0 else 1) := rfl
          have ih9 := ih (by omega)
          rw [e9] at ih9
          have eF : ∀ f : Nat → Nat, va_up (plF s k f) (s * 2 + k) 0 = plF s (k + 1) f := fun f => by
            funext j; simp only [va_up, plF]; (repeat' split) <;> first | rfl | omega
          refine r_heap ?_ (?_ : Wg K E _ _ _ _ _ (bG E g Y (rmV v) F P SP (plF s (k + 1) N.1, plF s (k + 1) N.2.1, N.2.2.1, N.2.2.2) (va_up Mp (v 7) N) Kp) _)
          · rw [← eF N.1, ← eF N.2.1]; rfl
          · first | (rw [if_pos (by omega)] at ih9; exact ih9) | (rw [if_neg (by omega)] at ih9; exact ih9)
        · skip
          first | refine r_iincN X dX10_polish_46 rfl ?_ | refine r_iinc X _ dX10_polish_46 rfl rfl ?_
          try dsimp only [List.set]
          refine r_aload_n X dX10_polish_49 rfl ?_
          refine r_get (ci := 9) X 4 _ ti_RX10 rfl (by decide) tw_143 (fun _ h => h) dX10_polish_50 (by first | exact b0 | exact bnow.c0 | exact bnow.rl.1 | exact bnow.c4 | exact bta.1 | exact b4 | exact btold.1 | exact btrial.1 | exact bpast.c0 | exact bk | exact bz | exact bsi.c0 | assumption) rfl ?_
          refine r_get (ci := 4) X 0 _ ti_RX4 rfl (by decide) tw_82 (fun _ h => h) dX10_polish_53 (by first | exact b0 | exact bnow.c0 | exact bnow.rl.1 | exact bnow.c4 | exact bta.1 | exact b4 | exact btold.1 | exact btrial.1 | exact bpast.c0 | exact bk | exact bz | exact bsi.c0 | assumption) rfl ?_
          refine r_iload_n X dX10_polish_56 rfl ?_
          refine r_iload_n X dX10_polish_57 rfl ?_
          refine r_iconst (v := nI 0) X dX10_polish_58 (by decide) ?_
          refine r_iconst (v := nI 0) X dX10_polish_59 (by decide) ?_
          refine r_callV (ci := 6) X rfl (c_X7_put _ E _ n (Y + 11 + 1) _ _ s k 0 0 bnow.rl (by omega) (by omega)) tw_313 tw_314 tw_315 tw_3 tw_316 rfl rfl bnow.rl.1 rfl ⟨ok_X7_put, ⟨Nat.le_of_ble_eq_true rfl, Nat.le_of_ble_eq_true rfl⟩, ⟨Nat.le_of_ble_eq_true rfl, Nat.le_of_ble_eq_true rfl⟩, Nat.le_of_ble_eq_true rfl⟩ dX10_polish_60 (kk_v (Wf := Wg K E _ _ _ _) ?_)
          refine r_heap (u_nowr _ _) ?_
          first | refine r_iincN X dX10_polish_63 rfl ?_ | refine r_iinc X _ dX10_polish_63 rfl rfl ?_
          try dsimp only [List.set]
          refine r_goto X 26 dX10_polish_66 (by decide) ?_
          have e9 : plC N.1 s (k + 1) = plC N.1 s k + (if N.1 (s * 2 + k) = 0 then 0 else 1) := rfl
          have ih9 := ih (by omega)
          rw [e9] at ih9
          have eF : ∀ f : Nat → Nat, va_up (plF s k f) (s * 2 + k) 0 = plF s (k + 1) f := fun f => by
            funext j; simp only [va_up, plF]; (repeat' split) <;> first | rfl | omega
          refine r_heap ?_ (?_ : Wg K E _ _ _ _ _ (bG E g Y (rmV v) F P SP (plF s (k + 1) N.1, plF s (k + 1) N.2.1, N.2.2.1, N.2.2.2) (va_up Mp (v 7) N) Kp) _)
          · rw [← eF N.1, ← eF N.2.1]; rfl
          · first | (rw [if_pos (by omega)] at ih9; exact ih9) | (rw [if_neg (by omega)] at ih9; exact ih9)
    refine r_heap ?_ (hloop 0 (Nat.zero_le _))
    have e0 : ∀ f : Nat → Nat, plF s 0 f = f := fun f => by funext j; simp only [plF]; rw [if_neg (by omega)]
    rw [e0, e0]; rfl
  · skip
    refine r_bipush (v := (-2)) X dX10_polish_8 (by decide) ?_
    refine r_iret S dX10_polish_10 ?_
    exact ⟨by simp [polishR, c_5], by rw [if_neg (by simp [c_5])], rfl⟩

set_option maxHeartbeats 4000000 in
set_option maxRecDepth 100000 in
/-- BanisterWord.night  -/
theorem c_X10_night (l : Launch) (E : xE) (g : hG) (n : Nat) (Y : Nat) (v : Nat → Nat) (F : Nat → Nat → Nat) (P SP : Nat → Option Nat) (N : Mo) (Mp Kp : Nat → Mo)  (hN9 : ∀ j, N.2.1 j ≤ 99) (hd : N.2.2.2 ≤ 999) (h7 : v 7 < 8) (h8 : v 8 ≤ 8) : Ct l yX10_night cX10_night 1 (some .int) 4 111 0 0 E [.ref Y] (bG E g Y v F P SP N Mp Kp) n (zr (some (.int (if N.2.2.2 < 999 then nI (N.2.2.2 + 1) else -5))) (if N.2.2.2 < 999 then bG E g Y (rmV v) F P SP (ngN N) (va_up Mp (v 7) N) Kp else bG E g Y v F P SP N Mp Kp) (n)) := by
  refine Ct.of (by decide +kernel) (Nat.le_of_ble_eq_true rfl) (fun v hv => by simp only [List.mem_cons, List.not_mem_nil, or_false] at hv; (try rcases hv with rfl) <;> first | rfl | (subst hv; rfl) | exact hv.elim) ?_
  intro K hKl S
  subst hKl
  have X := S.1
  refine r_aload_n X dX10_night_0 rfl ?_
  refine r_get (ci := 9) X 4 _ ti_RX10 rfl (by decide) tw_143 (fun _ h => h) dX10_night_1 (by first | exact b0 | exact bnow.c0 | exact bnow.rl.1 | exact bnow.c4 | exact bta.1 | exact b4 | exact btold.1 | exact btrial.1 | exact bpast.c0 | exact bk | exact bz | exact bsi.c0 | assumption) rfl ?_
  refine r_get (ci := 4) X 2 _ ti_RX4 rfl (by decide) tw_86 (fun _ h => h) dX10_night_4 (by first | exact b0 | exact bnow.c0 | exact bnow.rl.1 | exact bnow.c4 | exact bta.1 | exact b4 | exact btold.1 | exact btrial.1 | exact bpast.c0 | exact bk | exact bz | exact bsi.c0 | assumption) rfl ?_
  refine r_sipush (v := nI 999) X dX10_night_7 (by decide) ?_
  refine r_icmp_ltN X 16 dX10_night_10 (by decide) (by omega) (by omega) (fun c_10 => ?_) (fun c_10 => ?_)
  · skip
    refine r_aload_n X dX10_night_16 rfl ?_
    refine r_get (ci := 9) X 5 _ ti_RX10 rfl (by decide) tw_144 (fun _ h => h) dX10_night_17 (by first | exact b0 | exact bnow.c0 | exact bnow.rl.1 | exact bnow.c4 | exact bta.1 | exact b4 | exact btold.1 | exact btrial.1 | exact bpast.c0 | exact bk | exact bz | exact bsi.c0 | assumption) rfl ?_
    refine r_aload_n X dX10_night_20 rfl ?_
    refine r_get (ci := 9) X 4 _ ti_RX10 rfl (by decide) tw_143 (fun _ h => h) dX10_night_21 (by first | exact b0 | exact bnow.c0 | exact bnow.rl.1 | exact bnow.c4 | exact bta.1 | exact b4 | exact btold.1 | exact btrial.1 | exact bpast.c0 | exact bk | exact bz | exact bsi.c0 | assumption) rfl ?_
    refine r_callV (ci := 5) X rfl (c_X5_remember _ E _ n (Y + 16) (v 7) (v 8) (Y + 11) Mp N bpast h7 h8 bnow (by omega)) tw_461 tw_462 tw_463 tw_5 tw_464 rfl rfl (by first | exact b0 | exact bnow.c0 | exact bnow.rl.1 | exact bnow.c4 | exact bta.1 | exact b4 | exact btold.1 | exact btrial.1 | exact bpast.c0 | exact bk | exact bz | exact bsi.c0 | assumption) rfl ⟨ok_X5_remember, ⟨Nat.le_of_ble_eq_true rfl, Nat.le_of_ble_eq_true rfl⟩, ⟨Nat.le_of_ble_eq_true rfl, Nat.le_of_ble_eq_true rfl⟩, Nat.le_of_ble_eq_true rfl⟩ dX10_night_24 (kk_v (Wf := Wg K E _ _ _ _) ?_)
    refine r_heap (u_past _ _ _) ?_
    refine r_aload_n X dX10_night_27 rfl ?_
    refine r_get (ci := 9) X 4 _ ti_RX10 rfl (by decide) tw_143 (fun _ h => h) dX10_night_28 (by first | exact b0 | exact bnow.c0 | exact bnow.rl.1 | exact bnow.c4 | exact bta.1 | exact b4 | exact btold.1 | exact btrial.1 | exact bpast.c0 | exact bk | exact bz | exact bsi.c0 | assumption) rfl ?_
    refine r_get (ci := 4) X 0 _ ti_RX4 rfl (by decide) tw_82 (fun _ h => h) dX10_night_31 (by first | exact b0 | exact bnow.c0 | exact bnow.rl.1 | exact bnow.c4 | exact bta.1 | exact b4 | exact btold.1 | exact btrial.1 | exact bpast.c0 | exact bk | exact bz | exact bsi.c0 | assumption) rfl ?_
    refine r_callV (ci := 6) X rfl (c_X7_cool _ E _ n (Y + 11 + 1) N.1 N.2.1 bnow.rl hN9) tw_534 tw_535 tw_536 tw_3 tw_537 rfl rfl bnow.rl.1 rfl ⟨ok_X7_cool, ⟨Nat.le_of_ble_eq_true rfl, Nat.le_of_ble_eq_true rfl⟩, ⟨Nat.le_of_ble_eq_true rfl, Nat.le_of_ble_eq_true rfl⟩, Nat.le_of_ble_eq_true rfl⟩ dX10_night_34 (kk_v (Wf := Wg K E _ _ _ _) ?_)
    refine r_heap (u_nowr _ _) ?_
    refine r_aload_n X dX10_night_37 rfl ?_
    refine r_get (ci := 9) X 4 _ ti_RX10 rfl (by decide) tw_143 (fun _ h => h) dX10_night_38 (by first | exact b0 | exact bnow.c0 | exact bnow.rl.1 | exact bnow.c4 | exact bta.1 | exact b4 | exact btold.1 | exact btrial.1 | exact bpast.c0 | exact bk | exact bz | exact bsi.c0 | assumption) rfl ?_
    refine r_dup X dX10_night_41 rfl ?_
    refine r_get (ci := 4) X 2 _ ti_RX4 rfl (by decide) tw_86 (fun _ h => h) dX10_night_42 (by first | exact b0 | exact bnow.c0 | exact bnow.rl.1 | exact bnow.c4 | exact bta.1 | exact b4 | exact btold.1 | exact btrial.1 | exact bpast.c0 | exact bk | exact bz | exact bsi.c0 | assumption) rfl ?_
    refine r_iconst (v := nI 1) X dX10_night_45 (by decide) ?_
    first | refine r_iaddN X dX10_night_46 ?_ | refine r_iadd X _ dX10_night_46 rfl ?_
    refine r_put (ci := 4) (ty := .int) X 2 ti_RX4 tyX4 tyX4_ok nmX4 rfl (by decide) tw_86 (fun _ h => h) rfl (by decide +kernel) dX10_night_47 (by first | exact b0 | exact bnow.c0 | exact bnow.rl.1 | exact bnow.c4 | exact bta.1 | exact b4 | exact btold.1 | exact btrial.1 | exact bpast.c0 | exact bk | exact bz | exact bsi.c0 | assumption) rfl rfl (Nat.le_of_ble_eq_true rfl) ?_
    try dsimp only [List.set]
    refine r_heap (u_nowd _) ?_
    refine r_aload_n X dX10_night_50 rfl ?_
    refine r_get (ci := 9) X 4 _ ti_RX10 rfl (by decide) tw_143 (fun _ h => h) dX10_night_51 (by first | exact b0 | exact bnow.c0 | exact bnow.rl.1 | exact bnow.c4 | exact bta.1 | exact b4 | exact btold.1 | exact btrial.1 | exact bpast.c0 | exact bk | exact bz | exact bsi.c0 | assumption) rfl ?_
    refine r_get (ci := 4) X 2 _ ti_RX4 rfl (by decide) tw_86 (fun _ h => h) dX10_night_54 (by first | exact b0 | exact bnow.c0 | exact bnow.rl.1 | exact bnow.c4 | exact bta.1 | exact b4 | exact btold.1 | exact btrial.1 | exact bpast.c0 | exact bk | exact bz | exact bsi.c0 | assumption) rfl ?_
    refine r_iret S dX10_night_57 ?_
    exact ⟨by rw [if_pos c_10], by rw [if_pos c_10]; rfl, rfl⟩
  · skip
    refine r_bipush (v := (-5)) X dX10_night_13 (by decide) ?_
    refine r_iret S dX10_night_15 ?_
    exact ⟨by rw [if_neg (by omega)], by rw [if_neg (by omega)], rfl⟩

set_option maxHeartbeats 4000000 in
set_option maxRecDepth 100000 in
/-- BanisterWord.undo  -/
theorem c_X10_undo (l : Launch) (E : xE) (g : hG) (n : Nat) (Y : Nat) (v : Nat → Nat) (F : Nat → Nat → Nat) (P SP : Nat → Option Nat) (N : Mo) (Mp Kp : Nat → Mo)  (h7 : v 7 < 8) (h8 : v 8 ≤ 8) : Ct l yX10_undo cX10_undo 1 (some .int) 4 111 0 0 E [.ref Y] (bG E g Y v F P SP N Mp Kp) n (zr (some (.int (if v 8 = 0 then -4 else nI (v 8 - 1)))) (if v 8 = 0 then bG E g Y v F P SP N Mp Kp else bG E g Y (va_up (va_up v 7 ((v 7 + 8 - 1) % 8)) 8 (v 8 - 1)) F P SP (Mp ((v 7 + 8 - 1) % 8)) Mp Kp) (n)) := by
  refine Ct.of (by decide +kernel) (Nat.le_of_ble_eq_true rfl) (fun v hv => by simp only [List.mem_cons, List.not_mem_nil, or_false] at hv; (try rcases hv with rfl) <;> first | rfl | (subst hv; rfl) | exact hv.elim) ?_
  intro K hKl S
  subst hKl
  have X := S.1
  refine r_aload_n X dX10_undo_0 rfl ?_
  refine r_get (ci := 9) X 5 _ ti_RX10 rfl (by decide) tw_144 (fun _ h => h) dX10_undo_1 (by first | exact b0 | exact bnow.c0 | exact bnow.rl.1 | exact bnow.c4 | exact bta.1 | exact b4 | exact btold.1 | exact btrial.1 | exact bpast.c0 | exact bk | exact bz | exact bsi.c0 | assumption) rfl ?_
  refine r_get (ci := 5) X 2 _ ti_RX5 rfl (by decide) tw_106 (fun _ h => h) dX10_undo_4 (by first | exact b0 | exact bnow.c0 | exact bnow.rl.1 | exact bnow.c4 | exact bta.1 | exact b4 | exact btold.1 | exact btrial.1 | exact bpast.c0 | exact bk | exact bz | exact bsi.c0 | assumption) rfl ?_
  refine r_if_neN X 13 dX10_undo_7 (by decide) (by omega) (fun c_7 => ?_) (fun c_7 => ?_)
  · skip
    refine r_aload_n X dX10_undo_13 rfl ?_
    refine r_get (ci := 9) X 5 _ ti_RX10 rfl (by decide) tw_144 (fun _ h => h) dX10_undo_14 (by first | exact b0 | exact bnow.c0 | exact bnow.rl.1 | exact bnow.c4 | exact bta.1 | exact b4 | exact btold.1 | exact btrial.1 | exact bpast.c0 | exact bk | exact bz | exact bsi.c0 | assumption) rfl ?_
    refine r_aload_n X dX10_undo_17 rfl ?_
    refine r_get (ci := 9) X 4 _ ti_RX10 rfl (by decide) tw_143 (fun _ h => h) dX10_undo_18 (by first | exact b0 | exact bnow.c0 | exact bnow.rl.1 | exact bnow.c4 | exact bta.1 | exact b4 | exact btold.1 | exact btrial.1 | exact bpast.c0 | exact bk | exact bz | exact bsi.c0 | assumption) rfl ?_
    refine r_callV (ci := 5) X rfl (c_X5_restoreLatest _ E _ n (Y + 16) (v 7) (v 8) (Y + 11) Mp N bpast h7 h8 c_7 bnow (by omega)) tw_542 tw_543 tw_544 tw_5 tw_545 rfl rfl (by first | exact b0 | exact bnow.c0 | exact bnow.rl.1 | exact bnow.c4 | exact bta.1 | exact b4 | exact btold.1 | exact btrial.1 | exact bpast.c0 | exact bk | exact bz | exact bsi.c0 | assumption) rfl ⟨ok_X5_restoreLatest, ⟨Nat.le_of_ble_eq_true rfl, Nat.le_of_ble_eq_true rfl⟩, ⟨Nat.le_of_ble_eq_true rfl, Nat.le_of_ble_eq_true rfl⟩, Nat.le_of_ble_eq_true rfl⟩ dX10_undo_21 (kk_v (Wf := Wg K E _ _ _ _) ?_)
    refine r_heap ((congrArg (fun G => mR E G _ _) (u_pasth _ _)).trans (u_now _)) ?_
    refine r_aload_n X dX10_undo_24 rfl ?_
    refine r_get (ci := 9) X 5 _ ti_RX10 rfl (by decide) tw_144 (fun _ h => h) dX10_undo_25 (by first | exact b0 | exact bnow.c0 | exact bnow.rl.1 | exact bnow.c4 | exact bta.1 | exact b4 | exact btold.1 | exact btrial.1 | exact bpast.c0 | exact bk | exact bz | exact bsi.c0 | assumption) rfl ?_
    refine r_get (ci := 5) X 2 _ ti_RX5 rfl (by decide) tw_106 (fun _ h => h) dX10_undo_28 (by first | exact b0 | exact bnow.c0 | exact bnow.rl.1 | exact bnow.c4 | exact bta.1 | exact b4 | exact btold.1 | exact btrial.1 | exact bpast.c0 | exact bk | exact bz | exact bsi.c0 | assumption) rfl ?_
    refine r_iret S dX10_undo_31 ?_
    exact ⟨by rw [if_neg (by omega)]; rfl, by rw [if_neg (by omega)], rfl⟩
  · skip
    refine r_bipush (v := (-4)) X dX10_undo_10 (by decide) ?_
    refine r_iret S dX10_undo_12 ?_
    exact ⟨by rw [if_pos c_7], by rw [if_pos c_7], rfl⟩

set_option maxHeartbeats 4000000 in
set_option maxRecDepth 100000 in
/-- BanisterWord.keep  -/
theorem c_X10_keep (l : Launch) (E : xE) (g : hG) (n : Nat) (Y : Nat) (v : Nat → Nat) (F : Nat → Nat → Nat) (P SP : Nat → Option Nat) (N : Mo) (Mp Kp : Nat → Mo) (x : Int32)  : Ct l yX10_keep cX10_keep 2 (some .int) 3 90 0 0 E [.ref Y, .int x] (bG E g Y v F P SP N Mp Kp) n (zr (some (.int (if inR x 2 = true then nI N.2.2.2 else -2))) (if inR x 2 = true then bG E g Y v (va_up F 59 (va_up (F 59) (ix x) 1)) P SP N Mp (va_up Kp (ix x) N) else bG E g Y v F P SP N Mp Kp) (n)) := by
  refine Ct.of (by decide +kernel) (Nat.le_of_ble_eq_true rfl) (fun v hv => by simp only [List.mem_cons, List.not_mem_nil, or_false] at hv; (try rcases hv with rfl | rfl) <;> first | rfl | (subst hv; rfl) | exact hv.elim) ?_
  intro K hKl S
  subst hKl
  have X := S.1
  refine r_iload_n X dX10_keep_0 rfl ?_
  refine r_callS X rfl (c_X10_isKeepingPlace _ E _ n x) tw_550 tw_551 tw_1 tw_552 rfl ⟨ok_X10_isKeepingPlace, ⟨Nat.le_of_ble_eq_true rfl, Nat.le_of_ble_eq_true rfl⟩, ⟨Nat.le_of_ble_eq_true rfl, Nat.le_of_ble_eq_true rfl⟩, Nat.le_of_ble_eq_true rfl⟩ dX10_keep_1 (kk_r (Wf := Wg K E _ _ _ _) ?_)
  refine r_if_neB X 10 dX10_keep_4 (by decide) (fun c_4 => ?_) (fun c_4 => ?_)
  · skip
    obtain ⟨k, hk, rfl⟩ := inR_ex (by decide) c_4
    have h1x : ix (nI k) = k := ix_nI (by omega)
    refine r_aload_n X dX10_keep_10 rfl ?_
    refine r_get (ci := 9) X 6 _ ti_RX10 rfl (by decide) tw_145 (fun _ h => h) dX10_keep_11 (by first | exact b0 | exact bnow.c0 | exact bnow.rl.1 | exact bnow.c4 | exact bta.1 | exact b4 | exact btold.1 | exact btrial.1 | exact bpast.c0 | exact bk | exact bz | exact bsi.c0 | assumption) rfl ?_
    refine r_iload_n X dX10_keep_14 rfl ?_
    refine r_aald (k := 2) X _ (.ref (Y + 65 + 5 * k)) dX10_keep_15 rfl (by first | exact b0 | exact bnow.c0 | exact bnow.rl.1 | exact bnow.c4 | exact bta.1 | exact b4 | exact btold.1 | exact btrial.1 | exact bpast.c0 | exact bk | exact bz | exact bsi.c0 | assumption) (rfl) (by omega) (by decide) (rfl) ?_
    refine r_aload_n X dX10_keep_16 rfl ?_
    refine r_get (ci := 9) X 4 _ ti_RX10 rfl (by decide) tw_143 (fun _ h => h) dX10_keep_17 (by first | exact b0 | exact bnow.c0 | exact bnow.rl.1 | exact bnow.c4 | exact bta.1 | exact b4 | exact btold.1 | exact btrial.1 | exact bpast.c0 | exact bk | exact bz | exact bsi.c0 | assumption) rfl ?_
    refine r_callV (ci := 4) X rfl (c_X4_copyFrom _ E _ n (Y + 65 + 5 * k) (Y + 11) (Kp k) N (bkept hk) bnow (by omega)) tw_553 tw_466 tw_467 tw_4 tw_468 rfl rfl (bkept hk).c0 rfl ⟨ok_X4_copyFrom, ⟨Nat.le_of_ble_eq_true rfl, Nat.le_of_ble_eq_true rfl⟩, ⟨Nat.le_of_ble_eq_true rfl, Nat.le_of_ble_eq_true rfl⟩, Nat.le_of_ble_eq_true rfl⟩ dX10_keep_20 (kk_v (Wf := Wg K E _ _ _ _) ?_)
    refine r_heap (u_kept k hk N) ?_
    refine r_aload_n X dX10_keep_23 rfl ?_
    refine r_get (ci := 9) X 7 _ ti_RX10 rfl (by decide) tw_146 (fun _ h => h) dX10_keep_24 (by first | exact b0 | exact bnow.c0 | exact bnow.rl.1 | exact bnow.c4 | exact bta.1 | exact b4 | exact btold.1 | exact btrial.1 | exact bpast.c0 | exact bk | exact bz | exact bsi.c0 | assumption) rfl ?_
    refine r_iload_n X dX10_keep_27 rfl ?_
    refine r_iconst (v := nI 1) X dX10_keep_28 (by decide) ?_
    refine r_zast X _ dX10_keep_29 (by first | exact b0 | exact bnow.c0 | exact bnow.rl.1 | exact bnow.c4 | exact bta.1 | exact b4 | exact btold.1 | exact btrial.1 | exact bpast.c0 | exact bk | exact bz | exact bsi.c0 | assumption) (rfl) (by omega) (by decide) (by decide) ?_
    refine r_heap ((congrArg (fun e => hu _ _ e) (show zc E 2 (upd (fun i => nI (F 59 i)) k (nI 1)) = zc E 2 (fun i => nI (va_up (F 59) k 1 i)) from zc_congr (fun i _ => by simp only [upd, va_up]; split <;> rfl))).trans (u_z _)) ?_
    refine r_aload_n X dX10_keep_30 rfl ?_
    refine r_get (ci := 9) X 4 _ ti_RX10 rfl (by decide) tw_143 (fun _ h => h) dX10_keep_31 (by first | exact b0 | exact bnow.c0 | exact bnow.rl.1 | exact bnow.c4 | exact bta.1 | exact b4 | exact btold.1 | exact btrial.1 | exact bpast.c0 | exact bk | exact bz | exact bsi.c0 | assumption) rfl ?_
    refine r_get (ci := 4) X 2 _ ti_RX4 rfl (by decide) tw_86 (fun _ h => h) dX10_keep_34 (by first | exact b0 | exact bnow.c0 | exact bnow.rl.1 | exact bnow.c4 | exact bta.1 | exact b4 | exact btold.1 | exact btrial.1 | exact bpast.c0 | exact bk | exact bz | exact bsi.c0 | assumption) rfl ?_
    refine r_iret S dX10_keep_37 ?_
    exact ⟨by rw [if_pos c_4], by rw [if_pos c_4, h1x], rfl⟩
  · skip
    refine r_bipush (v := (-2)) X dX10_keep_7 (by decide) ?_
    refine r_iret S dX10_keep_9 ?_
    exact ⟨by rw [if_neg (by simp [c_4])], by rw [if_neg (by simp [c_4])], rfl⟩

set_option maxHeartbeats 4000000 in
set_option maxRecDepth 100000 in
/-- BanisterWord.back  -/
theorem c_X10_back (l : Launch) (E : xE) (g : hG) (n : Nat) (Y : Nat) (v : Nat → Nat) (F : Nat → Nat → Nat) (P SP : Nat → Option Nat) (N : Mo) (Mp Kp : Nat → Mo) (x : Int32) (hz : ∀ i, F 59 i ≤ 1) : Ct l yX10_back cX10_back 2 (some .int) 3 90 0 0 E [.ref Y, .int x] (bG E g Y v F P SP N Mp Kp) n (zr (some (.int (if inR x 2 = true then (if F 59 (ix x) = 0 then -4 else nI (Kp (ix x)).2.2.2) else -2))) (if inR x 2 = true ∧ ¬ F 59 (ix x) = 0 then bG E g Y (va_up v 8 0) F P SP (Kp (ix x)) Mp Kp else bG E g Y v F P SP N Mp Kp) (n)) := by
  refine Ct.of (by decide +kernel) (Nat.le_of_ble_eq_true rfl) (fun v hv => by simp only [List.mem_cons, List.not_mem_nil, or_false] at hv; (try rcases hv with rfl | rfl) <;> first | rfl | (subst hv; rfl) | exact hv.elim) ?_
  intro K hKl S
  subst hKl
  have X := S.1
  refine r_iload_n X dX10_back_0 rfl ?_
  refine r_callS X rfl (c_X10_isKeepingPlace _ E _ n x) tw_550 tw_551 tw_1 tw_552 rfl ⟨ok_X10_isKeepingPlace, ⟨Nat.le_of_ble_eq_true rfl, Nat.le_of_ble_eq_true rfl⟩, ⟨Nat.le_of_ble_eq_true rfl, Nat.le_of_ble_eq_true rfl⟩, Nat.le_of_ble_eq_true rfl⟩ dX10_back_1 (kk_r (Wf := Wg K E _ _ _ _) ?_)
  refine r_if_neB X 10 dX10_back_4 (by decide) (fun c_4 => ?_) (fun c_4 => ?_)
  · skip
    obtain ⟨k, hk, rfl⟩ := inR_ex (by decide) c_4
    have h1x : ix (nI k) = k := ix_nI (by omega)
    have hzk := hz k
    refine r_aload_n X dX10_back_10 rfl ?_
    refine r_get (ci := 9) X 7 _ ti_RX10 rfl (by decide) tw_146 (fun _ h => h) dX10_back_11 (by first | exact b0 | exact bnow.c0 | exact bnow.rl.1 | exact bnow.c4 | exact bta.1 | exact b4 | exact btold.1 | exact btrial.1 | exact bpast.c0 | exact bk | exact bz | exact bsi.c0 | assumption) rfl ?_
    refine r_iload_n X dX10_back_14 rfl ?_
    refine r_zald X _ dX10_back_15 (by first | exact b0 | exact bnow.c0 | exact bnow.rl.1 | exact bnow.c4 | exact bta.1 | exact b4 | exact btold.1 | exact btrial.1 | exact bpast.c0 | exact bk | exact bz | exact bsi.c0 | assumption) (rfl) (by omega) (by decide) ?_
    refine r_if_neN X 22 dX10_back_16 (by decide) (by omega) (fun c_16 => ?_) (fun c_16 => ?_)
    · skip
      refine r_aload_n X dX10_back_22 rfl ?_
      refine r_get (ci := 9) X 4 _ ti_RX10 rfl (by decide) tw_143 (fun _ h => h) dX10_back_23 (by first | exact b0 | exact bnow.c0 | exact bnow.rl.1 | exact bnow.c4 | exact bta.1 | exact b4 | exact btold.1 | exact btrial.1 | exact bpast.c0 | exact bk | exact bz | exact bsi.c0 | assumption) rfl ?_
      refine r_aload_n X dX10_back_26 rfl ?_
      refine r_get (ci := 9) X 6 _ ti_RX10 rfl (by decide) tw_145 (fun _ h => h) dX10_back_27 (by first | exact b0 | exact bnow.c0 | exact bnow.rl.1 | exact bnow.c4 | exact bta.1 | exact b4 | exact btold.1 | exact btrial.1 | exact bpast.c0 | exact bk | exact bz | exact bsi.c0 | assumption) rfl ?_
      refine r_iload_n X dX10_back_30 rfl ?_
      refine r_aald (k := 2) X _ (.ref (Y + 65 + 5 * k)) dX10_back_31 rfl (by first | exact b0 | exact bnow.c0 | exact bnow.rl.1 | exact bnow.c4 | exact bta.1 | exact b4 | exact btold.1 | exact btrial.1 | exact bpast.c0 | exact bk | exact bz | exact bsi.c0 | assumption) (rfl) (by omega) (by decide) (rfl) ?_
      refine r_callV (ci := 4) X rfl (c_X4_copyFrom _ E _ n (Y + 11) (Y + 65 + 5 * k) N (Kp k) bnow (bkept hk) (by omega)) tw_553 tw_466 tw_467 tw_4 tw_468 rfl rfl bnow.c0 rfl ⟨ok_X4_copyFrom, ⟨Nat.le_of_ble_eq_true rfl, Nat.le_of_ble_eq_true rfl⟩, ⟨Nat.le_of_ble_eq_true rfl, Nat.le_of_ble_eq_true rfl⟩, Nat.le_of_ble_eq_true rfl⟩ dX10_back_32 (kk_v (Wf := Wg K E _ _ _ _) ?_)
      refine r_heap (u_now _) ?_
      refine r_aload_n X dX10_back_35 rfl ?_
      refine r_get (ci := 9) X 5 _ ti_RX10 rfl (by decide) tw_144 (fun _ h => h) dX10_back_36 (by first | exact b0 | exact bnow.c0 | exact bnow.rl.1 | exact bnow.c4 | exact bta.1 | exact b4 | exact btold.1 | exact btrial.1 | exact bpast.c0 | exact bk | exact bz | exact bsi.c0 | assumption) rfl ?_
      refine r_iconst (v := nI 0) X dX10_back_39 (by decide) ?_
      refine r_put (ci := 5) (ty := .int) X 2 ti_RX5 tyX5 tyX5_ok nmX5 rfl (by decide) tw_106 (fun _ h => h) rfl (by decide +kernel) dX10_back_40 (by first | exact b0 | exact bnow.c0 | exact bnow.rl.1 | exact bnow.c4 | exact bta.1 | exact b4 | exact btold.1 | exact btrial.1 | exact bpast.c0 | exact bk | exact bz | exact bsi.c0 | assumption) rfl rfl (Nat.le_of_ble_eq_true rfl) ?_
      try dsimp only [List.set]
      refine r_heap (u_pasth _ _) ?_
      refine r_aload_n X dX10_back_43 rfl ?_
      refine r_get (ci := 9) X 4 _ ti_RX10 rfl (by decide) tw_143 (fun _ h => h) dX10_back_44 (by first | exact b0 | exact bnow.c0 | exact bnow.rl.1 | exact bnow.c4 | exact bta.1 | exact b4 | exact btold.1 | exact btrial.1 | exact bpast.c0 | exact bk | exact bz | exact bsi.c0 | assumption) rfl ?_
      refine r_get (ci := 4) X 2 _ ti_RX4 rfl (by decide) tw_86 (fun _ h => h) dX10_back_47 (by first | exact b0 | exact bnow.c0 | exact bnow.rl.1 | exact bnow.c4 | exact bta.1 | exact b4 | exact btold.1 | exact btrial.1 | exact bpast.c0 | exact bk | exact bz | exact bsi.c0 | assumption) rfl ?_
      refine r_iret S dX10_back_50 ?_
      refine ⟨by simp [c_4, h1x, Nat.ne_of_gt c_16], ?_, rfl⟩
      rw [if_pos ⟨c_4, by rw [h1x]; omega⟩, h1x]
      congr 1
      funext j; simp only [va_up]; (repeat' split) <;> first | rfl | omega | (subst_vars; rfl)
    · skip
      refine r_bipush (v := (-4)) X dX10_back_19 (by decide) ?_
      refine r_iret S dX10_back_21 ?_
      exact ⟨by simp [c_4, h1x, c_16], by rw [if_neg (by simp [c_4, h1x, c_16])], rfl⟩
  · skip
    refine r_bipush (v := (-2)) X dX10_back_7 (by decide) ?_
    refine r_iret S dX10_back_9 ?_
    exact ⟨by rw [if_neg (by simp [c_4])], by rw [if_neg (by simp [c_4])], rfl⟩

set_option maxHeartbeats 4000000 in
set_option maxRecDepth 100000 in
/-- BanisterWord.seen  -/
theorem c_X10_seen (l : Launch) (E : xE) (g : hG) (n : Nat) (Y : Nat) (v : Nat → Nat) (F : Nat → Nat → Nat) (P SP : Nat → Option Nat) (N : Mo) (Mp Kp : Nat → Mo) (pad cl wm : Nat → Nat) (x y z u : Int32) (hP : pOk g Y P (v 1) pad cl wm) (h9 : v 9 ≤ 6) (h0 : v 0 ≤ 12) (h1 : v 1 ≤ 6) : Ct l yX10_seen cX10_seen 6 (some .int) 1 24 0 0 E [.ref Y, .int x, .int y, .int z, .int u] (bG E g Y v F P SP N Mp Kp) n (zr (some (.int (seenR (v 0) (v 1) (v 9) x y z u))) (if (inR x (v 1) = true ∧ inR y (v 0) = true ∧ sayB z = true) ∧ inR u 2 = true ∧ v 9 < 6 then bG E g Y (va_up v 9 (v 9 + 1)) (va_up (va_up (va_up F 62 (va_up (F 62) (v 9) (ix y))) 63 (va_up (F 63) (v 9) (ix z))) 64 (va_up (F 64) (v 9) (ix u))) P (va_up SP (v 9) (some (pad (ix x)))) N Mp Kp else bG E g Y v F P SP N Mp Kp) (n)) := by
  refine Ct.of (by decide +kernel) (Nat.le_of_ble_eq_true rfl) (fun v hv => by simp only [List.mem_cons, List.not_mem_nil, or_false] at hv; (try rcases hv with rfl | rfl | rfl | rfl | rfl) <;> first | rfl | (subst hv; rfl) | exact hv.elim) ?_
  intro K hKl S
  subst hKl
  have X := S.1
  refine r_aload_n X dX10_seen_0 rfl ?_
  refine r_iload_n X dX10_seen_1 rfl ?_
  rcases hpx : inR x (v 1)
  · skip
    refine r_callV (ci := 9) X rfl (c_X10_personAt_f _ E g n Y v F P SP N Mp Kp x hpx (by omega)) tw_390 tw_392 tp_11 tw_1 tw_393 rfl rfl (by first | exact b0 | exact bnow.c0 | exact bnow.rl.1 | exact bnow.c4 | exact bta.1 | exact b4 | exact btold.1 | exact btrial.1 | exact bpast.c0 | exact bk | exact bz | exact bsi.c0 | assumption) rfl ⟨ok_X10_personAt, ⟨Nat.le_of_ble_eq_true rfl, Nat.le_of_ble_eq_true rfl⟩, ⟨Nat.le_of_ble_eq_true rfl, Nat.le_of_ble_eq_true rfl⟩, Nat.le_of_ble_eq_true rfl⟩ dX10_seen_2 (kk_r (Wf := Wg K E _ _ _ _) ?_)
    refine r_astoreN X dX10_seen_5 (Nat.le_of_ble_eq_true rfl) ?_
    try dsimp only [List.set]
    refine r_aloadN X dX10_seen_7 rfl ?_
    refine r_ifnullN X 27 dX10_seen_9 (by decide) ?_
    refine r_bipush (v := (-2)) X dX10_seen_27 (by decide) ?_
    refine r_iret S dX10_seen_29 ?_
    exact ⟨by unfold seenR; rw [if_neg (by simp [*])], by rw [if_neg (by simp [*])], rfl⟩
  · skip
    obtain ⟨i, hi, rfl⟩ := inR_ex (by omega) hpx
    have hix : ix (nI i) = i := ix_nI (by omega)
    have hcl := hP.c hi
    refine r_callV (ci := 9) X rfl (c_X10_personAt_t _ E g n Y v F P SP N Mp Kp pad cl wm i hP hi (by omega)) tw_390 tw_392 tp_11 tw_1 tw_393 rfl rfl (by first | exact b0 | exact bnow.c0 | exact bnow.rl.1 | exact bnow.c4 | exact bta.1 | exact b4 | exact btold.1 | exact btrial.1 | exact bpast.c0 | exact bk | exact bz | exact bsi.c0 | assumption) rfl ⟨ok_X10_personAt, ⟨Nat.le_of_ble_eq_true rfl, Nat.le_of_ble_eq_true rfl⟩, ⟨Nat.le_of_ble_eq_true rfl, Nat.le_of_ble_eq_true rfl⟩, Nat.le_of_ble_eq_true rfl⟩ dX10_seen_2 (kk_r (Wf := Wg K E _ _ _ _) ?_)
    refine r_astore X dX10_seen_5 (Nat.le_of_ble_eq_true rfl) ?_
    try dsimp only [List.set]
    refine r_aload X dX10_seen_7 rfl ?_
    refine r_ifnull X dX10_seen_9 ?_
    refine r_aload_n X dX10_seen_12 rfl ?_
    refine r_iload_n X dX10_seen_13 rfl ?_
    refine r_callV (ci := 9) X rfl (c_X10_isStep _ E g n Y v F P SP N Mp Kp y h0) tw_413 tw_415 tp_12 tw_1 tw_416 rfl rfl (by first | exact b0 | exact bnow.c0 | exact bnow.rl.1 | exact bnow.c4 | exact bta.1 | exact b4 | exact btold.1 | exact btrial.1 | exact bpast.c0 | exact bk | exact bz | exact bsi.c0 | assumption) rfl ⟨ok_X10_isStep, ⟨Nat.le_of_ble_eq_true rfl, Nat.le_of_ble_eq_true rfl⟩, ⟨Nat.le_of_ble_eq_true rfl, Nat.le_of_ble_eq_true rfl⟩, Nat.le_of_ble_eq_true rfl⟩ dX10_seen_14 (kk_r (Wf := Wg K E _ _ _ _) ?_)
    refine r_if_eqB X 27 dX10_seen_17 (by decide) (fun c_17 => ?_) (fun c_17 => ?_)
    · skip
      refine r_bipush (v := (-2)) X dX10_seen_27 (by decide) ?_
      refine r_iret S dX10_seen_29 ?_
      exact ⟨by unfold seenR; rw [if_neg (by simp [*])], by rw [if_neg (by simp [*])], rfl⟩
    · skip
      refine r_iload_n X dX10_seen_20 rfl ?_
      refine r_callS X rfl (c_X10_isSaying _ E _ n z) tw_458 tw_459 tw_1 tw_460 rfl ⟨ok_X10_isSaying, ⟨Nat.le_of_ble_eq_true rfl, Nat.le_of_ble_eq_true rfl⟩, ⟨Nat.le_of_ble_eq_true rfl, Nat.le_of_ble_eq_true rfl⟩, Nat.le_of_ble_eq_true rfl⟩ dX10_seen_21 (kk_r (Wf := Wg K E _ _ _ _) ?_)
      refine r_if_neB X 30 dX10_seen_24 (by decide) (fun c_24 => ?_) (fun c_24 => ?_)
      · skip
        obtain ⟨s, hs, rfl⟩ := inR_ex (by omega) c_17
        obtain ⟨t, ht1, ht7, rfl⟩ := sayB_ex c_24
        have h1x : ix (nI s) = s := ix_nI (by omega)
        have h2x : ix (nI t) = t := ix_nI (by omega)
        refine r_iload X dX10_seen_30 rfl ?_
        refine r_if_lt X 41 dX10_seen_32 (by decide) (fun c_32 => ?_) (fun c_32 => ?_)
        · skip
          refine r_bipush (v := (-3)) X dX10_seen_41 (by decide) ?_
          refine r_iret S dX10_seen_43 ?_
          have hu2 : inR u 2 = false := by first | exact inR_lt c_32 | exact gt_out (n := 1) (by decide) c_38
          exact ⟨by simp [seenR, hpx, c_17, c_24, hu2], by rw [if_neg (by simp [hu2])], rfl⟩
        · skip
          refine r_iload X dX10_seen_35 rfl ?_
          refine r_iconst (v := nI 1) X dX10_seen_37 (by decide) ?_
          refine r_icmp_le X 44 dX10_seen_38 (by decide) (fun c_38 => ?_) (fun c_38 => ?_)
          · skip
            have hu2 := le_in (n := 1) (by decide) c_32 c_38
            obtain ⟨b, hb, rfl⟩ := inR_ex (by decide) hu2
            have h3x : ix (nI b) = b := ix_nI (by omega)
            refine r_aload_n X dX10_seen_44 rfl ?_
            refine r_get (ci := 9) X 8 _ ti_RX10 rfl (by decide) tw_147 (fun _ h => h) dX10_seen_45 (by first | exact b0 | exact bnow.c0 | exact bnow.rl.1 | exact bnow.c4 | exact bta.1 | exact b4 | exact btold.1 | exact btrial.1 | exact bpast.c0 | exact bk | exact bz | exact bsi.c0 | assumption) rfl ?_
            refine r_get (ci := 7) X 4 _ ti_RX8 rfl (by decide) tw_126 (fun _ h => h) dX10_seen_48 (by first | exact b0 | exact bnow.c0 | exact bnow.rl.1 | exact bnow.c4 | exact bta.1 | exact b4 | exact btold.1 | exact btrial.1 | exact bpast.c0 | exact bk | exact bz | exact bsi.c0 | assumption) rfl ?_
            refine r_bipush (v := nI 6) X dX10_seen_51 (by decide) ?_
            refine r_icmp_ltN X 59 dX10_seen_53 (by decide) (by omega) (by omega) (fun c_53 => ?_) (fun c_53 => ?_)
            · skip
              refine r_aload_n X dX10_seen_59 rfl ?_
              refine r_get (ci := 9) X 8 _ ti_RX10 rfl (by decide) tw_147 (fun _ h => h) dX10_seen_60 (by first | exact b0 | exact bnow.c0 | exact bnow.rl.1 | exact bnow.c4 | exact bta.1 | exact b4 | exact btold.1 | exact btrial.1 | exact bpast.c0 | exact bk | exact bz | exact bsi.c0 | assumption) rfl ?_
              refine r_aload X dX10_seen_63 rfl ?_
              refine r_iload_n X dX10_seen_65 rfl ?_
              refine r_iload_n X dX10_seen_66 rfl ?_
              refine r_iload X dX10_seen_67 rfl ?_
              refine r_callV (ci := 7) X rfl (c_X8_add _ E _ n (Y + 60) (v 9) (pad i) (cl i) s t b _ SP (F 62) (F 63) (F 64) bsi c_53 hcl (hP.b hi)) tw_586 tw_587 tw_588 tw_6 tw_589 rfl rfl (by first | exact b0 | exact bnow.c0 | exact bnow.rl.1 | exact bnow.c4 | exact bta.1 | exact b4 | exact btold.1 | exact btrial.1 | exact bpast.c0 | exact bk | exact bz | exact bsi.c0 | assumption) rfl ⟨ok_X8_add, ⟨Nat.le_of_ble_eq_true rfl, Nat.le_of_ble_eq_true rfl⟩, ⟨Nat.le_of_ble_eq_true rfl, Nat.le_of_ble_eq_true rfl⟩, Nat.le_of_ble_eq_true rfl⟩ dX10_seen_69 (kk_v (Wf := Wg K E _ _ _ _) ?_)
              refine r_heap (u_si _ _ _ _ _) ?_
              refine r_aload_n X dX10_seen_72 rfl ?_
              refine r_get (ci := 9) X 8 _ ti_RX10 rfl (by decide) tw_147 (fun _ h => h) dX10_seen_73 (by first | exact b0 | exact bnow.c0 | exact bnow.rl.1 | exact bnow.c4 | exact bta.1 | exact b4 | exact btold.1 | exact btrial.1 | exact bpast.c0 | exact bk | exact bz | exact bsi.c0 | assumption) rfl ?_
              refine r_get (ci := 7) X 4 _ ti_RX8 rfl (by decide) tw_126 (fun _ h => h) dX10_seen_76 (by first | exact b0 | exact bnow.c0 | exact bnow.rl.1 | exact bnow.c4 | exact bta.1 | exact b4 | exact btold.1 | exact btrial.1 | exact bpast.c0 | exact bk | exact bz | exact bsi.c0 | assumption) rfl ?_
              refine r_iret S dX10_seen_79 ?_
              exact ⟨by simp [seenR, hpx, c_17, c_24, hu2, c_53]; rfl, by rw [if_pos ⟨⟨hpx, c_17, c_24⟩, hu2, c_53⟩, hix, h1x, h2x, h3x], rfl⟩
            · skip
              refine r_bipush (v := (-5)) X dX10_seen_56 (by decide) ?_
              refine r_iret S dX10_seen_58 ?_
              exact ⟨by simp [seenR, hpx, c_17, c_24, hu2, show ¬ v 9 < 6 by omega], by rw [if_neg (by omega)], rfl⟩
          · skip
            refine r_bipush (v := (-3)) X dX10_seen_41 (by decide) ?_
            refine r_iret S dX10_seen_43 ?_
            have hu2 : inR u 2 = false := by first | exact inR_lt c_32 | exact gt_out (n := 1) (by decide) c_38
            exact ⟨by simp [seenR, hpx, c_17, c_24, hu2], by rw [if_neg (by simp [hu2])], rfl⟩
      · skip
        refine r_bipush (v := (-2)) X dX10_seen_27 (by decide) ?_
        refine r_iret S dX10_seen_29 ?_
        exact ⟨by unfold seenR; rw [if_neg (by simp [*])], by rw [if_neg (by simp [*])], rfl⟩

