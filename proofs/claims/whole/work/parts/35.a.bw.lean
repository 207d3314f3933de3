/-- what is seen: by whom (places of people), where, what, whether -/
def sOk (SP : Nat → Option Nat) (F : Nat → Nat → Nat) (sn s pn : Nat) (pad si : Nat → Nat) : Prop := ∀ i, i < sn → SP i = some (pad (si i)) ∧ si i < pn ∧ F 62 i < s ∧ F 63 i ≤ 7 ∧ F 64 i ≤ 1
theorem trF {F : Nat → Nat → Nat} {a b c d : Nat → Nat} : va_up (va_up (va_up (va_up F 9 a) 10 b) 9 c) 10 d = va_up (va_up F 9 c) 10 d := by
  funext k
  simp only [va_up]
  (repeat' split) <;> first | rfl | omega
/-- had he just said it there: are all so -/
def fitB (cl wm si : Nat → Nat) (F : Nat → Nat → Nat) (sn : Nat) (N : Mo) (i s t : Nat) : Bool := allS (fun k => cl (si k)) (F 62) (F 63) (F 64) (takeF N.1 N.2.1 (s * 2 + handN (cl i)) (firmN (cl i) (wm i)) t) sn
def saF (q : Nat → Bool) : Nat → Nat
  | 0 => 0
  | k + 1 => saF q k ||| (if q k = true then 2 ^ k else 0)
def saidR (s pn : Nat) (q : Nat → Nat → Nat → Bool) (a b : Int32) : Int32 := if inR a pn = true ∧ sayB b = true then nI (saF (fun k => q (ix a) k (ix b)) s) else -2
def whoR (s pn : Nat) (q : Nat → Nat → Nat → Bool) (a b : Int32) : Int32 := if inR a s = true ∧ sayB b = true then nI (saF (fun k => q k (ix a) (ix b)) pn) else -2
/-- whom to send: what is wanting yet, who goes -/
def sdP (el : Nat → Bool) (nd : Nat) : Nat → Nat × Nat
  | 0 => (nd, 0)
  | k + 1 => if (sdP el nd k).1 = 0 then sdP el nd k else if el k = true then ((sdP el nd k).1 - 1, (sdP el nd k).2 ||| 2 ^ k) else sdP el nd k
theorem sdP_le (el : Nat → Bool) (nd : Nat) : ∀ k, (sdP el nd k).1 ≤ nd
  | 0 => Nat.le_refl _
  | k + 1 => by
    have := sdP_le el nd k
    simp only [sdP]
    (repeat' split) <;> simp <;> omega
theorem sdP_0 {el : Nat → Bool} {nd k : Nat} (h : (sdP el nd k).1 = 0) : ∀ d, sdP el nd (k + d) = sdP el nd k
  | 0 => rfl
  | d + 1 => by
    have := sdP_0 h d
    show sdP el nd (k + d + 1) = _
    rw [sdP, this, if_pos h]
def elB (cl : Nat → Nat) (p : Nat) (k : Nat) : Bool := decide (k ≠ p) && feelsB (cl k) && decide (handN (cl k) = handN (cl p))
def ndN (cl : Nat → Nat) (N : Mo) (p t : Nat) : Nat := if feelsB (cl p) = true then fmx N.1 N.2.1 t (handN (cl p)) 12 else 0
def sendR (pn : Nat) (cl : Nat → Nat) (N : Mo) (a b : Int32) : Int32 := if inR a pn = true ∧ sayB b = true then (if (sdP (elB cl (ix a)) (ndN cl N (ix a) (ix b)) pn).1 = 0 then nI (sdP (elB cl (ix a)) (ndN cl N (ix a) (ix b)) pn).2 else -1) else -2

set_option maxHeartbeats 4000000 in
set_option maxRecDepth 100000 in
/-- BanisterWord.fitsSights  -/
theorem c_X10_fitsSights (l : Launch) (E : xE) (g : hG) (n : Nat) (Y : Nat) (v : Nat → Nat) (F : Nat → Nat → Nat) (P SP : Nat → Option Nat) (N : Mo) (Mp Kp : Nat → Mo) (pad cl wm si : Nat → Nat) (i s t : Nat) (hP : pOk g Y P (v 1) pad cl wm) (hN : ∀ j, N.1 j ≤ 7) (hN9 : ∀ j, N.2.1 j ≤ 99) (hi : i < v 1) (hs : s < v 0) (ht : t ≤ 7) (h0 : v 0 ≤ 12) (h9 : v 9 ≤ 6) (hS : sOk SP F (v 9) (v 0) (v 1) pad si) : Ct l yX10_fitsSights cX10_fitsSights 4 (some .boolean) 3 73 0 0 E [.ref Y, .ref (pad i), .int (nI s), .int (nI t)] (bG E g Y v F P SP N Mp Kp) n (zr (some (.int (bI (fitB cl wm si F (v 9) N i s t)))) (bG E g Y v (va_up (va_up F 9 (takeF N.1 N.2.1 (s * 2 + handN (cl i)) (firmN (cl i) (wm i)) t)) 10 (takeH N.1 N.2.1 (s * 2 + handN (cl i)) (firmN (cl i) (wm i)) t)) P SP N Mp Kp) (n)) := by
  refine Ct.of (by decide +kernel) (Nat.le_of_ble_eq_true rfl) (fun v hv => by simp only [List.mem_cons, List.not_mem_nil, or_false] at hv; (try rcases hv with rfl | rfl | rfl | rfl) <;> first | rfl | (subst hv; rfl) | exact hv.elim) ?_
  intro K hKl S
  subst hKl
  have X := S.1
  refine r_aload_n X dX10_fitsSights_0 rfl ?_
  refine r_get (ci := 9) X 3 _ ti_RX10 rfl (by decide) tw_142 (fun _ h => h) dX10_fitsSights_1 (by first | exact b0 | exact bnow.c0 | exact bnow.rl.1 | exact bnow.c4 | exact bta.1 | exact b4 | exact btold.1 | exact btrial.1 | exact bpast.c0 | exact bk | exact bz | exact bsi.c0 | assumption) rfl ?_
  refine r_aload_n X dX10_fitsSights_4 rfl ?_
  refine r_get (ci := 9) X 4 _ ti_RX10 rfl (by decide) tw_143 (fun _ h => h) dX10_fitsSights_5 (by first | exact b0 | exact bnow.c0 | exact bnow.rl.1 | exact bnow.c4 | exact bta.1 | exact b4 | exact btold.1 | exact btrial.1 | exact bpast.c0 | exact bk | exact bz | exact bsi.c0 | assumption) rfl ?_
  refine r_get (ci := 4) X 0 _ ti_RX4 rfl (by decide) tw_82 (fun _ h => h) dX10_fitsSights_8 (by first | exact b0 | exact bnow.c0 | exact bnow.rl.1 | exact bnow.c4 | exact bta.1 | exact b4 | exact btold.1 | exact btrial.1 | exact bpast.c0 | exact bk | exact bz | exact bsi.c0 | assumption) rfl ?_
  refine r_callV (ci := 6) X rfl (c_X7_copyFrom _ E _ n (Y + 8) (Y + 11 + 1) (F 9) (F 10) N.1 N.2.1 btrial bnow.rl (by omega)) tw_602 tw_380 tw_381 tw_3 tw_382 rfl rfl btrial.1 rfl ⟨ok_X7_copyFrom, ⟨Nat.le_of_ble_eq_true rfl, Nat.le_of_ble_eq_true rfl⟩, ⟨Nat.le_of_ble_eq_true rfl, Nat.le_of_ble_eq_true rfl⟩, Nat.le_of_ble_eq_true rfl⟩ dX10_fitsSights_11 (kk_v (Wf := Wg K E _ _ _ _) ?_)
  refine r_heap (u_trial _ _) ?_
  refine r_aload_n X dX10_fitsSights_14 rfl ?_
  refine r_get (ci := 9) X 3 _ ti_RX10 rfl (by decide) tw_142 (fun _ h => h) dX10_fitsSights_15 (by first | exact b0 | exact bnow.c0 | exact bnow.rl.1 | exact bnow.c4 | exact bta.1 | exact b4 | exact btold.1 | exact btrial.1 | exact bpast.c0 | exact bk | exact bz | exact bsi.c0 | assumption) rfl ?_
  refine r_aload_n X dX10_fitsSights_18 rfl ?_
  refine r_iload_n X dX10_fitsSights_19 rfl ?_
  refine r_iload_n X dX10_fitsSights_20 rfl ?_
  refine r_callV (ci := 6) X rfl (c_X7_takeSaying _ E _ n (Y + 8) (pad i) (cl i) (wm i) s t N.1 N.2.1 btrial (hP.c hi) (hP.w hi) (hP.b hi) hN hN9 (by omega) (by omega)) tw_473 tw_474 tw_475 tw_3 tw_476 rfl rfl btrial.1 rfl ⟨ok_X7_takeSaying, ⟨Nat.le_of_ble_eq_true rfl, Nat.le_of_ble_eq_true rfl⟩, ⟨Nat.le_of_ble_eq_true rfl, Nat.le_of_ble_eq_true rfl⟩, Nat.le_of_ble_eq_true rfl⟩ dX10_fitsSights_21 (kk_v (Wf := Wg K E _ _ _ _) ?_)
  refine r_heap (u_trial _ _) ?_
  refine r_heap (by rw [trF]) ?_
  refine r_aload_n X dX10_fitsSights_24 rfl ?_
  refine r_get (ci := 9) X 8 _ ti_RX10 rfl (by decide) tw_147 (fun _ h => h) dX10_fitsSights_25 (by first | exact b0 | exact bnow.c0 | exact bnow.rl.1 | exact bnow.c4 | exact bta.1 | exact b4 | exact btold.1 | exact btrial.1 | exact bpast.c0 | exact bk | exact bz | exact bsi.c0 | assumption) rfl ?_
  refine r_aload_n X dX10_fitsSights_28 rfl ?_
  refine r_get (ci := 9) X 3 _ ti_RX10 rfl (by decide) tw_142 (fun _ h => h) dX10_fitsSights_29 (by first | exact b0 | exact bnow.c0 | exact bnow.rl.1 | exact bnow.c4 | exact bta.1 | exact b4 | exact btold.1 | exact btrial.1 | exact bpast.c0 | exact bk | exact bz | exact bsi.c0 | assumption) rfl ?_
  refine r_callV (ci := 7) X rfl (c_X8_allSo _ E _ n (Y + 60) (v 9) (Y + 8) SP (F 62) (F 63) (F 64) (fun k => pad (si k)) (fun k => cl (si k)) (fun k => wm (si k)) (takeF N.1 N.2.1 (s * 2 + handN (cl i)) (firmN (cl i) (wm i)) t) (takeH N.1 N.2.1 (s * 2 + handN (cl i)) (firmN (cl i) (wm i)) t) bsi h9 btrial (takeF_le hN ht) (fun k hk => by obtain ⟨q1, q2, q3, q4, q5⟩ := hS k hk; exact ⟨q1, hP.c q2, hP.w q2, hP.b q2, by omega, q4, q5⟩)) tw_603 tw_604 tw_605 tw_6 tw_606 rfl rfl bsi.c0 rfl ⟨ok_X8_allSo, ⟨Nat.le_of_ble_eq_true rfl, Nat.le_of_ble_eq_true rfl⟩, ⟨Nat.le_of_ble_eq_true rfl, Nat.le_of_ble_eq_true rfl⟩, Nat.le_of_ble_eq_true rfl⟩ dX10_fitsSights_32 (kk_r (Wf := Wg K E _ _ _ _) ?_)
  refine r_zret S dX10_fitsSights_35 (by first | rfl | exact bI_nar _) ?_
  exact ⟨rfl, rfl, rfl⟩

set_option maxHeartbeats 4000000 in
set_option maxRecDepth 100000 in
/-- BanisterWord.said  -/
theorem c_X10_said (l : Launch) (E : xE) (g : hG) (n : Nat) (Y : Nat) (v : Nat → Nat) (F : Nat → Nat → Nat) (P SP : Nat → Option Nat) (N : Mo) (Mp Kp : Nat → Mo) (pad cl wm si : Nat → Nat) (x y : Int32) (hP : pOk g Y P (v 1) pad cl wm) (hN : ∀ j, N.1 j ≤ 7) (hN9 : ∀ j, N.2.1 j ≤ 99) (h0 : v 0 ≤ 12) (h1 : v 1 ≤ 6) (h9 : v 9 ≤ 6) (hS : sOk SP F (v 9) (v 0) (v 1) pad si) : Ct l yX10_said cX10_said 6 (some .int) 4 96 0 0 E [.ref Y, .int x, .int y] (bG E g Y v F P SP N Mp Kp) n (fun u_ g_ n_ => u_ = some (.int (saidR (v 0) (v 1) (fitB cl wm si F (v 9) N) x y)) ∧ n_ = n ∧ ∃ f9 k9, g_ = bG E g Y v (va_up (va_up F 9 f9) 10 k9) P SP N Mp Kp) := by
  refine Ct.of (by decide +kernel) (Nat.le_of_ble_eq_true rfl) (fun v hv => by simp only [List.mem_cons, List.not_mem_nil, or_false] at hv; (try rcases hv with rfl | rfl | rfl) <;> first | rfl | (subst hv; rfl) | exact hv.elim) ?_
  intro K hKl S
  subst hKl
  have X := S.1
  refine r_aload_n X dX10_said_0 rfl ?_
  refine r_iload_n X dX10_said_1 rfl ?_
  rcases hpx : inR x (v 1)
  · skip
    refine r_callV (ci := 9) X rfl (c_X10_personAt_f _ E g n Y v F P SP N Mp Kp x hpx (by omega)) tw_390 tw_392 tp_11 tw_1 tw_393 rfl rfl (by first | exact b0 | exact bnow.c0 | exact bnow.rl.1 | exact bnow.c4 | exact bta.1 | exact b4 | exact btold.1 | exact btrial.1 | exact bpast.c0 | exact bk | exact bz | exact bsi.c0 | assumption) rfl ⟨ok_X10_personAt, ⟨Nat.le_of_ble_eq_true rfl, Nat.le_of_ble_eq_true rfl⟩, ⟨Nat.le_of_ble_eq_true rfl, Nat.le_of_ble_eq_true rfl⟩, Nat.le_of_ble_eq_true rfl⟩ dX10_said_2 (kk_r (Wf := Wg K E _ _ _ _) ?_)
    refine r_astore_nN X dX10_said_5 (Nat.le_of_ble_eq_true rfl) ?_
    try dsimp only [List.set]
    refine r_aload_nN X dX10_said_6 rfl ?_
    refine r_ifnullN X 17 dX10_said_7 (by decide) ?_
    refine r_bipush (v := (-2)) X dX10_said_17 (by decide) ?_
    refine r_iret S dX10_said_19 ?_
    exact ⟨by unfold saidR; rw [if_neg (by simp [*])], rfl, ⟨F 9, F 10, by congr 1; funext k; simp only [va_up]; (repeat' split) <;> first | rfl | (subst_vars; rfl)⟩⟩
  · skip
    obtain ⟨i, hi, rfl⟩ := inR_ex (by omega) hpx
    have hix : ix (nI i) = i := ix_nI (by omega)
    refine r_callV (ci := 9) X rfl (c_X10_personAt_t _ E g n Y v F P SP N Mp Kp pad cl wm i hP hi (by omega)) tw_390 tw_392 tp_11 tw_1 tw_393 rfl rfl (by first | exact b0 | exact bnow.c0 | exact bnow.rl.1 | exact bnow.c4 | exact bta.1 | exact b4 | exact btold.1 | exact btrial.1 | exact bpast.c0 | exact bk | exact bz | exact bsi.c0 | assumption) rfl ⟨ok_X10_personAt, ⟨Nat.le_of_ble_eq_true rfl, Nat.le_of_ble_eq_true rfl⟩, ⟨Nat.le_of_ble_eq_true rfl, Nat.le_of_ble_eq_true rfl⟩, Nat.le_of_ble_eq_true rfl⟩ dX10_said_2 (kk_r (Wf := Wg K E _ _ _ _) ?_)
    refine r_astore_n X dX10_said_5 (Nat.le_of_ble_eq_true rfl) ?_
    try dsimp only [List.set]
    refine r_aload_n X dX10_said_6 rfl ?_
    refine r_ifnull X dX10_said_7 ?_
    refine r_iload_n X dX10_said_10 rfl ?_
    refine r_callS X rfl (c_X10_isSaying _ E _ n y) tw_458 tw_459 tw_1 tw_460 rfl ⟨ok_X10_isSaying, ⟨Nat.le_of_ble_eq_true rfl, Nat.le_of_ble_eq_true rfl⟩, ⟨Nat.le_of_ble_eq_true rfl, Nat.le_of_ble_eq_true rfl⟩, Nat.le_of_ble_eq_true rfl⟩ dX10_said_11 (kk_r (Wf := Wg K E _ _ _ _) ?_)
    refine r_if_neB X 20 dX10_said_14 (by decide) (fun c_14 => ?_) (fun c_14 => ?_)
    · skip
      obtain ⟨t, ht1, ht7, rfl⟩ := sayB_ex c_14
      have h1x : ix (nI t) = t := ix_nI (by omega)
      refine r_iconst (v := nI 0) X dX10_said_20 (by decide) ?_
      refine r_istore X dX10_said_21 (Nat.le_of_ble_eq_true rfl) ?_
      try dsimp only [List.set]
      refine r_iconst (v := nI 0) X dX10_said_23 (by decide) ?_
      refine r_istore X dX10_said_24 (Nat.le_of_ble_eq_true rfl) ?_
      try dsimp only [List.set]
      have hloop : ∀ (k : Nat), k ≤ v 0 → ∀ (f9 k9 : Nat → Nat), Wg K E (0) (0) 26 [some (.ref Y), some (.int (nI i)), some (.int (nI t)), some (.ref (pad i)), some (.int (nI (saF (fun k => fitB cl wm si F (v 9) N i k t) k))), some (.int (nI k))] [] (bG E g Y v (va_up (va_up F 9 f9) 10 k9) P SP N Mp Kp) (n) := by
        refine ind_up _ (v 0) (fun k hk ih f9 k9 => ?_)
        refine r_iload X dX10_said_26 rfl ?_
        refine r_aload_n X dX10_said_28 rfl ?_
        refine r_get (ci := 9) X 9 _ ti_RX10 rfl (by decide) tw_148 (fun _ h => h) dX10_said_29 (by first | exact b0 | exact bnow.c0 | exact bnow.rl.1 | exact bnow.c4 | exact bta.1 | exact b4 | exact btold.1 | exact btrial.1 | exact bpast.c0 | exact bk | exact bz | exact bsi.c0 | assumption) rfl ?_
        refine r_icmp_geN X 61 dX10_said_32 (by decide) (by omega) (by omega) (fun c_32 => ?_) (fun c_32 => ?_)
        · skip
          refine r_iload X dX10_said_61 rfl ?_
          refine r_iret S dX10_said_63 ?_
          obtain rfl : k = v 0 := by omega
          exact ⟨by simp [saidR, hpx, c_14, hix, h1x], rfl, f9, k9, rfl⟩
        · skip
          refine r_aload_n X dX10_said_35 rfl ?_
          refine r_aload_n X dX10_said_36 rfl ?_
          refine r_iload X dX10_said_37 rfl ?_
          refine r_iload_n X dX10_said_39 rfl ?_
          refine r_callV (ci := 9) X rfl (c_X10_fitsSights _ E g n Y v _ P SP N Mp Kp pad cl wm si i k t hP hN hN9 hi c_32 ht7 h0 h9 hS) tw_598 tw_600 tp_16 tw_1 tw_601 rfl rfl (by first | exact b0 | exact bnow.c0 | exact bnow.rl.1 | exact bnow.c4 | exact bta.1 | exact b4 | exact btold.1 | exact btrial.1 | exact bpast.c0 | exact bk | exact bz | exact bsi.c0 | assumption) rfl ⟨ok_X10_fitsSights, ⟨Nat.le_of_ble_eq_true rfl, Nat.le_of_ble_eq_true rfl⟩, ⟨Nat.le_of_ble_eq_true rfl, Nat.le_of_ble_eq_true rfl⟩, Nat.le_of_ble_eq_true rfl⟩ dX10_said_40 (kk_r (Wf := Wg K E _ _ _ _) ?_)
          refine r_heap (by rw [trF]) ?_
          refine r_if_eqB X 55 dX10_said_43 (by decide) (fun c_43 => ?_) (fun c_43 => ?_)
          · skip
            first | refine r_iincN X dX10_said_55 rfl ?_ | refine r_iinc X _ dX10_said_55 rfl rfl ?_
            try dsimp only [List.set]
            refine r_goto X 26 dX10_said_58 (by decide) ?_
            have e9 : saF (fun k => fitB cl wm si F (v 9) N i k t) (k + 1) = saF (fun k => fitB cl wm si F (v 9) N i k t) k ||| (if (fun k => fitB cl wm si F (v 9) N i k t) k = true then 2 ^ k else 0) := rfl
            have ih9 := ih (by omega) (takeF N.1 N.2.1 (k * 2 + handN (cl i)) (firmN (cl i) (wm i)) t) (takeH N.1 N.2.1 (k * 2 + handN (cl i)) (firmN (cl i) (wm i)) t)
            rw [e9] at ih9
            first | (rw [if_pos (show (fun k => fitB cl wm si F (v 9) N i k t) k = true from c_43)] at ih9; exact ih9) | (rw [if_neg (by rw [show (fun k => fitB cl wm si F (v 9) N i k t) k = false from c_43]; decide), Nat.or_zero] at ih9; exact ih9)
          · skip
            refine r_iload X dX10_said_46 rfl ?_
            refine r_iconst (v := nI 1) X dX10_said_48 (by decide) ?_
            refine r_iload X dX10_said_49 rfl ?_
            refine r_ishl1N X dX10_said_51 (by omega) ?_
            refine r_iorN X dX10_said_52 ?_
            refine r_istore X dX10_said_53 (Nat.le_of_ble_eq_true rfl) ?_
            try dsimp only [List.set]
            first | refine r_iincN X dX10_said_55 rfl ?_ | refine r_iinc X _ dX10_said_55 rfl rfl ?_
            try dsimp only [List.set]
            refine r_goto X 26 dX10_said_58 (by decide) ?_
            have e9 : saF (fun k => fitB cl wm si F (v 9) N i k t) (k + 1) = saF (fun k => fitB cl wm si F (v 9) N i k t) k ||| (if (fun k => fitB cl wm si F (v 9) N i k t) k = true then 2 ^ k else 0) := rfl
            have ih9 := ih (by omega) (takeF N.1 N.2.1 (k * 2 + handN (cl i)) (firmN (cl i) (wm i)) t) (takeH N.1 N.2.1 (k * 2 + handN (cl i)) (firmN (cl i) (wm i)) t)
            rw [e9] at ih9
            first | (rw [if_pos (show (fun k => fitB cl wm si F (v 9) N i k t) k = true from c_43)] at ih9; exact ih9) | (rw [if_neg (by rw [show (fun k => fitB cl wm si F (v 9) N i k t) k = false from c_43]; decide), Nat.or_zero] at ih9; exact ih9)
      refine r_heap (show bG E g Y v F P SP N Mp Kp = bG E g Y v (va_up (va_up F 9 (F 9)) 10 (F 10)) P SP N Mp Kp from by congr 1; funext k; simp only [va_up]; (repeat' split) <;> first | rfl | (subst_vars; rfl)) ?_
      exact hloop 0 (Nat.zero_le _) _ _
    · skip
      refine r_bipush (v := (-2)) X dX10_said_17 (by decide) ?_
      refine r_iret S dX10_said_19 ?_
      exact ⟨by unfold saidR; rw [if_neg (by simp [*])], rfl, ⟨F 9, F 10, by congr 1; funext k; simp only [va_up]; (repeat' split) <;> first | rfl | (subst_vars; rfl)⟩⟩

set_option maxHeartbeats 4000000 in
set_option maxRecDepth 100000 in
/-- BanisterWord.who  -/
theorem c_X10_who (l : Launch) (E : xE) (g : hG) (n : Nat) (Y : Nat) (v : Nat → Nat) (F : Nat → Nat → Nat) (P SP : Nat → Option Nat) (N : Mo) (Mp Kp : Nat → Mo) (pad cl wm si : Nat → Nat) (x y : Int32) (hP : pOk g Y P (v 1) pad cl wm) (hN : ∀ j, N.1 j ≤ 7) (hN9 : ∀ j, N.2.1 j ≤ 99) (h0 : v 0 ≤ 12) (h1 : v 1 ≤ 6) (h9 : v 9 ≤ 6) (hS : sOk SP F (v 9) (v 0) (v 1) pad si) : Ct l yX10_who cX10_who 6 (some .int) 4 96 0 0 E [.ref Y, .int x, .int y] (bG E g Y v F P SP N Mp Kp) n (fun u_ g_ n_ => u_ = some (.int (whoR (v 0) (v 1) (fitB cl wm si F (v 9) N) x y)) ∧ n_ = n ∧ ∃ f9 k9, g_ = bG E g Y v (va_up (va_up F 9 f9) 10 k9) P SP N Mp Kp) := by
  refine Ct.of (by decide +kernel) (Nat.le_of_ble_eq_true rfl) (fun v hv => by simp only [List.mem_cons, List.not_mem_nil, or_false] at hv; (try rcases hv with rfl | rfl | rfl) <;> first | rfl | (subst hv; rfl) | exact hv.elim) ?_
  intro K hKl S
  subst hKl
  have X := S.1
  refine r_aload_n X dX10_who_0 rfl ?_
  refine r_iload_n X dX10_who_1 rfl ?_
  refine r_callV (ci := 9) X rfl (c_X10_isStep _ E g n Y v F P SP N Mp Kp x h0) tw_413 tw_415 tp_12 tw_1 tw_416 rfl rfl (by first | exact b0 | exact bnow.c0 | exact bnow.rl.1 | exact bnow.c4 | exact bta.1 | exact b4 | exact btold.1 | exact btrial.1 | exact bpast.c0 | exact bk | exact bz | exact bsi.c0 | assumption) rfl ⟨ok_X10_isStep, ⟨Nat.le_of_ble_eq_true rfl, Nat.le_of_ble_eq_true rfl⟩, ⟨Nat.le_of_ble_eq_true rfl, Nat.le_of_ble_eq_true rfl⟩, Nat.le_of_ble_eq_true rfl⟩ dX10_who_2 (kk_r (Wf := Wg K E _ _ _ _) ?_)
  refine r_if_eqB X 15 dX10_who_5 (by decide) (fun c_5 => ?_) (fun c_5 => ?_)
  · skip
    refine r_bipush (v := (-2)) X dX10_who_15 (by decide) ?_
    refine r_iret S dX10_who_17 ?_
    exact ⟨by unfold whoR; rw [if_neg (by simp [*])], rfl, ⟨F 9, F 10, by congr 1; funext k; simp only [va_up]; (repeat' split) <;> first | rfl | (subst_vars; rfl)⟩⟩
  · skip
    refine r_iload_n X dX10_who_8 rfl ?_
    refine r_callS X rfl (c_X10_isSaying _ E _ n y) tw_458 tw_459 tw_1 tw_460 rfl ⟨ok_X10_isSaying, ⟨Nat.le_of_ble_eq_true rfl, Nat.le_of_ble_eq_true rfl⟩, ⟨Nat.le_of_ble_eq_true rfl, Nat.le_of_ble_eq_true rfl⟩, Nat.le_of_ble_eq_true rfl⟩ dX10_who_9 (kk_r (Wf := Wg K E _ _ _ _) ?_)
    refine r_if_neB X 18 dX10_who_12 (by decide) (fun c_12 => ?_) (fun c_12 => ?_)
    · skip
      obtain ⟨s, hs, rfl⟩ := inR_ex (by omega) c_5
      obtain ⟨t, ht1, ht7, rfl⟩ := sayB_ex c_12
      have h1x : ix (nI t) = t := ix_nI (by omega)
      have h2x : ix (nI s) = s := ix_nI (by omega)
      refine r_iconst (v := nI 0) X dX10_who_18 (by decide) ?_
      refine r_istore_n X dX10_who_19 (Nat.le_of_ble_eq_true rfl) ?_
      try dsimp only [List.set]
      refine r_iconst (v := nI 0) X dX10_who_20 (by decide) ?_
      refine r_istore X dX10_who_21 (Nat.le_of_ble_eq_true rfl) ?_
      try dsimp only [List.set]
      have hloop : ∀ (k : Nat), k ≤ v 1 → ∀ (f9 k9 : Nat → Nat) (u_ : Option Value), Wg K E (0) (0) 23 [some (.ref Y), some (.int (nI s)), some (.int (nI t)), some (.int (nI (saF (fun k => fitB cl wm si F (v 9) N k s t) k))), some (.int (nI k)), u_] [] (bG E g Y v (va_up (va_up F 9 f9) 10 k9) P SP N Mp Kp) (n) := by
        refine ind_up _ (v 1) (fun k hk ih f9 k9 u_ => ?_)
        refine r_iload X dX10_who_23 rfl ?_
        refine r_aload_n X dX10_who_25 rfl ?_
        refine r_get (ci := 9) X 10 _ ti_RX10 rfl (by decide) tw_149 (fun _ h => h) dX10_who_26 (by first | exact b0 | exact bnow.c0 | exact bnow.rl.1 | exact bnow.c4 | exact bta.1 | exact b4 | exact btold.1 | exact btrial.1 | exact bpast.c0 | exact bk | exact bz | exact bsi.c0 | assumption) rfl ?_
        refine r_icmp_geN X 69 dX10_who_29 (by decide) (by omega) (by omega) (fun c_29 => ?_) (fun c_29 => ?_)
        · skip
          refine r_iload_n X dX10_who_69 rfl ?_
          refine r_iret S dX10_who_70 ?_
          obtain rfl : k = v 1 := by omega
          exact ⟨by simp [whoR, c_5, c_12, h2x, h1x], rfl, f9, k9, rfl⟩
        · skip
          refine r_aload_n X dX10_who_32 rfl ?_
          refine r_iload X dX10_who_33 rfl ?_
          refine r_callV (ci := 9) X rfl (c_X10_personAt_t _ E g n Y v _ P SP N Mp Kp pad cl wm k hP c_29 (by omega)) tw_390 tw_392 tp_11 tw_1 tw_393 rfl rfl (by first | exact b0 | exact bnow.c0 | exact bnow.rl.1 | exact bnow.c4 | exact bta.1 | exact b4 | exact btold.1 | exact btrial.1 | exact bpast.c0 | exact bk | exact bz | exact bsi.c0 | assumption) rfl ⟨ok_X10_personAt, ⟨Nat.le_of_ble_eq_true rfl, Nat.le_of_ble_eq_true rfl⟩, ⟨Nat.le_of_ble_eq_true rfl, Nat.le_of_ble_eq_true rfl⟩, Nat.le_of_ble_eq_true rfl⟩ dX10_who_35 (kk_r (Wf := Wg K E _ _ _ _) ?_)
          refine r_astore X dX10_who_38 (Nat.le_of_ble_eq_true rfl) ?_
          try dsimp only [List.set]
          refine r_aload X dX10_who_40 rfl ?_
          refine r_ifnull X dX10_who_42 ?_
          refine r_aload_n X dX10_who_45 rfl ?_
          refine r_aload X dX10_who_46 rfl ?_
          refine r_iload_n X dX10_who_48 rfl ?_
          refine r_iload_n X dX10_who_49 rfl ?_
          refine r_callV (ci := 9) X rfl (c_X10_fitsSights _ E g n Y v _ P SP N Mp Kp pad cl wm si k s t hP hN hN9 c_29 hs ht7 h0 h9 hS) tw_598 tw_600 tp_16 tw_1 tw_601 rfl rfl (by first | exact b0 | exact bnow.c0 | exact bnow.rl.1 | exact bnow.c4 | exact bta.1 | exact b4 | exact btold.1 | exact btrial.1 | exact bpast.c0 | exact bk | exact bz | exact bsi.c0 | assumption) rfl ⟨ok_X10_fitsSights, ⟨Nat.le_of_ble_eq_true rfl, Nat.le_of_ble_eq_true rfl⟩, ⟨Nat.le_of_ble_eq_true rfl, Nat.le_of_ble_eq_true rfl⟩, Nat.le_of_ble_eq_true rfl⟩ dX10_who_50 (kk_r (Wf := Wg K E _ _ _ _) ?_)
          refine r_heap (by rw [trF]) ?_
          refine r_if_eqB X 63 dX10_who_53 (by decide) (fun c_53 => ?_) (fun c_53 => ?_)
          · skip
            first | refine r_iincN X dX10_who_63 rfl ?_ | refine r_iinc X _ dX10_who_63 rfl rfl ?_
            try dsimp only [List.set]
            refine r_goto X 23 dX10_who_66 (by decide) ?_
            have e9 : saF (fun k => fitB cl wm si F (v 9) N k s t) (k + 1) = saF (fun k => fitB cl wm si F (v 9) N k s t) k ||| (if (fun k => fitB cl wm si F (v 9) N k s t) k = true then 2 ^ k else 0) := rfl
            have ih9 := ih (by omega) (takeF N.1 N.2.1 (s * 2 + handN (cl k)) (firmN (cl k) (wm k)) t) (takeH N.1 N.2.1 (s * 2 + handN (cl k)) (firmN (cl k) (wm k)) t) (some (.ref (pad k)))
            rw [e9] at ih9
            first | (rw [if_pos (show (fun k => fitB cl wm si F (v 9) N k s t) k = true from c_53)] at ih9; exact ih9) | (rw [if_neg (by rw [show (fun k => fitB cl wm si F (v 9) N k s t) k = false from c_53]; decide), Nat.or_zero] at ih9; exact ih9)
          · skip
            refine r_iload_n X dX10_who_56 rfl ?_
            refine r_iconst (v := nI 1) X dX10_who_57 (by decide) ?_
            refine r_iload X dX10_who_58 rfl ?_
            refine r_ishl1N X dX10_who_60 (by omega) ?_
            refine r_iorN X dX10_who_61 ?_
            refine r_istore_n X dX10_who_62 (Nat.le_of_ble_eq_true rfl) ?_
            try dsimp only [List.set]
            first | refine r_iincN X dX10_who_63 rfl ?_ | refine r_iinc X _ dX10_who_63 rfl rfl ?_
            try dsimp only [List.set]
            refine r_goto X 23 dX10_who_66 (by decide) ?_
            have e9 : saF (fun k => fitB cl wm si F (v 9) N k s t) (k + 1) = saF (fun k => fitB cl wm si F (v 9) N k s t) k ||| (if (fun k => fitB cl wm si F (v 9) N k s t) k = true then 2 ^ k else 0) := rfl
            have ih9 := ih (by omega) (takeF N.1 N.2.1 (s * 2 + handN (cl k)) (firmN (cl k) (wm k)) t) (takeH N.1 N.2.1 (s * 2 + handN (cl k)) (firmN (cl k) (wm k)) t) (some (.ref (pad k)))
            rw [e9] at ih9
            first | (rw [if_pos (show (fun k => fitB cl wm si F (v 9) N k s t) k = true from c_53)] at ih9; exact ih9) | (rw [if_neg (by rw [show (fun k => fitB cl wm si F (v 9) N k s t) k = false from c_53]; decide), Nat.or_zero] at ih9; exact ih9)
      refine r_heap (show bG E g Y v F P SP N Mp Kp = bG E g Y v (va_up (va_up F 9 (F 9)) 10 (F 10)) P SP N Mp Kp from by congr 1; funext k; simp only [va_up]; (repeat' split) <;> first | rfl | (subst_vars; rfl)) ?_
      exact hloop 0 (Nat.zero_le _) _ _ _
    · skip
      refine r_bipush (v := (-2)) X dX10_who_15 (by decide) ?_
      refine r_iret S dX10_who_17 ?_
      exact ⟨by unfold whoR; rw [if_neg (by simp [*])], rfl, ⟨F 9, F 10, by congr 1; funext k; simp only [va_up]; (repeat' split) <;> first | rfl | (subst_vars; rfl)⟩⟩

set_option maxHeartbeats 4000000 in
set_option maxRecDepth 100000 in
/-- BanisterWord.send  -/
theorem c_X10_send (l : Launch) (E : xE) (g : hG) (n : Nat) (Y : Nat) (v : Nat → Nat) (F : Nat → Nat → Nat) (P SP : Nat → Option Nat) (N : Mo) (Mp Kp : Nat → Mo) (pad cl wm : Nat → Nat) (x y : Int32) (hP : pOk g Y P (v 1) pad cl wm) (hN : ∀ j, N.1 j ≤ 7) (hN9 : ∀ j, N.2.1 j ≤ 99) (h0 : v 0 ≤ 12) (h1 : v 1 ≤ 6) : Ct l yX10_send cX10_send 8 (some .int) 3 72 0 0 E [.ref Y, .int x, .int y] (bG E g Y v F P SP N Mp Kp) n (zr (some (.int (sendR (v 1) cl N x y))) (bG E g Y v F P SP N Mp Kp) (n)) := by
  refine Ct.of (by decide +kernel) (Nat.le_of_ble_eq_true rfl) (fun v hv => by simp only [List.mem_cons, List.not_mem_nil, or_false] at hv; (try rcases hv with rfl | rfl | rfl) <;> first | rfl | (subst hv; rfl) | exact hv.elim) ?_
  intro K hKl S
  subst hKl
  have X := S.1
  refine r_aload_n X dX10_send_0 rfl ?_
  refine r_iload_n X dX10_send_1 rfl ?_
  rcases hpx : inR x (v 1)
  · skip
    refine r_callV (ci := 9) X rfl (c_X10_personAt_f _ E g n Y v F P SP N Mp Kp x hpx (by omega)) tw_390 tw_392 tp_11 tw_1 tw_393 rfl rfl (by first | exact b0 | exact bnow.c0 | exact bnow.rl.1 | exact bnow.c4 | exact bta.1 | exact b4 | exact btold.1 | exact btrial.1 | exact bpast.c0 | exact bk | exact bz | exact bsi.c0 | assumption) rfl ⟨ok_X10_personAt, ⟨Nat.le_of_ble_eq_true rfl, Nat.le_of_ble_eq_true rfl⟩, ⟨Nat.le_of_ble_eq_true rfl, Nat.le_of_ble_eq_true rfl⟩, Nat.le_of_ble_eq_true rfl⟩ dX10_send_2 (kk_r (Wf := Wg K E _ _ _ _) ?_)
    refine r_astore_nN X dX10_send_5 (Nat.le_of_ble_eq_true rfl) ?_
    try dsimp only [List.set]
    refine r_aload_nN X dX10_send_6 rfl ?_
    refine r_ifnullN X 17 dX10_send_7 (by decide) ?_
    refine r_bipush (v := (-2)) X dX10_send_17 (by decide) ?_
    refine r_iret S dX10_send_19 ?_
    exact ⟨by unfold sendR; rw [if_neg (by simp [*])], rfl, rfl⟩
  · skip
    obtain ⟨i, hi, rfl⟩ := inR_ex (by omega) hpx
    have hix : ix (nI i) = i := ix_nI (by omega)
    have hcl := hP.c hi
    have hwm := hP.w hi
    have hhd := handN_le (cl i)
    refine r_callV (ci := 9) X rfl (c_X10_personAt_t _ E g n Y v F P SP N Mp Kp pad cl wm i hP hi (by omega)) tw_390 tw_392 tp_11 tw_1 tw_393 rfl rfl (by first | exact b0 | exact bnow.c0 | exact bnow.rl.1 | exact bnow.c4 | exact bta.1 | exact b4 | exact btold.1 | exact btrial.1 | exact bpast.c0 | exact bk | exact bz | exact bsi.c0 | assumption) rfl ⟨ok_X10_personAt, ⟨Nat.le_of_ble_eq_true rfl, Nat.le_of_ble_eq_true rfl⟩, ⟨Nat.le_of_ble_eq_true rfl, Nat.le_of_ble_eq_true rfl⟩, Nat.le_of_ble_eq_true rfl⟩ dX10_send_2 (kk_r (Wf := Wg K E _ _ _ _) ?_)
    refine r_astore_n X dX10_send_5 (Nat.le_of_ble_eq_true rfl) ?_
    try dsimp only [List.set]
    refine r_aload_n X dX10_send_6 rfl ?_
    refine r_ifnull X dX10_send_7 ?_
    refine r_iload_n X dX10_send_10 rfl ?_
    refine r_callS X rfl (c_X10_isSaying _ E _ n y) tw_458 tw_459 tw_1 tw_460 rfl ⟨ok_X10_isSaying, ⟨Nat.le_of_ble_eq_true rfl, Nat.le_of_ble_eq_true rfl⟩, ⟨Nat.le_of_ble_eq_true rfl, Nat.le_of_ble_eq_true rfl⟩, Nat.le_of_ble_eq_true rfl⟩ dX10_send_11 (kk_r (Wf := Wg K E _ _ _ _) ?_)
    refine r_if_neB X 20 dX10_send_14 (by decide) (fun c_14 => ?_) (fun c_14 => ?_)
    · skip
      obtain ⟨t, ht1, ht7, rfl⟩ := sayB_ex c_14
      have h1x : ix (nI t) = t := ix_nI (by omega)
      have hnd : (ndN cl N i t) ≤ 99 := by unfold ndN; split; exact fmx_le hN9 _ _ _; omega
      refine r_aload_n X dX10_send_20 rfl ?_
      refine vc_RX10_feels X rfl hcl hwm (hP.b hi) ⟨Nat.le_of_ble_eq_true rfl, Nat.le_of_ble_eq_true rfl⟩ ⟨⟨Nat.le_of_ble_eq_true rfl, Nat.le_of_ble_eq_true rfl⟩, Nat.le_of_ble_eq_true rfl⟩ dX10_send_21 ?_
      refine r_if_eqB X 45 dX10_send_24 (by decide) (fun c_24 => ?_) (fun c_24 => ?_)
      · skip
        refine r_iconst (v := nI 0) X dX10_send_45 (by decide) ?_
        refine r_top _ (nI (ndN cl N i t)) (by unfold ndN; first | (rw [if_pos c_24]; done) | (rw [if_neg (by rw [c_24]; decide)]; done)) ?_
        refine r_istore X dX10_send_46 (Nat.le_of_ble_eq_true rfl) ?_
        try dsimp only [List.set]
        refine r_iconst (v := nI 0) X dX10_send_48 (by decide) ?_
        refine r_istore X dX10_send_49 (Nat.le_of_ble_eq_true rfl) ?_
        try dsimp only [List.set]
        refine r_iconst (v := nI 0) X dX10_send_51 (by decide) ?_
        refine r_istore X dX10_send_52 (Nat.le_of_ble_eq_true rfl) ?_
        try dsimp only [List.set]
        have hloop : ∀ (k : Nat), k ≤ v 1 → ∀ u_ : Option Value, Wg K E (0) (0) 54 [some (.ref Y), some (.int (nI i)), some (.int (nI t)), some (.ref (pad i)), some (.int (nI (sdP (elB cl i) (ndN cl N i t) k).1)), some (.int (nI (sdP (elB cl i) (ndN cl N i t) k).2)), some (.int (nI k)), u_] [] (bG E g Y v F P SP N Mp Kp) (n) := by
          refine ind_up _ (v 1) (fun k hk ih u_ => ?_)
          have b1 := sdP_le (elB cl i) (ndN cl N i t) k
          refine r_iload X dX10_send_54 rfl ?_
          refine r_aload_n X dX10_send_56 rfl ?_
          refine r_get (ci := 9) X 10 _ ti_RX10 rfl (by decide) tw_149 (fun _ h => h) dX10_send_57 (by first | exact b0 | exact bnow.c0 | exact bnow.rl.1 | exact bnow.c4 | exact bta.1 | exact b4 | exact btold.1 | exact btrial.1 | exact bpast.c0 | exact bk | exact bz | exact bsi.c0 | assumption) rfl ?_
          refine r_icmp_geN X 125 dX10_send_60 (by decide) (by omega) (by omega) (fun c_60 => ?_) (fun c_60 => ?_)
          · skip
            have he : sdP (elB cl i) (ndN cl N i t) (v 1) = sdP (elB cl i) (ndN cl N i t) k := by rw [show k = v 1 by omega]
            refine r_iload X dX10_send_125 rfl ?_
            refine r_if_leN X 134 dX10_send_127 (by decide) (by omega) (fun c_127 => ?_) (fun c_127 => ?_)
            · skip
              refine r_iload X dX10_send_134 rfl ?_
              refine r_iret S dX10_send_136 ?_
              refine ⟨?_, rfl, rfl⟩
              unfold sendR
              rw [if_pos ⟨hpx, c_14⟩, hix, h1x, he]
              first | rw [if_pos c_127] | rw [if_neg (Nat.ne_of_gt c_127)]
            · skip
              refine r_iconst (v := (-1)) X dX10_send_130 (by decide) ?_
              refine r_goto X 136 dX10_send_131 (by decide) ?_
              refine r_iret S dX10_send_136 ?_
              refine ⟨?_, rfl, rfl⟩
              unfold sendR
              rw [if_pos ⟨hpx, c_14⟩, hix, h1x, he]
              first | rw [if_pos c_127] | rw [if_neg (Nat.ne_of_gt c_127)]
          · skip
            have q1 := handN_le (cl k)
            refine r_iload X dX10_send_63 rfl ?_
            refine r_if_leN X 125 dX10_send_65 (by decide) (by omega) (fun c_65 => ?_) (fun c_65 => ?_)
            · skip
              have he : sdP (elB cl i) (ndN cl N i t) (v 1) = sdP (elB cl i) (ndN cl N i t) k := by have h9 := sdP_0 c_65 (v 1 - k); rw [show k + (v 1 - k) = v 1 by omega] at h9; exact h9
              refine r_iload X dX10_send_125 rfl ?_
              refine r_if_leN X 134 dX10_send_127 (by decide) (by omega) (fun c_127 => ?_) (fun c_127 => ?_)
              · skip
                refine r_iload X dX10_send_134 rfl ?_
                refine r_iret S dX10_send_136 ?_
                refine ⟨?_, rfl, rfl⟩
                unfold sendR
                rw [if_pos ⟨hpx, c_14⟩, hix, h1x, he]
                first | rw [if_pos c_127] | rw [if_neg (Nat.ne_of_gt c_127)]
              · skip
                refine r_iconst (v := (-1)) X dX10_send_130 (by decide) ?_
                refine r_goto X 136 dX10_send_131 (by decide) ?_
                refine r_iret S dX10_send_136 ?_
                refine ⟨?_, rfl, rfl⟩
                unfold sendR
                rw [if_pos ⟨hpx, c_14⟩, hix, h1x, he]
                first | rw [if_pos c_127] | rw [if_neg (Nat.ne_of_gt c_127)]
            · skip
              refine r_aload_n X dX10_send_68 rfl ?_
              refine r_iload X dX10_send_69 rfl ?_
              refine r_callV (ci := 9) X rfl (c_X10_personAt_t _ E g n Y v F P SP N Mp Kp pad cl wm k hP c_60 (by omega)) tw_390 tw_392 tp_11 tw_1 tw_393 rfl rfl (by first | exact b0 | exact bnow.c0 | exact bnow.rl.1 | exact bnow.c4 | exact bta.1 | exact b4 | exact btold.1 | exact btrial.1 | exact bpast.c0 | exact bk | exact bz | exact bsi.c0 | assumption) rfl ⟨ok_X10_personAt, ⟨Nat.le_of_ble_eq_true rfl, Nat.le_of_ble_eq_true rfl⟩, ⟨Nat.le_of_ble_eq_true rfl, Nat.le_of_ble_eq_true rfl⟩, Nat.le_of_ble_eq_true rfl⟩ dX10_send_71 (kk_r (Wf := Wg K E _ _ _ _) ?_)
              refine r_astore X dX10_send_74 (Nat.le_of_ble_eq_true rfl) ?_
              try dsimp only [List.set]
              refine r_aload X dX10_send_76 rfl ?_
              refine r_ifnull X dX10_send_78 ?_
              refine r_iload X dX10_send_81 rfl ?_
              refine r_iload_n X dX10_send_83 rfl ?_
              refine r_icmp_eqN X 119 dX10_send_84 (by decide) (by omega) (by omega) (fun c_84 => ?_) (fun c_84 => ?_)
              · skip
                have hel : elB cl i k = false := by unfold elB; rw [show decide (k ≠ i) = false from decide_eq_false (by omega)]; rfl
                first | refine r_iincN X dX10_send_119 rfl ?_ | refine r_iinc X _ dX10_send_119 rfl rfl ?_
                try dsimp only [List.set]
                refine r_goto X 54 dX10_send_122 (by decide) ?_
                have ih9 := ih (by omega) (some (.ref (pad k)))
                have e9 : sdP (elB cl i) (ndN cl N i t) (k + 1) = (if (sdP (elB cl i) (ndN cl N i t) k).1 = 0 then sdP (elB cl i) (ndN cl N i t) k else if elB cl i k = true then ((sdP (elB cl i) (ndN cl N i t) k).1 - 1, (sdP (elB cl i) (ndN cl N i t) k).2 ||| 2 ^ k) else sdP (elB cl i) (ndN cl N i t) k) := rfl
                rw [e9, if_neg (by omega)] at ih9
                first | (rw [if_pos hel] at ih9; exact ih9) | (rw [if_neg (by rw [hel]; decide)] at ih9; exact ih9)
              · skip
                refine r_aload X dX10_send_87 rfl ?_
                refine vc_RX10_feels X rfl (hP.c c_60) (hP.w c_60) (hP.b c_60) ⟨Nat.le_of_ble_eq_true rfl, Nat.le_of_ble_eq_true rfl⟩ ⟨⟨Nat.le_of_ble_eq_true rfl, Nat.le_of_ble_eq_true rfl⟩, Nat.le_of_ble_eq_true rfl⟩ dX10_send_89 ?_
                refine r_if_eqB X 119 dX10_send_92 (by decide) (fun c_92 => ?_) (fun c_92 => ?_)
                · skip
                  have hel : elB cl i k = false := by unfold elB; rw [c_92, Bool.and_false]; rfl
                  first | refine r_iincN X dX10_send_119 rfl ?_ | refine r_iinc X _ dX10_send_119 rfl rfl ?_
                  try dsimp only [List.set]
                  refine r_goto X 54 dX10_send_122 (by decide) ?_
                  have ih9 := ih (by omega) (some (.ref (pad k)))
                  have e9 : sdP (elB cl i) (ndN cl N i t) (k + 1) = (if (sdP (elB cl i) (ndN cl N i t) k).1 = 0 then sdP (elB cl i) (ndN cl N i t) k else if elB cl i k = true then ((sdP (elB cl i) (ndN cl N i t) k).1 - 1, (sdP (elB cl i) (ndN cl N i t) k).2 ||| 2 ^ k) else sdP (elB cl i) (ndN cl N i t) k) := rfl
                  rw [e9, if_neg (by omega)] at ih9
                  first | (rw [if_pos hel] at ih9; exact ih9) | (rw [if_neg (by rw [hel]; decide)] at ih9; exact ih9)
                · skip
                  refine r_aload X dX10_send_95 rfl ?_
                  refine vc_RX10_handHeight X rfl (hP.c c_60) (hP.w c_60) (hP.b c_60) ⟨Nat.le_of_ble_eq_true rfl, Nat.le_of_ble_eq_true rfl⟩ ⟨⟨Nat.le_of_ble_eq_true rfl, Nat.le_of_ble_eq_true rfl⟩, Nat.le_of_ble_eq_true rfl⟩ dX10_send_97 ?_
                  refine r_aload_n X dX10_send_100 rfl ?_
                  refine vc_RX10_handHeight X rfl hcl hwm (hP.b hi) ⟨Nat.le_of_ble_eq_true rfl, Nat.le_of_ble_eq_true rfl⟩ ⟨⟨Nat.le_of_ble_eq_true rfl, Nat.le_of_ble_eq_true rfl⟩, Nat.le_of_ble_eq_true rfl⟩ dX10_send_101 ?_
                  refine r_icmp_neN X 119 dX10_send_104 (by decide) (by omega) (by omega) (fun c_104 => ?_) (fun c_104 => ?_)
                  · skip
                    have hel : elB cl i k = false := by unfold elB; rw [show decide (handN (cl k) = handN (cl i)) = false from decide_eq_false c_104, Bool.and_false]
                    first | refine r_iincN X dX10_send_119 rfl ?_ | refine r_iinc X _ dX10_send_119 rfl rfl ?_
                    try dsimp only [List.set]
                    refine r_goto X 54 dX10_send_122 (by decide) ?_
                    have ih9 := ih (by omega) (some (.ref (pad k)))
                    have e9 : sdP (elB cl i) (ndN cl N i t) (k + 1) = (if (sdP (elB cl i) (ndN cl N i t) k).1 = 0 then sdP (elB cl i) (ndN cl N i t) k else if elB cl i k = true then ((sdP (elB cl i) (ndN cl N i t) k).1 - 1, (sdP (elB cl i) (ndN cl N i t) k).2 ||| 2 ^ k) else sdP (elB cl i) (ndN cl N i t) k) := rfl
                    rw [e9, if_neg (by omega)] at ih9
                    first | (rw [if_pos hel] at ih9; exact ih9) | (rw [if_neg (by rw [hel]; decide)] at ih9; exact ih9)
                  · skip
                    have hel : elB cl i k = true := by unfold elB; rw [show decide (k ≠ i) = true from decide_eq_true c_84, c_92, show decide (handN (cl k) = handN (cl i)) = true from decide_eq_true c_104]; rfl
                    refine r_iload X dX10_send_107 rfl ?_
                    refine r_iconst (v := nI 1) X dX10_send_109 (by decide) ?_
                    refine r_iload X dX10_send_110 rfl ?_
                    refine r_ishl1N X dX10_send_112 (by omega) ?_
                    refine r_iorN X dX10_send_113 ?_
                    refine r_istore X dX10_send_114 (Nat.le_of_ble_eq_true rfl) ?_
                    try dsimp only [List.set]
                    refine r_iinc X (nI ((sdP (elB cl i) (ndN cl N i t) k).1 - 1)) dX10_send_116 rfl (sb_m1 c_65) ?_
                    try dsimp only [List.set]
                    first | refine r_iincN X dX10_send_119 rfl ?_ | refine r_iinc X _ dX10_send_119 rfl rfl ?_
                    try dsimp only [List.set]
                    refine r_goto X 54 dX10_send_122 (by decide) ?_
                    have ih9 := ih (by omega) (some (.ref (pad k)))
                    have e9 : sdP (elB cl i) (ndN cl N i t) (k + 1) = (if (sdP (elB cl i) (ndN cl N i t) k).1 = 0 then sdP (elB cl i) (ndN cl N i t) k else if elB cl i k = true then ((sdP (elB cl i) (ndN cl N i t) k).1 - 1, (sdP (elB cl i) (ndN cl N i t) k).2 ||| 2 ^ k) else sdP (elB cl i) (ndN cl N i t) k) := rfl
                    rw [e9, if_neg (by omega)] at ih9
                    first | (rw [if_pos hel] at ih9; exact ih9) | (rw [if_neg (by rw [hel]; decide)] at ih9; exact ih9)
        exact hloop 0 (Nat.zero_le _) _
      · skip
        refine r_aload_n X dX10_send_27 rfl ?_
        refine r_get (ci := 9) X 4 _ ti_RX10 rfl (by decide) tw_143 (fun _ h => h) dX10_send_28 (by first | exact b0 | exact bnow.c0 | exact bnow.rl.1 | exact bnow.c4 | exact bta.1 | exact b4 | exact btold.1 | exact btrial.1 | exact bpast.c0 | exact bk | exact bz | exact bsi.c0 | assumption) rfl ?_
        refine r_get (ci := 4) X 0 _ ti_RX4 rfl (by decide) tw_82 (fun _ h => h) dX10_send_31 (by first | exact b0 | exact bnow.c0 | exact bnow.rl.1 | exact bnow.c4 | exact bta.1 | exact b4 | exact btold.1 | exact btrial.1 | exact bpast.c0 | exact bk | exact bz | exact bsi.c0 | assumption) rfl ?_
        refine r_iload_n X dX10_send_34 rfl ?_
        refine r_aload_n X dX10_send_35 rfl ?_
        refine vc_RX10_handHeight X rfl hcl hwm (hP.b hi) ⟨Nat.le_of_ble_eq_true rfl, Nat.le_of_ble_eq_true rfl⟩ ⟨⟨Nat.le_of_ble_eq_true rfl, Nat.le_of_ble_eq_true rfl⟩, Nat.le_of_ble_eq_true rfl⟩ dX10_send_36 ?_
        refine r_callV (ci := 6) X rfl (c_X7_firmest _ E _ n (Y + 11 + 1) t (handN (cl i)) N.1 N.2.1 bnow.rl hN hN9 (by omega) (by omega)) tw_566 tw_567 tw_568 tw_3 tw_569 rfl rfl bnow.rl.1 rfl ⟨ok_X7_firmest, ⟨Nat.le_of_ble_eq_true rfl, Nat.le_of_ble_eq_true rfl⟩, ⟨Nat.le_of_ble_eq_true rfl, Nat.le_of_ble_eq_true rfl⟩, Nat.le_of_ble_eq_true rfl⟩ dX10_send_39 (kk_r (Wf := Wg K E _ _ _ _) ?_)
        refine r_goto X 46 dX10_send_42 (by decide) ?_
        refine r_top _ (nI (ndN cl N i t)) (by unfold ndN; first | (rw [if_pos c_24]; done) | (rw [if_neg (by rw [c_24]; decide)]; done)) ?_
        refine r_istore X dX10_send_46 (Nat.le_of_ble_eq_true rfl) ?_
        try dsimp only [List.set]
        refine r_iconst (v := nI 0) X dX10_send_48 (by decide) ?_
        refine r_istore X dX10_send_49 (Nat.le_of_ble_eq_true rfl) ?_
        try dsimp only [List.set]
        refine r_iconst (v := nI 0) X dX10_send_51 (by decide) ?_
        refine r_istore X dX10_send_52 (Nat.le_of_ble_eq_true rfl) ?_
        try dsimp only [List.set]
        have hloop : ∀ (k : Nat), k ≤ v 1 → ∀ u_ : Option Value, Wg K E (0) (0) 54 [some (.ref Y), some (.int (nI i)), some (.int (nI t)), some (.ref (pad i)), some (.int (nI (sdP (elB cl i) (ndN cl N i t) k).1)), some (.int (nI (sdP (elB cl i) (ndN cl N i t) k).2)), some (.int (nI k)), u_] [] (bG E g Y v F P SP N Mp Kp) (n) := by
          refine ind_up _ (v 1) (fun k hk ih u_ => ?_)
          have b1 := sdP_le (elB cl i) (ndN cl N i t) k
          refine r_iload X dX10_send_54 rfl ?_
          refine r_aload_n X dX10_send_56 rfl ?_
          refine r_get (ci := 9) X 10 _ ti_RX10 rfl (by decide) tw_149 (fun _ h => h) dX10_send_57 (by first | exact b0 | exact bnow.c0 | exact bnow.rl.1 | exact bnow.c4 | exact bta.1 | exact b4 | exact btold.1 | exact btrial.1 | exact bpast.c0 | exact bk | exact bz | exact bsi.c0 | assumption) rfl ?_
          refine r_icmp_geN X 125 dX10_send_60 (by decide) (by omega) (by omega) (fun c_60 => ?_) (fun c_60 => ?_)
          · skip
            have he : sdP (elB cl i) (ndN cl N i t) (v 1) = sdP (elB cl i) (ndN cl N i t) k := by rw [show k = v 1 by omega]
            refine r_iload X dX10_send_125 rfl ?_
            refine r_if_leN X 134 dX10_send_127 (by decide) (by omega) (fun c_127 => ?_) (fun c_127 => ?_)
            · skip
              refine r_iload X dX10_send_134 rfl ?_
              refine r_iret S dX10_send_136 ?_
              refine ⟨?_, rfl, rfl⟩
              unfold sendR
              rw [if_pos ⟨hpx, c_14⟩, hix, h1x, he]
              first | rw [if_pos c_127] | rw [if_neg (Nat.ne_of_gt c_127)]
            · skip
              refine r_iconst (v := (-1)) X dX10_send_130 (by decide) ?_
              refine r_goto X 136 dX10_send_131 (by decide) ?_
              refine r_iret S dX10_send_136 ?_
              refine ⟨?_, rfl, rfl⟩
              unfold sendR
              rw [if_pos ⟨hpx, c_14⟩, hix, h1x, he]
              first | rw [if_pos c_127] | rw [if_neg (Nat.ne_of_gt c_127)]
          · skip
            have q1 := handN_le (cl k)
            refine r_iload X dX10_send_63 rfl ?_
            refine r_if_leN X 125 dX10_send_65 (by decide) (by omega) (fun c_65 => ?_) (fun c_65 => ?_)
            · skip
              have he : sdP (elB cl i) (ndN cl N i t) (v 1) = sdP (elB cl i) (ndN cl N i t) k := by have h9 := sdP_0 c_65 (v 1 - k); rw [show k + (v 1 - k) = v 1 by omega] at h9; exact h9
              refine r_iload X dX10_send_125 rfl ?_
              refine r_if_leN X 134 dX10_send_127 (by decide) (by omega) (fun c_127 => ?_) (fun c_127 => ?_)
              · skip
                refine r_iload X dX10_send_134 rfl ?_
                refine r_iret S dX10_send_136 ?_
                refine ⟨?_, rfl, rfl⟩
                unfold sendR
                rw [if_pos ⟨hpx, c_14⟩, hix, h1x, he]
                first | rw [if_pos c_127] | rw [if_neg (Nat.ne_of_gt c_127)]
              · skip
                refine r_iconst (v := (-1)) X dX10_send_130 (by decide) ?_
                refine r_goto X 136 dX10_send_131 (by decide) ?_
                refine r_iret S dX10_send_136 ?_
                refine ⟨?_, rfl, rfl⟩
                unfold sendR
                rw [if_pos ⟨hpx, c_14⟩, hix, h1x, he]
                first | rw [if_pos c_127] | rw [if_neg (Nat.ne_of_gt c_127)]
            · skip
              refine r_aload_n X dX10_send_68 rfl ?_
              refine r_iload X dX10_send_69 rfl ?_
              refine r_callV (ci := 9) X rfl (c_X10_personAt_t _ E g n Y v F P SP N Mp Kp pad cl wm k hP c_60 (by omega)) tw_390 tw_392 tp_11 tw_1 tw_393 rfl rfl (by first | exact b0 | exact bnow.c0 | exact bnow.rl.1 | exact bnow.c4 | exact bta.1 | exact b4 | exact btold.1 | exact btrial.1 | exact bpast.c0 | exact bk | exact bz | exact bsi.c0 | assumption) rfl ⟨ok_X10_personAt, ⟨Nat.le_of_ble_eq_true rfl, Nat.le_of_ble_eq_true rfl⟩, ⟨Nat.le_of_ble_eq_true rfl, Nat.le_of_ble_eq_true rfl⟩, Nat.le_of_ble_eq_true rfl⟩ dX10_send_71 (kk_r (Wf := Wg K E _ _ _ _) ?_)
              refine r_astore X dX10_send_74 (Nat.le_of_ble_eq_true rfl) ?_
              try dsimp only [List.set]
              refine r_aload X dX10_send_76 rfl ?_
              refine r_ifnull X dX10_send_78 ?_
              refine r_iload X dX10_send_81 rfl ?_
              refine r_iload_n X dX10_send_83 rfl ?_
              refine r_icmp_eqN X 119 dX10_send_84 (by decide) (by omega) (by omega) (fun c_84 => ?_) (fun c_84 => ?_)
              · skip
                have hel : elB cl i k = false := by unfold elB; rw [show decide (k ≠ i) = false from decide_eq_false (by omega)]; rfl
                first | refine r_iincN X dX10_send_119 rfl ?_ | refine r_iinc X _ dX10_send_119 rfl rfl ?_
                try dsimp only [List.set]
                refine r_goto X 54 dX10_send_122 (by decide) ?_
                have ih9 := ih (by omega) (some (.ref (pad k)))
                have e9 : sdP (elB cl i) (ndN cl N i t) (k + 1) = (if (sdP (elB cl i) (ndN cl N i t) k).1 = 0 then sdP (elB cl i) (ndN cl N i t) k else if elB cl i k = true then ((sdP (elB cl i) (ndN cl N i t) k).1 - 1, (sdP (elB cl i) (ndN cl N i t) k).2 ||| 2 ^ k) else sdP (elB cl i) (ndN cl N i t) k) := rfl
                rw [e9, if_neg (by omega)] at ih9
                first | (rw [if_pos hel] at ih9; exact ih9) | (rw [if_neg (by rw [hel]; decide)] at ih9; exact ih9)
              · skip
                refine r_aload X dX10_send_87 rfl ?_
                refine vc_RX10_feels X rfl (hP.c c_60) (hP.w c_60) (hP.b c_60) ⟨Nat.le_of_ble_eq_true rfl, Nat.le_of_ble_eq_true rfl⟩ ⟨⟨Nat.le_of_ble_eq_true rfl, Nat.le_of_ble_eq_true rfl⟩, Nat.le_of_ble_eq_true rfl⟩ dX10_send_89 ?_
                refine r_if_eqB X 119 dX10_send_92 (by decide) (fun c_92 => ?_) (fun c_92 => ?_)
                · skip
                  have hel : elB cl i k = false := by unfold elB; rw [c_92, Bool.and_false]; rfl
                  first | refine r_iincN X dX10_send_119 rfl ?_ | refine r_iinc X _ dX10_send_119 rfl rfl ?_
                  try dsimp only [List.set]
                  refine r_goto X 54 dX10_send_122 (by decide) ?_
                  have ih9 := ih (by omega) (some (.ref (pad k)))
                  have e9 : sdP (elB cl i) (ndN cl N i t) (k + 1) = (if (sdP (elB cl i) (ndN cl N i t) k).1 = 0 then sdP (elB cl i) (ndN cl N i t) k else if elB cl i k = true then ((sdP (elB cl i) (ndN cl N i t) k).1 - 1, (sdP (elB cl i) (ndN cl N i t) k).2 ||| 2 ^ k) else sdP (elB cl i) (ndN cl N i t) k) := rfl
                  rw [e9, if_neg (by omega)] at ih9
                  first | (rw [if_pos hel] at ih9; exact ih9) | (rw [if_neg (by rw [hel]; decide)] at ih9; exact ih9)
                · skip
                  refine r_aload X dX10_send_95 rfl ?_
                  refine vc_RX10_handHeight X rfl (hP.c c_60) (hP.w c_60) (hP.b c_60) ⟨Nat.le_of_ble_eq_true rfl, Nat.le_of_ble_eq_true rfl⟩ ⟨⟨Nat.le_of_ble_eq_true rfl, Nat.le_of_ble_eq_true rfl⟩, Nat.le_of_ble_eq_true rfl⟩ dX10_send_97 ?_
                  refine r_aload_n X dX10_send_100 rfl ?_
                  refine vc_RX10_handHeight X rfl hcl hwm (hP.b hi) ⟨Nat.le_of_ble_eq_true rfl, Nat.le_of_ble_eq_true rfl⟩ ⟨⟨Nat.le_of_ble_eq_true rfl, Nat.le_of_ble_eq_true rfl⟩, Nat.le_of_ble_eq_true rfl⟩ dX10_send_101 ?_
                  refine r_icmp_neN X 119 dX10_send_104 (by decide) (by omega) (by omega) (fun c_104 => ?_) (fun c_104 => ?_)
                  · skip
                    have hel : elB cl i k = false := by unfold elB; rw [show decide (handN (cl k) = handN (cl i)) = false from decide_eq_false c_104, Bool.and_false]
                    first | refine r_iincN X dX10_send_119 rfl ?_ | refine r_iinc X _ dX10_send_119 rfl rfl ?_
                    try dsimp only [List.set]
                    refine r_goto X 54 dX10_send_122 (by decide) ?_
                    have ih9 := ih (by omega) (some (.ref (pad k)))
                    have e9 : sdP (elB cl i) (ndN cl N i t) (k + 1) = (if (sdP (elB cl i) (ndN cl N i t) k).1 = 0 then sdP (elB cl i) (ndN cl N i t) k else if elB cl i k = true then ((sdP (elB cl i) (ndN cl N i t) k).1 - 1, (sdP (elB cl i) (ndN cl N i t) k).2 ||| 2 ^ k) else sdP (elB cl i) (ndN cl N i t) k) := rfl
                    rw [e9, if_neg (by omega)] at ih9
                    first | (rw [if_pos hel] at ih9; exact ih9) | (rw [if_neg (by rw [hel]; decide)] at ih9; exact ih9)
                  · skip
                    have hel : elB cl i k = true := by unfold elB; rw [show decide (k ≠ i) = true from decide_eq_true c_84, c_92, show decide (handN (cl k) = handN (cl i)) = true from decide_eq_true c_104]; rfl
                    refine r_iload X dX10_send_107 rfl ?_
                    refine r_iconst (v := nI 1) X dX10_send_109 (by decide) ?_
                    refine r_iload X dX10_send_110 rfl ?_
                    refine r_ishl1N X dX10_send_112 (by omega) ?_
                    refine r_iorN X dX10_send_113 ?_
                    refine r_istore X dX10_send_114 (Nat.le_of_ble_eq_true rfl) ?_
                    try dsimp only [List.set]
                    refine r_iinc X (nI ((sdP (elB cl i) (ndN cl N i t) k).1 - 1)) dX10_send_116 rfl (sb_m1 c_65) ?_
                    try dsimp only [List.set]
                    first | refine r_iincN X dX10_send_119 rfl ?_ | refine r_iinc X _ dX10_send_119 rfl rfl ?_
                    try dsimp only [List.set]
                    refine r_goto X 54 dX10_send_122 (by decide) ?_
                    have ih9 := ih (by omega) (some (.ref (pad k)))
                    have e9 : sdP (elB cl i) (ndN cl N i t) (k + 1) = (if (sdP (elB cl i) (ndN cl N i t) k).1 = 0 then sdP (elB cl i) (ndN cl N i t) k else if elB cl i k = true then ((sdP (elB cl i) (ndN cl N i t) k).1 - 1, (sdP (elB cl i) (ndN cl N i t) k).2 ||| 2 ^ k) else sdP (elB cl i) (ndN cl N i t) k) := rfl
                    rw [e9, if_neg (by omega)] at ih9
                    first | (rw [if_pos hel] at ih9; exact ih9) | (rw [if_neg (by rw [hel]; decide)] at ih9; exact ih9)
        exact hloop 0 (Nat.zero_le _) _
    · skip
      refine r_bipush (v := (-2)) X dX10_send_17 (by decide) ?_
      refine r_iret S dX10_send_19 ?_
      exact ⟨by unfold sendR; rw [if_neg (by simp [*])], rfl, rfl⟩

