section M7
variable {E : xE} {g : hG} {M : Nat} {u : Nat → Nat} {B : Nat → Nat → Nat}
theorem um7u {k x : Nat} : hu (mG E g M u B) (M + 7) (zc E 2 (upd (fun i => nI (B 7 i)) k (nI x))) = mG E g M u (va_up B 7 (va_up (B 7) k x)) := by
  rw [← um7]
  congr 1
  refine zc_congr (fun i hi => ?_)
  simp only [upd, va_up]
  split <;> rfl
theorem mc7 {f f2 : Nat → Nat} (h : ∀ j, j < 2 → f j = f2 j) : mG E g M u (va_up B 7 f) = mG E g M u (va_up B 7 f2) := by
  rw [← um7, ← um7, zc_congr (fun i hi => by rw [h i hi])]
end M7
/-- the past: moments in a row -/
def pfl (Q : Nat → Mo) (j : Nat) : Nat := flat (Q (j / 55)) (j % 55)
theorem pfl_at {Q : Nat → Mo} {k j : Nat} (h : j < 55) : pfl Q (55 * k + j) = flat (Q k) j := by
  unfold pfl; rw [show (55 * k + j) / 55 = k by omega, show (55 * k + j) % 55 = j by omega]
theorem pfl_sh {Q : Nat → Mo} {j : Nat} : pfl Q (j + 55) = pfl (fun i => Q (i + 1)) j := by
  unfold pfl; rw [show (j + 55) / 55 = j / 55 + 1 by omega, show (j + 55) % 55 = j % 55 by omega]
theorem pfl_up {Q : Nat → Mo} {N : Mo} {c j : Nat} : (if 55 * c ≤ j ∧ j < 55 * c + 55 then flat N (j - 55 * c) else pfl Q j) = pfl (va_up Q c N) j := by
  unfold pfl
  by_cases h : 55 * c ≤ j ∧ j < 55 * c + 55
  · rw [if_pos h, show j / 55 = c by omega, vu_eq, show j % 55 = j - 55 * c by omega]
  · rw [if_neg h, vu_ne (by omega)]
/-- the past, one moment more -/
def kpQ (c : Nat) (Q : Nat → Mo) (N : Mo) : Nat → Mo := if c = 8 then va_up (fun i => Q (i + 1)) 7 N else va_up Q c N
def laid (T : hsT) : Mo := (T.2.2.2.2.1, T.2.2.2.2.2, fun _ => 0, 0)
theorem laid_at {T : hsT} {j : Nat} (h : j < 55) : (if j < 48 then tfl T (14 + j) else 0) = flat (laid T) j := by
  unfold flat laid
  by_cases e1 : j < 24
  · rw [if_pos e1, if_pos (by omega), tfl_f e1]
  · by_cases e2 : j < 48
    · rw [if_pos e2, if_neg e1, if_pos e2, tfl_h (by omega)]
    · rw [if_neg e2, if_neg e1, if_neg e2]; split <;> rfl

set_option maxHeartbeats 4000000 in
set_option maxRecDepth 100000 in
/-- BanisterWordModel.holds  -/
theorem c_X11_holds (l : Launch) (E : xE) (g : hG) (n : Nat) (M : Nat) (u : Nat → Nat) (B : Nat → Nat → Nat)   : Ct l yX11_holds cX11_holds 2 none 0 0 0 0 E [.ref M] (mG E g M u B) n (zr (none) (mG E g M u (va_up B 9 (B 4))) (n)) := by
  refine Ct.of (by decide +kernel) (Nat.le_of_ble_eq_true rfl) (fun v hv => by simp only [List.mem_cons, List.not_mem_nil, or_false] at hv; (try rcases hv with rfl) <;> first | rfl | (subst hv; rfl) | exact hv.elim) ?_
  intro K hKl S
  subst hKl
  have X := S.1
  refine r_iconst (v := nI 0) X dX11_holds_0 (by decide) ?_
  refine r_istore_n X dX11_holds_1 (Nat.le_of_ble_eq_true rfl) ?_
  try dsimp only [List.set]
  have hloop : ∀ (k : Nat), k ≤ 55 → Wg K E (0) (0) 2 [some (.ref M), some (.int (nI k))] [] (mG E g M (u) (va_up (B) 9 (fun j => if j < k then B 4 j else B 9 j))) (n) := by
    refine ind_up _ (55) (fun k hk ih => ?_)
    refine r_iload_n X dX11_holds_2 rfl ?_
    refine r_bipush (v := nI 55) X dX11_holds_3 (by decide) ?_
    refine r_icmp_geN X 26 dX11_holds_5 (by decide) (by omega) (by omega) (fun c_5 => ?_) (fun c_5 => ?_)
    · skip
      refine r_vret S dX11_holds_26 ?_
      obtain rfl : k = 55 := by omega
      exact ⟨rfl, mc9 (fun j hj => if_pos hj), rfl⟩
    · skip
      refine r_aload_n X dX11_holds_8 rfl ?_
      refine r_get (ci := 10) X 15 _ ti_RX11 rfl (by decide) tw_673 (fun _ h => h) dX11_holds_9 (by first | exact m0 | exact m1 | exact m2 | exact m3 | exact m4 | exact m5 | exact m6 | exact m7 | exact m8 | exact m9 | assumption) rfl ?_
      refine r_iload_n X dX11_holds_12 rfl ?_
      refine r_aload_n X dX11_holds_13 rfl ?_
      refine r_get (ci := 10) X 4 _ ti_RX11 rfl (by decide) tw_662 (fun _ h => h) dX11_holds_14 (by first | exact m0 | exact m1 | exact m2 | exact m3 | exact m4 | exact m5 | exact m6 | exact m7 | exact m8 | exact m9 | assumption) rfl ?_
      refine r_iload_n X dX11_holds_17 rfl ?_
      refine r_nald X _ dX11_holds_18 (show mG E g M (u) (va_up (B) 9 (fun j => if j < k then B 4 j else B 9 j)) (M + 4) = some (nc E 55 (B 4)) from m4) (rfl) (by omega) (by decide) ?_
      refine r_nast X _ dX11_holds_19 (show mG E g M (u) (va_up (B) 9 (fun j => if j < k then B 4 j else B 9 j)) (M + 9) = some (nc E 55 (fun j => if j < k then B 4 j else B 9 j)) from m9) (rfl) (by omega) (by decide) ?_
      refine r_heap um9 ?_
      first | refine r_iincN X dX11_holds_20 rfl ?_ | refine r_iinc X _ dX11_holds_20 rfl rfl ?_
      try dsimp only [List.set]
      refine r_goto X 2 dX11_holds_23 (by decide) ?_
      refine r_heap ?_ (ih (by omega))
      rw [vu_vu]
      exact mc9 (fun j hj => by simp only [va_up]; (repeat' split) <;> first | rfl | omega | (subst_vars; rfl) | (congr 1; omega) | (exfalso; omega))
  refine r_heap ?_ (hloop 0 (Nat.zero_le _))
  exact congrArg (mG E g M _) (vu_self (by funext j; exact (if_neg (by omega)).symm)).symm

set_option maxHeartbeats 4000000 in
set_option maxRecDepth 100000 in
/-- BanisterWordModel.lets  -/
theorem c_X11_lets (l : Launch) (E : xE) (g : hG) (n : Nat) (M : Nat) (u : Nat → Nat) (B : Nat → Nat → Nat)   : Ct l yX11_lets cX11_lets 2 none 0 0 0 0 E [.ref M] (mG E g M u B) n (zr (none) (mG E g M u (va_up B 4 (B 9))) (n)) := by
  refine Ct.of (by decide +kernel) (Nat.le_of_ble_eq_true rfl) (fun v hv => by simp only [List.mem_cons, List.not_mem_nil, or_false] at hv; (try rcases hv with rfl) <;> first | rfl | (subst hv; rfl) | exact hv.elim) ?_
  intro K hKl S
  subst hKl
  have X := S.1
  refine r_iconst (v := nI 0) X dX11_lets_0 (by decide) ?_
  refine r_istore_n X dX11_lets_1 (Nat.le_of_ble_eq_true rfl) ?_
  try dsimp only [List.set]
  have hloop : ∀ (k : Nat), k ≤ 55 → Wg K E (0) (0) 2 [some (.ref M), some (.int (nI k))] [] (mG E g M (u) (va_up (B) 4 (fun j => if j < k then B 9 j else B 4 j))) (n) := by
    refine ind_up _ (55) (fun k hk ih => ?_)
    refine r_iload_n X dX11_lets_2 rfl ?_
    refine r_bipush (v := nI 55) X dX11_lets_3 (by decide) ?_
    refine r_icmp_geN X 26 dX11_lets_5 (by decide) (by omega) (by omega) (fun c_5 => ?_) (fun c_5 => ?_)
    · skip
      refine r_vret S dX11_lets_26 ?_
      obtain rfl : k = 55 := by omega
      exact ⟨rfl, mc4 (fun j hj => if_pos hj), rfl⟩
    · skip
      refine r_aload_n X dX11_lets_8 rfl ?_
      refine r_get (ci := 10) X 4 _ ti_RX11 rfl (by decide) tw_662 (fun _ h => h) dX11_lets_9 (by first | exact m0 | exact m1 | exact m2 | exact m3 | exact m4 | exact m5 | exact m6 | exact m7 | exact m8 | exact m9 | assumption) rfl ?_
      refine r_iload_n X dX11_lets_12 rfl ?_
      refine r_aload_n X dX11_lets_13 rfl ?_
      refine r_get (ci := 10) X 15 _ ti_RX11 rfl (by decide) tw_673 (fun _ h => h) dX11_lets_14 (by first | exact m0 | exact m1 | exact m2 | exact m3 | exact m4 | exact m5 | exact m6 | exact m7 | exact m8 | exact m9 | assumption) rfl ?_
      refine r_iload_n X dX11_lets_17 rfl ?_
      refine r_nald X _ dX11_lets_18 (show mG E g M (u) (va_up (B) 4 (fun j => if j < k then B 9 j else B 4 j)) (M + 9) = some (nc E 55 (B 9)) from m9) (rfl) (by omega) (by decide) ?_
      refine r_nast X _ dX11_lets_19 (show mG E g M (u) (va_up (B) 4 (fun j => if j < k then B 9 j else B 4 j)) (M + 4) = some (nc E 55 (fun j => if j < k then B 9 j else B 4 j)) from m4) (rfl) (by omega) (by decide) ?_
      refine r_heap um4 ?_
      first | refine r_iincN X dX11_lets_20 rfl ?_ | refine r_iinc X _ dX11_lets_20 rfl rfl ?_
      try dsimp only [List.set]
      refine r_goto X 2 dX11_lets_23 (by decide) ?_
      refine r_heap ?_ (ih (by omega))
      rw [vu_vu]
      exact mc4 (fun j hj => by simp only [va_up]; (repeat' split) <;> first | rfl | omega | (subst_vars; rfl) | (congr 1; omega) | (exfalso; omega))
  refine r_heap ?_ (hloop 0 (Nat.zero_le _))
  exact congrArg (mG E g M _) (vu_self (by funext j; exact (if_neg (by omega)).symm)).symm

set_option maxHeartbeats 4000000 in
set_option maxRecDepth 100000 in
/-- BanisterWordModel.lays  -/
theorem c_X11_lays (l : Launch) (E : xE) (g : hG) (n : Nat) (M : Nat) (u : Nat → Nat) (B : Nat → Nat → Nat) (T : hsT) (hT : B 2 = tfl T) : Ct l yX11_lays cX11_lays 2 none 0 0 0 0 E [.ref M] (mG E g M u B) n (zr (none) (mG E g M (va_up (va_up u 1 0) 2 0) (va_up (va_up B 4 (flat (laid T))) 7 (fun _ => 0))) (n)) := by
  refine Ct.of (by decide +kernel) (Nat.le_of_ble_eq_true rfl) (fun v hv => by simp only [List.mem_cons, List.not_mem_nil, or_false] at hv; (try rcases hv with rfl) <;> first | rfl | (subst hv; rfl) | exact hv.elim) ?_
  intro K hKl S
  subst hKl
  have X := S.1
  refine r_iconst (v := nI 0) X dX11_lays_0 (by decide) ?_
  refine r_istore_n X dX11_lays_1 (Nat.le_of_ble_eq_true rfl) ?_
  try dsimp only [List.set]
  have hloop : ∀ (k : Nat), k ≤ 55 → Wg K E (0) (0) 2 [some (.ref M), some (.int (nI k))] [] (mG E g M (u) (va_up (B) 4 (fun j => if j < k then (if j < 48 then B 2 (14 + j) else 0) else B 4 j))) (n) := by
    refine ind_up _ (55) (fun k hk ih => ?_)
    refine r_iload_n X dX11_lays_2 rfl ?_
    refine r_bipush (v := nI 55) X dX11_lays_3 (by decide) ?_
    refine r_icmp_geN X 39 dX11_lays_5 (by decide) (by omega) (by omega) (fun c_5 => ?_) (fun c_5 => ?_)
    · skip
      refine r_aload_n X dX11_lays_39 rfl ?_
      refine r_iconst (v := nI 0) X dX11_lays_40 (by decide) ?_
      refine r_put (ci := 10) (ty := .int) X 6 ti_RX11 tyX11 tyX11_ok nmX11 rfl (by decide) tw_664 (fun _ h => h) rfl (by decide +kernel) dX11_lays_41 (by first | exact m0 | exact m1 | exact m2 | exact m3 | exact m4 | exact m5 | exact m6 | exact m7 | exact m8 | exact m9 | assumption) rfl rfl (Nat.le_of_ble_eq_true rfl) ?_
      try dsimp only [List.set]
      refine r_heap um_known ?_
      refine r_aload_n X dX11_lays_44 rfl ?_
      refine r_iconst (v := nI 0) X dX11_lays_45 (by decide) ?_
      refine r_put (ci := 10) (ty := .int) X 10 ti_RX11 tyX11 tyX11_ok nmX11 rfl (by decide) tw_668 (fun _ h => h) rfl (by decide +kernel) dX11_lays_46 (by first | exact m0 | exact m1 | exact m2 | exact m3 | exact m4 | exact m5 | exact m6 | exact m7 | exact m8 | exact m9 | assumption) rfl rfl (Nat.le_of_ble_eq_true rfl) ?_
      try dsimp only [List.set]
      refine r_heap um_noted ?_
      refine r_aload_n X dX11_lays_49 rfl ?_
      refine r_get (ci := 10) X 8 _ ti_RX11 rfl (by decide) tw_666 (fun _ h => h) dX11_lays_50 (by first | exact m0 | exact m1 | exact m2 | exact m3 | exact m4 | exact m5 | exact m6 | exact m7 | exact m8 | exact m9 | assumption) rfl ?_
      refine r_iconst (v := nI 0) X dX11_lays_53 (by decide) ?_
      refine r_iconst (v := nI 0) X dX11_lays_54 (by decide) ?_
      refine r_zast X _ dX11_lays_55 (by first | exact m0 | exact m1 | exact m2 | exact m3 | exact m4 | exact m5 | exact m6 | exact m7 | exact m8 | exact m9 | assumption) (rfl) (by omega) (by decide) (by decide) ?_
      refine r_heap um7u ?_
      refine r_aload_n X dX11_lays_56 rfl ?_
      refine r_get (ci := 10) X 8 _ ti_RX11 rfl (by decide) tw_666 (fun _ h => h) dX11_lays_57 (by first | exact m0 | exact m1 | exact m2 | exact m3 | exact m4 | exact m5 | exact m6 | exact m7 | exact m8 | exact m9 | assumption) rfl ?_
      refine r_iconst (v := nI 1) X dX11_lays_60 (by decide) ?_
      refine r_iconst (v := nI 0) X dX11_lays_61 (by decide) ?_
      refine r_zast X _ dX11_lays_62 (by first | exact m0 | exact m1 | exact m2 | exact m3 | exact m4 | exact m5 | exact m6 | exact m7 | exact m8 | exact m9 | assumption) (rfl) (by omega) (by decide) (by decide) ?_
      refine r_heap um7u ?_
      refine r_vret S dX11_lays_63 ?_
      obtain rfl : k = 55 := by omega
      refine ⟨rfl, ?_, rfl⟩
      rw [vu_vu]
      refine (mc7 (f2 := fun _ => 0) (fun j hj => by rcases (show j = 0 ∨ j = 1 by omega) with rfl | rfl <;> rfl)).trans ?_
      rw [← um7, ← um7 (B := va_up B 4 _)]
      congr 1
      exact mc4 (fun j hj => by rw [if_pos hj, hT]; exact laid_at hj)
    · skip
      refine r_aload_n X dX11_lays_8 rfl ?_
      refine r_get (ci := 10) X 4 _ ti_RX11 rfl (by decide) tw_662 (fun _ h => h) dX11_lays_9 (by first | exact m0 | exact m1 | exact m2 | exact m3 | exact m4 | exact m5 | exact m6 | exact m7 | exact m8 | exact m9 | assumption) rfl ?_
      refine r_iload_n X dX11_lays_12 rfl ?_
      refine r_iload_n X dX11_lays_13 rfl ?_
      refine r_bipush (v := nI 48) X dX11_lays_14 (by decide) ?_
      refine r_icmp_geN X 31 dX11_lays_16 (by decide) (by omega) (by omega) (fun c_16 => ?_) (fun c_16 => ?_)
      · skip
        refine r_iconst (v := nI 0) X dX11_lays_31 (by decide) ?_
        refine r_nast X _ dX11_lays_32 (show mG E g M (u) (va_up (B) 4 (fun j => if j < k then (if j < 48 then B 2 (14 + j) else 0) else B 4 j)) (M + 4) = some (nc E 55 (fun j => if j < k then (if j < 48 then B 2 (14 + j) else 0) else B 4 j)) from m4) (rfl) (by omega) (by decide) ?_
        refine r_heap um4 ?_
        first | refine r_iincN X dX11_lays_33 rfl ?_ | refine r_iinc X _ dX11_lays_33 rfl rfl ?_
        try dsimp only [List.set]
        refine r_goto X 2 dX11_lays_36 (by decide) ?_
        refine r_heap ?_ (ih (by omega))
        rw [vu_vu]
        exact mc4 (fun j hj => by simp only [va_up]; (repeat' split) <;> first | rfl | omega | (subst_vars; rfl) | (congr 1; omega) | (exfalso; omega))
      · skip
        refine r_aload_n X dX11_lays_19 rfl ?_
        refine r_get (ci := 10) X 2 _ ti_RX11 rfl (by decide) tw_660 (fun _ h => h) dX11_lays_20 (by first | exact m0 | exact m1 | exact m2 | exact m3 | exact m4 | exact m5 | exact m6 | exact m7 | exact m8 | exact m9 | assumption) rfl ?_
        refine r_bipush (v := nI 14) X dX11_lays_23 (by decide) ?_
        refine r_iload_n X dX11_lays_25 rfl ?_
        first | refine r_iaddN X dX11_lays_26 ?_ | refine r_iadd X _ dX11_lays_26 rfl ?_
        refine r_nald X _ dX11_lays_27 (show mG E g M u (va_up B 4 (fun j => if j < k then (if j < 48 then B 2 (14 + j) else 0) else B 4 j)) (M + 2) = some (nc E 62 (B 2)) from m2) (rfl) (by omega) (by decide) ?_
        refine r_goto X 32 dX11_lays_28 (by decide) ?_
        refine r_nast X _ dX11_lays_32 (show mG E g M (u) (va_up (B) 4 (fun j => if j < k then (if j < 48 then B 2 (14 + j) else 0) else B 4 j)) (M + 4) = some (nc E 55 (fun j => if j < k then (if j < 48 then B 2 (14 + j) else 0) else B 4 j)) from m4) (rfl) (by omega) (by decide) ?_
        refine r_heap um4 ?_
        first | refine r_iincN X dX11_lays_33 rfl ?_ | refine r_iinc X _ dX11_lays_33 rfl rfl ?_
        try dsimp only [List.set]
        refine r_goto X 2 dX11_lays_36 (by decide) ?_
        refine r_heap ?_ (ih (by omega))
        rw [vu_vu]
        exact mc4 (fun j hj => by simp only [va_up]; (repeat' split) <;> first | rfl | omega | (subst_vars; rfl) | (congr 1; omega) | (exfalso; omega))
  refine r_heap ?_ (hloop 0 (Nat.zero_le _))
  exact congrArg (mG E g M _) (vu_self (by funext j; exact (if_neg (by omega)).symm)).symm

theorem kp_eq {E : xE} {g : hG} {M : Nat} {u : Nat → Nat} {B : Nat → Nat → Nat} {N : Mo} {Q : Nat → Mo} {f : Nat → Nat} (h : u 1 = 8) : mG E g M (va_up (va_up u 1 (u 1 - 1)) 1 (u 1 - 1 + 1)) (va_up (va_up B 5 f) 5 (pfl (va_up (fun i => if i < 7 then Q (i + 1) else Q i) (u 1 - 1) N))) = mG E g M (va_up u 1 (min 8 (u 1 + 1))) (va_up B 5 (pfl (kpQ (u 1) Q N))) := by
  rw [vu_vu, vu_vu, h]
  refine mc5 (fun j hj => ?_)
  unfold pfl kpQ
  rw [if_pos rfl]
  by_cases e : j / 55 = 7
  · rw [e, vu_eq, vu_eq]
  · rw [vu_ne e, vu_ne e, if_pos (by omega)]
set_option maxHeartbeats 4000000 in
set_option maxRecDepth 100000 in
/-- BanisterWordModel.keeps  -/
theorem c_X11_keeps (l : Launch) (E : xE) (g : hG) (n : Nat) (M : Nat) (u : Nat → Nat) (B : Nat → Nat → Nat) (N : Mo) (Q : Nat → Mo) (h8 : u 1 ≤ 8) (hS : B 4 = flat N) (hQ : B 5 = pfl Q) : Ct l yX11_keeps cX11_keeps 2 none 0 0 0 0 E [.ref M] (mG E g M u B) n (zr (none) (mG E g M (va_up u 1 (min 8 (u 1 + 1))) (va_up B 5 (pfl (kpQ (u 1) Q N)))) (n)) := by
  refine Ct.of (by decide +kernel) (Nat.le_of_ble_eq_true rfl) (fun v hv => by simp only [List.mem_cons, List.not_mem_nil, or_false] at hv; (try rcases hv with rfl) <;> first | rfl | (subst hv; rfl) | exact hv.elim) ?_
  intro K hKl S
  subst hKl
  have X := S.1
  obtain ⟨FI, hFI⟩ : ∃ FI, FI = mG E g M (va_up u 1 (min 8 (u 1 + 1))) (va_up B 5 (pfl (kpQ (u 1) Q N))) := ⟨_, rfl⟩
  rw [← hFI] at S
  have tail : ∀ (u : Nat → Nat) (B : Nat → Nat → Nat) (Q : Nat → Mo) (u_ : Option Value), u 1 < 8 → B 5 = pfl Q → B 4 = flat N → mG E g M (va_up u 1 (u 1 + 1)) (va_up B 5 (pfl (va_up Q (u 1) N))) = FI → Wg K E 0 0 49 [some (.ref M), u_] [] (mG E g M u B) n := by
    intro u B Q u_ h8 hQ hS hfin
    refine r_iconst (v := nI 0) X dX11_keeps_49 (by decide) ?_
    refine r_istore_n X dX11_keeps_50 (Nat.le_of_ble_eq_true rfl) ?_
    try dsimp only [List.set]
    have hloop : ∀ (k : Nat), k ≤ 55 → Wg K E (0) (0) 51 [some (.ref M), some (.int (nI k))] [] (mG E g M (u) (va_up (B) 5 (fun j => if 55 * u 1 ≤ j ∧ j < 55 * u 1 + k then B 4 (j - 55 * u 1) else B 5 j))) (n) := by
      refine ind_up _ (55) (fun k hk ih => ?_)
      refine r_iload_n X dX11_keeps_51 rfl ?_
      refine r_bipush (v := nI 55) X dX11_keeps_52 (by decide) ?_
      refine r_icmp_geN X 83 dX11_keeps_54 (by decide) (by omega) (by omega) (fun c_54 => ?_) (fun c_54 => ?_)
      · skip
        refine r_aload_n X dX11_keeps_83 rfl ?_
        refine r_dup X dX11_keeps_84 rfl ?_
        refine r_get (ci := 10) X 6 _ ti_RX11 rfl (by decide) tw_664 (fun _ h => h) dX11_keeps_85 (by first | exact m0 | exact m1 | exact m2 | exact m3 | exact m4 | exact m5 | exact m6 | exact m7 | exact m8 | exact m9 | assumption) rfl ?_
        refine r_iconst (v := nI 1) X dX11_keeps_88 (by decide) ?_
        first | refine r_iaddN X dX11_keeps_89 ?_ | refine r_iadd X _ dX11_keeps_89 rfl ?_
        refine r_put (ci := 10) (ty := .int) X 6 ti_RX11 tyX11 tyX11_ok nmX11 rfl (by decide) tw_664 (fun _ h => h) rfl (by decide +kernel) dX11_keeps_90 (by first | exact m0 | exact m1 | exact m2 | exact m3 | exact m4 | exact m5 | exact m6 | exact m7 | exact m8 | exact m9 | assumption) rfl rfl (Nat.le_of_ble_eq_true rfl) ?_
        try dsimp only [List.set]
        refine r_heap um_known ?_
        refine r_vret S dX11_keeps_93 ?_
        obtain rfl : k = 55 := by omega
        refine ⟨rfl, Eq.trans ?_ hfin, rfl⟩
        exact mc5 (fun j hj => by rw [hS, hQ]; exact pfl_up)
      · skip
        refine r_aload_n X dX11_keeps_57 rfl ?_
        refine r_get (ci := 10) X 5 _ ti_RX11 rfl (by decide) tw_663 (fun _ h => h) dX11_keeps_58 (by first | exact m0 | exact m1 | exact m2 | exact m3 | exact m4 | exact m5 | exact m6 | exact m7 | exact m8 | exact m9 | assumption) rfl ?_
        refine r_bipush (v := nI 55) X dX11_keeps_61 (by decide) ?_
        refine r_aload_n X dX11_keeps_63 rfl ?_
        refine r_get (ci := 10) X 6 _ ti_RX11 rfl (by decide) tw_664 (fun _ h => h) dX11_keeps_64 (by first | exact m0 | exact m1 | exact m2 | exact m3 | exact m4 | exact m5 | exact m6 | exact m7 | exact m8 | exact m9 | assumption) rfl ?_
        first | refine r_imulN X dX11_keeps_67 ?_ | refine r_imul X _ dX11_keeps_67 rfl ?_
        refine r_iload_n X dX11_keeps_68 rfl ?_
        first | refine r_iaddN X dX11_keeps_69 ?_ | refine r_iadd X _ dX11_keeps_69 rfl ?_
        refine r_aload_n X dX11_keeps_70 rfl ?_
        refine r_get (ci := 10) X 4 _ ti_RX11 rfl (by decide) tw_662 (fun _ h => h) dX11_keeps_71 (by first | exact m0 | exact m1 | exact m2 | exact m3 | exact m4 | exact m5 | exact m6 | exact m7 | exact m8 | exact m9 | assumption) rfl ?_
        refine r_iload_n X dX11_keeps_74 rfl ?_
        refine r_nald X _ dX11_keeps_75 (show mG E g M (u) (va_up (B) 5 (fun j => if 55 * u 1 ≤ j ∧ j < 55 * u 1 + k then B 4 (j - 55 * u 1) else B 5 j)) (M + 4) = some (nc E 55 (B 4)) from m4) (rfl) (by omega) (by decide) ?_
        refine r_nast X _ dX11_keeps_76 (show mG E g M (u) (va_up (B) 5 (fun j => if 55 * u 1 ≤ j ∧ j < 55 * u 1 + k then B 4 (j - 55 * u 1) else B 5 j)) (M + 5) = some (nc E 440 (fun j => if 55 * u 1 ≤ j ∧ j < 55 * u 1 + k then B 4 (j - 55 * u 1) else B 5 j)) from m5) (rfl) (by omega) (by decide) ?_
        refine r_heap um5 ?_
        first | refine r_iincN X dX11_keeps_77 rfl ?_ | refine r_iinc X _ dX11_keeps_77 rfl rfl ?_
        try dsimp only [List.set]
        refine r_goto X 51 dX11_keeps_80 (by decide) ?_
        refine r_heap ?_ (ih (by omega))
        rw [vu_vu]
        exact mc5 (fun j hj => by simp only [va_up]; (repeat' split) <;> first | rfl | omega | (subst_vars; rfl) | (congr 1; omega) | (exfalso; omega))
    refine r_heap ?_ (hloop 0 (Nat.zero_le _))
    exact congrArg (mG E g M _) (vu_self (by funext j; exact (if_neg (by omega)).symm)).symm
  refine r_aload_n X dX11_keeps_0 rfl ?_
  refine r_get (ci := 10) X 6 _ ti_RX11 rfl (by decide) tw_664 (fun _ h => h) dX11_keeps_1 (by first | exact m0 | exact m1 | exact m2 | exact m3 | exact m4 | exact m5 | exact m6 | exact m7 | exact m8 | exact m9 | assumption) rfl ?_
  refine r_bipush (v := nI 8) X dX11_keeps_4 (by decide) ?_
  refine r_icmp_neN X 49 dX11_keeps_6 (by decide) (by omega) (by omega) (fun c_6 => ?_) (fun c_6 => ?_)
  · skip
    exact tail u B Q _ (by omega) hQ hS (by rw [hFI]; unfold kpQ; rw [if_neg (by omega), show min 8 (u 1 + 1) = u 1 + 1 by omega])
  · skip
    refine r_iconst (v := nI 0) X dX11_keeps_9 (by decide) ?_
    refine r_istore_n X dX11_keeps_10 (Nat.le_of_ble_eq_true rfl) ?_
    try dsimp only [List.set]
    have hloop : ∀ (k : Nat), k ≤ 385 → Wg K E (0) (0) 11 [some (.ref M), some (.int (nI k))] [] (mG E g M (u) (va_up (B) 5 (fun j => if j < k then B 5 (j + 55) else B 5 j))) (n) := by
      refine ind_up _ (385) (fun k hk ih => ?_)
      refine r_iload_n X dX11_keeps_11 rfl ?_
      refine r_sipush (v := nI 385) X dX11_keeps_12 (by decide) ?_
      refine r_icmp_geN X 39 dX11_keeps_15 (by decide) (by omega) (by omega) (fun c_15 => ?_) (fun c_15 => ?_)
      · skip
        obtain rfl : k = 385 := by omega
        refine r_aload_n X dX11_keeps_39 rfl ?_
        refine r_dup X dX11_keeps_40 rfl ?_
        refine r_get (ci := 10) X 6 _ ti_RX11 rfl (by decide) tw_664 (fun _ h => h) dX11_keeps_41 (by first | exact m0 | exact m1 | exact m2 | exact m3 | exact m4 | exact m5 | exact m6 | exact m7 | exact m8 | exact m9 | assumption) rfl ?_
        refine r_iconst (v := nI 1) X dX11_keeps_44 (by decide) ?_
        first | refine r_isubN X dX11_keeps_45 (by omega) ?_ | refine r_isub X _ dX11_keeps_45 rfl ?_
        refine r_put (ci := 10) (ty := .int) X 6 ti_RX11 tyX11 tyX11_ok nmX11 rfl (by decide) tw_664 (fun _ h => h) rfl (by decide +kernel) dX11_keeps_46 (by first | exact m0 | exact m1 | exact m2 | exact m3 | exact m4 | exact m5 | exact m6 | exact m7 | exact m8 | exact m9 | assumption) rfl rfl (Nat.le_of_ble_eq_true rfl) ?_
        try dsimp only [List.set]
        refine r_heap um_known ?_
        exact tail _ _ (fun i => if i < 7 then Q (i + 1) else Q i) _ (show u 1 - 1 < 8 by omega) (show (fun j => if j < 385 then B 5 (j + 55) else B 5 j) = _ from by funext j; rw [hQ, pfl_sh]; unfold pfl; dsimp only; by_cases h : j < 385; rw [if_pos h, if_pos (by omega)]; rw [if_neg h, if_neg (by omega)]) hS (by rw [hFI]; exact kp_eq c_6)
      · skip
        refine r_aload_n X dX11_keeps_18 rfl ?_
        refine r_get (ci := 10) X 5 _ ti_RX11 rfl (by decide) tw_663 (fun _ h => h) dX11_keeps_19 (by first | exact m0 | exact m1 | exact m2 | exact m3 | exact m4 | exact m5 | exact m6 | exact m7 | exact m8 | exact m9 | assumption) rfl ?_
        refine r_iload_n X dX11_keeps_22 rfl ?_
        refine r_aload_n X dX11_keeps_23 rfl ?_
        refine r_get (ci := 10) X 5 _ ti_RX11 rfl (by decide) tw_663 (fun _ h => h) dX11_keeps_24 (by first | exact m0 | exact m1 | exact m2 | exact m3 | exact m4 | exact m5 | exact m6 | exact m7 | exact m8 | exact m9 | assumption) rfl ?_
        refine r_iload_n X dX11_keeps_27 rfl ?_
        refine r_bipush (v := nI 55) X dX11_keeps_28 (by decide) ?_
        first | refine r_iaddN X dX11_keeps_30 ?_ | refine r_iadd X _ dX11_keeps_30 rfl ?_
        refine r_nald X _ dX11_keeps_31 (show mG E g M u (va_up B 5 (fun j => if j < k then B 5 (j + 55) else B 5 j)) (M + 5) = some (nc E 440 (fun j => if j < k then B 5 (j + 55) else B 5 j)) from m5) (rfl) (by omega) (by decide) ?_
        refine r_top _ _ (congrArg nI (if_neg (by omega))) ?_
        refine r_nast X _ dX11_keeps_32 (show mG E g M (u) (va_up (B) 5 (fun j => if j < k then B 5 (j + 55) else B 5 j)) (M + 5) = some (nc E 440 (fun j => if j < k then B 5 (j + 55) else B 5 j)) from m5) (rfl) (by omega) (by decide) ?_
        refine r_heap um5 ?_
        first | refine r_iincN X dX11_keeps_33 rfl ?_ | refine r_iinc X _ dX11_keeps_33 rfl rfl ?_
        try dsimp only [List.set]
        refine r_goto X 11 dX11_keeps_36 (by decide) ?_
        refine r_heap ?_ (ih (by omega))
        rw [vu_vu]
        exact mc5 (fun j hj => by simp only [va_up]; (repeat' split) <;> first | rfl | omega | (subst_vars; rfl) | (exfalso; omega))
    refine r_heap ?_ (hloop 0 (Nat.zero_le _))
    exact congrArg (mG E g M _) (vu_self (by funext j; exact (if_neg (by omega)).symm)).symm

set_option maxHeartbeats 4000000 in
set_option maxRecDepth 100000 in
/-- BanisterWordModel.undo  -/
theorem c_X11_undo (l : Launch) (E : xE) (g : hG) (n : Nat) (M : Nat) (u : Nat → Nat) (B : Nat → Nat → Nat) (N : Mo) (Q : Nat → Mo) (h8 : u 1 ≤ 8) (hQ : B 5 = pfl Q) : Ct l yX11_undo cX11_undo 2 (some .int) 0 0 0 0 E [.ref M] (mG E g M u B) n (zr (some (.int (if u 1 = 0 then -4 else nI (u 1 - 1)))) (if u 1 = 0 then mG E g M u B else mG E g M (va_up u 1 (u 1 - 1)) (va_up B 4 (flat (Q (u 1 - 1))))) (n)) := by
  refine Ct.of (by decide +kernel) (Nat.le_of_ble_eq_true rfl) (fun v hv => by simp only [List.mem_cons, List.not_mem_nil, or_false] at hv; (try rcases hv with rfl) <;> first | rfl | (subst hv; rfl) | exact hv.elim) ?_
  intro K hKl S
  subst hKl
  have X := S.1
  refine r_aload_n X dX11_undo_0 rfl ?_
  refine r_get (ci := 10) X 6 _ ti_RX11 rfl (by decide) tw_664 (fun _ h => h) dX11_undo_1 (by first | exact m0 | exact m1 | exact m2 | exact m3 | exact m4 | exact m5 | exact m6 | exact m7 | exact m8 | exact m9 | assumption) rfl ?_
  refine r_if_neN X 10 dX11_undo_4 (by decide) (by omega) (fun c_4 => ?_) (fun c_4 => ?_)
  · skip
    refine r_aload_n X dX11_undo_10 rfl ?_
    refine r_dup X dX11_undo_11 rfl ?_
    refine r_get (ci := 10) X 6 _ ti_RX11 rfl (by decide) tw_664 (fun _ h => h) dX11_undo_12 (by first | exact m0 | exact m1 | exact m2 | exact m3 | exact m4 | exact m5 | exact m6 | exact m7 | exact m8 | exact m9 | assumption) rfl ?_
    refine r_iconst (v := nI 1) X dX11_undo_15 (by decide) ?_
    first | refine r_isubN X dX11_undo_16 (by omega) ?_ | refine r_isub X _ dX11_undo_16 rfl ?_
    refine r_put (ci := 10) (ty := .int) X 6 ti_RX11 tyX11 tyX11_ok nmX11 rfl (by decide) tw_664 (fun _ h => h) rfl (by decide +kernel) dX11_undo_17 (by first | exact m0 | exact m1 | exact m2 | exact m3 | exact m4 | exact m5 | exact m6 | exact m7 | exact m8 | exact m9 | assumption) rfl rfl (Nat.le_of_ble_eq_true rfl) ?_
    try dsimp only [List.set]
    refine r_heap um_known ?_
    refine r_iconst (v := nI 0) X dX11_undo_20 (by decide) ?_
    refine r_istore_n X dX11_undo_21 (Nat.le_of_ble_eq_true rfl) ?_
    try dsimp only [List.set]
    have hloop : ∀ (k : Nat), k ≤ 55 → Wg K E (0) (0) 22 [some (.ref M), some (.int (nI k))] [] (mG E g M (va_up u 1 (u 1 - 1)) (va_up (B) 4 (fun j => if j < k then B 5 (55 * (u 1 - 1) + j) else B 4 j))) (n) := by
      refine ind_up _ (55) (fun k hk ih => ?_)
      refine r_iload_n X dX11_undo_22 rfl ?_
      refine r_bipush (v := nI 55) X dX11_undo_23 (by decide) ?_
      refine r_icmp_geN X 54 dX11_undo_25 (by decide) (by omega) (by omega) (fun c_25 => ?_) (fun c_25 => ?_)
      · skip
        obtain rfl : k = 55 := by omega
        refine r_aload_n X dX11_undo_54 rfl ?_
        refine r_get (ci := 10) X 6 _ ti_RX11 rfl (by decide) tw_664 (fun _ h => h) dX11_undo_55 (show mG E g M (va_up u 1 (u 1 - 1)) (va_up B 4 (fun j => if j < 55 then B 5 (55 * (u 1 - 1) + j) else B 4 j)) M = some (oc 10 [.ref (M + 1), .int (nI (u 0)), .ref (M + 2), .ref (M + 3), .ref (M + 4), .ref (M + 5), .int (nI (u 1 - 1)), .ref (M + 6), .ref (M + 7), .ref (M + 8), .int (nI (u 2)), .int (nI (u 3)), .int (nI (u 4)), .int (nI (u 5)), .int (nI (u 6)), .ref (M + 9)]) from m0) rfl ?_
        refine r_iret S dX11_undo_58 ?_
        have c_4n : ¬ u 1 = 0 := by omega
        refine ⟨by rw [if_neg c_4n], ?_, rfl⟩
        rw [if_neg c_4n]
        exact mc4 (fun j hj => by rw [if_pos hj, hQ]; exact pfl_at hj)
      · skip
        refine r_aload_n X dX11_undo_28 rfl ?_
        refine r_get (ci := 10) X 4 _ ti_RX11 rfl (by decide) tw_662 (fun _ h => h) dX11_undo_29 (by first | exact m0 | exact m1 | exact m2 | exact m3 | exact m4 | exact m5 | exact m6 | exact m7 | exact m8 | exact m9 | assumption) rfl ?_
        refine r_iload_n X dX11_undo_32 rfl ?_
        refine r_aload_n X dX11_undo_33 rfl ?_
        refine r_get (ci := 10) X 5 _ ti_RX11 rfl (by decide) tw_663 (fun _ h => h) dX11_undo_34 (by first | exact m0 | exact m1 | exact m2 | exact m3 | exact m4 | exact m5 | exact m6 | exact m7 | exact m8 | exact m9 | assumption) rfl ?_
        refine r_bipush (v := nI 55) X dX11_undo_37 (by decide) ?_
        refine r_aload_n X dX11_undo_39 rfl ?_
        refine r_get (ci := 10) X 6 _ ti_RX11 rfl (by decide) tw_664 (fun _ h => h) dX11_undo_40 (show mG E g M (va_up u 1 (u 1 - 1)) (va_up B 4 (fun j => if j < k then B 5 (55 * (u 1 - 1) + j) else B 4 j)) M = some (oc 10 [.ref (M + 1), .int (nI (u 0)), .ref (M + 2), .ref (M + 3), .ref (M + 4), .ref (M + 5), .int (nI (u 1 - 1)), .ref (M + 6), .ref (M + 7), .ref (M + 8), .int (nI (u 2)), .int (nI (u 3)), .int (nI (u 4)), .int (nI (u 5)), .int (nI (u 6)), .ref (M + 9)]) from m0) rfl ?_
        first | refine r_imulN X dX11_undo_43 ?_ | refine r_imul X _ dX11_undo_43 rfl ?_
        refine r_iload_n X dX11_undo_44 rfl ?_
        first | refine r_iaddN X dX11_undo_45 ?_ | refine r_iadd X _ dX11_undo_45 rfl ?_
        refine r_nald X _ dX11_undo_46 (show mG E g M (va_up u 1 (u 1 - 1)) (va_up (B) 4 (fun j => if j < k then B 5 (55 * (u 1 - 1) + j) else B 4 j)) (M + 5) = some (nc E 440 (B 5)) from m5) (rfl) (by omega) (by decide) ?_
        refine r_nast X _ dX11_undo_47 (show mG E g M (va_up u 1 (u 1 - 1)) (va_up (B) 4 (fun j => if j < k then B 5 (55 * (u 1 - 1) + j) else B 4 j)) (M + 4) = some (nc E 55 (fun j => if j < k then B 5 (55 * (u 1 - 1) + j) else B 4 j)) from m4) (rfl) (by omega) (by decide) ?_
        refine r_heap um4 ?_
        first | refine r_iincN X dX11_undo_48 rfl ?_ | refine r_iinc X _ dX11_undo_48 rfl rfl ?_
        try dsimp only [List.set]
        refine r_goto X 22 dX11_undo_51 (by decide) ?_
        refine r_heap ?_ (ih (by omega))
        rw [vu_vu]
        exact mc4 (fun j hj => by simp only [va_up]; (repeat' split) <;> first | rfl | omega | (subst_vars; rfl) | (congr 1; omega) | (exfalso; omega))
    refine r_heap ?_ (hloop 0 (Nat.zero_le _))
    exact congrArg (mG E g M _) (vu_self (by funext j; exact (if_neg (by omega)).symm)).symm
  · skip
    refine r_bipush (v := (-4)) X dX11_undo_7 (by decide) ?_
    refine r_iret S dX11_undo_9 ?_
    exact ⟨by rw [if_pos c_4], by rw [if_pos c_4], rfl⟩

set_option maxHeartbeats 4000000 in
set_option maxRecDepth 100000 in
/-- BanisterWordModel.keep  -/
theorem c_X11_keep (l : Launch) (E : xE) (g : hG) (n : Nat) (M : Nat) (u : Nat → Nat) (B : Nat → Nat → Nat) (x : Int32) (N : Mo) (I : Nat → Mo) (hS : B 4 = flat N) (hI : B 6 = pfl I) : Ct l yX11_keep cX11_keep 3 (some .int) 1 22 0 0 E [.ref M, .int x] (mG E g M u B) n (zr (some (.int (if inR x 2 = true then nI N.2.2.2 else -2))) (if inR x 2 = true then mG E g M u (va_up (va_up B 6 (pfl (va_up I (ix x) N))) 7 (va_up (B 7) (ix x) 1)) else mG E g M u B) (n)) := by
  refine Ct.of (by decide +kernel) (Nat.le_of_ble_eq_true rfl) (fun v hv => by simp only [List.mem_cons, List.not_mem_nil, or_false] at hv; (try rcases hv with rfl | rfl) <;> first | rfl | (subst hv; rfl) | exact hv.elim) ?_
  intro K hKl S
  subst hKl
  have X := S.1
  refine r_iload_n X dX11_keep_0 rfl ?_
  refine r_iconst (v := nI 0) X dX11_keep_1 (by decide) ?_
  refine r_iconst (v := nI 1) X dX11_keep_2 (by decide) ?_
  refine r_callS X rfl (c_X11_in _ E _ n _ _ _) tw_711 tw_712 tw_7 tw_713 rfl ⟨ok_X11_in, ⟨Nat.le_of_ble_eq_true rfl, Nat.le_of_ble_eq_true rfl⟩, ⟨Nat.le_of_ble_eq_true rfl, Nat.le_of_ble_eq_true rfl⟩, Nat.le_of_ble_eq_true rfl⟩ dX11_keep_3 (kk_r (Wf := Wg K E _ _ _ _) ?_)
  refine r_top _ _ (congrArg bI (inQ_c 1 (by decide))) ?_
  refine r_if_neB X 12 dX11_keep_6 (by decide) (fun c_6 => ?_) (fun c_6 => ?_)
  · skip
    obtain ⟨i, hi, rfl⟩ := inR_ex (by decide) c_6
    have hix : ix (nI i) = i := ix_nI (by omega)
    refine r_iconst (v := nI 0) X dX11_keep_12 (by decide) ?_
    refine r_istore_n X dX11_keep_13 (Nat.le_of_ble_eq_true rfl) ?_
    try dsimp only [List.set]
    have hloop : ∀ (k : Nat), k ≤ 55 → Wg K E (0) (0) 14 [some (.ref M), some (.int (nI i)), some (.int (nI k))] [] (mG E g M (u) (va_up (B) 6 (fun j => if 55 * i ≤ j ∧ j < 55 * i + k then B 4 (j - 55 * i) else B 6 j))) (n) := by
      refine ind_up _ (55) (fun k hk ih => ?_)
      refine r_iload_n X dX11_keep_14 rfl ?_
      refine r_bipush (v := nI 55) X dX11_keep_15 (by decide) ?_
      refine r_icmp_geN X 43 dX11_keep_17 (by decide) (by omega) (by omega) (fun c_17 => ?_) (fun c_17 => ?_)
      · skip
        obtain rfl : k = 55 := by omega
        refine r_aload_n X dX11_keep_43 rfl ?_
        refine r_get (ci := 10) X 8 _ ti_RX11 rfl (by decide) tw_666 (fun _ h => h) dX11_keep_44 (by first | exact m0 | exact m1 | exact m2 | exact m3 | exact m4 | exact m5 | exact m6 | exact m7 | exact m8 | exact m9 | assumption) rfl ?_
        refine r_iload_n X dX11_keep_47 rfl ?_
        refine r_iconst (v := nI 1) X dX11_keep_48 (by decide) ?_
        refine r_zast X _ dX11_keep_49 (by first | exact m0 | exact m1 | exact m2 | exact m3 | exact m4 | exact m5 | exact m6 | exact m7 | exact m8 | exact m9 | assumption) (rfl) (by omega) (by decide) (by decide) ?_
        refine r_heap um7u ?_
        refine r_aload_n X dX11_keep_50 rfl ?_
        refine r_get (ci := 10) X 4 _ ti_RX11 rfl (by decide) tw_662 (fun _ h => h) dX11_keep_51 (by first | exact m0 | exact m1 | exact m2 | exact m3 | exact m4 | exact m5 | exact m6 | exact m7 | exact m8 | exact m9 | assumption) rfl ?_
        refine r_bipush (v := nI 54) X dX11_keep_54 (by decide) ?_
        refine r_nald X _ dX11_keep_56 (by first | exact m0 | exact m1 | exact m2 | exact m3 | exact m4 | exact m5 | exact m6 | exact m7 | exact m8 | exact m9 | assumption) (rfl) (by omega) (by decide) ?_
        refine r_iret S dX11_keep_57 ?_
        refine ⟨?_, ?_, rfl⟩
        · rw [if_pos c_6]; show some (Value.int (nI (B 4 54))) = _; rw [hS]; rfl
        · rw [if_pos c_6, hix, ← um7, ← um7]; congr 1; exact mc6 (fun j hj => by rw [hS, hI]; exact pfl_up)
      · skip
        refine r_aload_n X dX11_keep_20 rfl ?_
        refine r_get (ci := 10) X 7 _ ti_RX11 rfl (by decide) tw_665 (fun _ h => h) dX11_keep_21 (by first | exact m0 | exact m1 | exact m2 | exact m3 | exact m4 | exact m5 | exact m6 | exact m7 | exact m8 | exact m9 | assumption) rfl ?_
        refine r_bipush (v := nI 55) X dX11_keep_24 (by decide) ?_
        refine r_iload_n X dX11_keep_26 rfl ?_
        first | refine r_imulN X dX11_keep_27 ?_ | refine r_imul X _ dX11_keep_27 rfl ?_
        refine r_iload_n X dX11_keep_28 rfl ?_
        first | refine r_iaddN X dX11_keep_29 ?_ | refine r_iadd X _ dX11_keep_29 rfl ?_
        refine r_aload_n X dX11_keep_30 rfl ?_
        refine r_get (ci := 10) X 4 _ ti_RX11 rfl (by decide) tw_662 (fun _ h => h) dX11_keep_31 (by first | exact m0 | exact m1 | exact m2 | exact m3 | exact m4 | exact m5 | exact m6 | exact m7 | exact m8 | exact m9 | assumption) rfl ?_
        refine r_iload_n X dX11_keep_34 rfl ?_
        refine r_nald X _ dX11_keep_35 (show mG E g M (u) (va_up (B) 6 (fun j => if 55 * i ≤ j ∧ j < 55 * i + k then B 4 (j - 55 * i) else B 6 j)) (M + 4) = some (nc E 55 (B 4)) from m4) (rfl) (by omega) (by decide) ?_
        refine r_nast X _ dX11_keep_36 (show mG E g M (u) (va_up (B) 6 (fun j => if 55 * i ≤ j ∧ j < 55 * i + k then B 4 (j - 55 * i) else B 6 j)) (M + 6) = some (nc E 110 (fun j => if 55 * i ≤ j ∧ j < 55 * i + k then B 4 (j - 55 * i) else B 6 j)) from m6) (rfl) (by omega) (by decide) ?_
        refine r_heap um6 ?_
        first | refine r_iincN X dX11_keep_37 rfl ?_ | refine r_iinc X _ dX11_keep_37 rfl rfl ?_
        try dsimp only [List.set]
        refine r_goto X 14 dX11_keep_40 (by decide) ?_
        refine r_heap ?_ (ih (by omega))
        rw [vu_vu]
        exact mc6 (fun j hj => by simp only [va_up]; (repeat' split) <;> first | rfl | omega | (subst_vars; rfl) | (congr 1; omega) | (exfalso; omega))
    refine r_heap ?_ (hloop 0 (Nat.zero_le _))
    exact congrArg (mG E g M _) (vu_self (by funext j; exact (if_neg (by omega)).symm)).symm
  · skip
    refine r_bipush (v := (-2)) X dX11_keep_9 (by decide) ?_
    refine r_iret S dX11_keep_11 ?_
    exact ⟨by simp [c_6], by simp [c_6], rfl⟩

set_option maxHeartbeats 4000000 in
set_option maxRecDepth 100000 in
/-- BanisterWordModel.back  -/
theorem c_X11_back (l : Launch) (E : xE) (g : hG) (n : Nat) (M : Nat) (u : Nat → Nat) (B : Nat → Nat → Nat) (x : Int32) (I : Nat → Mo) (hI : B 6 = pfl I) (h7 : ∀ j, B 7 j ≤ 1) : Ct l yX11_back cX11_back 3 (some .int) 1 22 0 0 E [.ref M, .int x] (mG E g M u B) n (zr (some (.int (if inR x 2 = true then (if B 7 (ix x) = 0 then -4 else nI (I (ix x)).2.2.2) else -2))) (if inR x 2 = true ∧ ¬ B 7 (ix x) = 0 then mG E g M (va_up u 1 0) (va_up B 4 (flat (I (ix x)))) else mG E g M u B) (n)) := by
  refine Ct.of (by decide +kernel) (Nat.le_of_ble_eq_true rfl) (fun v hv => by simp only [List.mem_cons, List.not_mem_nil, or_false] at hv; (try rcases hv with rfl | rfl) <;> first | rfl | (subst hv; rfl) | exact hv.elim) ?_
  intro K hKl S
  subst hKl
  have X := S.1
  refine r_iload_n X dX11_back_0 rfl ?_
  refine r_iconst (v := nI 0) X dX11_back_1 (by decide) ?_
  refine r_iconst (v := nI 1) X dX11_back_2 (by decide) ?_
  refine r_callS X rfl (c_X11_in _ E _ n _ _ _) tw_711 tw_712 tw_7 tw_713 rfl ⟨ok_X11_in, ⟨Nat.le_of_ble_eq_true rfl, Nat.le_of_ble_eq_true rfl⟩, ⟨Nat.le_of_ble_eq_true rfl, Nat.le_of_ble_eq_true rfl⟩, Nat.le_of_ble_eq_true rfl⟩ dX11_back_3 (kk_r (Wf := Wg K E _ _ _ _) ?_)
  refine r_top _ _ (congrArg bI (inQ_c 1 (by decide))) ?_
  refine r_if_neB X 12 dX11_back_6 (by decide) (fun c_6 => ?_) (fun c_6 => ?_)
  · skip
    obtain ⟨i, hi, rfl⟩ := inR_ex (by decide) c_6
    have hix : ix (nI i) = i := ix_nI (by omega)
    have h7i := h7 i
    refine r_aload_n X dX11_back_12 rfl ?_
    refine r_get (ci := 10) X 8 _ ti_RX11 rfl (by decide) tw_666 (fun _ h => h) dX11_back_13 (by first | exact m0 | exact m1 | exact m2 | exact m3 | exact m4 | exact m5 | exact m6 | exact m7 | exact m8 | exact m9 | assumption) rfl ?_
    refine r_iload_n X dX11_back_16 rfl ?_
    refine r_zald X _ dX11_back_17 (by first | exact m0 | exact m1 | exact m2 | exact m3 | exact m4 | exact m5 | exact m6 | exact m7 | exact m8 | exact m9 | assumption) (rfl) (by omega) (by decide) ?_
    refine r_if_neN X 24 dX11_back_18 (by decide) (by omega) (fun c_18 => ?_) (fun c_18 => ?_)
    · skip
      refine r_iconst (v := nI 0) X dX11_back_24 (by decide) ?_
      refine r_istore_n X dX11_back_25 (Nat.le_of_ble_eq_true rfl) ?_
      try dsimp only [List.set]
      have hloop : ∀ (k : Nat), k ≤ 55 → Wg K E (0) (0) 26 [some (.ref M), some (.int (nI i)), some (.int (nI k))] [] (mG E g M (u) (va_up (B) 4 (fun j => if j < k then B 6 (55 * i + j) else B 4 j))) (n) := by
        refine ind_up _ (55) (fun k hk ih => ?_)
        refine r_iload_n X dX11_back_26 rfl ?_
        refine r_bipush (v := nI 55) X dX11_back_27 (by decide) ?_
        refine r_icmp_geN X 55 dX11_back_29 (by decide) (by omega) (by omega) (fun c_29 => ?_) (fun c_29 => ?_)
        · skip
          obtain rfl : k = 55 := by omega
          refine r_aload_n X dX11_back_55 rfl ?_
          refine r_iconst (v := nI 0) X dX11_back_56 (by decide) ?_
          refine r_put (ci := 10) (ty := .int) X 6 ti_RX11 tyX11 tyX11_ok nmX11 rfl (by decide) tw_664 (fun _ h => h) rfl (by decide +kernel) dX11_back_57 (by first | exact m0 | exact m1 | exact m2 | exact m3 | exact m4 | exact m5 | exact m6 | exact m7 | exact m8 | exact m9 | assumption) rfl rfl (Nat.le_of_ble_eq_true rfl) ?_
          try dsimp only [List.set]
          refine r_heap um_known ?_
          refine r_aload_n X dX11_back_60 rfl ?_
          refine r_get (ci := 10) X 4 _ ti_RX11 rfl (by decide) tw_662 (fun _ h => h) dX11_back_61 (by first | exact m0 | exact m1 | exact m2 | exact m3 | exact m4 | exact m5 | exact m6 | exact m7 | exact m8 | exact m9 | assumption) rfl ?_
          refine r_bipush (v := nI 54) X dX11_back_64 (by decide) ?_
          refine r_nald X _ dX11_back_66 (by first | exact m0 | exact m1 | exact m2 | exact m3 | exact m4 | exact m5 | exact m6 | exact m7 | exact m8 | exact m9 | assumption) (rfl) (by omega) (by decide) ?_
          refine r_iret S dX11_back_67 ?_
          replace c_18 : ¬ B 7 i = 0 := by omega
          refine ⟨?_, ?_, rfl⟩
          · rw [if_pos c_6, hix, if_neg c_18]; show some (Value.int (nI (B 6 (55 * i + 54)))) = _; rw [hI, pfl_at (by decide)]; rfl
          · rw [hix, if_pos ⟨c_6, c_18⟩]; exact mc4 (fun j hj => by rw [if_pos hj, hI]; exact pfl_at hj)
        · skip
          refine r_aload_n X dX11_back_32 rfl ?_
          refine r_get (ci := 10) X 4 _ ti_RX11 rfl (by decide) tw_662 (fun _ h => h) dX11_back_33 (by first | exact m0 | exact m1 | exact m2 | exact m3 | exact m4 | exact m5 | exact m6 | exact m7 | exact m8 | exact m9 | assumption) rfl ?_
          refine r_iload_n X dX11_back_36 rfl ?_
          refine r_aload_n X dX11_back_37 rfl ?_
          refine r_get (ci := 10) X 7 _ ti_RX11 rfl (by decide) tw_665 (fun _ h => h) dX11_back_38 (by first | exact m0 | exact m1 | exact m2 | exact m3 | exact m4 | exact m5 | exact m6 | exact m7 | exact m8 | exact m9 | assumption) rfl ?_
          refine r_bipush (v := nI 55) X dX11_back_41 (by decide) ?_
          refine r_iload_n X dX11_back_43 rfl ?_
          first | refine r_imulN X dX11_back_44 ?_ | refine r_imul X _ dX11_back_44 rfl ?_
          refine r_iload_n X dX11_back_45 rfl ?_
          first | refine r_iaddN X dX11_back_46 ?_ | refine r_iadd X _ dX11_back_46 rfl ?_
          refine r_nald X _ dX11_back_47 (show mG E g M (u) (va_up (B) 4 (fun j => if j < k then B 6 (55 * i + j) else B 4 j)) (M + 6) = some (nc E 110 (B 6)) from m6) (rfl) (by omega) (by decide) ?_
          refine r_nast X _ dX11_back_48 (show mG E g M (u) (va_up (B) 4 (fun j => if j < k then B 6 (55 * i + j) else B 4 j)) (M + 4) = some (nc E 55 (fun j => if j < k then B 6 (55 * i + j) else B 4 j)) from m4) (rfl) (by omega) (by decide) ?_
          refine r_heap um4 ?_
          first | refine r_iincN X dX11_back_49 rfl ?_ | refine r_iinc X _ dX11_back_49 rfl rfl ?_
          try dsimp only [List.set]
          refine r_goto X 26 dX11_back_52 (by decide) ?_
          refine r_heap ?_ (ih (by omega))
          rw [vu_vu]
          exact mc4 (fun j hj => by simp only [va_up]; (repeat' split) <;> first | rfl | omega | (subst_vars; rfl) | (congr 1; omega) | (exfalso; omega))
      refine r_heap ?_ (hloop 0 (Nat.zero_le _))
      exact congrArg (mG E g M _) (vu_self (by funext j; exact (if_neg (by omega)).symm)).symm
    · skip
      refine r_bipush (v := (-4)) X dX11_back_21 (by decide) ?_
      refine r_iret S dX11_back_23 ?_
      exact ⟨by rw [if_pos c_6, hix, if_pos c_18], by rw [hix, if_neg (by simp [c_18])], rfl⟩
  · skip
    refine r_bipush (v := (-2)) X dX11_back_9 (by decide) ?_
    refine r_iret S dX11_back_11 ?_
    exact ⟨by simp [c_6], by simp [c_6], rfl⟩

