/-- the model's reading place: at, sort, start, value -/
def tk (u : Nat → Nat) (e s b v : Nat) : Nat → Nat := va_up (va_up (va_up (va_up u 3 e) 5 b) 4 s) 6 v
theorem tk_e {u : Nat → Nat} {e s b v x : Nat} : va_up (tk u e s b v) 3 x = tk u x s b v := by
  funext j; simp only [tk, va_up]; (repeat' split) <;> first | rfl | omega
theorem tk_v {u : Nat → Nat} {e s b v x : Nat} : va_up (tk u e s b v) 6 x = tk u e s b x := vu_vu
def tkS (L : Nat → Nat) (ln b : Nat) : Nat := if ln ≤ b then 0 else if okL L b = true then 1 else if okD L b = true then 2 else 3
def tkE (L : Nat → Nat) (ln b : Nat) : Nat := if tkS L ln b = 0 then b else if tkS L ln b = 1 then sc (okL L) ln b else if tkS L ln b = 2 then sc (okD L) ln b else b + 1
def tv (L : Nat → Nat) (b j : Nat) : Nat := if j ≤ 2 then nuF L b j else 100
def tkV (L : Nat → Nat) (ln b : Nat) : Nat := if tkS L ln b = 2 then tv L b (sc (okD L) ln b - b) else 0
theorem tv_s {L : Nat → Nat} {b k : Nat} (h : b ≤ k) (h2 : k - b < 2) : 10 * tv L b (k - b) + L k - 48 = tv L b (k + 1 - b) := by
  rcases (show k = b ∨ k = b + 1 by omega) with rfl | rfl
  · rw [Nat.sub_self, show k + 1 - k = 1 by omega]
    show 10 * 0 + L k - 48 = L k - 48
    omega
  · rw [show b + 1 - b = 1 by omega, show b + 1 + 1 - b = 2 by omega]
    show 10 * (L b - 48) + L (b + 1) - 48 = (L b - 48) * 10 + L (b + 1) - 48
    omega
theorem tv_3 {L : Nat → Nat} {b k : Nat} (h2 : 2 ≤ k - b) : 100 = tv L b (k + 1 - b) := by
  unfold tv; rw [if_neg (by omega)]
theorem tv_le {L : Nat → Nat} {b : Nat} (hL : ∀ j, L j ≤ 255) (j : Nat) : tv L b j ≤ 3000 := by
  have h1 := hL b
  have h2 := hL (b + 1)
  unfold tv nuF
  (repeat' split) <;> omega
theorem isL {x : Nat} (h : x ≤ 255) : inQ (nI x) (nI 97) (nI 122) = decide (97 ≤ x ∧ x ≤ 122) := inQ_N (by omega) (by decide) (by decide)
theorem isD {x : Nat} (h : x ≤ 255) : inQ (nI x) (nI 48) (nI 57) = decide (48 ≤ x ∧ x ≤ 57) := inQ_N (by omega) (by decide) (by decide)
theorem nI_ge0 {x : Nat} (h : x < 2 ^ 31) : (0 : Int32) ≤ nI x := Int32.le_iff_toInt_le.mpr (by rw [nI_toInt h]; show (0 : Int) ≤ _; omega)
theorem isLd {L : Nat → Nat} {ln k : Nat} (hL : ∀ j, L j ≤ 255) : inQ (if k < ln then nI (L k) else -1) (nI 97) (nI 122) = (decide (k < ln) && okL L k) := by
  by_cases e : k < ln
  · rw [if_pos e, isL (hL k), decide_eq_true e]; rfl
  · rw [if_neg e, decide_eq_false e]; show _ = false; decide
theorem isDd {L : Nat → Nat} {ln k : Nat} (hL : ∀ j, L j ≤ 255) : inQ (if k < ln then nI (L k) else -1) (nI 48) (nI 57) = (decide (k < ln) && okD L k) := by
  by_cases e : k < ln
  · rw [if_pos e, isD (hL k), decide_eq_true e]; rfl
  · rw [if_neg e, decide_eq_false e]; show _ = false; decide
theorem sc_and {ok : Nat → Bool} {ln k : Nat} (h : (decide (k < ln) && ok k) = false) : sc ok ln k = k := by
  by_cases e : k < ln
  · rw [decide_eq_true e, Bool.true_and] at h; exact sc_f h
  · exact sc_ge (by omega)
theorem and_dt {p : Prop} [Decidable p] {b : Bool} (h : (decide p && b) = true) : p ∧ b = true := by
  rw [Bool.and_eq_true] at h; exact ⟨of_decide_eq_true h.1, h.2⟩
theorem tkS_0 {L : Nat → Nat} {ln b : Nat} (h : ¬ b < ln) : tkS L ln b = 0 := if_pos (by omega)
theorem tkS_1 {L : Nat → Nat} {ln b : Nat} (h : b < ln) (hl : okL L b = true) : tkS L ln b = 1 := by unfold tkS; rw [if_neg (by omega), if_pos hl]
theorem tkS_2 {L : Nat → Nat} {ln b : Nat} (h : b < ln) (hl : okL L b = false) (hd : okD L b = true) : tkS L ln b = 2 := by unfold tkS; rw [if_neg (by omega), if_neg (by rw [hl]; decide), if_pos hd]
theorem tkS_3 {L : Nat → Nat} {ln b : Nat} (h : b < ln) (hl : okL L b = false) (hd : okD L b = false) : tkS L ln b = 3 := by unfold tkS; rw [if_neg (by omega), if_neg (by rw [hl]; decide), if_neg (by rw [hd]; decide)]
theorem tk_0 {u L : Nat → Nat} {ln b : Nat} (h : tkS L ln b = 0) : tk u (tkE L ln b) (tkS L ln b) b (tkV L ln b) = tk u b 0 b 0 := by unfold tkE tkV; rw [h]; rfl
theorem tk_1 {u L : Nat → Nat} {ln b : Nat} (h : tkS L ln b = 1) : tk u (tkE L ln b) (tkS L ln b) b (tkV L ln b) = tk u (sc (okL L) ln b) 1 b 0 := by unfold tkE tkV; rw [h]; rfl
theorem tk_2 {u L : Nat → Nat} {ln b : Nat} (h : tkS L ln b = 2) : tk u (tkE L ln b) (tkS L ln b) b (tkV L ln b) = tk u (sc (okD L) ln b) 2 b (tv L b (sc (okD L) ln b - b)) := by unfold tkE tkV; rw [h]; rfl
theorem tk_3 {u L : Nat → Nat} {ln b : Nat} (h : tkS L ln b = 3) : tk u (tkE L ln b) (tkS L ln b) b (tkV L ln b) = tk u (b + 1) 3 b 0 := by unfold tkE tkV; rw [h]; rfl

set_option maxHeartbeats 4000000 in
set_option maxRecDepth 100000 in
/-- BanisterWordModel.token  -/
theorem c_X11_token (l : Launch) (E : xE) (g : hG) (n : Nat) (M : Nat) (u : Nat → Nat) (B : Nat → Nat → Nat)  (h5 : u 0 ≤ 160) (h3 : u 3 ≤ u 0) (hL : ∀ j, B 1 j ≤ 255) : Ct l yX11_token cX11_token 2 none 2 42 0 0 E [.ref M] (mG E g M u B) n (zr (none) (mG E g M (tk u (tkE (B 1) (u 0) (sc (okB (B 1)) (u 0) (u 3))) (tkS (B 1) (u 0) (sc (okB (B 1)) (u 0) (u 3))) (sc (okB (B 1)) (u 0) (u 3)) (tkV (B 1) (u 0) (sc (okB (B 1)) (u 0) (u 3)))) B) (n)) := by
  refine Ct.of (by decide +kernel) (Nat.le_of_ble_eq_true rfl) (fun v hv => by simp only [List.mem_cons, List.not_mem_nil, or_false] at hv; (try rcases hv with rfl) <;> first | rfl | (subst hv; rfl) | exact hv.elim) ?_
  intro K hKl S
  subst hKl
  have X := S.1
  obtain ⟨b, hb⟩ : ∃ b, (sc (okB (B 1)) (u 0) (u 3)) = b := ⟨_, rfl⟩
  rw [hb] at S
  have hloop : ∀ (k : Nat), k ≤ u 0 → (sc (okB (B 1)) (u 0) k = b) → Wg K E (0) (0) 0 [some (.ref M), none] [] (mG E g M (va_up u 3 k) B) (n) := by
    refine ind_up _ (u 0) (fun k hk ih hq => ?_)
    refine r_aload_n X dX11_token_0 rfl ?_
    refine r_aload_n X dX11_token_1 rfl ?_
    refine r_get (ci := 10) X 11 _ ti_RX11 rfl (by decide) tw_669 (fun _ h => h) dX11_token_2 (show mG E g M (va_up u 3 k) B M = some (oc 10 [.ref (M + 1), .int (nI (u 0)), .ref (M + 2), .ref (M + 3), .ref (M + 4), .ref (M + 5), .int (nI (u 1)), .ref (M + 6), .ref (M + 7), .ref (M + 8), .int (nI (u 2)), .int (nI (k)), .int (nI (u 4)), .int (nI (u 5)), .int (nI (u 6)), .ref (M + 9)]) from m0) rfl ?_
    refine r_callV (ci := 10) X rfl (c_X11_letterAt _ E g n M (va_up u 3 k) B (k) h5 (by omega)) tw_730 tw_732 tp_20 tw_7 tw_733 rfl rfl (by first | exact m0 | exact m1 | exact m2 | exact m3 | exact m4 | exact m5 | exact m6 | exact m7 | exact m8 | exact m9 | assumption) rfl ⟨ok_X11_letterAt, ⟨Nat.le_of_ble_eq_true rfl, Nat.le_of_ble_eq_true rfl⟩, ⟨Nat.le_of_ble_eq_true rfl, Nat.le_of_ble_eq_true rfl⟩, Nat.le_of_ble_eq_true rfl⟩ dX11_token_5 (kk_r (Wf := Wg K E _ _ _ _) ?_)
    refine r_top _ (if k < u 0 then nI (B 1 (k)) else -1) (rfl) ?_
    refine r_bipush (v := nI 32) X dX11_token_8 (by decide) ?_
    by_cases hb9 : k < u 0 ∧ B 1 k = 32
    · skip
      have hk9 := hb9.1
      replace hb9 := hb9.2
      rw [if_pos hk9, hb9]
      refine r_icmp_ne X 26 dX11_token_10 (by decide) (fun c_10 => ?_) (fun c_10 => ?_)
      · exact absurd rfl c_10
      refine r_aload_n X dX11_token_13 rfl ?_
      refine r_dup X dX11_token_14 rfl ?_
      refine r_get (ci := 10) X 11 _ ti_RX11 rfl (by decide) tw_669 (fun _ h => h) dX11_token_15 (show mG E g M (va_up u 3 k) B M = some (oc 10 [.ref (M + 1), .int (nI (u 0)), .ref (M + 2), .ref (M + 3), .ref (M + 4), .ref (M + 5), .int (nI (u 1)), .ref (M + 6), .ref (M + 7), .ref (M + 8), .int (nI (u 2)), .int (nI (k)), .int (nI (u 4)), .int (nI (u 5)), .int (nI (u 6)), .ref (M + 9)]) from m0) rfl ?_
      refine r_iconst (v := nI 1) X dX11_token_18 (by decide) ?_
      first | refine r_iaddN X dX11_token_19 ?_ | refine r_iadd X _ dX11_token_19 rfl ?_
      refine r_put (ci := 10) (ty := .int) X 11 ti_RX11 tyX11 tyX11_ok nmX11 rfl (by decide) tw_669 (fun _ h => h) rfl (by decide +kernel) dX11_token_20 (by first | exact m0 | exact m1 | exact m2 | exact m3 | exact m4 | exact m5 | exact m6 | exact m7 | exact m8 | exact m9 | assumption) rfl rfl (Nat.le_of_ble_eq_true rfl) ?_
      try dsimp only [List.set]
      refine r_heap um_at ?_
      refine r_heap (congrArg (fun w => mG E g M w B) vu_vu) ?_
      refine r_goto X 0 dX11_token_23 (by decide) ?_
      exact ih (by omega) (by rw [← hq]; exact (sc_t hk9 (decide_eq_true hb9)).symm)
    · skip
      have hkb : b = k := by rw [← hq]; by_cases e : k < u 0; exact sc_f (decide_eq_false (fun q => hb9 ⟨e, q⟩)); exact sc_ge (by omega)
      refine r_icmp_ne X 26 dX11_token_10 (by decide) (fun c_10 => ?_) (fun c_10 => ?_)
      rotate_left
      · exact absurd c_10 (by split; rename_i e; exact fun q => hb9 ⟨e, (nI_eq (by have := hL k; omega) (by decide)).mp q⟩; decide)
      subst hkb
      refine r_aload_n X dX11_token_26 rfl ?_
      refine r_aload_n X dX11_token_27 rfl ?_
      refine r_get (ci := 10) X 11 _ ti_RX11 rfl (by decide) tw_669 (fun _ h => h) dX11_token_28 (show mG E g M (va_up u 3 b) B M = some (oc 10 [.ref (M + 1), .int (nI (u 0)), .ref (M + 2), .ref (M + 3), .ref (M + 4), .ref (M + 5), .int (nI (u 1)), .ref (M + 6), .ref (M + 7), .ref (M + 8), .int (nI (u 2)), .int (nI (b)), .int (nI (u 4)), .int (nI (u 5)), .int (nI (u 6)), .ref (M + 9)]) from m0) rfl ?_
      refine r_put (ci := 10) (ty := .int) X 13 ti_RX11 tyX11 tyX11_ok nmX11 rfl (by decide) tw_671 (fun _ h => h) rfl (by decide +kernel) dX11_token_31 (by first | exact m0 | exact m1 | exact m2 | exact m3 | exact m4 | exact m5 | exact m6 | exact m7 | exact m8 | exact m9 | assumption) rfl rfl (Nat.le_of_ble_eq_true rfl) ?_
      try dsimp only [List.set]
      refine r_heap um_start ?_
      refine r_aload_n X dX11_token_34 rfl ?_
      refine r_aload_n X dX11_token_35 rfl ?_
      refine r_get (ci := 10) X 11 _ ti_RX11 rfl (by decide) tw_669 (fun _ h => h) dX11_token_36 (show mG E g M (va_up (va_up u 3 b) 5 b) B M = some (oc 10 [.ref (M + 1), .int (nI (u 0)), .ref (M + 2), .ref (M + 3), .ref (M + 4), .ref (M + 5), .int (nI (u 1)), .ref (M + 6), .ref (M + 7), .ref (M + 8), .int (nI (u 2)), .int (nI (b)), .int (nI (u 4)), .int (nI (b)), .int (nI (u 6)), .ref (M + 9)]) from m0) rfl ?_
      refine r_callV (ci := 10) X rfl (c_X11_letterAt _ E g n M (va_up (va_up u 3 b) 5 b) B (b) h5 (by omega)) tw_730 tw_732 tp_20 tw_7 tw_733 rfl rfl (by first | exact m0 | exact m1 | exact m2 | exact m3 | exact m4 | exact m5 | exact m6 | exact m7 | exact m8 | exact m9 | assumption) rfl ⟨ok_X11_letterAt, ⟨Nat.le_of_ble_eq_true rfl, Nat.le_of_ble_eq_true rfl⟩, ⟨Nat.le_of_ble_eq_true rfl, Nat.le_of_ble_eq_true rfl⟩, Nat.le_of_ble_eq_true rfl⟩ dX11_token_39 (kk_r (Wf := Wg K E _ _ _ _) ?_)
      refine r_top _ (if b < u 0 then nI (B 1 (b)) else -1) (rfl) ?_
      refine r_istore_n X dX11_token_42 (Nat.le_of_ble_eq_true rfl) ?_
      try dsimp only [List.set]
      rcases (show ¬ b < u 0 ∨ (b < u 0 ∧ okL (B 1) b = true) ∨ (b < u 0 ∧ okL (B 1) b = false ∧ okD (B 1) b = true) ∨ (b < u 0 ∧ okL (B 1) b = false ∧ okD (B 1) b = false) by cases okL (B 1) b <;> cases okD (B 1) b <;> by_cases b < u 0 <;> simp [*]) with hb9 | ⟨hb9, hl⟩ | ⟨hb9, hl, hd⟩ | ⟨hb9, hl, hd⟩
      · skip
        have hv9 : (if b < u 0 then nI (B 1 b) else -1) = (-1 : Int32) := if_neg hb9
        rw [hv9]
        refine r_aload_n X dX11_token_43 rfl ?_
        refine r_iload_n X dX11_token_44 rfl ?_
        refine r_if_ge X 52 dX11_token_45 (by decide) (fun c_45 => ?_) (fun c_45 => ?_)
        · exact absurd c_45 (by decide)
        refine r_iconst (v := nI 0) X dX11_token_48 (by decide) ?_
        refine r_goto X 75 dX11_token_49 (by decide) ?_
        refine r_put (ci := 10) (ty := .int) X 12 ti_RX11 tyX11 tyX11_ok nmX11 rfl (by decide) tw_670 (fun _ h => h) rfl (by decide +kernel) dX11_token_75 (by first | exact m0 | exact m1 | exact m2 | exact m3 | exact m4 | exact m5 | exact m6 | exact m7 | exact m8 | exact m9 | assumption) rfl rfl (Nat.le_of_ble_eq_true rfl) ?_
        try dsimp only [List.set]
        refine r_heap um_sort ?_
        refine r_aload_n X dX11_token_78 rfl ?_
        refine r_iconst (v := nI 0) X dX11_token_79 (by decide) ?_
        refine r_put (ci := 10) (ty := .int) X 14 ti_RX11 tyX11 tyX11_ok nmX11 rfl (by decide) tw_672 (fun _ h => h) rfl (by decide +kernel) dX11_token_80 (by first | exact m0 | exact m1 | exact m2 | exact m3 | exact m4 | exact m5 | exact m6 | exact m7 | exact m8 | exact m9 | assumption) rfl rfl (Nat.le_of_ble_eq_true rfl) ?_
        try dsimp only [List.set]
        refine r_heap um_value ?_
        refine r_aload_n X dX11_token_83 rfl ?_
        refine r_get (ci := 10) X 12 _ ti_RX11 rfl (by decide) tw_670 (fun _ h => h) dX11_token_84 (show mG E g M (tk u b 0 b 0) B M = some (oc 10 [.ref (M + 1), .int (nI (u 0)), .ref (M + 2), .ref (M + 3), .ref (M + 4), .ref (M + 5), .int (nI (u 1)), .ref (M + 6), .ref (M + 7), .ref (M + 8), .int (nI (u 2)), .int (nI (b)), .int (nI (0)), .int (nI (b)), .int (nI (0)), .ref (M + 9)]) from m0) rfl ?_
        refine r_iconst (v := nI 1) X dX11_token_87 (by decide) ?_
        refine r_icmp_neN X 118 dX11_token_88 (by decide) (by omega) (by omega) (fun c_88 => ?_) (fun c_88 => ?_)
        rotate_left
        · exact absurd c_88 (by decide)
        refine r_aload_n X dX11_token_118 rfl ?_
        refine r_get (ci := 10) X 12 _ ti_RX11 rfl (by decide) tw_670 (fun _ h => h) dX11_token_119 (show mG E g M (tk u b 0 b 0) B M = some (oc 10 [.ref (M + 1), .int (nI (u 0)), .ref (M + 2), .ref (M + 3), .ref (M + 4), .ref (M + 5), .int (nI (u 1)), .ref (M + 6), .ref (M + 7), .ref (M + 8), .int (nI (u 2)), .int (nI (b)), .int (nI (0)), .int (nI (b)), .int (nI (0)), .ref (M + 9)]) from m0) rfl ?_
        refine r_iconst (v := nI 2) X dX11_token_122 (by decide) ?_
        refine r_icmp_neN X 195 dX11_token_123 (by decide) (by omega) (by omega) (fun c_123 => ?_) (fun c_123 => ?_)
        rotate_left
        · exact absurd c_123 (by decide)
        refine r_aload_n X dX11_token_195 rfl ?_
        refine r_dup X dX11_token_196 rfl ?_
        refine r_get (ci := 10) X 11 _ ti_RX11 rfl (by decide) tw_669 (fun _ h => h) dX11_token_197 (show mG E g M (tk u b 0 b 0) B M = some (oc 10 [.ref (M + 1), .int (nI (u 0)), .ref (M + 2), .ref (M + 3), .ref (M + 4), .ref (M + 5), .int (nI (u 1)), .ref (M + 6), .ref (M + 7), .ref (M + 8), .int (nI (u 2)), .int (nI (b)), .int (nI (0)), .int (nI (b)), .int (nI (0)), .ref (M + 9)]) from m0) rfl ?_
        refine r_aload_n X dX11_token_200 rfl ?_
        refine r_get (ci := 10) X 12 _ ti_RX11 rfl (by decide) tw_670 (fun _ h => h) dX11_token_201 (show mG E g M (tk u b 0 b 0) B M = some (oc 10 [.ref (M + 1), .int (nI (u 0)), .ref (M + 2), .ref (M + 3), .ref (M + 4), .ref (M + 5), .int (nI (u 1)), .ref (M + 6), .ref (M + 7), .ref (M + 8), .int (nI (u 2)), .int (nI (b)), .int (nI (0)), .int (nI (b)), .int (nI (0)), .ref (M + 9)]) from m0) rfl ?_
        refine r_iconst (v := nI 3) X dX11_token_204 (by decide) ?_
        refine r_icmp_neN X 212 dX11_token_205 (by decide) (by omega) (by omega) (fun c_205 => ?_) (fun c_205 => ?_)
        rotate_left
        · exact absurd c_205 (by decide)
        refine r_iconst (v := nI 0) X dX11_token_212 (by decide) ?_
        first | refine r_iaddN X dX11_token_213 ?_ | refine r_iadd X _ dX11_token_213 rfl ?_
        refine r_put (ci := 10) (ty := .int) X 11 ti_RX11 tyX11 tyX11_ok nmX11 rfl (by decide) tw_669 (fun _ h => h) rfl (by decide +kernel) dX11_token_214 (by first | exact m0 | exact m1 | exact m2 | exact m3 | exact m4 | exact m5 | exact m6 | exact m7 | exact m8 | exact m9 | assumption) rfl rfl (Nat.le_of_ble_eq_true rfl) ?_
        try dsimp only [List.set]
        refine r_heap um_at ?_
        refine r_vret S dX11_token_217 ?_
        refine ⟨rfl, ?_, rfl⟩
        rw [tk_0 (tkS_0 hb9)]
        exact congrArg (fun w => mG E g M w B) tk_e
      · skip
        have hv9 : (if b < u 0 then nI (B 1 b) else -1) = nI (B 1 b) := if_pos hb9
        rw [hv9]
        refine r_aload_n X dX11_token_43 rfl ?_
        refine r_iload_n X dX11_token_44 rfl ?_
        refine r_if_ge X 52 dX11_token_45 (by decide) (fun c_45 => ?_) (fun c_45 => ?_)
        rotate_left
        · exact absurd (nI_ge0 (by have := hL b; omega)) c_45
        refine r_iload_n X dX11_token_52 rfl ?_
        refine r_callS X rfl (c_X11_isLetter _ E _ n _) tw_734 tw_735 tw_7 tw_736 rfl ⟨ok_X11_isLetter, ⟨Nat.le_of_ble_eq_true rfl, Nat.le_of_ble_eq_true rfl⟩, ⟨Nat.le_of_ble_eq_true rfl, Nat.le_of_ble_eq_true rfl⟩, Nat.le_of_ble_eq_true rfl⟩ dX11_token_53 (kk_r (Wf := Wg K E _ _ _ _) ?_)
        refine r_top _ (bI (okL (B 1) b)) (congrArg bI (isL (hL b))) ?_
        refine r_if_eqB X 63 dX11_token_56 (by decide) (fun c_56 => ?_) (fun c_56 => ?_)
        · rw [hl] at c_56; cases c_56
        refine r_iconst (v := nI 1) X dX11_token_59 (by decide) ?_
        refine r_goto X 75 dX11_token_60 (by decide) ?_
        refine r_put (ci := 10) (ty := .int) X 12 ti_RX11 tyX11 tyX11_ok nmX11 rfl (by decide) tw_670 (fun _ h => h) rfl (by decide +kernel) dX11_token_75 (by first | exact m0 | exact m1 | exact m2 | exact m3 | exact m4 | exact m5 | exact m6 | exact m7 | exact m8 | exact m9 | assumption) rfl rfl (Nat.le_of_ble_eq_true rfl) ?_
        try dsimp only [List.set]
        refine r_heap um_sort ?_
        refine r_aload_n X dX11_token_78 rfl ?_
        refine r_iconst (v := nI 0) X dX11_token_79 (by decide) ?_
        refine r_put (ci := 10) (ty := .int) X 14 ti_RX11 tyX11 tyX11_ok nmX11 rfl (by decide) tw_672 (fun _ h => h) rfl (by decide +kernel) dX11_token_80 (by first | exact m0 | exact m1 | exact m2 | exact m3 | exact m4 | exact m5 | exact m6 | exact m7 | exact m8 | exact m9 | assumption) rfl rfl (Nat.le_of_ble_eq_true rfl) ?_
        try dsimp only [List.set]
        refine r_heap um_value ?_
        have hl1 : ∀ (k : Nat), k ≤ u 0 → (sc (okL (B 1)) (u 0) k = (sc (okL (B 1)) (u 0) b)) → Wg K E (0) (0) 83 [some (.ref M), some (.int (nI (B 1 b)))] [] (mG E g M (tk u (k) 1 b (0)) B) (n) := by
          refine ind_up _ (u 0) (fun k hk ih hq => ?_)
          refine r_aload_n X dX11_token_83 rfl ?_
          refine r_get (ci := 10) X 12 _ ti_RX11 rfl (by decide) tw_670 (fun _ h => h) dX11_token_84 (show mG E g M (tk u (k) 1 b (0)) B M = some (oc 10 [.ref (M + 1), .int (nI (u 0)), .ref (M + 2), .ref (M + 3), .ref (M + 4), .ref (M + 5), .int (nI (u 1)), .ref (M + 6), .ref (M + 7), .ref (M + 8), .int (nI (u 2)), .int (nI (k)), .int (nI (1)), .int (nI (b)), .int (nI (0)), .ref (M + 9)]) from m0) rfl ?_
          refine r_iconst (v := nI 1) X dX11_token_87 (by decide) ?_
          refine r_icmp_neN X 118 dX11_token_88 (by decide) (by omega) (by omega) (fun c_88 => ?_) (fun c_88 => ?_)
          · exact absurd rfl c_88
          refine r_aload_n X dX11_token_91 rfl ?_
          refine r_aload_n X dX11_token_92 rfl ?_
          refine r_get (ci := 10) X 11 _ ti_RX11 rfl (by decide) tw_669 (fun _ h => h) dX11_token_93 (show mG E g M (tk u (k) 1 b (0)) B M = some (oc 10 [.ref (M + 1), .int (nI (u 0)), .ref (M + 2), .ref (M + 3), .ref (M + 4), .ref (M + 5), .int (nI (u 1)), .ref (M + 6), .ref (M + 7), .ref (M + 8), .int (nI (u 2)), .int (nI (k)), .int (nI (1)), .int (nI (b)), .int (nI (0)), .ref (M + 9)]) from m0) rfl ?_
          refine r_callV (ci := 10) X rfl (c_X11_letterAt _ E g n M (tk u (k) 1 b (0)) B (k) h5 (by omega)) tw_730 tw_732 tp_20 tw_7 tw_733 rfl rfl (by first | exact m0 | exact m1 | exact m2 | exact m3 | exact m4 | exact m5 | exact m6 | exact m7 | exact m8 | exact m9 | assumption) rfl ⟨ok_X11_letterAt, ⟨Nat.le_of_ble_eq_true rfl, Nat.le_of_ble_eq_true rfl⟩, ⟨Nat.le_of_ble_eq_true rfl, Nat.le_of_ble_eq_true rfl⟩, Nat.le_of_ble_eq_true rfl⟩ dX11_token_96 (kk_r (Wf := Wg K E _ _ _ _) ?_)
          refine r_top _ (if k < u 0 then nI (B 1 (k)) else -1) (rfl) ?_
          refine r_callS X rfl (c_X11_isLetter _ E _ n _) tw_734 tw_735 tw_7 tw_736 rfl ⟨ok_X11_isLetter, ⟨Nat.le_of_ble_eq_true rfl, Nat.le_of_ble_eq_true rfl⟩, ⟨Nat.le_of_ble_eq_true rfl, Nat.le_of_ble_eq_true rfl⟩, Nat.le_of_ble_eq_true rfl⟩ dX11_token_99 (kk_r (Wf := Wg K E _ _ _ _) ?_)
          refine r_top _ (bI (decide (k < u 0) && okL (B 1) k)) (congrArg bI (isLd hL)) ?_
          refine r_if_eqB X 118 dX11_token_102 (by decide) (fun c_102 => ?_) (fun c_102 => ?_)
          · skip
            have hke : (sc (okL (B 1)) (u 0) b) = k := hq.symm.trans (sc_and c_102)
            refine r_aload_n X dX11_token_118 rfl ?_
            refine r_get (ci := 10) X 12 _ ti_RX11 rfl (by decide) tw_670 (fun _ h => h) dX11_token_119 (show mG E g M (tk u (k) 1 b (0)) B M = some (oc 10 [.ref (M + 1), .int (nI (u 0)), .ref (M + 2), .ref (M + 3), .ref (M + 4), .ref (M + 5), .int (nI (u 1)), .ref (M + 6), .ref (M + 7), .ref (M + 8), .int (nI (u 2)), .int (nI (k)), .int (nI (1)), .int (nI (b)), .int (nI (0)), .ref (M + 9)]) from m0) rfl ?_
            refine r_iconst (v := nI 2) X dX11_token_122 (by decide) ?_
            refine r_icmp_neN X 195 dX11_token_123 (by decide) (by omega) (by omega) (fun c_123 => ?_) (fun c_123 => ?_)
            rotate_left
            · exact absurd c_123 (by decide)
            refine r_aload_n X dX11_token_195 rfl ?_
            refine r_dup X dX11_token_196 rfl ?_
            refine r_get (ci := 10) X 11 _ ti_RX11 rfl (by decide) tw_669 (fun _ h => h) dX11_token_197 (show mG E g M (tk u (k) 1 b (0)) B M = some (oc 10 [.ref (M + 1), .int (nI (u 0)), .ref (M + 2), .ref (M + 3), .ref (M + 4), .ref (M + 5), .int (nI (u 1)), .ref (M + 6), .ref (M + 7), .ref (M + 8), .int (nI (u 2)), .int (nI (k)), .int (nI (1)), .int (nI (b)), .int (nI (0)), .ref (M + 9)]) from m0) rfl ?_
            refine r_aload_n X dX11_token_200 rfl ?_
            refine r_get (ci := 10) X 12 _ ti_RX11 rfl (by decide) tw_670 (fun _ h => h) dX11_token_201 (show mG E g M (tk u (k) 1 b (0)) B M = some (oc 10 [.ref (M + 1), .int (nI (u 0)), .ref (M + 2), .ref (M + 3), .ref (M + 4), .ref (M + 5), .int (nI (u 1)), .ref (M + 6), .ref (M + 7), .ref (M + 8), .int (nI (u 2)), .int (nI (k)), .int (nI (1)), .int (nI (b)), .int (nI (0)), .ref (M + 9)]) from m0) rfl ?_
            refine r_iconst (v := nI 3) X dX11_token_204 (by decide) ?_
            refine r_icmp_neN X 212 dX11_token_205 (by decide) (by omega) (by omega) (fun c_205 => ?_) (fun c_205 => ?_)
            rotate_left
            · exact absurd c_205 (by decide)
            refine r_iconst (v := nI 0) X dX11_token_212 (by decide) ?_
            first | refine r_iaddN X dX11_token_213 ?_ | refine r_iadd X _ dX11_token_213 rfl ?_
            refine r_put (ci := 10) (ty := .int) X 11 ti_RX11 tyX11 tyX11_ok nmX11 rfl (by decide) tw_669 (fun _ h => h) rfl (by decide +kernel) dX11_token_214 (by first | exact m0 | exact m1 | exact m2 | exact m3 | exact m4 | exact m5 | exact m6 | exact m7 | exact m8 | exact m9 | assumption) rfl rfl (Nat.le_of_ble_eq_true rfl) ?_
            try dsimp only [List.set]
            refine r_heap um_at ?_
            refine r_vret S dX11_token_217 ?_
            refine ⟨rfl, ?_, rfl⟩
            rw [tk_1 (tkS_1 hb9 hl)]
            rw [hke]
            exact congrArg (fun w => mG E g M w B) tk_e
          · skip
            obtain ⟨hk9, hl9⟩ := and_dt c_102
            refine r_aload_n X dX11_token_105 rfl ?_
            refine r_dup X dX11_token_106 rfl ?_
            refine r_get (ci := 10) X 11 _ ti_RX11 rfl (by decide) tw_669 (fun _ h => h) dX11_token_107 (show mG E g M (tk u (k) 1 b (0)) B M = some (oc 10 [.ref (M + 1), .int (nI (u 0)), .ref (M + 2), .ref (M + 3), .ref (M + 4), .ref (M + 5), .int (nI (u 1)), .ref (M + 6), .ref (M + 7), .ref (M + 8), .int (nI (u 2)), .int (nI (k)), .int (nI (1)), .int (nI (b)), .int (nI (0)), .ref (M + 9)]) from m0) rfl ?_
            refine r_iconst (v := nI 1) X dX11_token_110 (by decide) ?_
            first | refine r_iaddN X dX11_token_111 ?_ | refine r_iadd X _ dX11_token_111 rfl ?_
            refine r_put (ci := 10) (ty := .int) X 11 ti_RX11 tyX11 tyX11_ok nmX11 rfl (by decide) tw_669 (fun _ h => h) rfl (by decide +kernel) dX11_token_112 (by first | exact m0 | exact m1 | exact m2 | exact m3 | exact m4 | exact m5 | exact m6 | exact m7 | exact m8 | exact m9 | assumption) rfl rfl (Nat.le_of_ble_eq_true rfl) ?_
            try dsimp only [List.set]
            refine r_heap um_at ?_
            refine r_heap (congrArg (fun w => mG E g M w B) tk_e) ?_
            refine r_goto X 83 dX11_token_115 (by decide) ?_
            exact ih (by omega) (by rw [← hq]; exact (sc_t hk9 hl9).symm)
        exact hl1 b (by omega) rfl
      · skip
        have hv9 : (if b < u 0 then nI (B 1 b) else -1) = nI (B 1 b) := if_pos hb9
        rw [hv9]
        refine r_aload_n X dX11_token_43 rfl ?_
        refine r_iload_n X dX11_token_44 rfl ?_
        refine r_if_ge X 52 dX11_token_45 (by decide) (fun c_45 => ?_) (fun c_45 => ?_)
        rotate_left
        · exact absurd (nI_ge0 (by have := hL b; omega)) c_45
        refine r_iload_n X dX11_token_52 rfl ?_
        refine r_callS X rfl (c_X11_isLetter _ E _ n _) tw_734 tw_735 tw_7 tw_736 rfl ⟨ok_X11_isLetter, ⟨Nat.le_of_ble_eq_true rfl, Nat.le_of_ble_eq_true rfl⟩, ⟨Nat.le_of_ble_eq_true rfl, Nat.le_of_ble_eq_true rfl⟩, Nat.le_of_ble_eq_true rfl⟩ dX11_token_53 (kk_r (Wf := Wg K E _ _ _ _) ?_)
        refine r_top _ (bI (okL (B 1) b)) (congrArg bI (isL (hL b))) ?_
        refine r_if_eqB X 63 dX11_token_56 (by decide) (fun c_56 => ?_) (fun c_56 => ?_)
        rotate_left
        · rw [hl] at c_56; cases c_56
        refine r_iload_n X dX11_token_63 rfl ?_
        refine r_callS X rfl (c_X11_isDigit _ E _ n _) tw_737 tw_738 tw_7 tw_739 rfl ⟨ok_X11_isDigit, ⟨Nat.le_of_ble_eq_true rfl, Nat.le_of_ble_eq_true rfl⟩, ⟨Nat.le_of_ble_eq_true rfl, Nat.le_of_ble_eq_true rfl⟩, Nat.le_of_ble_eq_true rfl⟩ dX11_token_64 (kk_r (Wf := Wg K E _ _ _ _) ?_)
        refine r_top _ (bI (okD (B 1) b)) (congrArg bI (isD (hL b))) ?_
        refine r_if_eqB X 74 dX11_token_67 (by decide) (fun c_67 => ?_) (fun c_67 => ?_)
        · rw [hd] at c_67; cases c_67
        refine r_iconst (v := nI 2) X dX11_token_70 (by decide) ?_
        refine r_goto X 75 dX11_token_71 (by decide) ?_
        refine r_put (ci := 10) (ty := .int) X 12 ti_RX11 tyX11 tyX11_ok nmX11 rfl (by decide) tw_670 (fun _ h => h) rfl (by decide +kernel) dX11_token_75 (by first | exact m0 | exact m1 | exact m2 | exact m3 | exact m4 | exact m5 | exact m6 | exact m7 | exact m8 | exact m9 | assumption) rfl rfl (Nat.le_of_ble_eq_true rfl) ?_
        try dsimp only [List.set]
        refine r_heap um_sort ?_
        refine r_aload_n X dX11_token_78 rfl ?_
        refine r_iconst (v := nI 0) X dX11_token_79 (by decide) ?_
        refine r_put (ci := 10) (ty := .int) X 14 ti_RX11 tyX11 tyX11_ok nmX11 rfl (by decide) tw_672 (fun _ h => h) rfl (by decide +kernel) dX11_token_80 (by first | exact m0 | exact m1 | exact m2 | exact m3 | exact m4 | exact m5 | exact m6 | exact m7 | exact m8 | exact m9 | assumption) rfl rfl (Nat.le_of_ble_eq_true rfl) ?_
        try dsimp only [List.set]
        refine r_heap um_value ?_
        refine r_aload_n X dX11_token_83 rfl ?_
        refine r_get (ci := 10) X 12 _ ti_RX11 rfl (by decide) tw_670 (fun _ h => h) dX11_token_84 (show mG E g M (tk u b 2 b 0) B M = some (oc 10 [.ref (M + 1), .int (nI (u 0)), .ref (M + 2), .ref (M + 3), .ref (M + 4), .ref (M + 5), .int (nI (u 1)), .ref (M + 6), .ref (M + 7), .ref (M + 8), .int (nI (u 2)), .int (nI (b)), .int (nI (2)), .int (nI (b)), .int (nI (0)), .ref (M + 9)]) from m0) rfl ?_
        refine r_iconst (v := nI 1) X dX11_token_87 (by decide) ?_
        refine r_icmp_neN X 118 dX11_token_88 (by decide) (by omega) (by omega) (fun c_88 => ?_) (fun c_88 => ?_)
        rotate_left
        · exact absurd c_88 (by decide)
        have hl2 : ∀ (k : Nat), k ≤ u 0 → (sc (okD (B 1)) (u 0) k = (sc (okD (B 1)) (u 0) b) ∧ b ≤ k) → Wg K E (0) (0) 118 [some (.ref M), some (.int (nI (B 1 b)))] [] (mG E g M (tk u (k) 2 b (tv (B 1) b (k - b))) B) (n) := by
          refine ind_up _ (u 0) (fun k hk ih hq => ?_)
          have htv := tv_le (b := b) hL (k - b)
          refine r_aload_n X dX11_token_118 rfl ?_
          refine r_get (ci := 10) X 12 _ ti_RX11 rfl (by decide) tw_670 (fun _ h => h) dX11_token_119 (show mG E g M (tk u (k) 2 b (tv (B 1) b (k - b))) B M = some (oc 10 [.ref (M + 1), .int (nI (u 0)), .ref (M + 2), .ref (M + 3), .ref (M + 4), .ref (M + 5), .int (nI (u 1)), .ref (M + 6), .ref (M + 7), .ref (M + 8), .int (nI (u 2)), .int (nI (k)), .int (nI (2)), .int (nI (b)), .int (nI (tv (B 1) b (k - b))), .ref (M + 9)]) from m0) rfl ?_
          refine r_iconst (v := nI 2) X dX11_token_122 (by decide) ?_
          refine r_icmp_neN X 195 dX11_token_123 (by decide) (by omega) (by omega) (fun c_123 => ?_) (fun c_123 => ?_)
          · exact absurd rfl c_123
          refine r_aload_n X dX11_token_126 rfl ?_
          refine r_aload_n X dX11_token_127 rfl ?_
          refine r_get (ci := 10) X 11 _ ti_RX11 rfl (by decide) tw_669 (fun _ h => h) dX11_token_128 (show mG E g M (tk u (k) 2 b (tv (B 1) b (k - b))) B M = some (oc 10 [.ref (M + 1), .int (nI (u 0)), .ref (M + 2), .ref (M + 3), .ref (M + 4), .ref (M + 5), .int (nI (u 1)), .ref (M + 6), .ref (M + 7), .ref (M + 8), .int (nI (u 2)), .int (nI (k)), .int (nI (2)), .int (nI (b)), .int (nI (tv (B 1) b (k - b))), .ref (M + 9)]) from m0) rfl ?_
          refine r_callV (ci := 10) X rfl (c_X11_letterAt _ E g n M (tk u (k) 2 b (tv (B 1) b (k - b))) B (k) h5 (by omega)) tw_730 tw_732 tp_20 tw_7 tw_733 rfl rfl (by first | exact m0 | exact m1 | exact m2 | exact m3 | exact m4 | exact m5 | exact m6 | exact m7 | exact m8 | exact m9 | assumption) rfl ⟨ok_X11_letterAt, ⟨Nat.le_of_ble_eq_true rfl, Nat.le_of_ble_eq_true rfl⟩, ⟨Nat.le_of_ble_eq_true rfl, Nat.le_of_ble_eq_true rfl⟩, Nat.le_of_ble_eq_true rfl⟩ dX11_token_131 (kk_r (Wf := Wg K E _ _ _ _) ?_)
          refine r_top _ (if k < u 0 then nI (B 1 (k)) else -1) (rfl) ?_
          refine r_callS X rfl (c_X11_isDigit _ E _ n _) tw_737 tw_738 tw_7 tw_739 rfl ⟨ok_X11_isDigit, ⟨Nat.le_of_ble_eq_true rfl, Nat.le_of_ble_eq_true rfl⟩, ⟨Nat.le_of_ble_eq_true rfl, Nat.le_of_ble_eq_true rfl⟩, Nat.le_of_ble_eq_true rfl⟩ dX11_token_134 (kk_r (Wf := Wg K E _ _ _ _) ?_)
          refine r_top _ (bI (decide (k < u 0) && okD (B 1) k)) (congrArg bI (isDd hL)) ?_
          refine r_if_eqB X 195 dX11_token_137 (by decide) (fun c_137 => ?_) (fun c_137 => ?_)
          · skip
            have hke : (sc (okD (B 1)) (u 0) b) = k := hq.1.symm.trans (sc_and c_137)
            refine r_aload_n X dX11_token_195 rfl ?_
            refine r_dup X dX11_token_196 rfl ?_
            refine r_get (ci := 10) X 11 _ ti_RX11 rfl (by decide) tw_669 (fun _ h => h) dX11_token_197 (show mG E g M (tk u (k) 2 b (tv (B 1) b (k - b))) B M = some (oc 10 [.ref (M + 1), .int (nI (u 0)), .ref (M + 2), .ref (M + 3), .ref (M + 4), .ref (M + 5), .int (nI (u 1)), .ref (M + 6), .ref (M + 7), .ref (M + 8), .int (nI (u 2)), .int (nI (k)), .int (nI (2)), .int (nI (b)), .int (nI (tv (B 1) b (k - b))), .ref (M + 9)]) from m0) rfl ?_
            refine r_aload_n X dX11_token_200 rfl ?_
            refine r_get (ci := 10) X 12 _ ti_RX11 rfl (by decide) tw_670 (fun _ h => h) dX11_token_201 (show mG E g M (tk u (k) 2 b (tv (B 1) b (k - b))) B M = some (oc 10 [.ref (M + 1), .int (nI (u 0)), .ref (M + 2), .ref (M + 3), .ref (M + 4), .ref (M + 5), .int (nI (u 1)), .ref (M + 6), .ref (M + 7), .ref (M + 8), .int (nI (u 2)), .int (nI (k)), .int (nI (2)), .int (nI (b)), .int (nI (tv (B 1) b (k - b))), .ref (M + 9)]) from m0) rfl ?_
            refine r_iconst (v := nI 3) X dX11_token_204 (by decide) ?_
            refine r_icmp_neN X 212 dX11_token_205 (by decide) (by omega) (by omega) (fun c_205 => ?_) (fun c_205 => ?_)
            rotate_left
            · exact absurd c_205 (by decide)
            refine r_iconst (v := nI 0) X dX11_token_212 (by decide) ?_
            first | refine r_iaddN X dX11_token_213 ?_ | refine r_iadd X _ dX11_token_213 rfl ?_
            refine r_put (ci := 10) (ty := .int) X 11 ti_RX11 tyX11 tyX11_ok nmX11 rfl (by decide) tw_669 (fun _ h => h) rfl (by decide +kernel) dX11_token_214 (by first | exact m0 | exact m1 | exact m2 | exact m3 | exact m4 | exact m5 | exact m6 | exact m7 | exact m8 | exact m9 | assumption) rfl rfl (Nat.le_of_ble_eq_true rfl) ?_
            try dsimp only [List.set]
            refine r_heap um_at ?_
            refine r_vret S dX11_token_217 ?_
            refine ⟨rfl, ?_, rfl⟩
            rw [tk_2 (tkS_2 hb9 hl hd)]
            rw [hke]
            exact congrArg (fun w => mG E g M w B) tk_e
          · skip
            obtain ⟨hk9, hd9⟩ := and_dt c_137
            have hd8 : 48 ≤ B 1 k ∧ B 1 k ≤ 57 := of_decide_eq_true hd9
            have hLk := hL k
            refine r_aload_n X dX11_token_140 rfl ?_
            refine r_aload_n X dX11_token_141 rfl ?_
            refine r_get (ci := 10) X 11 _ ti_RX11 rfl (by decide) tw_669 (fun _ h => h) dX11_token_142 (show mG E g M (tk u (k) 2 b (tv (B 1) b (k - b))) B M = some (oc 10 [.ref (M + 1), .int (nI (u 0)), .ref (M + 2), .ref (M + 3), .ref (M + 4), .ref (M + 5), .int (nI (u 1)), .ref (M + 6), .ref (M + 7), .ref (M + 8), .int (nI (u 2)), .int (nI (k)), .int (nI (2)), .int (nI (b)), .int (nI (tv (B 1) b (k - b))), .ref (M + 9)]) from m0) rfl ?_
            refine r_aload_n X dX11_token_145 rfl ?_
            refine r_get (ci := 10) X 13 _ ti_RX11 rfl (by decide) tw_671 (fun _ h => h) dX11_token_146 (show mG E g M (tk u (k) 2 b (tv (B 1) b (k - b))) B M = some (oc 10 [.ref (M + 1), .int (nI (u 0)), .ref (M + 2), .ref (M + 3), .ref (M + 4), .ref (M + 5), .int (nI (u 1)), .ref (M + 6), .ref (M + 7), .ref (M + 8), .int (nI (u 2)), .int (nI (k)), .int (nI (2)), .int (nI (b)), .int (nI (tv (B 1) b (k - b))), .ref (M + 9)]) from m0) rfl ?_
            first | refine r_isubN X dX11_token_149 (by omega) ?_ | refine r_isub X _ dX11_token_149 rfl ?_
            refine r_iconst (v := nI 2) X dX11_token_150 (by decide) ?_
            refine r_icmp_geN X 177 dX11_token_151 (by decide) (by omega) (by omega) (fun c_151 => ?_) (fun c_151 => ?_)
            · skip
              refine r_bipush (v := nI 100) X dX11_token_177 (by decide) ?_
              refine r_put (ci := 10) (ty := .int) X 14 ti_RX11 tyX11 tyX11_ok nmX11 rfl (by decide) tw_672 (fun _ h => h) rfl (by decide +kernel) dX11_token_179 (by first | exact m0 | exact m1 | exact m2 | exact m3 | exact m4 | exact m5 | exact m6 | exact m7 | exact m8 | exact m9 | assumption) rfl rfl (Nat.le_of_ble_eq_true rfl) ?_
              try dsimp only [List.set]
              refine r_heap um_value ?_
              refine r_heap (congrArg (fun w => mG E g M w B) tk_v) ?_
              refine r_heap (congrArg (fun w => mG E g M (tk u k 2 b w) B) (show _ = tv (B 1) b (k + 1 - b) by first | exact tv_s (by omega) (by omega) | exact tv_3 (by omega))) ?_
              refine r_aload_n X dX11_token_182 rfl ?_
              refine r_dup X dX11_token_183 rfl ?_
              refine r_get (ci := 10) X 11 _ ti_RX11 rfl (by decide) tw_669 (fun _ h => h) dX11_token_184 (show mG E g M (tk u (k) 2 b (tv (B 1) b (k + 1 - b))) B M = some (oc 10 [.ref (M + 1), .int (nI (u 0)), .ref (M + 2), .ref (M + 3), .ref (M + 4), .ref (M + 5), .int (nI (u 1)), .ref (M + 6), .ref (M + 7), .ref (M + 8), .int (nI (u 2)), .int (nI (k)), .int (nI (2)), .int (nI (b)), .int (nI (tv (B 1) b (k + 1 - b))), .ref (M + 9)]) from m0) rfl ?_
              refine r_iconst (v := nI 1) X dX11_token_187 (by decide) ?_
              first | refine r_iaddN X dX11_token_188 ?_ | refine r_iadd X _ dX11_token_188 rfl ?_
              refine r_put (ci := 10) (ty := .int) X 11 ti_RX11 tyX11 tyX11_ok nmX11 rfl (by decide) tw_669 (fun _ h => h) rfl (by decide +kernel) dX11_token_189 (by first | exact m0 | exact m1 | exact m2 | exact m3 | exact m4 | exact m5 | exact m6 | exact m7 | exact m8 | exact m9 | assumption) rfl rfl (Nat.le_of_ble_eq_true rfl) ?_
              try dsimp only [List.set]
              refine r_heap um_at ?_
              refine r_heap (congrArg (fun w => mG E g M w B) tk_e) ?_
              refine r_goto X 118 dX11_token_192 (by decide) ?_
              exact ih (by omega) ⟨by rw [← hq.1]; exact (sc_t hk9 hd9).symm, by omega⟩
            · skip
              refine r_bipush (v := nI 10) X dX11_token_154 (by decide) ?_
              refine r_aload_n X dX11_token_156 rfl ?_
              refine r_get (ci := 10) X 14 _ ti_RX11 rfl (by decide) tw_672 (fun _ h => h) dX11_token_157 (show mG E g M (tk u (k) 2 b (tv (B 1) b (k - b))) B M = some (oc 10 [.ref (M + 1), .int (nI (u 0)), .ref (M + 2), .ref (M + 3), .ref (M + 4), .ref (M + 5), .int (nI (u 1)), .ref (M + 6), .ref (M + 7), .ref (M + 8), .int (nI (u 2)), .int (nI (k)), .int (nI (2)), .int (nI (b)), .int (nI (tv (B 1) b (k - b))), .ref (M + 9)]) from m0) rfl ?_
              first | refine r_imulN X dX11_token_160 ?_ | refine r_imul X _ dX11_token_160 rfl ?_
              refine r_aload_n X dX11_token_161 rfl ?_
              refine r_get (ci := 10) X 0 _ ti_RX11 rfl (by decide) tw_658 (fun _ h => h) dX11_token_162 (by first | exact m0 | exact m1 | exact m2 | exact m3 | exact m4 | exact m5 | exact m6 | exact m7 | exact m8 | exact m9 | assumption) rfl ?_
              refine r_aload_n X dX11_token_165 rfl ?_
              refine r_get (ci := 10) X 11 _ ti_RX11 rfl (by decide) tw_669 (fun _ h => h) dX11_token_166 (show mG E g M (tk u (k) 2 b (tv (B 1) b (k - b))) B M = some (oc 10 [.ref (M + 1), .int (nI (u 0)), .ref (M + 2), .ref (M + 3), .ref (M + 4), .ref (M + 5), .int (nI (u 1)), .ref (M + 6), .ref (M + 7), .ref (M + 8), .int (nI (u 2)), .int (nI (k)), .int (nI (2)), .int (nI (b)), .int (nI (tv (B 1) b (k - b))), .ref (M + 9)]) from m0) rfl ?_
              refine r_nald X _ dX11_token_169 (by first | exact m0 | exact m1 | exact m2 | exact m3 | exact m4 | exact m5 | exact m6 | exact m7 | exact m8 | exact m9 | assumption) (rfl) (by omega) (by decide) ?_
              first | refine r_iaddN X dX11_token_170 ?_ | refine r_iadd X _ dX11_token_170 rfl ?_
              refine r_bipush (v := nI 48) X dX11_token_171 (by decide) ?_
              first | refine r_isubN X dX11_token_173 (by omega) ?_ | refine r_isub X _ dX11_token_173 rfl ?_
              refine r_goto X 179 dX11_token_174 (by decide) ?_
              refine r_put (ci := 10) (ty := .int) X 14 ti_RX11 tyX11 tyX11_ok nmX11 rfl (by decide) tw_672 (fun _ h => h) rfl (by decide +kernel) dX11_token_179 (by first | exact m0 | exact m1 | exact m2 | exact m3 | exact m4 | exact m5 | exact m6 | exact m7 | exact m8 | exact m9 | assumption) rfl rfl (Nat.le_of_ble_eq_true rfl) ?_
              try dsimp only [List.set]
              refine r_heap um_value ?_
              refine r_heap (congrArg (fun w => mG E g M w B) tk_v) ?_
              refine r_heap (congrArg (fun w => mG E g M (tk u k 2 b w) B) (show _ = tv (B 1) b (k + 1 - b) by first | exact tv_s (by omega) (by omega) | exact tv_3 (by omega))) ?_
              refine r_aload_n X dX11_token_182 rfl ?_
              refine r_dup X dX11_token_183 rfl ?_
              refine r_get (ci := 10) X 11 _ ti_RX11 rfl (by decide) tw_669 (fun _ h => h) dX11_token_184 (show mG E g M (tk u (k) 2 b (tv (B 1) b (k + 1 - b))) B M = some (oc 10 [.ref (M + 1), .int (nI (u 0)), .ref (M + 2), .ref (M + 3), .ref (M + 4), .ref (M + 5), .int (nI (u 1)), .ref (M + 6), .ref (M + 7), .ref (M + 8), .int (nI (u 2)), .int (nI (k)), .int (nI (2)), .int (nI (b)), .int (nI (tv (B 1) b (k + 1 - b))), .ref (M + 9)]) from m0) rfl ?_
              refine r_iconst (v := nI 1) X dX11_token_187 (by decide) ?_
              first | refine r_iaddN X dX11_token_188 ?_ | refine r_iadd X _ dX11_token_188 rfl ?_
              refine r_put (ci := 10) (ty := .int) X 11 ti_RX11 tyX11 tyX11_ok nmX11 rfl (by decide) tw_669 (fun _ h => h) rfl (by decide +kernel) dX11_token_189 (by first | exact m0 | exact m1 | exact m2 | exact m3 | exact m4 | exact m5 | exact m6 | exact m7 | exact m8 | exact m9 | assumption) rfl rfl (Nat.le_of_ble_eq_true rfl) ?_
              try dsimp only [List.set]
              refine r_heap um_at ?_
              refine r_heap (congrArg (fun w => mG E g M w B) tk_e) ?_
              refine r_goto X 118 dX11_token_192 (by decide) ?_
              exact ih (by omega) ⟨by rw [← hq.1]; exact (sc_t hk9 hd9).symm, by omega⟩
        refine r_heap (show _ = mG E g M (tk u b 2 b (tv (B 1) b (b - b))) B by rw [Nat.sub_self]; rfl) ?_
        exact hl2 b (by omega) ⟨rfl, Nat.le_refl _⟩
      · skip
        have hv9 : (if b < u 0 then nI (B 1 b) else -1) = nI (B 1 b) := if_pos hb9
        rw [hv9]
        refine r_aload_n X dX11_token_43 rfl ?_
        refine r_iload_n X dX11_token_44 rfl ?_
        refine r_if_ge X 52 dX11_token_45 (by decide) (fun c_45 => ?_) (fun c_45 => ?_)
        rotate_left
        · exact absurd (nI_ge0 (by have := hL b; omega)) c_45
        refine r_iload_n X dX11_token_52 rfl ?_
        refine r_callS X rfl (c_X11_isLetter _ E _ n _) tw_734 tw_735 tw_7 tw_736 rfl ⟨ok_X11_isLetter, ⟨Nat.le_of_ble_eq_true rfl, Nat.le_of_ble_eq_true rfl⟩, ⟨Nat.le_of_ble_eq_true rfl, Nat.le_of_ble_eq_true rfl⟩, Nat.le_of_ble_eq_true rfl⟩ dX11_token_53 (kk_r (Wf := Wg K E _ _ _ _) ?_)
        refine r_top _ (bI (okL (B 1) b)) (congrArg bI (isL (hL b))) ?_
        refine r_if_eqB X 63 dX11_token_56 (by decide) (fun c_56 => ?_) (fun c_56 => ?_)
        rotate_left
        · rw [hl] at c_56; cases c_56
        refine r_iload_n X dX11_token_63 rfl ?_
        refine r_callS X rfl (c_X11_isDigit _ E _ n _) tw_737 tw_738 tw_7 tw_739 rfl ⟨ok_X11_isDigit, ⟨Nat.le_of_ble_eq_true rfl, Nat.le_of_ble_eq_true rfl⟩, ⟨Nat.le_of_ble_eq_true rfl, Nat.le_of_ble_eq_true rfl⟩, Nat.le_of_ble_eq_true rfl⟩ dX11_token_64 (kk_r (Wf := Wg K E _ _ _ _) ?_)
        refine r_top _ (bI (okD (B 1) b)) (congrArg bI (isD (hL b))) ?_
        refine r_if_eqB X 74 dX11_token_67 (by decide) (fun c_67 => ?_) (fun c_67 => ?_)
        rotate_left
        · rw [hd] at c_67; cases c_67
        refine r_iconst (v := nI 3) X dX11_token_74 (by decide) ?_
        refine r_put (ci := 10) (ty := .int) X 12 ti_RX11 tyX11 tyX11_ok nmX11 rfl (by decide) tw_670 (fun _ h => h) rfl (by decide +kernel) dX11_token_75 (by first | exact m0 | exact m1 | exact m2 | exact m3 | exact m4 | exact m5 | exact m6 | exact m7 | exact m8 | exact m9 | assumption) rfl rfl (Nat.le_of_ble_eq_true rfl) ?_
        try dsimp only [List.set]
        refine r_heap um_sort ?_
        refine r_aload_n X dX11_token_78 rfl ?_
        refine r_iconst (v := nI 0) X dX11_token_79 (by decide) ?_
        refine r_put (ci := 10) (ty := .int) X 14 ti_RX11 tyX11 tyX11_ok nmX11 rfl (by decide) tw_672 (fun _ h => h) rfl (by decide +kernel) dX11_token_80 (by first | exact m0 | exact m1 | exact m2 | exact m3 | exact m4 | exact m5 | exact m6 | exact m7 | exact m8 | exact m9 | assumption) rfl rfl (Nat.le_of_ble_eq_true rfl) ?_
        try dsimp only [List.set]
        refine r_heap um_value ?_
        refine r_aload_n X dX11_token_83 rfl ?_
        refine r_get (ci := 10) X 12 _ ti_RX11 rfl (by decide) tw_670 (fun _ h => h) dX11_token_84 (show mG E g M (tk u b 3 b 0) B M = some (oc 10 [.ref (M + 1), .int (nI (u 0)), .ref (M + 2), .ref (M + 3), .ref (M + 4), .ref (M + 5), .int (nI (u 1)), .ref (M + 6), .ref (M + 7), .ref (M + 8), .int (nI (u 2)), .int (nI (b)), .int (nI (3)), .int (nI (b)), .int (nI (0)), .ref (M + 9)]) from m0) rfl ?_
        refine r_iconst (v := nI 1) X dX11_token_87 (by decide) ?_
        refine r_icmp_neN X 118 dX11_token_88 (by decide) (by omega) (by omega) (fun c_88 => ?_) (fun c_88 => ?_)
        rotate_left
        · exact absurd c_88 (by decide)
        refine r_aload_n X dX11_token_118 rfl ?_
        refine r_get (ci := 10) X 12 _ ti_RX11 rfl (by decide) tw_670 (fun _ h => h) dX11_token_119 (show mG E g M (tk u b 3 b 0) B M = some (oc 10 [.ref (M + 1), .int (nI (u 0)), .ref (M + 2), .ref (M + 3), .ref (M + 4), .ref (M + 5), .int (nI (u 1)), .ref (M + 6), .ref (M + 7), .ref (M + 8), .int (nI (u 2)), .int (nI (b)), .int (nI (3)), .int (nI (b)), .int (nI (0)), .ref (M + 9)]) from m0) rfl ?_
        refine r_iconst (v := nI 2) X dX11_token_122 (by decide) ?_
        refine r_icmp_neN X 195 dX11_token_123 (by decide) (by omega) (by omega) (fun c_123 => ?_) (fun c_123 => ?_)
        rotate_left
        · exact absurd c_123 (by decide)
        refine r_aload_n X dX11_token_195 rfl ?_
        refine r_dup X dX11_token_196 rfl ?_
        refine r_get (ci := 10) X 11 _ ti_RX11 rfl (by decide) tw_669 (fun _ h => h) dX11_token_197 (show mG E g M (tk u b 3 b 0) B M = some (oc 10 [.ref (M + 1), .int (nI (u 0)), .ref (M + 2), .ref (M + 3), .ref (M + 4), .ref (M + 5), .int (nI (u 1)), .ref (M + 6), .ref (M + 7), .ref (M + 8), .int (nI (u 2)), .int (nI (b)), .int (nI (3)), .int (nI (b)), .int (nI (0)), .ref (M + 9)]) from m0) rfl ?_
        refine r_aload_n X dX11_token_200 rfl ?_
        refine r_get (ci := 10) X 12 _ ti_RX11 rfl (by decide) tw_670 (fun _ h => h) dX11_token_201 (show mG E g M (tk u b 3 b 0) B M = some (oc 10 [.ref (M + 1), .int (nI (u 0)), .ref (M + 2), .ref (M + 3), .ref (M + 4), .ref (M + 5), .int (nI (u 1)), .ref (M + 6), .ref (M + 7), .ref (M + 8), .int (nI (u 2)), .int (nI (b)), .int (nI (3)), .int (nI (b)), .int (nI (0)), .ref (M + 9)]) from m0) rfl ?_
        refine r_iconst (v := nI 3) X dX11_token_204 (by decide) ?_
        refine r_icmp_neN X 212 dX11_token_205 (by decide) (by omega) (by omega) (fun c_205 => ?_) (fun c_205 => ?_)
        · exact absurd rfl c_205
        refine r_iconst (v := nI 1) X dX11_token_208 (by decide) ?_
        refine r_goto X 213 dX11_token_209 (by decide) ?_
        first | refine r_iaddN X dX11_token_213 ?_ | refine r_iadd X _ dX11_token_213 rfl ?_
        refine r_put (ci := 10) (ty := .int) X 11 ti_RX11 tyX11 tyX11_ok nmX11 rfl (by decide) tw_669 (fun _ h => h) rfl (by decide +kernel) dX11_token_214 (by first | exact m0 | exact m1 | exact m2 | exact m3 | exact m4 | exact m5 | exact m6 | exact m7 | exact m8 | exact m9 | assumption) rfl rfl (Nat.le_of_ble_eq_true rfl) ?_
        try dsimp only [List.set]
        refine r_heap um_at ?_
        refine r_vret S dX11_token_217 ?_
        refine ⟨rfl, ?_, rfl⟩
        rw [tk_3 (tkS_3 hb9 hl hd)]
        exact congrArg (fun w => mG E g M w B) tk_e
  refine r_heap (congrArg (fun w => mG E g M w B) (vu_self (f := u) (k := 3) rfl).symm) ?_
  exact hloop (u 3) h3 hb

