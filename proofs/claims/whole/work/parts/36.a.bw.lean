def chF (n k : Nat) : Nat → Nat
  | 0 => 1
  | i + 1 => chF n k i * (n - k + (i + 1)) / (i + 1)
theorem chF_le : ∀ n, n ≤ 6 → ∀ k, k ≤ n → ∀ i, i ≤ k → chF n k i ≤ 20 := by decide +kernel
/-- in how many of 10 to the n ways less than m palms take -/
def wyF (n q : Nat) : Nat → Nat
  | 0 => 0
  | k + 1 => wyF n q k + chF n k k * q ^ k * (10 - q) ^ (n - k)
theorem wyF_le : ∀ n, n ≤ 6 → ∀ q, q ≤ 10 → ∀ m, m ≤ n + 1 → wyF n q m ≤ 10 ^ n := by decide +kernel
def palmsR (s : Nat) (h : Nat → Nat) (a b c d e : Int32) : Int32 := if inR a s = true ∧ inR b 2 = true then (if inR c 7 = true ∧ inR d 11 = true ∧ inR e 2 = true then nI ((if ix e = 0 then wyF (ix c) (ix d) (min (ix c + 1) (h (ix a * 2 + ix b) - ix c)) else 10 ^ ix c) / Nat.gcd (10 ^ ix c) (wyF (ix c) (ix d) (min (ix c + 1) (h (ix a * 2 + ix b) - ix c)))) else -3) else -2
theorem p10_le {n : Nat} (h : n ≤ 6) : 10 ^ n ≤ 1000000 := Nat.pow_le_pow_right (n := 10) (by decide) h
theorem p10_pos (n : Nat) : 0 < 10 ^ n := Nat.pow_pos (by decide)
/-- the spare firmness against k -/
theorem sp_lt {fm m k : Nat} (h1 : fm ≤ 99) (h2 : m ≤ 6) (h3 : k ≤ 7) : nI fm - nI m - nI 1 < nI k ↔ fm < k + m + 1 := by
  have key : ∀ fm, fm ≤ 99 → ∀ m, m ≤ 6 → (nI fm - nI m - nI 1).toInt = (fm : Int) - m - 1 := by decide +kernel
  rw [Int32.lt_iff_toInt_lt, key fm h1 m h2, nI_toInt (by omega)]
  omega
theorem half_mod {a b : Nat} (hb : 0 < b) (h : b ≤ a) : 2 * (a % b) ≤ a := by
  have h1 := Nat.mod_lt a hb
  have h2 := Nat.div_add_mod a b
  have h3 : 1 ≤ a / b := (Nat.one_le_div_iff hb).mpr h
  have h4 : b ≤ b * (a / b) := Nat.le_mul_of_pos_right b h3
  omega
theorem le_or {x y : Nat} (h : ¬ x ≤ y) : y < x := Nat.not_le.mp h

set_option maxHeartbeats 4000000 in
set_option maxRecDepth 100000 in
/-- BanisterWord.power  -/
theorem c_X10_power (l : Launch) (E : xE) (g : hG) (n : Nat) (b e : Nat) (he : e ≤ 6) : Ct l yX10_power cX10_power 4 (some .int) 0 0 0 0 E [.int (nI b), .int (nI e)] (g) n (zr (some (.int (nI (b ^ e)))) (g) (n)) := by
  refine Ct.of (by decide +kernel) (Nat.le_of_ble_eq_true rfl) (fun v hv => by simp only [List.mem_cons, List.not_mem_nil, or_false] at hv; (try rcases hv with rfl | rfl) <;> first | rfl | (subst hv; rfl) | exact hv.elim) ?_
  intro K hKl S
  subst hKl
  have X := S.1
  refine r_iconst (v := nI 1) X dX10_power_0 (by decide) ?_
  refine r_istore_n X dX10_power_1 (Nat.le_of_ble_eq_true rfl) ?_
  try dsimp only [List.set]
  refine r_iconst (v := nI 0) X dX10_power_2 (by decide) ?_
  refine r_istore_n X dX10_power_3 (Nat.le_of_ble_eq_true rfl) ?_
  try dsimp only [List.set]
  have hloop : ∀ (k : Nat), k ≤ e → Wg K E (0) (0) 4 [some (.int (nI b)), some (.int (nI e)), some (.int (nI (b ^ k))), some (.int (nI k))] [] (g) (n) := by
    refine ind_up _ (e) (fun k hk ih => ?_)
    refine r_iload_n X dX10_power_4 rfl ?_
    refine r_iload_n X dX10_power_5 rfl ?_
    refine r_icmp_geN X 19 dX10_power_6 (by decide) (by omega) (by omega) (fun c_6 => ?_) (fun c_6 => ?_)
    · skip
      refine r_iload_n X dX10_power_19 rfl ?_
      refine r_iret S dX10_power_20 ?_
      obtain rfl : k = e := by omega
      exact ⟨rfl, rfl, rfl⟩
    · skip
      refine r_iload_n X dX10_power_9 rfl ?_
      refine r_iload_n X dX10_power_10 rfl ?_
      first | refine r_imulN X dX10_power_11 ?_ | refine r_imul X _ dX10_power_11 rfl ?_
      refine r_istore_n X dX10_power_12 (Nat.le_of_ble_eq_true rfl) ?_
      try dsimp only [List.set]
      first | refine r_iincN X dX10_power_13 rfl ?_ | refine r_iinc X _ dX10_power_13 rfl rfl ?_
      try dsimp only [List.set]
      refine r_goto X 4 dX10_power_16 (by decide) ?_
      exact ih (by omega)
  exact hloop 0 (Nat.zero_le _)

set_option maxHeartbeats 4000000 in
set_option maxRecDepth 100000 in
/-- BanisterWord.choices  -/
theorem c_X10_choices (l : Launch) (E : xE) (g : hG) (n : Nat) (m c : Nat) (hm : m ≤ 6) (hc : c ≤ m) : Ct l yX10_choices cX10_choices 4 (some .int) 0 0 0 0 E [.int (nI m), .int (nI c)] (g) n (zr (some (.int (nI (chF m c c)))) (g) (n)) := by
  refine Ct.of (by decide +kernel) (Nat.le_of_ble_eq_true rfl) (fun v hv => by simp only [List.mem_cons, List.not_mem_nil, or_false] at hv; (try rcases hv with rfl | rfl) <;> first | rfl | (subst hv; rfl) | exact hv.elim) ?_
  intro K hKl S
  subst hKl
  have X := S.1
  refine r_iconst (v := nI 1) X dX10_choices_0 (by decide) ?_
  refine r_istore_n X dX10_choices_1 (Nat.le_of_ble_eq_true rfl) ?_
  try dsimp only [List.set]
  refine r_iconst (v := nI 1) X dX10_choices_2 (by decide) ?_
  refine r_istore_n X dX10_choices_3 (Nat.le_of_ble_eq_true rfl) ?_
  try dsimp only [List.set]
  have hloop : ∀ (k : Nat), k ≤ c → Wg K E (0) (0) 4 [some (.int (nI m)), some (.int (nI c)), some (.int (nI (chF m c k))), some (.int (nI (k + 1)))] [] (g) (n) := by
    refine ind_up _ (c) (fun k hk ih => ?_)
    refine r_iload_n X dX10_choices_4 rfl ?_
    refine r_iload_n X dX10_choices_5 rfl ?_
    refine r_icmp_gtN X 25 dX10_choices_6 (by decide) (by omega) (by omega) (fun c_6 => ?_) (fun c_6 => ?_)
    · skip
      refine r_iload_n X dX10_choices_25 rfl ?_
      refine r_iret S dX10_choices_26 ?_
      obtain rfl : k = c := by omega
      exact ⟨rfl, rfl, rfl⟩
    · skip
      refine r_iload_n X dX10_choices_9 rfl ?_
      refine r_iload_n X dX10_choices_10 rfl ?_
      refine r_iload_n X dX10_choices_11 rfl ?_
      first | refine r_isubN X dX10_choices_12 (by omega) ?_ | refine r_isub X _ dX10_choices_12 rfl ?_
      refine r_iload_n X dX10_choices_13 rfl ?_
      first | refine r_iaddN X dX10_choices_14 ?_ | refine r_iadd X _ dX10_choices_14 rfl ?_
      first | refine r_imulN X dX10_choices_15 ?_ | refine r_imul X _ dX10_choices_15 rfl ?_
      refine r_iload_n X dX10_choices_16 rfl ?_
      refine r_idivN X dX10_choices_17 (by have h1 := chF_le m hm c hc k (by omega); have h2 : chF m c k * (m - c + (k + 1)) ≤ 20 * 7 := Nat.mul_le_mul h1 (by omega); omega) (by omega) (by omega) ?_
      refine r_istore_n X dX10_choices_18 (Nat.le_of_ble_eq_true rfl) ?_
      try dsimp only [List.set]
      first | refine r_iincN X dX10_choices_19 rfl ?_ | refine r_iinc X _ dX10_choices_19 rfl rfl ?_
      try dsimp only [List.set]
      refine r_goto X 4 dX10_choices_22 (by decide) ?_
      exact ih (by omega)
  exact hloop 0 (Nat.zero_le _)

set_option maxHeartbeats 4000000 in
set_option maxRecDepth 100000 in
/-- BanisterWord.waysOfAtMost  -/
theorem c_X10_waysOfAtMost (l : Launch) (E : xE) (g : hG) (n : Nat) (fm m q : Nat) (hf : fm ≤ 99) (hm : m ≤ 6) (hq10 : q ≤ 10) : Ct l yX10_waysOfAtMost cX10_waysOfAtMost 5 (some .int) 1 23 0 0 E [.int (nI fm - nI m - nI 1), .int (nI m), .int (nI q)] (g) n (zr (some (.int (nI (wyF m q (min (m + 1) (fm - m)))))) (g) (n)) := by
  refine Ct.of (by decide +kernel) (Nat.le_of_ble_eq_true rfl) (fun v hv => by simp only [List.mem_cons, List.not_mem_nil, or_false] at hv; (try rcases hv with rfl | rfl | rfl) <;> first | rfl | (subst hv; rfl) | exact hv.elim) ?_
  intro K hKl S
  subst hKl
  have X := S.1
  refine r_iconst (v := nI 0) X dX10_waysOfAtMost_0 (by decide) ?_
  refine r_istore_n X dX10_waysOfAtMost_1 (Nat.le_of_ble_eq_true rfl) ?_
  try dsimp only [List.set]
  refine r_iconst (v := nI 0) X dX10_waysOfAtMost_2 (by decide) ?_
  refine r_istore X dX10_waysOfAtMost_3 (Nat.le_of_ble_eq_true rfl) ?_
  try dsimp only [List.set]
  have hloop : ∀ (k : Nat), k ≤ (min (m + 1) (fm - m)) → Wg K E (0) (0) 5 [some (.int (nI fm - nI m - nI 1)), some (.int (nI m)), some (.int (nI q)), some (.int (nI (wyF m q k))), some (.int (nI k))] [] (g) (n) := by
    refine ind_up _ ((min (m + 1) (fm - m))) (fun k hk ih => ?_)
    refine r_iload X dX10_waysOfAtMost_5 rfl ?_
    refine r_iload_n X dX10_waysOfAtMost_7 rfl ?_
    refine r_icmp_gtN X 51 dX10_waysOfAtMost_8 (by decide) (by omega) (by omega) (fun c_8 => ?_) (fun c_8 => ?_)
    · skip
      refine r_iload_n X dX10_waysOfAtMost_51 rfl ?_
      refine r_iret S dX10_waysOfAtMost_52 ?_
      have e9 : k = (min (m + 1) (fm - m)) := by omega
      rw [← e9]
      exact ⟨rfl, rfl, rfl⟩
    · skip
      have hk6 : k ≤ m := c_8
      refine r_iload X dX10_waysOfAtMost_11 rfl ?_
      refine r_iload_n X dX10_waysOfAtMost_13 rfl ?_
      refine r_icmp_gt X 51 dX10_waysOfAtMost_14 (by decide) (fun c_14 => ?_) (fun c_14 => ?_)
      · skip
        have h14 := (sp_lt hf hm (by omega)).mp c_14
        refine r_iload_n X dX10_waysOfAtMost_51 rfl ?_
        refine r_iret S dX10_waysOfAtMost_52 ?_
        have e9 : k = (min (m + 1) (fm - m)) := by omega
        rw [← e9]
        exact ⟨rfl, rfl, rfl⟩
      · skip
        have h14 : ¬ fm < k + m + 1 := fun q9 => c_14 ((sp_lt hf hm (by omega)).mpr q9)
        refine r_iload_n X dX10_waysOfAtMost_17 rfl ?_
        refine r_iload_n X dX10_waysOfAtMost_18 rfl ?_
        refine r_iload X dX10_waysOfAtMost_19 rfl ?_
        refine r_callS X rfl (c_X10_choices _ E _ n m k hm hk6) tw_622 tw_623 tw_1 tw_624 rfl ⟨ok_X10_choices, ⟨Nat.le_of_ble_eq_true rfl, Nat.le_of_ble_eq_true rfl⟩, ⟨Nat.le_of_ble_eq_true rfl, Nat.le_of_ble_eq_true rfl⟩, Nat.le_of_ble_eq_true rfl⟩ dX10_waysOfAtMost_21 (kk_r (Wf := Wg K E _ _ _ _) ?_)
        refine r_iload_n X dX10_waysOfAtMost_24 rfl ?_
        refine r_iload X dX10_waysOfAtMost_25 rfl ?_
        refine r_callS X rfl (c_X10_power _ E _ n q k (by omega)) tw_616 tw_617 tw_1 tw_618 rfl ⟨ok_X10_power, ⟨Nat.le_of_ble_eq_true rfl, Nat.le_of_ble_eq_true rfl⟩, ⟨Nat.le_of_ble_eq_true rfl, Nat.le_of_ble_eq_true rfl⟩, Nat.le_of_ble_eq_true rfl⟩ dX10_waysOfAtMost_27 (kk_r (Wf := Wg K E _ _ _ _) ?_)
        first | refine r_imulN X dX10_waysOfAtMost_30 ?_ | refine r_imul X _ dX10_waysOfAtMost_30 rfl ?_
        refine r_bipush (v := nI 10) X dX10_waysOfAtMost_31 (by decide) ?_
        refine r_iload_n X dX10_waysOfAtMost_33 rfl ?_
        first | refine r_isubN X dX10_waysOfAtMost_34 (by omega) ?_ | refine r_isub X _ dX10_waysOfAtMost_34 rfl ?_
        refine r_iload_n X dX10_waysOfAtMost_35 rfl ?_
        refine r_iload X dX10_waysOfAtMost_36 rfl ?_
        first | refine r_isubN X dX10_waysOfAtMost_38 (by omega) ?_ | refine r_isub X _ dX10_waysOfAtMost_38 rfl ?_
        refine r_callS X rfl (c_X10_power _ E _ n (10 - q) (m - k) (by omega)) tw_616 tw_617 tw_1 tw_618 rfl ⟨ok_X10_power, ⟨Nat.le_of_ble_eq_true rfl, Nat.le_of_ble_eq_true rfl⟩, ⟨Nat.le_of_ble_eq_true rfl, Nat.le_of_ble_eq_true rfl⟩, Nat.le_of_ble_eq_true rfl⟩ dX10_waysOfAtMost_39 (kk_r (Wf := Wg K E _ _ _ _) ?_)
        first | refine r_imulN X dX10_waysOfAtMost_42 ?_ | refine r_imul X _ dX10_waysOfAtMost_42 rfl ?_
        first | refine r_iaddN X dX10_waysOfAtMost_43 ?_ | refine r_iadd X _ dX10_waysOfAtMost_43 rfl ?_
        refine r_istore_n X dX10_waysOfAtMost_44 (Nat.le_of_ble_eq_true rfl) ?_
        try dsimp only [List.set]
        first | refine r_iincN X dX10_waysOfAtMost_45 rfl ?_ | refine r_iinc X _ dX10_waysOfAtMost_45 rfl rfl ?_
        try dsimp only [List.set]
        refine r_goto X 5 dX10_waysOfAtMost_48 (by decide) ?_
        exact ih (by omega)
  exact hloop 0 (Nat.zero_le _)

set_option maxHeartbeats 4000000 in
set_option maxRecDepth 100000 in
/-- BanisterWord.commonDivisor  -/
theorem c_X10_commonDivisor (l : Launch) (E : xE) (g : hG) (n : Nat) (w t : Nat) (hw : 0 < w) (hw6 : w ≤ 1000000) (ht : t ≤ w) : Ct l yX10_commonDivisor cX10_commonDivisor 6 (some .int) 1 48 0 0 E [.int (nI w), .int (nI t)] (g) n (zr (some (.int (nI (Nat.gcd w t)))) (g) (n)) := by
  refine Ct.of (by decide +kernel) (Nat.le_of_ble_eq_true rfl) (fun v hv => by simp only [List.mem_cons, List.not_mem_nil, or_false] at hv; (try rcases hv with rfl | rfl) <;> first | rfl | (subst hv; rfl) | exact hv.elim) ?_
  intro K hKl S
  subst hKl
  have X := S.1
  refine r_iload_n X dX10_commonDivisor_0 rfl ?_
  refine r_istore_n X dX10_commonDivisor_1 (Nat.le_of_ble_eq_true rfl) ?_
  try dsimp only [List.set]
  refine r_iload_n X dX10_commonDivisor_2 rfl ?_
  refine r_istore_n X dX10_commonDivisor_3 (Nat.le_of_ble_eq_true rfl) ?_
  try dsimp only [List.set]
  refine r_iconst (v := nI 0) X dX10_commonDivisor_4 (by decide) ?_
  refine r_istore X dX10_commonDivisor_5 (Nat.le_of_ble_eq_true rfl) ?_
  try dsimp only [List.set]
  have hloop : ∀ (k : Nat), k ≤ 100 → ∀ (a b : Nat) (u_ : Option Value), (Nat.gcd w t = Nat.gcd a b ∧ b ≤ a ∧ 0 < a ∧ a ≤ 1000000 ∧ a * b * 2 ^ k ≤ 1000000 * 1000000) → Wg K E (0) (0) 7 [some (.int (nI w)), some (.int (nI t)), some (.int (nI a)), some (.int (nI b)), some (.int (nI k)), u_] [] (g) (n) := by
    refine ind_up _ (100) (fun k hk ih a b u_ hq => ?_)
    obtain ⟨g1, g2, g3, g4, g5⟩ := hq
    refine r_iload X dX10_commonDivisor_7 rfl ?_
    refine r_bipush (v := nI 100) X dX10_commonDivisor_9 (by decide) ?_
    refine r_icmp_geN X 34 dX10_commonDivisor_11 (by decide) (by omega) (by omega) (fun c_11 => ?_) (fun c_11 => ?_)
    · skip
      obtain rfl : k = 100 := by omega
      have hb0 : b = 0 := by
        rcases Nat.eq_zero_or_pos b with q | q
        · exact q
        · have h9 : 1 * 2 ^ 100 ≤ a * b * 2 ^ 100 := Nat.mul_le_mul_right _ (Nat.mul_pos g3 q)
          have h8 : (1000000 * 1000000 : Nat) < 1 * 2 ^ 100 := by decide
          omega
      refine r_iconst (v := nI 1) X dX10_commonDivisor_34 (by decide) ?_
      refine r_iload_n X dX10_commonDivisor_35 rfl ?_
      refine r_max X rfl tw_572 tw_524 tw_18 tw_525 (Nat.le_of_ble_eq_true rfl) (Nat.le_of_ble_eq_true rfl) (Nat.le_of_ble_eq_true rfl) (Nat.le_of_ble_eq_true rfl) dX10_commonDivisor_36 ?_
      refine r_top _ _ (nI_max (by omega) (by omega)) ?_
      refine r_iret S dX10_commonDivisor_39 ?_
      refine ⟨?_, rfl, rfl⟩
      rw [g1, hb0, Nat.gcd_zero_right, Nat.max_eq_right (by omega)]
    · skip
      refine r_iload_n X dX10_commonDivisor_14 rfl ?_
      refine r_if_leN X 34 dX10_commonDivisor_15 (by decide) (by omega) (fun c_15 => ?_) (fun c_15 => ?_)
      · skip
        have hb0 := c_15
        refine r_iconst (v := nI 1) X dX10_commonDivisor_34 (by decide) ?_
        refine r_iload_n X dX10_commonDivisor_35 rfl ?_
        refine r_max X rfl tw_572 tw_524 tw_18 tw_525 (Nat.le_of_ble_eq_true rfl) (Nat.le_of_ble_eq_true rfl) (Nat.le_of_ble_eq_true rfl) (Nat.le_of_ble_eq_true rfl) dX10_commonDivisor_36 ?_
        refine r_top _ _ (nI_max (by omega) (by omega)) ?_
        refine r_iret S dX10_commonDivisor_39 ?_
        refine ⟨?_, rfl, rfl⟩
        rw [g1, hb0, Nat.gcd_zero_right, Nat.max_eq_right (by omega)]
      · skip
        refine r_iload_n X dX10_commonDivisor_18 rfl ?_
        refine r_iload_n X dX10_commonDivisor_19 rfl ?_
        refine r_iremN X dX10_commonDivisor_20 (by omega) (by omega) (by omega) ?_
        refine r_istore X dX10_commonDivisor_21 (Nat.le_of_ble_eq_true rfl) ?_
        try dsimp only [List.set]
        refine r_iload_n X dX10_commonDivisor_23 rfl ?_
        refine r_istore_n X dX10_commonDivisor_24 (Nat.le_of_ble_eq_true rfl) ?_
        try dsimp only [List.set]
        refine r_iload X dX10_commonDivisor_25 rfl ?_
        refine r_istore_n X dX10_commonDivisor_27 (Nat.le_of_ble_eq_true rfl) ?_
        try dsimp only [List.set]
        first | refine r_iincN X dX10_commonDivisor_28 rfl ?_ | refine r_iinc X _ dX10_commonDivisor_28 rfl rfl ?_
        try dsimp only [List.set]
        refine r_goto X 7 dX10_commonDivisor_31 (by decide) ?_
        have hm := Nat.mod_lt a c_15
        refine ih (by omega) b (a % b) _ ⟨?_, by omega, c_15, by omega, ?_⟩
        · rw [g1, Nat.gcd_comm a b, Nat.gcd_rec b a, Nat.gcd_comm]
        · have h2 := half_mod c_15 g2
          have h3 : b * (a % b) * 2 ^ (k + 1) = b * (2 * (a % b)) * 2 ^ k := by rw [Nat.pow_succ]; ac_rfl
          rw [h3]
          refine Nat.le_trans (Nat.mul_le_mul_right _ (Nat.mul_le_mul_left b h2)) ?_
          rw [Nat.mul_comm b a]; exact g5
  refine hloop 0 (Nat.zero_le _) w t _ ⟨rfl, ht, hw, hw6, ?_⟩
  rw [Nat.pow_zero, Nat.mul_one]; exact Nat.mul_le_mul hw6 (by omega)

set_option maxHeartbeats 4000000 in
set_option maxRecDepth 100000 in
/-- BanisterWord.palms  -/
theorem c_X10_palms (l : Launch) (E : xE) (g : hG) (n : Nat) (Y : Nat) (v : Nat → Nat) (F : Nat → Nat → Nat) (P SP : Nat → Option Nat) (N : Mo) (Mp Kp : Nat → Mo) (x y z u o : Int32) (hN9 : ∀ j, N.2.1 j ≤ 99) (h0 : v 0 ≤ 12) : Ct l yX10_palms cX10_palms 10 (some .int) 2 73 0 0 E [.ref Y, .int x, .int y, .int z, .int u, .int o] (bG E g Y v F P SP N Mp Kp) n (zr (some (.int (palmsR (v 0) N.2.1 x y z u o))) (bG E g Y v F P SP N Mp Kp) (n)) := by
  refine Ct.of (by decide +kernel) (Nat.le_of_ble_eq_true rfl) (fun v hv => by simp only [List.mem_cons, List.not_mem_nil, or_false] at hv; (try rcases hv with rfl | rfl | rfl | rfl | rfl | rfl) <;> first | rfl | (subst hv; rfl) | exact hv.elim) ?_
  intro K hKl S
  subst hKl
  have X := S.1
  refine r_aload_n X dX10_palms_0 rfl ?_
  refine r_iload_n X dX10_palms_1 rfl ?_
  refine r_callV (ci := 9) X rfl (c_X10_isStep _ E g n Y v F P SP N Mp Kp x h0) tw_413 tw_415 tp_12 tw_1 tw_416 rfl rfl (by first | exact b0 | exact bnow.c0 | exact bnow.rl.1 | exact bnow.c4 | exact bta.1 | exact b4 | exact btold.1 | exact btrial.1 | exact bpast.c0 | exact bk | exact bz | exact bsi.c0 | assumption) rfl ⟨ok_X10_isStep, ⟨Nat.le_of_ble_eq_true rfl, Nat.le_of_ble_eq_true rfl⟩, ⟨Nat.le_of_ble_eq_true rfl, Nat.le_of_ble_eq_true rfl⟩, Nat.le_of_ble_eq_true rfl⟩ dX10_palms_2 (kk_r (Wf := Wg K E _ _ _ _) ?_)
  refine r_if_eqB X 15 dX10_palms_5 (by decide) (fun c_5 => ?_) (fun c_5 => ?_)
  · skip
    refine r_bipush (v := (-2)) X dX10_palms_15 (by decide) ?_
    refine r_iret S dX10_palms_17 ?_
    exact ⟨by unfold palmsR; rw [if_neg (by simp [*])], rfl, rfl⟩
  · skip
    refine r_iload_n X dX10_palms_8 rfl ?_
    refine r_callS X rfl (c_X10_isHeight _ E _ n y) tw_417 tw_418 tw_1 tw_419 rfl ⟨ok_X10_isHeight, ⟨Nat.le_of_ble_eq_true rfl, Nat.le_of_ble_eq_true rfl⟩, ⟨Nat.le_of_ble_eq_true rfl, Nat.le_of_ble_eq_true rfl⟩, Nat.le_of_ble_eq_true rfl⟩ dX10_palms_9 (kk_r (Wf := Wg K E _ _ _ _) ?_)
    refine r_if_neB X 18 dX10_palms_12 (by decide) (fun c_12 => ?_) (fun c_12 => ?_)
    · skip
      obtain ⟨s, hs, rfl⟩ := inR_ex (by omega) c_5
      obtain ⟨t, ht, rfl⟩ := inR_ex (by decide) c_12
      have h1x : ix (nI s) = s := ix_nI (by omega)
      have h2x : ix (nI t) = t := ix_nI (by omega)
      have b2 := hN9 (s * 2 + t)
      refine r_iload_n X dX10_palms_18 rfl ?_
      refine r_if_lt X 51 dX10_palms_19 (by decide) (fun c_19 => ?_) (fun c_19 => ?_)
      · skip
        refine r_bipush (v := (-3)) X dX10_palms_51 (by decide) ?_
        refine r_iret S dX10_palms_53 ?_
        have hno : ¬ (inR z 7 = true ∧ inR u 11 = true ∧ inR o 2 = true) := by first | (rw [inR_lt c_19]; simp; done) | (rw [gt_out (n := 6) (by decide) (Int32.not_le.mpr c_25)]; simp; done) | (rw [inR_lt c_30]; simp; done) | (rw [gt_out (n := 10) (by decide) (Int32.not_le.mpr c_37)]; simp; done) | (rw [inR_lt c_42]; simp; done) | (rw [gt_out (n := 1) (by decide) c_48]; simp; done)
        exact ⟨by unfold palmsR; rw [if_pos ⟨c_5, c_12⟩, if_neg hno], rfl, rfl⟩
      · skip
        refine r_iload_n X dX10_palms_22 rfl ?_
        refine r_bipush (v := nI 6) X dX10_palms_23 (by decide) ?_
        refine r_icmp_gt X 51 dX10_palms_25 (by decide) (fun c_25 => ?_) (fun c_25 => ?_)
        · skip
          refine r_bipush (v := (-3)) X dX10_palms_51 (by decide) ?_
          refine r_iret S dX10_palms_53 ?_
          have hno : ¬ (inR z 7 = true ∧ inR u 11 = true ∧ inR o 2 = true) := by first | (rw [inR_lt c_19]; simp; done) | (rw [gt_out (n := 6) (by decide) (Int32.not_le.mpr c_25)]; simp; done) | (rw [inR_lt c_30]; simp; done) | (rw [gt_out (n := 10) (by decide) (Int32.not_le.mpr c_37)]; simp; done) | (rw [inR_lt c_42]; simp; done) | (rw [gt_out (n := 1) (by decide) c_48]; simp; done)
          exact ⟨by unfold palmsR; rw [if_pos ⟨c_5, c_12⟩, if_neg hno], rfl, rfl⟩
        · skip
          refine r_iload X dX10_palms_28 rfl ?_
          refine r_if_lt X 51 dX10_palms_30 (by decide) (fun c_30 => ?_) (fun c_30 => ?_)
          · skip
            refine r_bipush (v := (-3)) X dX10_palms_51 (by decide) ?_
            refine r_iret S dX10_palms_53 ?_
            have hno : ¬ (inR z 7 = true ∧ inR u 11 = true ∧ inR o 2 = true) := by first | (rw [inR_lt c_19]; simp; done) | (rw [gt_out (n := 6) (by decide) (Int32.not_le.mpr c_25)]; simp; done) | (rw [inR_lt c_30]; simp; done) | (rw [gt_out (n := 10) (by decide) (Int32.not_le.mpr c_37)]; simp; done) | (rw [inR_lt c_42]; simp; done) | (rw [gt_out (n := 1) (by decide) c_48]; simp; done)
            exact ⟨by unfold palmsR; rw [if_pos ⟨c_5, c_12⟩, if_neg hno], rfl, rfl⟩
          · skip
            refine r_iload X dX10_palms_33 rfl ?_
            refine r_bipush (v := nI 10) X dX10_palms_35 (by decide) ?_
            refine r_icmp_gt X 51 dX10_palms_37 (by decide) (fun c_37 => ?_) (fun c_37 => ?_)
            · skip
              refine r_bipush (v := (-3)) X dX10_palms_51 (by decide) ?_
              refine r_iret S dX10_palms_53 ?_
              have hno : ¬ (inR z 7 = true ∧ inR u 11 = true ∧ inR o 2 = true) := by first | (rw [inR_lt c_19]; simp; done) | (rw [gt_out (n := 6) (by decide) (Int32.not_le.mpr c_25)]; simp; done) | (rw [inR_lt c_30]; simp; done) | (rw [gt_out (n := 10) (by decide) (Int32.not_le.mpr c_37)]; simp; done) | (rw [inR_lt c_42]; simp; done) | (rw [gt_out (n := 1) (by decide) c_48]; simp; done)
              exact ⟨by unfold palmsR; rw [if_pos ⟨c_5, c_12⟩, if_neg hno], rfl, rfl⟩
            · skip
              refine r_iload X dX10_palms_40 rfl ?_
              refine r_if_lt X 51 dX10_palms_42 (by decide) (fun c_42 => ?_) (fun c_42 => ?_)
              · skip
                refine r_bipush (v := (-3)) X dX10_palms_51 (by decide) ?_
                refine r_iret S dX10_palms_53 ?_
                have hno : ¬ (inR z 7 = true ∧ inR u 11 = true ∧ inR o 2 = true) := by first | (rw [inR_lt c_19]; simp; done) | (rw [gt_out (n := 6) (by decide) (Int32.not_le.mpr c_25)]; simp; done) | (rw [inR_lt c_30]; simp; done) | (rw [gt_out (n := 10) (by decide) (Int32.not_le.mpr c_37)]; simp; done) | (rw [inR_lt c_42]; simp; done) | (rw [gt_out (n := 1) (by decide) c_48]; simp; done)
                exact ⟨by unfold palmsR; rw [if_pos ⟨c_5, c_12⟩, if_neg hno], rfl, rfl⟩
              · skip
                refine r_iload X dX10_palms_45 rfl ?_
                refine r_iconst (v := nI 1) X dX10_palms_47 (by decide) ?_
                refine r_icmp_le X 54 dX10_palms_48 (by decide) (fun c_48 => ?_) (fun c_48 => ?_)
                · skip
                  have hz := le_in (n := 6) (by decide) c_19 (Int32.not_lt.mp c_25)
                  have hu1 := le_in (n := 10) (by decide) c_30 (Int32.not_lt.mp c_37)
                  have ho := le_in (n := 1) (by decide) c_42 c_48
                  obtain ⟨m, hm, rfl⟩ := inR_ex (by decide) hz
                  obtain ⟨q, hq, rfl⟩ := inR_ex (by decide) hu1
                  obtain ⟨b, hb, rfl⟩ := inR_ex (by decide) ho
                  have h3x : ix (nI m) = m := ix_nI (by omega)
                  have h4x : ix (nI q) = q := ix_nI (by omega)
                  have h5x : ix (nI b) = b := ix_nI (by omega)
                  have hwy : (wyF m q (min (m + 1) (N.2.1 (s * 2 + t) - m))) ≤ 10 ^ m := wyF_le m (by omega) q (by omega) _ (by omega)
                  have hgp : 0 < Nat.gcd (10 ^ m) (wyF m q (min (m + 1) (N.2.1 (s * 2 + t) - m))) := Nat.gcd_pos_of_pos_left _ (p10_pos m)
                  refine r_aload_n X dX10_palms_54 rfl ?_
                  refine r_get (ci := 9) X 4 _ ti_RX10 rfl (by decide) tw_143 (fun _ h => h) dX10_palms_55 (by first | exact b0 | exact bnow.c0 | exact bnow.rl.1 | exact bnow.c4 | exact bta.1 | exact b4 | exact btold.1 | exact btrial.1 | exact bpast.c0 | exact bk | exact bz | exact bsi.c0 | assumption) rfl ?_
                  refine r_get (ci := 4) X 0 _ ti_RX4 rfl (by decide) tw_82 (fun _ h => h) dX10_palms_58 (by first | exact b0 | exact bnow.c0 | exact bnow.rl.1 | exact bnow.c4 | exact bta.1 | exact b4 | exact btold.1 | exact btrial.1 | exact bpast.c0 | exact bk | exact bz | exact bsi.c0 | assumption) rfl ?_
                  refine r_iload_n X dX10_palms_61 rfl ?_
                  refine r_iload_n X dX10_palms_62 rfl ?_
                  refine r_callV (ci := 6) X rfl (c_X7_firmAt _ E _ n (Y + 11 + 1) N.1 N.2.1 s t bnow.rl (by omega)) tw_428 tw_429 tw_430 tw_3 tw_431 rfl rfl (by first | exact b0 | exact bnow.c0 | exact bnow.rl.1 | exact bnow.c4 | exact bta.1 | exact b4 | exact btold.1 | exact btrial.1 | exact bpast.c0 | exact bk | exact bz | exact bsi.c0 | assumption) rfl ⟨ok_X7_firmAt, ⟨Nat.le_of_ble_eq_true rfl, Nat.le_of_ble_eq_true rfl⟩, ⟨Nat.le_of_ble_eq_true rfl, Nat.le_of_ble_eq_true rfl⟩, Nat.le_of_ble_eq_true rfl⟩ dX10_palms_63 (kk_r (Wf := Wg K E _ _ _ _) ?_)
                  refine r_iload_n X dX10_palms_66 rfl ?_
                  refine r_isub X _ dX10_palms_67 rfl ?_
                  refine r_iconst (v := nI 1) X dX10_palms_68 (by decide) ?_
                  refine r_isub X _ dX10_palms_69 rfl ?_
                  refine r_istore X dX10_palms_70 (Nat.le_of_ble_eq_true rfl) ?_
                  try dsimp only [List.set]
                  refine r_bipush (v := nI 10) X dX10_palms_72 (by decide) ?_
                  refine r_iload_n X dX10_palms_74 rfl ?_
                  refine r_callS X rfl (c_X10_power _ E _ n 10 m (by omega)) tw_616 tw_617 tw_1 tw_618 rfl ⟨ok_X10_power, ⟨Nat.le_of_ble_eq_true rfl, Nat.le_of_ble_eq_true rfl⟩, ⟨Nat.le_of_ble_eq_true rfl, Nat.le_of_ble_eq_true rfl⟩, Nat.le_of_ble_eq_true rfl⟩ dX10_palms_75 (kk_r (Wf := Wg K E _ _ _ _) ?_)
                  refine r_istore X dX10_palms_78 (Nat.le_of_ble_eq_true rfl) ?_
                  try dsimp only [List.set]
                  refine r_iload X dX10_palms_80 rfl ?_
                  refine r_iload_n X dX10_palms_82 rfl ?_
                  refine r_iload X dX10_palms_83 rfl ?_
                  refine r_callS X rfl (c_X10_waysOfAtMost _ E _ n (N.2.1 (s * 2 + t)) m q b2 (by omega) (by omega)) tw_619 tw_620 tw_1 tw_621 rfl ⟨ok_X10_waysOfAtMost, ⟨Nat.le_of_ble_eq_true rfl, Nat.le_of_ble_eq_true rfl⟩, ⟨Nat.le_of_ble_eq_true rfl, Nat.le_of_ble_eq_true rfl⟩, Nat.le_of_ble_eq_true rfl⟩ dX10_palms_85 (kk_r (Wf := Wg K E _ _ _ _) ?_)
                  refine r_istore X dX10_palms_88 (Nat.le_of_ble_eq_true rfl) ?_
                  try dsimp only [List.set]
                  refine r_iload X dX10_palms_90 rfl ?_
                  refine r_iload X dX10_palms_92 rfl ?_
                  refine r_callS X rfl (c_X10_commonDivisor _ E _ n (10 ^ m) (wyF m q (min (m + 1) (N.2.1 (s * 2 + t) - m))) (p10_pos m) (p10_le (by omega)) hwy) tw_625 tw_626 tw_1 tw_627 rfl ⟨ok_X10_commonDivisor, ⟨Nat.le_of_ble_eq_true rfl, Nat.le_of_ble_eq_true rfl⟩, ⟨Nat.le_of_ble_eq_true rfl, Nat.le_of_ble_eq_true rfl⟩, Nat.le_of_ble_eq_true rfl⟩ dX10_palms_94 (kk_r (Wf := Wg K E _ _ _ _) ?_)
                  refine r_istore X dX10_palms_97 (Nat.le_of_ble_eq_true rfl) ?_
                  try dsimp only [List.set]
                  refine r_iload X dX10_palms_99 rfl ?_
                  refine r_if_neN X 109 dX10_palms_101 (by decide) (by omega) (fun c_101 => ?_) (fun c_101 => ?_)
                  · skip
                    refine r_iload X dX10_palms_109 rfl ?_
                    refine r_iload X dX10_palms_111 rfl ?_
                    refine r_idivN X dX10_palms_113 (by have := p10_le (n := m) (by omega); omega) hgp (by have := Nat.le_of_dvd (p10_pos m) (Nat.gcd_dvd_left (10 ^ m) (wyF m q (min (m + 1) (N.2.1 (s * 2 + t) - m)))); have := p10_le (n := m) (by omega); omega) ?_
                    refine r_iret S dX10_palms_114 ?_
                    refine ⟨?_, rfl, rfl⟩
                    unfold palmsR
                    rw [if_pos ⟨c_5, c_12⟩, if_pos ⟨hz, hu1, ho⟩, h1x, h2x, h3x, h4x, h5x]
                    first | rw [if_pos c_101] | rw [if_neg (Nat.ne_of_gt c_101)]
                  · skip
                    refine r_iload X dX10_palms_104 rfl ?_
                    refine r_goto X 111 dX10_palms_106 (by decide) ?_
                    refine r_iload X dX10_palms_111 rfl ?_
                    refine r_idivN X dX10_palms_113 (by have := p10_le (n := m) (by omega); omega) hgp (by have := Nat.le_of_dvd (p10_pos m) (Nat.gcd_dvd_left (10 ^ m) (wyF m q (min (m + 1) (N.2.1 (s * 2 + t) - m)))); have := p10_le (n := m) (by omega); omega) ?_
                    refine r_iret S dX10_palms_114 ?_
                    refine ⟨?_, rfl, rfl⟩
                    unfold palmsR
                    rw [if_pos ⟨c_5, c_12⟩, if_pos ⟨hz, hu1, ho⟩, h1x, h2x, h3x, h4x, h5x]
                    first | rw [if_pos c_101] | rw [if_neg (Nat.ne_of_gt c_101)]
                · skip
                  refine r_bipush (v := (-3)) X dX10_palms_51 (by decide) ?_
                  refine r_iret S dX10_palms_53 ?_
                  have hno : ¬ (inR z 7 = true ∧ inR u 11 = true ∧ inR o 2 = true) := by first | (rw [inR_lt c_19]; simp; done) | (rw [gt_out (n := 6) (by decide) (Int32.not_le.mpr c_25)]; simp; done) | (rw [inR_lt c_30]; simp; done) | (rw [gt_out (n := 10) (by decide) (Int32.not_le.mpr c_37)]; simp; done) | (rw [inR_lt c_42]; simp; done) | (rw [gt_out (n := 1) (by decide) c_48]; simp; done)
                  exact ⟨by unfold palmsR; rw [if_pos ⟨c_5, c_12⟩, if_neg hno], rfl, rfl⟩
    · skip
      refine r_bipush (v := (-2)) X dX10_palms_15 (by decide) ?_
      refine r_iret S dX10_palms_17 ?_
      exact ⟨by unfold palmsR; rw [if_neg (by simp [*])], rfl, rfl⟩

