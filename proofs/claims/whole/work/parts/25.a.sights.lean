/-- Sights at a -/
def siCell (E : xE) (a sz : Nat) (P : Nat → Option Nat) (st sy hd : Nat → Nat) (k : Nat) : va_E := if k = 0 then oc 7 [.ref (a + 1), .ref (a + 2), .ref (a + 3), .ref (a + 4), .int (nI sz)] else if k = 1 then qc E 3 6 P else if k = 2 then nc E 6 st else if k = 3 then nc E 6 sy else nc E 6 hd
def sG (E : xE) (g : hG) (a sz : Nat) (P : Nat → Option Nat) (st sy hd : Nat → Nat) : hG := blk g a 5 (siCell E a sz P st sy hd)
def sa (E : xE) (g : hG) (a sz : Nat) (P : Nat → Option Nat) (st sy hd : Nat → Nat) : Prop := ∀ k, k < 5 → g (a + k) = some (siCell E a sz P st sy hd k)
theorem sa.c0 {E : xE} {g : hG} {a sz : Nat} {P : Nat → Option Nat} {st sy hd : Nat → Nat} (h : sa E g a sz P st sy hd) : g a = some (oc 7 [.ref (a + 1), .ref (a + 2), .ref (a + 3), .ref (a + 4), .int (nI sz)]) := h 0 (by decide)
theorem sa.c1 {E : xE} {g : hG} {a sz : Nat} {P : Nat → Option Nat} {st sy hd : Nat → Nat} (h : sa E g a sz P st sy hd) : g (a + 1) = some (qc E 3 6 P) := h 1 (by decide)
theorem sa.c2 {E : xE} {g : hG} {a sz : Nat} {P : Nat → Option Nat} {st sy hd : Nat → Nat} (h : sa E g a sz P st sy hd) : g (a + 2) = some (nc E 6 st) := h 2 (by decide)
theorem sa.c3 {E : xE} {g : hG} {a sz : Nat} {P : Nat → Option Nat} {st sy hd : Nat → Nat} (h : sa E g a sz P st sy hd) : g (a + 3) = some (nc E 6 sy) := h 3 (by decide)
theorem sa.c4 {E : xE} {g : hG} {a sz : Nat} {P : Nat → Option Nat} {st sy hd : Nat → Nat} (h : sa E g a sz P st sy hd) : g (a + 4) = some (nc E 6 hd) := h 4 (by decide)
theorem sG_eq {E : xE} {g G : hG} {a sz : Nat} {P : Nat → Option Nat} {st sy hd : Nat → Nat} (h0 : G a = some (oc 7 [.ref (a + 1), .ref (a + 2), .ref (a + 3), .ref (a + 4), .int (nI sz)])) (h1 : G (a + 1) = some (qc E 3 6 P)) (h2 : G (a + 2) = some (nc E 6 st)) (h3 : G (a + 3) = some (nc E 6 sy)) (h4 : G (a + 4) = some (nc E 6 hd)) (ho : ∀ q, q < a ∨ a + 5 ≤ q → G q = g q) : G = sG E g a sz P st sy hd := by
  funext q
  by_cases e : a ≤ q ∧ q < a + 5
  · obtain ⟨k, hk⟩ : ∃ k, q = a + k := ⟨q - a, by omega⟩
    subst hk
    rw [show sG E g a sz P st sy hd (a + k) = some (siCell E a sz P st sy hd k) from blk_in (by omega)]
    rcases (show k = 0 ∨ k = 1 ∨ k = 2 ∨ k = 3 ∨ k = 4 by omega) with rfl | rfl | rfl | rfl | rfl
    · exact h0
    · exact h1
    · exact h2
    · exact h3
    · exact h4
  · rw [ho q (by omega)]
    exact (blk_out (by omega)).symm
/-- all that is seen, the first k of it, is so on rails f -/
def allS (cl st sy hd : Nat → Nat) (f : Nat → Nat) : Nat → Bool
  | 0 => true
  | k + 1 => allS cl st sy hd f k && decide (hearN (cl k) f (st k + 1) / 2 ^ sy k % 2 = hd k)
theorem allS_mono {cl st sy hd f : Nat → Nat} {k : Nat} (h : allS cl st sy hd f k = false) : ∀ d, allS cl st sy hd f (k + d) = false
  | 0 => h
  | d + 1 => by
    have := allS_mono h d
    show (allS cl st sy hd f (k + d) && _) = false
    rw [this]
    rfl
theorem hearN_lt {c : Nat} {f : Nat → Nat} (hf : ∀ j, f j ≤ 7) (k : Nat) : hearN c f k < 256 := by
  unfold hearN
  split
  · exact hbF_lt hf _ _
  · decide

set_option maxHeartbeats 4000000 in
set_option maxRecDepth 100000 in
/-- BanisterWord.Sights.<init>  -/
theorem c_X8_init (l : Launch) (E : xE) (g : hG) (n : Nat) (a : Nat) (hn : n = a + 1) (ha : g a = some (oc 7 [.null, .null, .null, .null, .int 0])) : Ct l yX8_init cX8_init 1 none 1 48 4 24 E [.ref a] (g) n (zr (none) (sG E g a 0 (fun _ => none) (fun _ => 0) (fun _ => 0) (fun _ => 0)) (a + 5)) := by
  refine Ct.of (by decide +kernel) (Nat.le_of_ble_eq_true rfl) (fun v hv => by simp only [List.mem_cons, List.not_mem_nil, or_false] at hv; (try rcases hv with rfl) <;> first | rfl | (subst hv; rfl) | exact hv.elim) ?_
  intro K hKl S
  subst hKl
  have X := S.1
  subst hn
  refine r_aload_n X dX8_init_0 rfl ?_
  refine r_objInit X rfl tw_119 tw_25 tw_26 (Nat.le_of_ble_eq_true rfl) (Nat.le_of_ble_eq_true rfl) dX8_init_1 ?_
  refine r_aload_n X dX8_init_4 rfl ?_
  refine r_bipush (v := nI 6) X dX8_init_5 (by decide) ?_
  refine r_newq (k := 3) X tw_120 X.2.1.2.1.AP rfl 6 rfl (by decide) (Nat.le_of_ble_eq_true rfl) (Nat.le_of_ble_eq_true rfl) dX8_init_7 ?_
  refine r_putF (ci := 7) (ty := .array (.object "BanisterWord$Person")) X 0 ti_RX8 tyX8 tyX8_ok nmX8 rfl (by decide) tw_121 (fun _ h => h) rfl S.2.2.2.2 rfl (by decide +kernel) dX8_init_10 (by first | assumption | (repeat rw [hu_ne _ _ (by omega)]); first | assumption | exact hu_eq _ _ _) rfl rfl (Nat.le_of_ble_eq_true rfl) ?_
  try dsimp only [List.set]
  refine r_aload_n X dX8_init_13 rfl ?_
  refine r_bipush (v := nI 6) X dX8_init_14 (by decide) ?_
  refine r_newi X tw_57 6 rfl (by decide) (Nat.le_of_ble_eq_true rfl) (Nat.le_of_ble_eq_true rfl) dX8_init_16 ?_
  refine r_putF (ci := 7) (ty := .array .int) X 1 ti_RX8 tyX8 tyX8_ok nmX8 rfl (by decide) tw_122 (fun _ h => h) rfl S.2.2.2.2 rfl (by decide +kernel) dX8_init_18 (by first | assumption | (repeat rw [hu_ne _ _ (by omega)]); first | assumption | exact hu_eq _ _ _) rfl rfl (Nat.le_of_ble_eq_true rfl) ?_
  try dsimp only [List.set]
  refine r_aload_n X dX8_init_21 rfl ?_
  refine r_bipush (v := nI 6) X dX8_init_22 (by decide) ?_
  refine r_newi X tw_57 6 rfl (by decide) (Nat.le_of_ble_eq_true rfl) (Nat.le_of_ble_eq_true rfl) dX8_init_24 ?_
  refine r_putF (ci := 7) (ty := .array .int) X 2 ti_RX8 tyX8 tyX8_ok nmX8 rfl (by decide) tw_123 (fun _ h => h) rfl S.2.2.2.2 rfl (by decide +kernel) dX8_init_26 (by first | assumption | (repeat rw [hu_ne _ _ (by omega)]); first | assumption | exact hu_eq _ _ _) rfl rfl (Nat.le_of_ble_eq_true rfl) ?_
  try dsimp only [List.set]
  refine r_aload_n X dX8_init_29 rfl ?_
  refine r_bipush (v := nI 6) X dX8_init_30 (by decide) ?_
  refine r_newi X tw_57 6 rfl (by decide) (Nat.le_of_ble_eq_true rfl) (Nat.le_of_ble_eq_true rfl) dX8_init_32 ?_
  refine r_putF (ci := 7) (ty := .array .int) X 3 ti_RX8 tyX8 tyX8_ok nmX8 rfl (by decide) tw_124 (fun _ h => h) rfl S.2.2.2.2 rfl (by decide +kernel) dX8_init_34 (by first | assumption | (repeat rw [hu_ne _ _ (by omega)]); first | assumption | exact hu_eq _ _ _) rfl rfl (Nat.le_of_ble_eq_true rfl) ?_
  try dsimp only [List.set]
  refine r_vret S dX8_init_37 ?_
  refine ⟨rfl, sG_eq ?_ ?_ ?_ ?_ ?_ (fun q hq => ?_), rfl⟩
  all_goals (repeat rw [hu_ne _ _ (by omega)])
  all_goals first | exact hu_eq _ _ _ | rfl | assumption

set_option maxHeartbeats 4000000 in
set_option maxRecDepth 100000 in
/-- BanisterWord.Sights.add  -/
theorem c_X8_add (l : Launch) (E : xE) (g : hG) (n : Nat) (a sz p c s t b : Nat) (fs : List Value) (P : Nat → Option Nat) (st sy hd : Nat → Nat) (ha : sa E g a sz P st sy hd) (hsz : sz < 6) (hc : c < 4) (hp : g p = some (oc c fs)) : Ct l yX8_add cX8_add 5 none 0 0 0 0 E [.ref a, .ref p, .int (nI s), .int (nI t), .int (nI b)] (g) n (zr (none) (sG E g a (sz + 1) (va_up P sz (some p)) (va_up st sz s) (va_up sy sz t) (va_up hd sz b)) (n)) := by
  refine Ct.of (by decide +kernel) (Nat.le_of_ble_eq_true rfl) (fun v hv => by simp only [List.mem_cons, List.not_mem_nil, or_false] at hv; (try rcases hv with rfl | rfl | rfl | rfl | rfl) <;> first | rfl | (subst hv; rfl) | exact hv.elim) ?_
  intro K hKl S
  subst hKl
  have X := S.1
  have ha0 := ha.c0
  have ha1 := ha.c1
  have ha2 := ha.c2
  have ha3 := ha.c3
  have ha4 := ha.c4
  refine r_aload_n X dX8_add_0 rfl ?_
  refine r_get (ci := 7) X 4 _ ti_RX8 rfl (by decide) tw_125 (fun _ h => h) dX8_add_1 (by first | assumption | (repeat rw [hu_ne _ _ (by omega)]); first | assumption | exact hu_eq _ _ _) rfl ?_
  refine r_bipush (v := nI 6) X dX8_add_4 (by decide) ?_
  refine r_icmp_geN X 60 dX8_add_6 (by decide) (by omega) (by omega) (fun c_6 => ?_) (fun c_6 => ?_)
  · exact absurd c_6 (by omega)
  refine r_aload_n X dX8_add_9 rfl ?_
  refine r_get (ci := 7) X 0 _ ti_RX8 rfl (by decide) tw_121 (fun _ h => h) dX8_add_10 (by first | assumption | (repeat rw [hu_ne _ _ (by omega)]); first | assumption | exact hu_eq _ _ _) rfl ?_
  refine r_aload_n X dX8_add_13 rfl ?_
  refine r_get (ci := 7) X 4 _ ti_RX8 rfl (by decide) tw_125 (fun _ h => h) dX8_add_14 (by first | assumption | (repeat rw [hu_ne _ _ (by omega)]); first | assumption | exact hu_eq _ _ _) rfl ?_
  refine r_aload_n X dX8_add_17 rfl ?_
  refine r_aast (k := 3) X _ dX8_add_18 rfl (by first | assumption | (repeat rw [hu_ne _ _ (by omega)]); first | assumption | exact hu_eq _ _ _) (any_P X hc hp) (rfl) (by omega) (by decide) ?_
  refine r_aload_n X dX8_add_19 rfl ?_
  refine r_get (ci := 7) X 1 _ ti_RX8 rfl (by decide) tw_122 (fun _ h => h) dX8_add_20 (by first | assumption | (repeat rw [hu_ne _ _ (by omega)]); first | assumption | exact hu_eq _ _ _) rfl ?_
  refine r_aload_n X dX8_add_23 rfl ?_
  refine r_get (ci := 7) X 4 _ ti_RX8 rfl (by decide) tw_125 (fun _ h => h) dX8_add_24 (by first | assumption | (repeat rw [hu_ne _ _ (by omega)]); first | assumption | exact hu_eq _ _ _) rfl ?_
  refine r_iload_n X dX8_add_27 rfl ?_
  refine r_nast X _ dX8_add_28 (by first | assumption | (repeat rw [hu_ne _ _ (by omega)]); first | assumption | exact hu_eq _ _ _) (rfl) (by omega) (by decide) ?_
  refine r_aload_n X dX8_add_29 rfl ?_
  refine r_get (ci := 7) X 2 _ ti_RX8 rfl (by decide) tw_123 (fun _ h => h) dX8_add_30 (by first | assumption | (repeat rw [hu_ne _ _ (by omega)]); first | assumption | exact hu_eq _ _ _) rfl ?_
  refine r_aload_n X dX8_add_33 rfl ?_
  refine r_get (ci := 7) X 4 _ ti_RX8 rfl (by decide) tw_125 (fun _ h => h) dX8_add_34 (by first | assumption | (repeat rw [hu_ne _ _ (by omega)]); first | assumption | exact hu_eq _ _ _) rfl ?_
  refine r_iload_n X dX8_add_37 rfl ?_
  refine r_nast X _ dX8_add_38 (by first | assumption | (repeat rw [hu_ne _ _ (by omega)]); first | assumption | exact hu_eq _ _ _) (rfl) (by omega) (by decide) ?_
  refine r_aload_n X dX8_add_39 rfl ?_
  refine r_get (ci := 7) X 3 _ ti_RX8 rfl (by decide) tw_124 (fun _ h => h) dX8_add_40 (by first | assumption | (repeat rw [hu_ne _ _ (by omega)]); first | assumption | exact hu_eq _ _ _) rfl ?_
  refine r_aload_n X dX8_add_43 rfl ?_
  refine r_get (ci := 7) X 4 _ ti_RX8 rfl (by decide) tw_125 (fun _ h => h) dX8_add_44 (by first | assumption | (repeat rw [hu_ne _ _ (by omega)]); first | assumption | exact hu_eq _ _ _) rfl ?_
  refine r_iload X dX8_add_47 rfl ?_
  refine r_nast X _ dX8_add_49 (by first | assumption | (repeat rw [hu_ne _ _ (by omega)]); first | assumption | exact hu_eq _ _ _) (rfl) (by omega) (by decide) ?_
  refine r_aload_n X dX8_add_50 rfl ?_
  refine r_dup X dX8_add_51 rfl ?_
  refine r_get (ci := 7) X 4 _ ti_RX8 rfl (by decide) tw_125 (fun _ h => h) dX8_add_52 (by first | assumption | (repeat rw [hu_ne _ _ (by omega)]); first | assumption | exact hu_eq _ _ _) rfl ?_
  refine r_iconst (v := nI 1) X dX8_add_55 (by decide) ?_
  first | refine r_iaddN X dX8_add_56 ?_ | refine r_iadd X _ dX8_add_56 rfl ?_
  refine r_put (ci := 7) (ty := .int) X 4 ti_RX8 tyX8 tyX8_ok nmX8 rfl (by decide) tw_125 (fun _ h => h) rfl (by decide +kernel) dX8_add_57 (by first | assumption | (repeat rw [hu_ne _ _ (by omega)]); first | assumption | exact hu_eq _ _ _) rfl rfl (Nat.le_of_ble_eq_true rfl) ?_
  try dsimp only [List.set]
  refine r_vret S dX8_add_60 ?_
  refine ⟨rfl, sG_eq ?_ ?_ ?_ ?_ ?_ (fun q hq => ?_), rfl⟩
  all_goals (repeat rw [hu_ne _ _ (by omega)])
  all_goals first | exact hu_eq _ _ _ | rfl | assumption

set_option maxHeartbeats 4000000 in
set_option maxRecDepth 100000 in
/-- BanisterWord.Sights.allSo  -/
theorem c_X8_allSo (l : Launch) (E : xE) (g : hG) (n : Nat) (a sz r : Nat) (P : Nat → Option Nat) (st sy hd pa_ cl wm f h : Nat → Nat) (ha : sa E g a sz P st sy hd) (hsz : sz ≤ 6) (hr : ra E g r f h) (hf : ∀ j, f j ≤ 7) (hP : ∀ i, i < sz → P i = some (pa_ i) ∧ cl i < 4 ∧ wm i < 1000 ∧ g (pa_ i) = some (oc (cl i) [.int (nI (wm i))]) ∧ st i < 12 ∧ sy i ≤ 7 ∧ hd i ≤ 1) : Ct l yX8_allSo cX8_allSo 4 (some .boolean) 2 45 0 0 E [.ref a, .ref r] (g) n (zr (some (.int (bI (allS cl st sy hd f sz)))) (g) (n)) := by
  refine Ct.of (by decide +kernel) (Nat.le_of_ble_eq_true rfl) (fun v hv => by simp only [List.mem_cons, List.not_mem_nil, or_false] at hv; (try rcases hv with rfl | rfl) <;> first | rfl | (subst hv; rfl) | exact hv.elim) ?_
  intro K hKl S
  subst hKl
  have X := S.1
  have ha0 := ha.c0
  have ha1 := ha.c1
  have ha2 := ha.c2
  have ha3 := ha.c3
  have ha4 := ha.c4
  refine r_iconst (v := nI 0) X dX8_allSo_0 (by decide) ?_
  refine r_istore_n X dX8_allSo_1 (Nat.le_of_ble_eq_true rfl) ?_
  try dsimp only [List.set]
  have hloop : ∀ (k : Nat), k ≤ sz → (allS cl st sy hd f k = true) → ∀ u_ : Option Value, Wg K E (0) (0) 2 [some (.ref a), some (.ref r), some (.int (nI k)), u_] [] (g) (n) := by
    refine ind_up _ (sz) (fun k hk ih hq u_ => ?_)
    refine r_iload_n X dX8_allSo_2 rfl ?_
    refine r_aload_n X dX8_allSo_3 rfl ?_
    refine r_get (ci := 7) X 4 _ ti_RX8 rfl (by decide) tw_125 (fun _ h => h) dX8_allSo_4 (by first | assumption | exact hr.1) rfl ?_
    refine r_icmp_geN X 58 dX8_allSo_7 (by decide) (by omega) (by omega) (fun c_7 => ?_) (fun c_7 => ?_)
    · skip
      refine r_iconst (v := nI 1) X dX8_allSo_58 (by decide) ?_
      refine r_zret S dX8_allSo_59 (by first | rfl | exact bI_nar _) ?_
      obtain rfl : k = sz := by omega
      exact ⟨by rw [hq]; rfl, rfl, rfl⟩
    · skip
      obtain ⟨q1, q2, q3, q4, q5, q6, q7⟩ := hP k c_7
      have hlt := hearN_lt (c := cl k) hf (st k + 1)
      refine r_aload_n X dX8_allSo_10 rfl ?_
      refine r_get (ci := 7) X 0 _ ti_RX8 rfl (by decide) tw_121 (fun _ h => h) dX8_allSo_11 (by first | assumption | exact hr.1) rfl ?_
      refine r_iload_n X dX8_allSo_14 rfl ?_
      refine r_aald (k := 3) X _ (.ref (pa_ k)) dX8_allSo_15 rfl (by first | assumption | exact hr.1) (rfl) (by omega) (by decide) (by rw [q1]; rfl) ?_
      refine r_astore_n X dX8_allSo_16 (Nat.le_of_ble_eq_true rfl) ?_
      try dsimp only [List.set]
      refine r_aload_n X dX8_allSo_17 rfl ?_
      refine r_ifnull X dX8_allSo_18 ?_
      refine r_aload_n X dX8_allSo_21 rfl ?_
      refine r_aload_n X dX8_allSo_22 rfl ?_
      refine r_aload_n X dX8_allSo_23 rfl ?_
      refine r_get (ci := 7) X 1 _ ti_RX8 rfl (by decide) tw_122 (fun _ h => h) dX8_allSo_24 (by first | assumption | exact hr.1) rfl ?_
      refine r_iload_n X dX8_allSo_27 rfl ?_
      refine r_nald X _ dX8_allSo_28 (by first | assumption | exact hr.1) (rfl) (by omega) (by decide) ?_
      refine r_callV (ci := 6) X rfl (c_X7_heardBy _ E g n r (pa_ k) (cl k) (wm k) (st k) f h hr q2 q3 q4 hf q5) tw_607 tw_495 tw_496 tw_3 tw_497 rfl rfl (by first | assumption | exact hr.1) rfl ⟨ok_X7_heardBy, ⟨Nat.le_of_ble_eq_true rfl, Nat.le_of_ble_eq_true rfl⟩, ⟨Nat.le_of_ble_eq_true rfl, Nat.le_of_ble_eq_true rfl⟩, Nat.le_of_ble_eq_true rfl⟩ dX8_allSo_29 (kk_r (Wf := Wg K E _ _ _ _) ?_)
      refine r_aload_n X dX8_allSo_32 rfl ?_
      refine r_get (ci := 7) X 2 _ ti_RX8 rfl (by decide) tw_123 (fun _ h => h) dX8_allSo_33 (by first | assumption | exact hr.1) rfl ?_
      refine r_iload_n X dX8_allSo_36 rfl ?_
      refine r_nald X _ dX8_allSo_37 (by first | assumption | exact hr.1) (rfl) (by omega) (by decide) ?_
      refine r_ishrN X dX8_allSo_38 (by omega) (by omega) ?_
      refine r_iconst (v := nI 1) X dX8_allSo_39 (by decide) ?_
      refine r_iand1N X dX8_allSo_40 (Nat.lt_of_le_of_lt (Nat.div_le_self _ _) (by omega)) ?_
      refine r_aload_n X dX8_allSo_41 rfl ?_
      refine r_get (ci := 7) X 3 _ ti_RX8 rfl (by decide) tw_124 (fun _ h => h) dX8_allSo_42 (by first | assumption | exact hr.1) rfl ?_
      refine r_iload_n X dX8_allSo_45 rfl ?_
      refine r_nald X _ dX8_allSo_46 (by first | assumption | exact hr.1) (rfl) (by omega) (by decide) ?_
      refine r_icmp_eqN X 52 dX8_allSo_47 (by decide) (by omega) (by omega) (fun c_47 => ?_) (fun c_47 => ?_)
      · skip
        first | refine r_iincN X dX8_allSo_52 rfl ?_ | refine r_iinc X _ dX8_allSo_52 rfl rfl ?_
        try dsimp only [List.set]
        refine r_goto X 2 dX8_allSo_55 (by decide) ?_
        exact ih (by omega) (by show (allS cl st sy hd f k && _) = true; rw [hq, c_47]; simp) _
      · skip
        refine r_iconst (v := nI 0) X dX8_allSo_50 (by decide) ?_
        refine r_zret S dX8_allSo_51 (by first | rfl | exact bI_nar _) ?_
        refine ⟨?_, rfl, rfl⟩
        have e1 : allS cl st sy hd f (k + 1) = false := by show (allS cl st sy hd f k && _) = false; rw [hq, decide_eq_false c_47]; rfl
        have e2 := allS_mono e1 (sz - (k + 1))
        rw [show k + 1 + (sz - (k + 1)) = sz by omega] at e2
        rw [e2]; rfl
  exact hloop 0 (Nat.zero_le _) rfl _

