/-- len cells from a on -/
def blk (g : hG) (a len : Nat) (c : Nat → va_E) : hG := fun q => if a ≤ q ∧ q < a + len then some (c (q - a)) else g q
theorem blk_in {g : hG} {a len : Nat} {c : Nat → va_E} {k : Nat} (h : k < len) : blk g a len c (a + k) = some (c k) := by
  unfold blk
  rw [if_pos ⟨by omega, by omega⟩, Nat.add_sub_cancel_left]
theorem blk_0 {g : hG} {a len : Nat} {c : Nat → va_E} (h : 0 < len) : blk g a len c a = some (c 0) := blk_in (k := 0) h
theorem blk_out {g : hG} {a len : Nat} {c : Nat → va_E} {q : Nat} (h : q < a ∨ a + len ≤ q) : blk g a len c q = g q := by
  unfold blk
  rw [if_neg (by omega)]
theorem blk_at {g : hG} {a len : Nat} {c : Nat → va_E} {q k : Nat} (h : k < len) (e : q = a + k) : blk g a len c q = some (c k) := by subst e; exact blk_in h
theorem blk_blk {g : hG} {a len : Nat} {c c' : Nat → va_E} : blk (blk g a len c) a len c' = blk g a len c' := by
  funext q
  unfold blk
  split
  · rfl
  · rfl
theorem blk_congr {g : hG} {a len : Nat} {c c' : Nat → va_E} (h : ∀ k, k < len → c k = c' k) : blk g a len c = blk g a len c' := by
  funext q
  unfold blk
  split
  · rw [h (q - a) (by omega)]
  · rfl
theorem blk_self {g : hG} {a len : Nat} {c : Nat → va_E} (h : ∀ k, k < len → g (a + k) = some (c k)) : blk g a len c = g := by
  funext q
  unfold blk
  split
  · rw [← h (q - a) (by omega)]; congr 1; omega
  · rfl
theorem blk_sub {g : hG} {a len o l : Nat} {c c' : Nat → va_E} (h : o + l ≤ len) : blk (blk g a len c) (a + o) l c' = blk g a len (fun k => if o ≤ k ∧ k < o + l then c' (k - o) else c k) := by
  funext q
  simp only [blk]
  by_cases e : a + o ≤ q ∧ q < a + o + l
  · rw [if_pos e, if_pos (show a ≤ q ∧ q < a + len by omega), if_pos (show o ≤ q - a ∧ q - a < o + l by omega)]; congr 2; omega
  · rw [if_neg e]
    by_cases e2 : a ≤ q ∧ q < a + len
    · rw [if_pos e2, if_pos e2, if_neg (show ¬ (o ≤ q - a ∧ q - a < o + l) by omega)]
    · rw [if_neg e2, if_neg e2]
theorem blk_hu {g : hG} {a len o : Nat} {c : Nat → va_E} {e : va_E} (h : o < len) : hu (blk g a len c) (a + o) e = blk g a len (va_up c o e) := by
  funext q
  simp only [blk, hu, va_up]
  by_cases e1 : q = a + o
  · subst e1; rw [if_pos rfl, if_pos (show a ≤ a + o ∧ a + o < a + len by omega), if_pos (show a + o - a = o by omega)]
  · rw [if_neg e1]
    by_cases e2 : a ≤ q ∧ q < a + len
    · rw [if_pos e2, if_pos e2, if_neg (show ¬ q - a = o by omega)]
    · rw [if_neg e2, if_neg e2]
theorem blk_comm {g : hG} {a la b lb : Nat} {c d : Nat → va_E} (h : a + la ≤ b ∨ b + lb ≤ a) : blk (blk g a la c) b lb d = blk (blk g b lb d) a la c := by
  funext q
  unfold blk
  by_cases e1 : a ≤ q ∧ q < a + la
  · rw [if_neg (by omega), if_pos e1, if_pos e1]
  · by_cases e2 : b ≤ q ∧ q < b + lb
    · rw [if_pos e2, if_neg e1, if_pos e2]
    · rw [if_neg e2, if_neg e1, if_neg e1, if_neg e2]
/-- a moment: sayings, firms, what each knows, the day -/
abbrev Mo : Type := (Nat → Nat) × (Nat → Nat) × (Nat → Nat) × Nat
def moCell (E : xE) (m : Nat) (x : Mo) (k : Nat) : va_E := if k = 0 then oc 4 [.ref (m + 1), .ref (m + 4), .int (nI x.2.2.2)] else if k = 1 then oc 6 [.ref (m + 1 + 1), .ref (m + 1 + 2)] else if k = 2 then nc E 24 x.1 else if k = 3 then nc E 24 x.2.1 else nc E 6 x.2.2.1
def mR (E : xE) (g : hG) (m : Nat) (x : Mo) : hG := blk g m 5 (moCell E m x)
def ma (E : xE) (g : hG) (m : Nat) (x : Mo) : Prop := ∀ k, k < 5 → g (m + k) = some (moCell E m x k)
theorem ma.c0 {E : xE} {g : hG} {m : Nat} {x : Mo} (h : ma E g m x) : g m = some (oc 4 [.ref (m + 1), .ref (m + 4), .int (nI x.2.2.2)]) := h 0 (by decide)
theorem ma.rl {E : xE} {g : hG} {m : Nat} {x : Mo} (h : ma E g m x) : ra E g (m + 1) x.1 x.2.1 := ⟨h 1 (by decide), h 2 (by decide), h 3 (by decide)⟩
theorem ma.c4 {E : xE} {g : hG} {m : Nat} {x : Mo} (h : ma E g m x) : g (m + 4) = some (nc E 6 x.2.2.1) := h 4 (by decide)
theorem ma.set {E : xE} {g : hG} {m : Nat} {x : Mo} : ma E (mR E g m x) m x := fun _ hk => blk_in hk
theorem ma.self {E : xE} {g : hG} {m : Nat} {x : Mo} (h : ma E g m x) : mR E g m x = g := blk_self h
theorem mR_mR {E : xE} {g : hG} {m : Nat} {x y : Mo} : mR E (mR E g m x) m y = mR E g m y := blk_blk
/-- a heap that has these five cells, and is g elsewhere -/
theorem mR_eq {E : xE} {g G : hG} {m : Nat} {x : Mo} (h : ma E G m x) (ho : ∀ q, q < m ∨ m + 5 ≤ q → G q = g q) : G = mR E g m x := by
  funext q
  by_cases e : m ≤ q ∧ q < m + 5
  · obtain ⟨k, hk⟩ : ∃ k, q = m + k := ⟨q - m, by omega⟩
    subst hk
    rw [h k (by omega)]
    exact (blk_in (by omega)).symm
  · rw [ho q (by omega)]
    exact (blk_out (by omega)).symm
theorem ma.of {E : xE} {g : hG} {m : Nat} {x : Mo} (h0 : g m = some (oc 4 [.ref (m + 1), .ref (m + 4), .int (nI x.2.2.2)])) (h1 : ra E g (m + 1) x.1 x.2.1) (h4 : g (m + 4) = some (nc E 6 x.2.2.1)) : ma E g m x := fun k hk => by
  rcases (show k = 0 ∨ k = 1 ∨ k = 2 ∨ k = 3 ∨ k = 4 by omega) with rfl | rfl | rfl | rfl | rfl
  · exact h0
  · exact h1.1
  · exact h1.2.1
  · exact h1.2.2
  · exact h4
def orN (k : Nat → Nat) : Nat → Nat
  | 0 => 0
  | j + 1 => orN k j ||| k j

set_option maxHeartbeats 4000000 in
set_option maxRecDepth 100000 in
/-- BanisterWord.Moment.<init>  -/
theorem c_X4_init (l : Launch) (E : xE) (g : hG) (n : Nat) (m : Nat) (hn : n = m + 1) (hm : g m = some (oc 4 [.null, .null, .int 0])) : Ct l yX4_init cX4_init 1 none 2 68 4 56 E [.ref m] (g) n (zr (none) (mR E g m (fun _ => 0, fun _ => 0, fun _ => 0, 0)) (m + 5)) := by
  refine Ct.of (by decide +kernel) (Nat.le_of_ble_eq_true rfl) (fun v hv => by simp only [List.mem_cons, List.not_mem_nil, or_false] at hv; (try rcases hv with rfl) <;> first | rfl | (subst hv; rfl) | exact hv.elim) ?_
  intro K hKl S
  subst hKl
  have X := S.1
  subst hn
  refine r_aload_n X dX4_init_0 rfl ?_
  refine r_objInit X rfl tw_78 tw_25 tw_26 (Nat.le_of_ble_eq_true rfl) (Nat.le_of_ble_eq_true rfl) dX4_init_1 ?_
  refine r_aload_n X dX4_init_4 rfl ?_
  refine r_new (ci := 6) (fs := [.null, .null]) X ti_RX7 tyX7 tyX7_ok tw_79 tw_61 tw_3 rfl (fun j hj => by rcases (show j = 0 ∨ j = 1 by omega) with rfl | rfl <;> rfl) (Nat.le_of_ble_eq_true rfl) (Nat.le_of_ble_eq_true rfl) dX4_init_5 ?_
  refine r_dup X dX4_init_8 rfl ?_
  refine r_callIN X rfl (c_X7_init _ E _ _ (m + 1) rfl (hu_eq _ _ _)) X.2.1.2.1.N1 tw_63 tw_3 tw_64 rfl rfl ⟨ok_X7_init, ⟨Nat.le_of_ble_eq_true rfl, Nat.le_of_ble_eq_true rfl⟩, ⟨Nat.le_of_ble_eq_true rfl, Nat.le_of_ble_eq_true rfl⟩, Nat.le_of_ble_eq_true rfl⟩ dX4_init_9 (kk_v (Wf := Wg K E _ _ _ _) ?_)
  refine r_putF (ci := 4) (ty := .object "BanisterWord$Rails") X 0 ti_RX4 tyX4 tyX4_ok nmX4 rfl (by decide) tw_81 (fun _ h => h) rfl S.2.2.2.2 rfl (by decide +kernel) dX4_init_12 (by first | assumption | (try simp only [rR]); (repeat rw [hu_ne _ _ (by omega)]); first | assumption | exact hu_eq _ _ _) rfl rfl (Nat.le_of_ble_eq_true rfl) ?_
  try dsimp only [List.set]
  refine r_aload_n X dX4_init_15 rfl ?_
  refine r_bipush (v := nI 6) X dX4_init_16 (by decide) ?_
  refine r_newi X tw_57 6 rfl (by decide) (Nat.le_of_ble_eq_true rfl) (Nat.le_of_ble_eq_true rfl) dX4_init_18 ?_
  refine r_putF (ci := 4) (ty := .array .int) X 1 ti_RX4 tyX4 tyX4_ok nmX4 rfl (by decide) tw_83 (fun _ h => h) rfl S.2.2.2.2 rfl (by decide +kernel) dX4_init_20 (by first | assumption | (try simp only [rR]); (repeat rw [hu_ne _ _ (by omega)]); first | assumption | exact hu_eq _ _ _) rfl rfl (Nat.le_of_ble_eq_true rfl) ?_
  try dsimp only [List.set]
  refine r_vret S dX4_init_23 ?_
  refine ⟨rfl, mR_eq (ma.of ?_ ⟨?_, ?_, ?_⟩ ?_) (fun q hq => ?_), rfl⟩
  all_goals ((try simp only [rR]); repeat rw [hu_ne _ _ (by omega)])
  all_goals first | exact hu_eq _ _ _ | rfl | assumption

set_option maxHeartbeats 4000000 in
set_option maxRecDepth 100000 in
/-- BanisterWord.Moment.copyFrom  -/
theorem c_X4_copyFrom (l : Launch) (E : xE) (g : hG) (n : Nat) (m q : Nat) (x y : Mo) (hm : ma E g m x) (hq : ma E g q y) (hd : q + 5 ≤ m ∨ m + 5 ≤ q) : Ct l yX4_copyFrom cX4_copyFrom 2 none 2 69 0 0 E [.ref m, .ref q] (g) n (zr (none) (mR E g m y) (n)) := by
  refine Ct.of (by decide +kernel) (Nat.le_of_ble_eq_true rfl) (fun v hv => by simp only [List.mem_cons, List.not_mem_nil, or_false] at hv; (try rcases hv with rfl | rfl) <;> first | rfl | (subst hv; rfl) | exact hv.elim) ?_
  intro K hKl S
  subst hKl
  have X := S.1
  have hm0 := hm.c0
  have hmr := hm.rl
  obtain ⟨hr0, hr1, hr2⟩ := id hmr
  have hm4 := hm.c4
  have hq0 := hq.c0
  have hqr := hq.rl
  obtain ⟨hs0, hs1, hs2⟩ := id hqr
  have hq4 := hq.c4
  refine r_aload_n X dX4_copyFrom_0 rfl ?_
  refine r_get (ci := 4) X 0 _ ti_RX4 rfl (by decide) tw_81 (fun _ h => h) dX4_copyFrom_1 (by first | assumption | (try simp only [rR]); (repeat rw [hu_ne _ _ (by omega)]); first | assumption | exact hu_eq _ _ _) rfl ?_
  refine r_aload_n X dX4_copyFrom_4 rfl ?_
  refine r_get (ci := 4) X 0 _ ti_RX4 rfl (by decide) tw_81 (fun _ h => h) dX4_copyFrom_5 (by first | assumption | (try simp only [rR]); (repeat rw [hu_ne _ _ (by omega)]); first | assumption | exact hu_eq _ _ _) rfl ?_
  refine r_callV (ci := 6) X rfl (c_X7_copyFrom _ E g n (m + 1) (q + 1) x.1 x.2.1 y.1 y.2.1 hmr hqr (by omega)) tw_379 tw_380 tw_381 tw_3 tw_382 rfl rfl (by first | assumption | (try simp only [rR]); (repeat rw [hu_ne _ _ (by omega)]); first | assumption | exact hu_eq _ _ _) rfl ⟨ok_X7_copyFrom, ⟨Nat.le_of_ble_eq_true rfl, Nat.le_of_ble_eq_true rfl⟩, ⟨Nat.le_of_ble_eq_true rfl, Nat.le_of_ble_eq_true rfl⟩, Nat.le_of_ble_eq_true rfl⟩ dX4_copyFrom_8 (kk_v (Wf := Wg K E _ _ _ _) ?_)
  refine r_aload_n X dX4_copyFrom_11 rfl ?_
  refine r_get (ci := 4) X 1 _ ti_RX4 rfl (by decide) tw_83 (fun _ h => h) dX4_copyFrom_12 (by first | assumption | (try simp only [rR]); (repeat rw [hu_ne _ _ (by omega)]); first | assumption | exact hu_eq _ _ _) rfl ?_
  refine r_iconst (v := nI 0) X dX4_copyFrom_15 (by decide) ?_
  refine r_aload_n X dX4_copyFrom_16 rfl ?_
  refine r_get (ci := 4) X 1 _ ti_RX4 rfl (by decide) tw_83 (fun _ h => h) dX4_copyFrom_17 (by first | assumption | (try simp only [rR]); (repeat rw [hu_ne _ _ (by omega)]); first | assumption | exact hu_eq _ _ _) rfl ?_
  refine r_iconst (v := nI 0) X dX4_copyFrom_20 (by decide) ?_
  refine r_bipush (v := nI 6) X dX4_copyFrom_21 (by decide) ?_
  refine r_copy X rfl tw_469 tw_385 tw_384 tw_17 (Nat.le_of_ble_eq_true rfl) (Nat.le_of_ble_eq_true rfl) dX4_copyFrom_23 (by first | assumption | (try simp only [rR]); (repeat rw [hu_ne _ _ (by omega)]); first | assumption | exact hu_eq _ _ _) (by first | assumption | (try simp only [rR]); (repeat rw [hu_ne _ _ (by omega)]); first | assumption | exact hu_eq _ _ _) (by decide) rfl ?_
  refine r_aload_n X dX4_copyFrom_26 rfl ?_
  refine r_aload_n X dX4_copyFrom_27 rfl ?_
  refine r_get (ci := 4) X 2 _ ti_RX4 rfl (by decide) tw_85 (fun _ h => h) dX4_copyFrom_28 (by first | assumption | (try simp only [rR]); (repeat rw [hu_ne _ _ (by omega)]); first | assumption | exact hu_eq _ _ _) rfl ?_
  refine r_put (ci := 4) (ty := .int) X 2 ti_RX4 tyX4 tyX4_ok nmX4 rfl (by decide) tw_85 (fun _ h => h) rfl (by decide +kernel) dX4_copyFrom_31 (by first | assumption | (try simp only [rR]); (repeat rw [hu_ne _ _ (by omega)]); first | assumption | exact hu_eq _ _ _) rfl rfl (Nat.le_of_ble_eq_true rfl) ?_
  try dsimp only [List.set]
  refine r_vret S dX4_copyFrom_34 ?_
  refine ⟨rfl, mR_eq (ma.of ?_ ⟨?_, ?_, ?_⟩ ?_) (fun q hq => ?_), rfl⟩
  all_goals ((try simp only [rR]); repeat rw [hu_ne _ _ (by omega)])
  all_goals first | exact hu_eq _ _ _ | rfl | assumption

set_option maxHeartbeats 4000000 in
set_option maxRecDepth 100000 in
/-- BanisterWord.Moment.begin  -/
theorem c_X4_begin (l : Launch) (E : xE) (g : hG) (n : Nat) (m r : Nat) (x : Mo) (f h : Nat → Nat) (hm : ma E g m x) (hr : ra E g r f h) (hd : r + 3 ≤ m ∨ m + 5 ≤ r) : Ct l yX4_begin cX4_begin 3 none 2 69 0 0 E [.ref m, .ref r] (g) n (zr (none) (mR E g m (f, h, fun _ => 0, 0)) (n)) := by
  refine Ct.of (by decide +kernel) (Nat.le_of_ble_eq_true rfl) (fun v hv => by simp only [List.mem_cons, List.not_mem_nil, or_false] at hv; (try rcases hv with rfl | rfl) <;> first | rfl | (subst hv; rfl) | exact hv.elim) ?_
  intro K hKl S
  subst hKl
  have X := S.1
  have hm0 := hm.c0
  have hmr := hm.rl
  obtain ⟨hr0, hr1, hr2⟩ := id hmr
  have hm4 := hm.c4
  obtain ⟨hs0, hs1, hs2⟩ := id hr
  refine r_aload_n X dX4_begin_0 rfl ?_
  refine r_get (ci := 4) X 0 _ ti_RX4 rfl (by decide) tw_81 (fun _ h => h) dX4_begin_1 (by first | assumption | (try simp only [rR]); (repeat rw [hu_ne _ _ (by omega)]); first | assumption | exact hu_eq _ _ _) rfl ?_
  refine r_aload_n X dX4_begin_4 rfl ?_
  refine r_callV (ci := 6) X rfl (c_X7_copyFrom _ E g n (m + 1) r x.1 x.2.1 f h hmr hr (by omega)) tw_379 tw_380 tw_381 tw_3 tw_382 rfl rfl (by first | assumption | (try simp only [rR]); (repeat rw [hu_ne _ _ (by omega)]); first | assumption | exact hu_eq _ _ _) rfl ⟨ok_X7_copyFrom, ⟨Nat.le_of_ble_eq_true rfl, Nat.le_of_ble_eq_true rfl⟩, ⟨Nat.le_of_ble_eq_true rfl, Nat.le_of_ble_eq_true rfl⟩, Nat.le_of_ble_eq_true rfl⟩ dX4_begin_5 (kk_v (Wf := Wg K E _ _ _ _) ?_)
  refine r_iconst (v := nI 0) X dX4_begin_8 (by decide) ?_
  refine r_istore_n X dX4_begin_9 (Nat.le_of_ble_eq_true rfl) ?_
  try dsimp only [List.set]
  have hloop : ∀ (k : Nat), k ≤ 6 → Wg K E (0) (0) 10 [some (.ref m), some (.ref r), some (.int (nI k))] [] (hu (rR E g (m + 1) f h) (m + 4) (nc E 6 (fun j => if j < k then 0 else x.2.2.1 j))) (n) := by
    refine ind_up _ (6) (fun k hk ih => ?_)
    refine r_iload_n X dX4_begin_10 rfl ?_
    refine r_bipush (v := nI 6) X dX4_begin_11 (by decide) ?_
    refine r_icmp_geN X 29 dX4_begin_13 (by decide) (by omega) (by omega) (fun c_13 => ?_) (fun c_13 => ?_)
    · skip
      refine r_aload_n X dX4_begin_29 rfl ?_
      refine r_iconst (v := nI 0) X dX4_begin_30 (by decide) ?_
      refine r_put (ci := 4) (ty := .int) X 2 ti_RX4 tyX4 tyX4_ok nmX4 rfl (by decide) tw_85 (fun _ h => h) rfl (by decide +kernel) dX4_begin_31 (by first | assumption | (try simp only [rR]); (repeat rw [hu_ne _ _ (by omega)]); first | assumption | exact hu_eq _ _ _) rfl rfl (Nat.le_of_ble_eq_true rfl) ?_
      try dsimp only [List.set]
      refine r_vret S dX4_begin_34 ?_
      obtain rfl : k = 6 := by omega
      refine ⟨rfl, mR_eq (ma.of ?_ ⟨?_, ?_, ?_⟩ ?_) (fun q hq => ?_), rfl⟩
      all_goals ((try simp only [rR]); repeat rw [hu_ne _ _ (by omega)])
      all_goals first | exact hu_eq _ _ _ | rfl | assumption | (rw [hu_eq]; congr 1; exact nc_congr (fun j hj => by simp [hj]))
    · skip
      refine r_aload_n X dX4_begin_16 rfl ?_
      refine r_get (ci := 4) X 1 _ ti_RX4 rfl (by decide) tw_83 (fun _ h => h) dX4_begin_17 (by first | assumption | (try simp only [rR]); (repeat rw [hu_ne _ _ (by omega)]); first | assumption | exact hu_eq _ _ _) rfl ?_
      refine r_iload_n X dX4_begin_20 rfl ?_
      refine r_iconst (v := nI 0) X dX4_begin_21 (by decide) ?_
      refine r_nast X _ dX4_begin_22 (by first | assumption | (try simp only [rR]); (repeat rw [hu_ne _ _ (by omega)]); first | assumption | exact hu_eq _ _ _) (rfl) (by omega) (by decide) ?_
      first | refine r_iincN X dX4_begin_23 rfl ?_ | refine r_iinc X _ dX4_begin_23 rfl rfl ?_
      try dsimp only [List.set]
      refine r_goto X 10 dX4_begin_26 (by decide) ?_
      refine r_heap ?_ (ih (by omega))
      funext q
      simp only [hu]
      split
      · congr 1; refine nc_congr (fun j hj => ?_); simp only [va_up]; (repeat' split) <;> first | rfl | omega
      · rfl
  refine r_heap ?_ (hloop 0 (Nat.zero_le _))
  rw [show (fun j => if j < 0 then 0 else x.2.2.1 j) = x.2.2.1 from by funext j; simp]
  funext q
  by_cases e : q = m + 4
  · subst e; rw [hu_eq, rR_ne (by omega) (by omega)]; exact hm4
  · rw [hu_ne _ _ e]

set_option maxHeartbeats 4000000 in
set_option maxRecDepth 100000 in
/-- BanisterWord.Moment.knownByAnybody  -/
theorem c_X4_knownByAnybody (l : Launch) (E : xE) (g : hG) (n : Nat) (m : Nat) (x : Mo) (hm : ma E g m x) : Ct l yX4_knownByAnybody cX4_knownByAnybody 3 (some .int) 0 0 0 0 E [.ref m] (g) n (zr (some (.int (nI (orN x.2.2.1 6)))) (g) (n)) := by
  refine Ct.of (by decide +kernel) (Nat.le_of_ble_eq_true rfl) (fun v hv => by simp only [List.mem_cons, List.not_mem_nil, or_false] at hv; (try rcases hv with rfl) <;> first | rfl | (subst hv; rfl) | exact hv.elim) ?_
  intro K hKl S
  subst hKl
  have X := S.1
  have hm0 := hm.c0
  have hmr := hm.rl
  obtain ⟨hr0, hr1, hr2⟩ := id hmr
  have hm4 := hm.c4
  refine r_iconst (v := nI 0) X dX4_knownByAnybody_0 (by decide) ?_
  refine r_istore_n X dX4_knownByAnybody_1 (Nat.le_of_ble_eq_true rfl) ?_
  try dsimp only [List.set]
  refine r_iconst (v := nI 0) X dX4_knownByAnybody_2 (by decide) ?_
  refine r_istore_n X dX4_knownByAnybody_3 (Nat.le_of_ble_eq_true rfl) ?_
  try dsimp only [List.set]
  have hloop : ∀ (k : Nat), k ≤ 6 → Wg K E (0) (0) 4 [some (.ref m), some (.int (nI (orN x.2.2.1 k))), some (.int (nI k))] [] (g) (n) := by
    refine ind_up _ (6) (fun k hk ih => ?_)
    refine r_iload_n X dX4_knownByAnybody_4 rfl ?_
    refine r_bipush (v := nI 6) X dX4_knownByAnybody_5 (by decide) ?_
    refine r_icmp_geN X 25 dX4_knownByAnybody_7 (by decide) (by omega) (by omega) (fun c_7 => ?_) (fun c_7 => ?_)
    · skip
      refine r_iload_n X dX4_knownByAnybody_25 rfl ?_
      refine r_iret S dX4_knownByAnybody_26 ?_
      obtain rfl : k = 6 := by omega
      exact ⟨rfl, rfl, rfl⟩
    · skip
      refine r_iload_n X dX4_knownByAnybody_10 rfl ?_
      refine r_aload_n X dX4_knownByAnybody_11 rfl ?_
      refine r_get (ci := 4) X 1 _ ti_RX4 rfl (by decide) tw_83 (fun _ h => h) dX4_knownByAnybody_12 (by first | assumption | exact hu_eq _ _ _ | (rw [hu_ne _ _ (by omega)]; first | assumption | exact hu_eq _ _ _) | (rw [hu_ne _ _ (by omega), hu_ne _ _ (by omega)]; first | assumption | exact hu_eq _ _ _)) rfl ?_
      refine r_iload_n X dX4_knownByAnybody_15 rfl ?_
      refine r_nald X _ dX4_knownByAnybody_16 (by first | assumption | exact hu_eq _ _ _ | (rw [hu_ne _ _ (by omega)]; first | assumption | exact hu_eq _ _ _) | (rw [hu_ne _ _ (by omega), hu_ne _ _ (by omega)]; first | assumption | exact hu_eq _ _ _)) (rfl) (by omega) (by decide) ?_
      refine r_iorN X dX4_knownByAnybody_17 ?_
      refine r_istore_n X dX4_knownByAnybody_18 (Nat.le_of_ble_eq_true rfl) ?_
      try dsimp only [List.set]
      first | refine r_iincN X dX4_knownByAnybody_19 rfl ?_ | refine r_iinc X _ dX4_knownByAnybody_19 rfl rfl ?_
      try dsimp only [List.set]
      refine r_goto X 4 dX4_knownByAnybody_22 (by decide) ?_
      exact ih (by omega)
  exact hloop 0 (Nat.zero_le _)

