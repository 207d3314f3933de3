theorem r_cs {K : xC} {E : xE} {cells slots pc c2 s2 n2 : Nat} {ls : List (Option Value)} {st : List Value} {g : hG} {n : Nat} (h1 : cells = c2) (h2 : slots = s2) (h3 : n = n2) (kk : Wg K E c2 s2 pc ls st g n2) : Wg K E cells slots pc ls st g n := by subst h1; subst h2; subst h3; exact kk
theorem hu_hu {g : hG} {a : Nat} {e e' : va_E} : hu (hu g a e) a e' = hu g a e' := by
  funext q
  unfold hu
  split <;> rfl
theorem mR_out {E : xE} {g : hG} {m q : Nat} {x : Mo} (h : q < m ∨ m + 5 ≤ q) : mR E g m x q = g q := blk_out h
theorem any_M {K : xC} {E : xE} {cc : ByteArray} {nL : Nat} {own : String} {R : Room} (S : Sx K E cc nL own R) {g : hG} {v : Nat} {fs : List Value} (h : g v = some (oc 4 fs)) : ∀ H : Heap, hp E g H → va_Any "BanisterWord$Moment" K.2.2.2.2.1 H v := fun H hH => va_rAny (q0 := 0) (ci := 4) (r := (RX4, TX4, 3)) S.k (hH.one h) rfl rfl (fun comp c0 h1 h2 => by
  have hk := (S.k.1 4 (RX4, TX4, 3) rfl).2
  have e1 : c0 = E.2.1.1 4 := Option.some.inj (h2.symm.trans hk.1)
  have e2 : comp = E.2.1.1 4 := Option.some.inj (h1.symm.trans hk.1)
  subst e1; subst e2
  exact va_assign hk)
theorem any_P {K : xC} {E : xE} {cc : ByteArray} {nL : Nat} {own : String} {R : Room} (S : Sx K E cc nL own R) {g : hG} {v c : Nat} {fs : List Value} (hc : c < 4) (h : g v = some (oc c fs)) : ∀ H : Heap, hp E g H → va_Any "BanisterWord$Person" K.2.2.2.2.1 H v := fun H hH => by
  have key : ∀ C : String, va_Nw (.castable C "BanisterWord$Person") K.2.2.2.2.1 → ∀ comp c0 : ClassId, K.2.2.2.2.1.vm.findClass "BanisterWord$Person" = some comp → K.2.2.2.2.1.vm.findClass C = some c0 → K.2.2.2.2.1.vm.assignable c0 comp = true := fun C hC comp c0 h1 h2 => by
    obtain ⟨c1, t1, f1, f2, f3⟩ := Cond.castable_spec (va_Nw.use (A := K.2.2.2.2.2.2.1) rfl hC)
    cases h2.symm.trans f1
    cases h1.symm.trans f2
    exact f3
  rcases (show c = 0 ∨ c = 1 ∨ c = 2 ∨ c = 3 by omega) with rfl | rfl | rfl | rfl
  · exact va_rAny (q0 := 0) (ci := 0) (r := (RX0, TX0, 1)) S.k (hH.one h) rfl rfl (key _ S.2.1.2.1.CChildPerson)
  · exact va_rAny (q0 := 0) (ci := 1) (r := (RX1, TX1, 1)) S.k (hH.one h) rfl rfl (key _ S.2.1.2.1.CGlovedPerson)
  · exact va_rAny (q0 := 0) (ci := 2) (r := (RX2, TX2, 1)) S.k (hH.one h) rfl rfl (key _ S.2.1.2.1.CGuestPerson)
  · exact va_rAny (q0 := 0) (ci := 3) (r := (RX3, TX3, 1)) S.k (hH.one h) rfl rfl (key _ S.2.1.2.1.CMaidPerson)
/-- Past at a: a ring of eight moments -/
def mo0 : Mo := (fun _ => 0, fun _ => 0, fun _ => 0, 0)
def paCell (E : xE) (a nx sz : Nat) (M : Nat → Mo) (k : Nat) : va_E := if k = 0 then oc 5 [.ref (a + 1), .int (nI nx), .int (nI sz)] else if k = 1 then qc E 2 8 (fun i => some (a + 2 + 5 * i)) else moCell E (a + 2 + 5 * ((k - 2) / 5)) (M ((k - 2) / 5)) ((k - 2) % 5)
def pG (E : xE) (g : hG) (a nx sz : Nat) (M : Nat → Mo) : hG := blk g a 42 (paCell E a nx sz M)
def pa (E : xE) (g : hG) (a nx sz : Nat) (M : Nat → Mo) : Prop := ∀ k, k < 42 → g (a + k) = some (paCell E a nx sz M k)
theorem pa.c0 {E : xE} {g : hG} {a nx sz : Nat} {M : Nat → Mo} (h : pa E g a nx sz M) : g a = some (oc 5 [.ref (a + 1), .int (nI nx), .int (nI sz)]) := h 0 (by decide)
theorem pa.c1 {E : xE} {g : hG} {a nx sz : Nat} {M : Nat → Mo} (h : pa E g a nx sz M) : g (a + 1) = some (qc E 2 8 (fun i => some (a + 2 + 5 * i))) := h 1 (by decide)
theorem paCell_mo {E : xE} {a nx sz : Nat} {M : Nat → Mo} {i r : Nat} (hr : r < 5) : paCell E a nx sz M (2 + 5 * i + r) = moCell E (a + 2 + 5 * i) (M i) r := by
  unfold paCell
  rw [if_neg (by omega), if_neg (by omega), show (2 + 5 * i + r - 2) / 5 = i by omega, show (2 + 5 * i + r - 2) % 5 = r by omega]
theorem pa.mo {E : xE} {g : hG} {a nx sz : Nat} {M : Nat → Mo} (h : pa E g a nx sz M) {i : Nat} (hi : i < 8) : ma E g (a + 2 + 5 * i) (M i) := fun r hr => by
  have := h (2 + 5 * i + r) (by omega)
  rw [paCell_mo hr] at this
  rw [← this]
  congr 1
  omega
theorem pG_eq {E : xE} {g G : hG} {a nx sz : Nat} {M : Nat → Mo} (h : pa E G a nx sz M) (ho : ∀ q, q < a ∨ a + 42 ≤ q → G q = g q) : G = pG E g a nx sz M := by
  funext q
  by_cases e : a ≤ q ∧ q < a + 42
  · obtain ⟨k, hk⟩ : ∃ k, q = a + k := ⟨q - a, by omega⟩
    subst hk
    rw [h k (by omega)]
    exact (blk_in (by omega)).symm
  · rw [ho q (by omega)]
    exact (blk_out (by omega)).symm
theorem pG_upd {E : xE} {g : hG} {a nx sz nx' sz' i : Nat} {M : Nat → Mo} {x : Mo} (h : pa E g a nx sz M) (hi : i < 8) : hu (mR E g (a + 2 + 5 * i) x) a (oc 5 [.ref (a + 1), .int (nI nx'), .int (nI sz')]) = pG E g a nx' sz' (va_up M i x) := by
  refine pG_eq (fun k hk => ?_) (fun q hq => ?_)
  · rcases (show k = 0 ∨ k = 1 ∨ 2 ≤ k by omega) with rfl | rfl | h2
    · exact hu_eq _ _ _
    · rw [hu_ne _ _ (by omega), mR_out (by omega)]
      exact h.c1
    · rw [hu_ne _ _ (by omega)]
      obtain ⟨j, r, hr, rfl⟩ : ∃ j r, r < 5 ∧ k = 2 + 5 * j + r := ⟨(k - 2) / 5, (k - 2) % 5, by omega, by omega⟩
      rw [paCell_mo hr]
      by_cases e : j = i
      · subst e
        rw [show a + (2 + 5 * j + r) = a + 2 + 5 * j + r by omega, ma.set r hr]
        simp [va_up]
      · rw [mR_out (by omega), h _ hk, paCell_mo hr]
        simp [va_up, e]
  · rw [hu_ne _ _ (by omega), mR_out (by omega)]
def pa0 (E : xE) (a k j : Nat) : va_E := if j = 0 then oc 5 [.ref (a + 1), .int 0, .int 0] else if j = 1 then qc E 2 8 (fun i => if i < k then some (a + 2 + 5 * i) else none) else moCell E (a + 2 + 5 * ((j - 2) / 5)) mo0 ((j - 2) % 5)

set_option maxHeartbeats 4000000 in
set_option maxRecDepth 100000 in
/-- BanisterWord.Past.remember  -/
theorem c_X5_remember (l : Launch) (E : xE) (g : hG) (n : Nat) (a nx sz m : Nat) (M : Nat → Mo) (x : Mo) (ha : pa E g a nx sz M) (hnx : nx < 8) (hsz : sz ≤ 8) (hm : ma E g m x) (hd : m + 5 ≤ a ∨ a + 42 ≤ m) : Ct l yX5_remember cX5_remember 2 none 3 90 0 0 E [.ref a, .ref m] (g) n (zr (none) (pG E g a ((nx + 1) % 8) (min 8 (sz + 1)) (va_up M nx x)) (n)) := by
  refine Ct.of (by decide +kernel) (Nat.le_of_ble_eq_true rfl) (fun v hv => by simp only [List.mem_cons, List.not_mem_nil, or_false] at hv; (try rcases hv with rfl | rfl) <;> first | rfl | (subst hv; rfl) | exact hv.elim) ?_
  intro K hKl S
  subst hKl
  have X := S.1
  have ha0 := ha.c0
  have ha1 := ha.c1
  refine r_aload_n X dX5_remember_0 rfl ?_
  refine r_get (ci := 5) X 0 _ ti_RX5 rfl (by decide) tw_103 (fun _ h => h) dX5_remember_1 (by first | assumption | (repeat rw [hu_ne _ _ (by omega)]); first | assumption | exact hu_eq _ _ _ | (rw [mR_out (by omega)]; assumption)) rfl ?_
  refine r_aload_n X dX5_remember_4 rfl ?_
  refine r_get (ci := 5) X 1 _ ti_RX5 rfl (by decide) tw_104 (fun _ h => h) dX5_remember_5 (by first | assumption | (repeat rw [hu_ne _ _ (by omega)]); first | assumption | exact hu_eq _ _ _ | (rw [mR_out (by omega)]; assumption)) rfl ?_
  refine r_aald (k := 2) X _ (.ref (a + 2 + 5 * nx)) dX5_remember_8 rfl (by first | assumption | (repeat rw [hu_ne _ _ (by omega)]); first | assumption | exact hu_eq _ _ _ | (rw [mR_out (by omega)]; assumption)) (rfl) (by omega) (by decide) (rfl) ?_
  refine r_aload_n X dX5_remember_9 rfl ?_
  refine r_callV (ci := 4) X rfl (c_X4_copyFrom _ E g n (a + 2 + 5 * nx) m (M nx) x (ha.mo hnx) hm (by omega)) tw_465 tw_466 tw_467 tw_4 tw_468 rfl rfl (ha.mo hnx).c0 rfl ⟨ok_X4_copyFrom, ⟨Nat.le_of_ble_eq_true rfl, Nat.le_of_ble_eq_true rfl⟩, ⟨Nat.le_of_ble_eq_true rfl, Nat.le_of_ble_eq_true rfl⟩, Nat.le_of_ble_eq_true rfl⟩ dX5_remember_10 (kk_v (Wf := Wg K E _ _ _ _) ?_)
  refine r_aload_n X dX5_remember_13 rfl ?_
  refine r_aload_n X dX5_remember_14 rfl ?_
  refine r_get (ci := 5) X 1 _ ti_RX5 rfl (by decide) tw_104 (fun _ h => h) dX5_remember_15 (by first | assumption | (repeat rw [hu_ne _ _ (by omega)]); first | assumption | exact hu_eq _ _ _ | (rw [mR_out (by omega)]; assumption)) rfl ?_
  refine r_iconst (v := nI 1) X dX5_remember_18 (by decide) ?_
  first | refine r_iaddN X dX5_remember_19 ?_ | refine r_iadd X _ dX5_remember_19 rfl ?_
  refine r_bipush (v := nI 8) X dX5_remember_20 (by decide) ?_
  refine r_iremN X dX5_remember_22 (by omega) (by omega) (by omega) ?_
  refine r_put (ci := 5) (ty := .int) X 1 ti_RX5 tyX5 tyX5_ok nmX5 rfl (by decide) tw_104 (fun _ h => h) rfl (by decide +kernel) dX5_remember_23 (by first | assumption | (repeat rw [hu_ne _ _ (by omega)]); first | assumption | exact hu_eq _ _ _ | (rw [mR_out (by omega)]; assumption)) rfl rfl (Nat.le_of_ble_eq_true rfl) ?_
  try dsimp only [List.set]
  refine r_aload_n X dX5_remember_26 rfl ?_
  refine r_bipush (v := nI 8) X dX5_remember_27 (by decide) ?_
  refine r_aload_n X dX5_remember_29 rfl ?_
  refine r_get (ci := 5) X 2 _ ti_RX5 rfl (by decide) tw_105 (fun _ h => h) dX5_remember_30 (by first | assumption | (repeat rw [hu_ne _ _ (by omega)]); first | assumption | exact hu_eq _ _ _ | (rw [mR_out (by omega)]; assumption)) rfl ?_
  refine r_iconst (v := nI 1) X dX5_remember_33 (by decide) ?_
  first | refine r_iaddN X dX5_remember_34 ?_ | refine r_iadd X _ dX5_remember_34 rfl ?_
  refine r_min X rfl tw_470 tw_471 tw_18 tw_472 (Nat.le_of_ble_eq_true rfl) (Nat.le_of_ble_eq_true rfl) (Nat.le_of_ble_eq_true rfl) (Nat.le_of_ble_eq_true rfl) dX5_remember_35 ?_
  refine r_top _ _ (nI_min (by omega) (by omega)) ?_
  refine r_put (ci := 5) (ty := .int) X 2 ti_RX5 tyX5 tyX5_ok nmX5 rfl (by decide) tw_105 (fun _ h => h) rfl (by decide +kernel) dX5_remember_38 (by first | assumption | (repeat rw [hu_ne _ _ (by omega)]); first | assumption | exact hu_eq _ _ _ | (rw [mR_out (by omega)]; assumption)) rfl rfl (Nat.le_of_ble_eq_true rfl) ?_
  try dsimp only [List.set]
  refine r_vret S dX5_remember_41 ?_
  exact ⟨rfl, by rw [hu_hu]; exact pG_upd ha hnx, rfl⟩

set_option maxHeartbeats 4000000 in
set_option maxRecDepth 100000 in
/-- BanisterWord.Past.restoreLatest  -/
theorem c_X5_restoreLatest (l : Launch) (E : xE) (g : hG) (n : Nat) (a nx sz m : Nat) (M : Nat → Mo) (x : Mo) (ha : pa E g a nx sz M) (hnx : nx < 8) (hsz : sz ≤ 8) (hs0 : 0 < sz) (hm : ma E g m x) (hd : m + 5 ≤ a ∨ a + 42 ≤ m) : Ct l yX5_restoreLatest cX5_restoreLatest 2 none 3 90 0 0 E [.ref a, .ref m] (g) n (zr (none) (mR E (hu g a (oc 5 [.ref (a + 1), .int (nI ((nx + 8 - 1) % 8)), .int (nI (sz - 1))])) m (M ((nx + 8 - 1) % 8))) (n)) := by
  refine Ct.of (by decide +kernel) (Nat.le_of_ble_eq_true rfl) (fun v hv => by simp only [List.mem_cons, List.not_mem_nil, or_false] at hv; (try rcases hv with rfl | rfl) <;> first | rfl | (subst hv; rfl) | exact hv.elim) ?_
  intro K hKl S
  subst hKl
  have X := S.1
  have ha0 := ha.c0
  have ha1 := ha.c1
  refine r_aload_n X dX5_restoreLatest_0 rfl ?_
  refine r_get (ci := 5) X 2 _ ti_RX5 rfl (by decide) tw_105 (fun _ h => h) dX5_restoreLatest_1 (by first | assumption | (repeat rw [hu_ne _ _ (by omega)]); first | assumption | exact hu_eq _ _ _ | exact hm.c0) rfl ?_
  refine r_if_leN X 46 dX5_restoreLatest_4 (by decide) (by omega) (fun c_4 => ?_) (fun c_4 => ?_)
  · exact absurd c_4 (by omega)
  refine r_aload_n X dX5_restoreLatest_7 rfl ?_
  refine r_aload_n X dX5_restoreLatest_8 rfl ?_
  refine r_get (ci := 5) X 1 _ ti_RX5 rfl (by decide) tw_104 (fun _ h => h) dX5_restoreLatest_9 (by first | assumption | (repeat rw [hu_ne _ _ (by omega)]); first | assumption | exact hu_eq _ _ _ | exact hm.c0) rfl ?_
  refine r_bipush (v := nI 8) X dX5_restoreLatest_12 (by decide) ?_
  first | refine r_iaddN X dX5_restoreLatest_14 ?_ | refine r_iadd X _ dX5_restoreLatest_14 rfl ?_
  refine r_iconst (v := nI 1) X dX5_restoreLatest_15 (by decide) ?_
  first | refine r_isubN X dX5_restoreLatest_16 (by omega) ?_ | refine r_isub X _ dX5_restoreLatest_16 rfl ?_
  refine r_bipush (v := nI 8) X dX5_restoreLatest_17 (by decide) ?_
  refine r_iremN X dX5_restoreLatest_19 (by omega) (by omega) (by omega) ?_
  refine r_put (ci := 5) (ty := .int) X 1 ti_RX5 tyX5 tyX5_ok nmX5 rfl (by decide) tw_104 (fun _ h => h) rfl (by decide +kernel) dX5_restoreLatest_20 (by first | assumption | (repeat rw [hu_ne _ _ (by omega)]); first | assumption | exact hu_eq _ _ _ | exact hm.c0) rfl rfl (Nat.le_of_ble_eq_true rfl) ?_
  try dsimp only [List.set]
  refine r_aload_n X dX5_restoreLatest_23 rfl ?_
  refine r_dup X dX5_restoreLatest_24 rfl ?_
  refine r_get (ci := 5) X 2 _ ti_RX5 rfl (by decide) tw_105 (fun _ h => h) dX5_restoreLatest_25 (by first | assumption | (repeat rw [hu_ne _ _ (by omega)]); first | assumption | exact hu_eq _ _ _ | exact hm.c0) rfl ?_
  refine r_iconst (v := nI 1) X dX5_restoreLatest_28 (by decide) ?_
  first | refine r_isubN X dX5_restoreLatest_29 (by omega) ?_ | refine r_isub X _ dX5_restoreLatest_29 rfl ?_
  refine r_put (ci := 5) (ty := .int) X 2 ti_RX5 tyX5 tyX5_ok nmX5 rfl (by decide) tw_105 (fun _ h => h) rfl (by decide +kernel) dX5_restoreLatest_30 (by first | assumption | (repeat rw [hu_ne _ _ (by omega)]); first | assumption | exact hu_eq _ _ _ | exact hm.c0) rfl rfl (Nat.le_of_ble_eq_true rfl) ?_
  try dsimp only [List.set]
  refine r_aload_n X dX5_restoreLatest_33 rfl ?_
  refine r_aload_n X dX5_restoreLatest_34 rfl ?_
  refine r_get (ci := 5) X 0 _ ti_RX5 rfl (by decide) tw_103 (fun _ h => h) dX5_restoreLatest_35 (by first | assumption | (repeat rw [hu_ne _ _ (by omega)]); first | assumption | exact hu_eq _ _ _ | exact hm.c0) rfl ?_
  refine r_aload_n X dX5_restoreLatest_38 rfl ?_
  refine r_get (ci := 5) X 1 _ ti_RX5 rfl (by decide) tw_104 (fun _ h => h) dX5_restoreLatest_39 (by first | assumption | (repeat rw [hu_ne _ _ (by omega)]); first | assumption | exact hu_eq _ _ _ | exact hm.c0) rfl ?_
  refine r_aald (k := 2) X _ (.ref (a + 2 + 5 * ((nx + 8 - 1) % 8))) dX5_restoreLatest_42 rfl (by first | assumption | (repeat rw [hu_ne _ _ (by omega)]); first | assumption | exact hu_eq _ _ _ | exact hm.c0) (rfl) (by omega) (by decide) (rfl) ?_
  refine r_heap hu_hu ?_
  refine r_callV (ci := 4) X rfl (c_X4_copyFrom _ E _ n m (a + 2 + 5 * ((nx + 8 - 1) % 8)) x (M ((nx + 8 - 1) % 8)) (fun k hk => by rw [hu_ne _ _ (by omega)]; exact hm k hk) (fun k hk => by rw [hu_ne _ _ (by omega)]; exact ha.mo (i := (nx + 8 - 1) % 8) (by omega) k hk) (by omega)) tw_465 tw_466 tw_467 tw_4 tw_468 rfl rfl (by first | assumption | (repeat rw [hu_ne _ _ (by omega)]); first | assumption | exact hu_eq _ _ _ | exact hm.c0) rfl ⟨ok_X4_copyFrom, ⟨Nat.le_of_ble_eq_true rfl, Nat.le_of_ble_eq_true rfl⟩, ⟨Nat.le_of_ble_eq_true rfl, Nat.le_of_ble_eq_true rfl⟩, Nat.le_of_ble_eq_true rfl⟩ dX5_restoreLatest_43 (kk_v (Wf := Wg K E _ _ _ _) ?_)
  refine r_vret S dX5_restoreLatest_46 ?_
  exact ⟨rfl, rfl, rfl⟩

set_option maxHeartbeats 4000000 in
set_option maxRecDepth 100000 in
/-- BanisterWord.Past.<init>  -/
theorem c_X5_init (l : Launch) (E : xE) (g : hG) (n : Nat) (a : Nat) (hn : n = a + 1) (ha : g a = some (oc 5 [.null, .int 0, .int 0])) : Ct l yX5_init cX5_init 2 none 3 88 41 480 E [.ref a] (g) n (zr (none) (pG E g a 0 0 (fun _ => mo0)) (a + 42)) := by
  refine Ct.of (by decide +kernel) (Nat.le_of_ble_eq_true rfl) (fun v hv => by simp only [List.mem_cons, List.not_mem_nil, or_false] at hv; (try rcases hv with rfl) <;> first | rfl | (subst hv; rfl) | exact hv.elim) ?_
  intro K hKl S
  subst hKl
  have X := S.1
  subst hn
  refine r_aload_n X dX5_init_0 rfl ?_
  refine r_objInit X rfl tw_99 tw_25 tw_26 (Nat.le_of_ble_eq_true rfl) (Nat.le_of_ble_eq_true rfl) dX5_init_1 ?_
  refine r_aload_n X dX5_init_4 rfl ?_
  refine r_bipush (v := nI 8) X dX5_init_5 (by decide) ?_
  refine r_newq (k := 2) X tw_100 X.2.1.2.1.AM rfl 8 rfl (by decide) (Nat.le_of_ble_eq_true rfl) (Nat.le_of_ble_eq_true rfl) dX5_init_7 ?_
  refine r_putF (ci := 5) (ty := .array (.object "BanisterWord$Moment")) X 0 ti_RX5 tyX5 tyX5_ok nmX5 rfl (by decide) tw_103 (fun _ h => h) rfl S.2.2.2.2 rfl (by decide +kernel) dX5_init_10 (by first | assumption | exact hu_eq _ _ _ | (repeat rw [hu_ne _ _ (by omega)]); first | assumption | exact hu_eq _ _ _) rfl rfl (Nat.le_of_ble_eq_true rfl) ?_
  try dsimp only [List.set]
  refine r_iconst (v := nI 0) X dX5_init_13 (by decide) ?_
  refine r_istore_n X dX5_init_14 (Nat.le_of_ble_eq_true rfl) ?_
  try dsimp only [List.set]
  have hloop : ∀ (k : Nat), k ≤ 8 → Wg K E (1 + 5 * k) (8 + 59 * k) 15 [some (.ref a), some (.int (nI k))] [] (blk g a (2 + 5 * k) (pa0 E a k)) (a + 2 + 5 * k) := by
    refine ind_up _ (8) (fun k hk ih => ?_)
    have hb0 : blk g a (2 + 5 * k) (pa0 E a k) a = some (oc 5 [.ref (a + 1), .int 0, .int 0]) := blk_0 (by omega)
    have hb1 : blk g a (2 + 5 * k) (pa0 E a k) (a + 1) = some (qc E 2 8 (fun i => if i < k then some (a + 2 + 5 * i) else none)) := blk_in (k := 1) (by omega)
    refine r_iload_n X dX5_init_15 rfl ?_
    refine r_bipush (v := nI 8) X dX5_init_16 (by decide) ?_
    refine r_icmp_geN X 40 dX5_init_18 (by decide) (by omega) (by omega) (fun c_18 => ?_) (fun c_18 => ?_)
    · skip
      obtain rfl : k = 8 := by omega
      refine r_vret S dX5_init_40 ?_
      refine ⟨rfl, ?_, rfl⟩
      refine blk_congr (fun j hj => ?_)
      unfold pa0 paCell
      split
      · rfl
      · split
        · exact qc_congr (fun i hi => by simp [hi])
        · rfl
    · skip
      refine r_aload_n X dX5_init_21 rfl ?_
      refine r_get (ci := 5) X 0 _ ti_RX5 rfl (by decide) tw_103 (fun _ h => h) dX5_init_22 (by first | assumption | exact hu_eq _ _ _ | (repeat rw [hu_ne _ _ (by omega)]); first | assumption | exact hu_eq _ _ _) rfl ?_
      refine r_iload_n X dX5_init_25 rfl ?_
      refine r_new (ci := 4) (fs := [.null, .null, .int 0]) X ti_RX4 tyX4 tyX4_ok tw_100 tw_74 tw_4 rfl (fun j hj => by rcases (show j = 0 ∨ j = 1 ∨ j = 2 by omega) with rfl | rfl | rfl <;> rfl) (by show _ ≤ 41; omega) (by show _ ≤ 480; omega) dX5_init_26 ?_
      refine r_dup X dX5_init_29 rfl ?_
      refine r_callIN X rfl (c_X4_init _ E _ _ (a + 2 + 5 * k) rfl (hu_eq _ _ _)) X.2.1.2.1.N0 tw_76 tw_4 tw_77 rfl rfl ⟨ok_X4_init, ⟨Nat.le_of_ble_eq_true rfl, Nat.le_of_ble_eq_true rfl⟩, ⟨by show _ ≤ 41; omega, by show _ ≤ 480; omega⟩, Nat.le_of_ble_eq_true rfl⟩ dX5_init_30 (kk_v (Wf := Wg K E _ _ _ _) ?_)
      refine r_aast (k := 2) X _ dX5_init_33 rfl (by rw [mR_out (by omega), hu_ne _ _ (by omega)]; exact hb1) (any_M X (ma.set.c0)) (rfl) (by omega) (by decide) ?_
      first | refine r_iincN X dX5_init_34 rfl ?_ | refine r_iinc X _ dX5_init_34 rfl rfl ?_
      try dsimp only [List.set]
      refine r_goto X 15 dX5_init_37 (by decide) ?_
      refine r_cs (c2 := 1 + 5 * (k + 1)) (s2 := 8 + 59 * (k + 1)) (n2 := a + 2 + 5 * (k + 1)) (by omega) (by omega) (by omega) ?_
      refine r_heap ?_ (ih (by omega))
      funext q
      by_cases e1 : q = a + 1
      · subst e1; rw [hu_eq, blk_in (k := 1) (by omega)]; show _ = some (qc E 2 8 _); congr 1; refine qc_congr (fun i hi => ?_); simp only [va_up]; (repeat' split) <;> first | rfl | omega | (subst_vars; rfl)
      · rw [hu_ne _ _ e1]; by_cases e2 : a + 2 + 5 * k ≤ q ∧ q < a + 2 + 5 * k + 5
        · obtain ⟨r, hr, rfl⟩ : ∃ r, r < 5 ∧ q = a + 2 + 5 * k + r := ⟨q - (a + 2 + 5 * k), by omega, by omega⟩
          rw [ma.set r hr, show a + 2 + 5 * k + r = a + (2 + 5 * k + r) by omega, blk_in (by omega)]; unfold pa0; rw [if_neg (by omega), if_neg (by omega), show (2 + 5 * k + r - 2) / 5 = k by omega, show (2 + 5 * k + r - 2) % 5 = r by omega]; rfl
        · rw [mR_out (by omega), hu_ne _ _ (by omega)]; by_cases e3 : a ≤ q ∧ q < a + 2 + 5 * k
          · obtain ⟨j, hj, rfl⟩ : ∃ j, j < 2 + 5 * k ∧ q = a + j := ⟨q - a, by omega, by omega⟩
            rw [blk_in hj, blk_in (by omega)]; unfold pa0; rw [if_neg (show ¬ j = 1 by omega), if_neg (show ¬ j = 1 by omega)]
          · rw [blk_out (by omega), blk_out (by omega)]
  refine r_heap ?_ (hloop 0 (Nat.zero_le _))
  funext q
  by_cases e0 : q = a
  · subst e0; rw [hu_eq, blk_0 (by omega)]; rfl
  · rw [hu_ne _ _ e0]; by_cases e1 : q = a + 1
    · subst e1; rw [hu_eq, blk_in (k := 1) (by omega)]; show _ = some (qc E 2 8 _); congr 1
    · rw [hu_ne _ _ e1, blk_out (by omega)]

