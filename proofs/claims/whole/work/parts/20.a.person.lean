/-- people by the number of their class: 0 Child, 1 Gloved, 2 Guest, 3 Maid -/
def feelsB (c : Nat) : Bool := c == 0 || c == 2
def handN (c : Nat) : Nat := if c = 0 then 0 else 1
def firmN (c w : Nat) : Nat := if c = 0 then 2 * w else if c = 1 then w / 2 else if c = 2 then w else 0
def kindN (c : Nat) : Nat := if c = 0 then 1 else if c = 1 then 2 else if c = 2 then 0 else 3

set_option maxHeartbeats 4000000 in
set_option maxRecDepth 100000 in
/-- BanisterWord.Person.<init>  -/
theorem c_X6_init_0 (l : Launch) (E : xE) (g : hG) (n : Nat) (a w : Nat) (ha : g a = some (oc 0 [.int 0])) : Ct l yX6_init cX6_init 2 none 1 48 0 0 E [.ref a, .int (nI w)] (g) n (zr (none) (hu g a (oc 0 [.int (nI w)])) (n)) := by
  refine Ct.of (by decide +kernel) (Nat.le_of_ble_eq_true rfl) (fun v hv => by simp only [List.mem_cons, List.not_mem_nil, or_false] at hv; (try rcases hv with rfl | rfl) <;> first | rfl | (subst hv; rfl) | exact hv.elim) ?_
  intro K hKl S
  subst hKl
  have X := S.1
  refine r_aload_n X dX6_init_0 rfl ?_
  refine r_objInit X rfl tw_335 tw_25 tw_26 (Nat.le_of_ble_eq_true rfl) (Nat.le_of_ble_eq_true rfl) dX6_init_1 ?_
  refine r_aload_n X dX6_init_4 rfl ?_
  refine r_iload_n X dX6_init_5 rfl ?_
  refine r_putF (ci := 0) (ty := .int) X 0 ti_RX0 tyX0 tyX0_ok nmX0 rfl (by decide) tw_336 (fun _ h => h) rfl S.2.2.2.2 rfl (by decide +kernel) dX6_init_6 (by first | assumption | exact hu_eq _ _ _ | (rw [hu_ne _ _ (by omega)]; first | assumption | exact hu_eq _ _ _) | (rw [hu_ne _ _ (by omega), hu_ne _ _ (by omega)]; first | assumption | exact hu_eq _ _ _)) rfl rfl (Nat.le_of_ble_eq_true rfl) ?_
  try dsimp only [List.set]
  refine r_vret S dX6_init_9 ?_
  exact ⟨rfl, rfl, rfl⟩

set_option maxHeartbeats 4000000 in
set_option maxRecDepth 100000 in
/-- BanisterWord.Person.<init>  -/
theorem c_X6_init_1 (l : Launch) (E : xE) (g : hG) (n : Nat) (a w : Nat) (ha : g a = some (oc 1 [.int 0])) : Ct l yX6_init cX6_init 2 none 1 48 0 0 E [.ref a, .int (nI w)] (g) n (zr (none) (hu g a (oc 1 [.int (nI w)])) (n)) := by
  refine Ct.of (by decide +kernel) (Nat.le_of_ble_eq_true rfl) (fun v hv => by simp only [List.mem_cons, List.not_mem_nil, or_false] at hv; (try rcases hv with rfl | rfl) <;> first | rfl | (subst hv; rfl) | exact hv.elim) ?_
  intro K hKl S
  subst hKl
  have X := S.1
  refine r_aload_n X dX6_init_0 rfl ?_
  refine r_objInit X rfl tw_335 tw_25 tw_26 (Nat.le_of_ble_eq_true rfl) (Nat.le_of_ble_eq_true rfl) dX6_init_1 ?_
  refine r_aload_n X dX6_init_4 rfl ?_
  refine r_iload_n X dX6_init_5 rfl ?_
  refine r_putF (ci := 1) (ty := .int) X 0 ti_RX1 tyX1 tyX1_ok nmX1 rfl (by decide) tw_336 (fun _ h => h) rfl S.2.2.2.2 rfl (by decide +kernel) dX6_init_6 (by first | assumption | exact hu_eq _ _ _ | (rw [hu_ne _ _ (by omega)]; first | assumption | exact hu_eq _ _ _) | (rw [hu_ne _ _ (by omega), hu_ne _ _ (by omega)]; first | assumption | exact hu_eq _ _ _)) rfl rfl (Nat.le_of_ble_eq_true rfl) ?_
  try dsimp only [List.set]
  refine r_vret S dX6_init_9 ?_
  exact ⟨rfl, rfl, rfl⟩

set_option maxHeartbeats 4000000 in
set_option maxRecDepth 100000 in
/-- BanisterWord.Person.<init>  -/
theorem c_X6_init_2 (l : Launch) (E : xE) (g : hG) (n : Nat) (a w : Nat) (ha : g a = some (oc 2 [.int 0])) : Ct l yX6_init cX6_init 2 none 1 48 0 0 E [.ref a, .int (nI w)] (g) n (zr (none) (hu g a (oc 2 [.int (nI w)])) (n)) := by
  refine Ct.of (by decide +kernel) (Nat.le_of_ble_eq_true rfl) (fun v hv => by simp only [List.mem_cons, List.not_mem_nil, or_false] at hv; (try rcases hv with rfl | rfl) <;> first | rfl | (subst hv; rfl) | exact hv.elim) ?_
  intro K hKl S
  subst hKl
  have X := S.1
  refine r_aload_n X dX6_init_0 rfl ?_
  refine r_objInit X rfl tw_335 tw_25 tw_26 (Nat.le_of_ble_eq_true rfl) (Nat.le_of_ble_eq_true rfl) dX6_init_1 ?_
  refine r_aload_n X dX6_init_4 rfl ?_
  refine r_iload_n X dX6_init_5 rfl ?_
  refine r_putF (ci := 2) (ty := .int) X 0 ti_RX2 tyX2 tyX2_ok nmX2 rfl (by decide) tw_336 (fun _ h => h) rfl S.2.2.2.2 rfl (by decide +kernel) dX6_init_6 (by first | assumption | exact hu_eq _ _ _ | (rw [hu_ne _ _ (by omega)]; first | assumption | exact hu_eq _ _ _) | (rw [hu_ne _ _ (by omega), hu_ne _ _ (by omega)]; first | assumption | exact hu_eq _ _ _)) rfl rfl (Nat.le_of_ble_eq_true rfl) ?_
  try dsimp only [List.set]
  refine r_vret S dX6_init_9 ?_
  exact ⟨rfl, rfl, rfl⟩

set_option maxHeartbeats 4000000 in
set_option maxRecDepth 100000 in
/-- BanisterWord.Person.<init>  -/
theorem c_X6_init_3 (l : Launch) (E : xE) (g : hG) (n : Nat) (a w : Nat) (ha : g a = some (oc 3 [.int 0])) : Ct l yX6_init cX6_init 2 none 1 48 0 0 E [.ref a, .int (nI w)] (g) n (zr (none) (hu g a (oc 3 [.int (nI w)])) (n)) := by
  refine Ct.of (by decide +kernel) (Nat.le_of_ble_eq_true rfl) (fun v hv => by simp only [List.mem_cons, List.not_mem_nil, or_false] at hv; (try rcases hv with rfl | rfl) <;> first | rfl | (subst hv; rfl) | exact hv.elim) ?_
  intro K hKl S
  subst hKl
  have X := S.1
  refine r_aload_n X dX6_init_0 rfl ?_
  refine r_objInit X rfl tw_335 tw_25 tw_26 (Nat.le_of_ble_eq_true rfl) (Nat.le_of_ble_eq_true rfl) dX6_init_1 ?_
  refine r_aload_n X dX6_init_4 rfl ?_
  refine r_iload_n X dX6_init_5 rfl ?_
  refine r_putF (ci := 3) (ty := .int) X 0 ti_RX3 tyX3 tyX3_ok nmX3 rfl (by decide) tw_336 (fun _ h => h) rfl S.2.2.2.2 rfl (by decide +kernel) dX6_init_6 (by first | assumption | exact hu_eq _ _ _ | (rw [hu_ne _ _ (by omega)]; first | assumption | exact hu_eq _ _ _) | (rw [hu_ne _ _ (by omega), hu_ne _ _ (by omega)]; first | assumption | exact hu_eq _ _ _)) rfl rfl (Nat.le_of_ble_eq_true rfl) ?_
  try dsimp only [List.set]
  refine r_vret S dX6_init_9 ?_
  exact ⟨rfl, rfl, rfl⟩

set_option maxHeartbeats 4000000 in
set_option maxRecDepth 100000 in
/-- BanisterWord.Guest.<init>  -/
theorem c_X2_init_0 (l : Launch) (E : xE) (g : hG) (n : Nat) (a w : Nat) (ha : g a = some (oc 0 [.int 0])) : Ct l yX2_init cX2_init 2 none 2 69 0 0 E [.ref a, .int (nI w)] (g) n (zr (none) (hu g a (oc 0 [.int (nI w)])) (n)) := by
  refine Ct.of (by decide +kernel) (Nat.le_of_ble_eq_true rfl) (fun v hv => by simp only [List.mem_cons, List.not_mem_nil, or_false] at hv; (try rcases hv with rfl | rfl) <;> first | rfl | (subst hv; rfl) | exact hv.elim) ?_
  intro K hKl S
  subst hKl
  have X := S.1
  refine r_aload_n X dX2_init_0 rfl ?_
  refine r_iload_n X dX2_init_1 rfl ?_
  refine r_callI X rfl (c_X6_init_0 _ E g n a w ha) tw_332 tw_333 tw_12 tw_334 rfl rfl ⟨ok_X6_init, ⟨Nat.le_of_ble_eq_true rfl, Nat.le_of_ble_eq_true rfl⟩, ⟨Nat.le_of_ble_eq_true rfl, Nat.le_of_ble_eq_true rfl⟩, Nat.le_of_ble_eq_true rfl⟩ dX2_init_2 (kk_v (Wf := Wg K E _ _ _ _) ?_)
  refine r_vret S dX2_init_5 ?_
  exact ⟨rfl, rfl, rfl⟩

set_option maxHeartbeats 4000000 in
set_option maxRecDepth 100000 in
/-- BanisterWord.Guest.<init>  -/
theorem c_X2_init_1 (l : Launch) (E : xE) (g : hG) (n : Nat) (a w : Nat) (ha : g a = some (oc 1 [.int 0])) : Ct l yX2_init cX2_init 2 none 2 69 0 0 E [.ref a, .int (nI w)] (g) n (zr (none) (hu g a (oc 1 [.int (nI w)])) (n)) := by
  refine Ct.of (by decide +kernel) (Nat.le_of_ble_eq_true rfl) (fun v hv => by simp only [List.mem_cons, List.not_mem_nil, or_false] at hv; (try rcases hv with rfl | rfl) <;> first | rfl | (subst hv; rfl) | exact hv.elim) ?_
  intro K hKl S
  subst hKl
  have X := S.1
  refine r_aload_n X dX2_init_0 rfl ?_
  refine r_iload_n X dX2_init_1 rfl ?_
  refine r_callI X rfl (c_X6_init_1 _ E g n a w ha) tw_332 tw_333 tw_12 tw_334 rfl rfl ⟨ok_X6_init, ⟨Nat.le_of_ble_eq_true rfl, Nat.le_of_ble_eq_true rfl⟩, ⟨Nat.le_of_ble_eq_true rfl, Nat.le_of_ble_eq_true rfl⟩, Nat.le_of_ble_eq_true rfl⟩ dX2_init_2 (kk_v (Wf := Wg K E _ _ _ _) ?_)
  refine r_vret S dX2_init_5 ?_
  exact ⟨rfl, rfl, rfl⟩

set_option maxHeartbeats 4000000 in
set_option maxRecDepth 100000 in
/-- BanisterWord.Guest.<init>  -/
theorem c_X2_init_2 (l : Launch) (E : xE) (g : hG) (n : Nat) (a w : Nat) (ha : g a = some (oc 2 [.int 0])) : Ct l yX2_init cX2_init 2 none 2 69 0 0 E [.ref a, .int (nI w)] (g) n (zr (none) (hu g a (oc 2 [.int (nI w)])) (n)) := by
  refine Ct.of (by decide +kernel) (Nat.le_of_ble_eq_true rfl) (fun v hv => by simp only [List.mem_cons, List.not_mem_nil, or_false] at hv; (try rcases hv with rfl | rfl) <;> first | rfl | (subst hv; rfl) | exact hv.elim) ?_
  intro K hKl S
  subst hKl
  have X := S.1
  refine r_aload_n X dX2_init_0 rfl ?_
  refine r_iload_n X dX2_init_1 rfl ?_
  refine r_callI X rfl (c_X6_init_2 _ E g n a w ha) tw_332 tw_333 tw_12 tw_334 rfl rfl ⟨ok_X6_init, ⟨Nat.le_of_ble_eq_true rfl, Nat.le_of_ble_eq_true rfl⟩, ⟨Nat.le_of_ble_eq_true rfl, Nat.le_of_ble_eq_true rfl⟩, Nat.le_of_ble_eq_true rfl⟩ dX2_init_2 (kk_v (Wf := Wg K E _ _ _ _) ?_)
  refine r_vret S dX2_init_5 ?_
  exact ⟨rfl, rfl, rfl⟩

set_option maxHeartbeats 4000000 in
set_option maxRecDepth 100000 in
/-- BanisterWord.Child.<init>  -/
theorem c_X0_init (l : Launch) (E : xE) (g : hG) (n : Nat) (a w : Nat) (ha : g a = some (oc 0 [.int 0])) : Ct l yX0_init cX0_init 2 none 3 90 0 0 E [.ref a, .int (nI w)] (g) n (zr (none) (hu g a (oc 0 [.int (nI w)])) (n)) := by
  refine Ct.of (by decide +kernel) (Nat.le_of_ble_eq_true rfl) (fun v hv => by simp only [List.mem_cons, List.not_mem_nil, or_false] at hv; (try rcases hv with rfl | rfl) <;> first | rfl | (subst hv; rfl) | exact hv.elim) ?_
  intro K hKl S
  subst hKl
  have X := S.1
  refine r_aload_n X dX0_init_0 rfl ?_
  refine r_iload_n X dX0_init_1 rfl ?_
  refine r_callI X rfl (c_X2_init_0 _ E g n a w ha) tw_352 tw_330 tw_13 tw_331 rfl rfl ⟨ok_X2_init, ⟨Nat.le_of_ble_eq_true rfl, Nat.le_of_ble_eq_true rfl⟩, ⟨Nat.le_of_ble_eq_true rfl, Nat.le_of_ble_eq_true rfl⟩, Nat.le_of_ble_eq_true rfl⟩ dX0_init_2 (kk_v (Wf := Wg K E _ _ _ _) ?_)
  refine r_vret S dX0_init_5 ?_
  exact ⟨rfl, rfl, rfl⟩

set_option maxHeartbeats 4000000 in
set_option maxRecDepth 100000 in
/-- BanisterWord.Gloved.<init>  -/
theorem c_X1_init (l : Launch) (E : xE) (g : hG) (n : Nat) (a w : Nat) (ha : g a = some (oc 1 [.int 0])) : Ct l yX1_init cX1_init 2 none 3 90 0 0 E [.ref a, .int (nI w)] (g) n (zr (none) (hu g a (oc 1 [.int (nI w)])) (n)) := by
  refine Ct.of (by decide +kernel) (Nat.le_of_ble_eq_true rfl) (fun v hv => by simp only [List.mem_cons, List.not_mem_nil, or_false] at hv; (try rcases hv with rfl | rfl) <;> first | rfl | (subst hv; rfl) | exact hv.elim) ?_
  intro K hKl S
  subst hKl
  have X := S.1
  refine r_aload_n X dX1_init_0 rfl ?_
  refine r_iload_n X dX1_init_1 rfl ?_
  refine r_callI X rfl (c_X2_init_1 _ E g n a w ha) tw_360 tw_330 tw_13 tw_331 rfl rfl ⟨ok_X2_init, ⟨Nat.le_of_ble_eq_true rfl, Nat.le_of_ble_eq_true rfl⟩, ⟨Nat.le_of_ble_eq_true rfl, Nat.le_of_ble_eq_true rfl⟩, Nat.le_of_ble_eq_true rfl⟩ dX1_init_2 (kk_v (Wf := Wg K E _ _ _ _) ?_)
  refine r_vret S dX1_init_5 ?_
  exact ⟨rfl, rfl, rfl⟩

set_option maxHeartbeats 4000000 in
set_option maxRecDepth 100000 in
/-- BanisterWord.Maid.<init>  -/
theorem c_X3_init (l : Launch) (E : xE) (g : hG) (n : Nat) (a w : Nat) (ha : g a = some (oc 3 [.int 0])) : Ct l yX3_init cX3_init 2 none 2 69 0 0 E [.ref a, .int (nI w)] (g) n (zr (none) (hu g a (oc 3 [.int (nI w)])) (n)) := by
  refine Ct.of (by decide +kernel) (Nat.le_of_ble_eq_true rfl) (fun v hv => by simp only [List.mem_cons, List.not_mem_nil, or_false] at hv; (try rcases hv with rfl | rfl) <;> first | rfl | (subst hv; rfl) | exact hv.elim) ?_
  intro K hKl S
  subst hKl
  have X := S.1
  refine r_aload_n X dX3_init_0 rfl ?_
  refine r_iload_n X dX3_init_1 rfl ?_
  refine r_callI X rfl (c_X6_init_3 _ E g n a w ha) tw_368 tw_333 tw_12 tw_334 rfl rfl ⟨ok_X6_init, ⟨Nat.le_of_ble_eq_true rfl, Nat.le_of_ble_eq_true rfl⟩, ⟨Nat.le_of_ble_eq_true rfl, Nat.le_of_ble_eq_true rfl⟩, Nat.le_of_ble_eq_true rfl⟩ dX3_init_2 (kk_v (Wf := Wg K E _ _ _ _) ?_)
  refine r_vret S dX3_init_5 ?_
  exact ⟨rfl, rfl, rfl⟩

set_option maxHeartbeats 4000000 in
set_option maxRecDepth 100000 in
/-- BanisterWord.Child.kindNumber  -/
theorem c_X0_kindNumber (l : Launch) (E : xE) (g : hG) (n : Nat) (a : Nat)  : Ct l yX0_kindNumber cX0_kindNumber 1 (some .int) 0 0 0 0 E [.ref a] (g) n (zr (some (.int (nI 1))) (g) (n)) := by
  refine Ct.of (by decide +kernel) (Nat.le_of_ble_eq_true rfl) (fun v hv => by simp only [List.mem_cons, List.not_mem_nil, or_false] at hv; (try rcases hv with rfl) <;> first | rfl | (subst hv; rfl) | exact hv.elim) ?_
  intro K hKl S
  subst hKl
  have X := S.1
  refine r_iconst (v := nI 1) X dX0_kindNumber_0 (by decide) ?_
  refine r_iret S dX0_kindNumber_1 ?_
  exact ⟨rfl, rfl, rfl⟩

set_option maxHeartbeats 4000000 in
set_option maxRecDepth 100000 in
/-- BanisterWord.Gloved.kindNumber  -/
theorem c_X1_kindNumber (l : Launch) (E : xE) (g : hG) (n : Nat) (a : Nat)  : Ct l yX1_kindNumber cX1_kindNumber 1 (some .int) 0 0 0 0 E [.ref a] (g) n (zr (some (.int (nI 2))) (g) (n)) := by
  refine Ct.of (by decide +kernel) (Nat.le_of_ble_eq_true rfl) (fun v hv => by simp only [List.mem_cons, List.not_mem_nil, or_false] at hv; (try rcases hv with rfl) <;> first | rfl | (subst hv; rfl) | exact hv.elim) ?_
  intro K hKl S
  subst hKl
  have X := S.1
  refine r_iconst (v := nI 2) X dX1_kindNumber_0 (by decide) ?_
  refine r_iret S dX1_kindNumber_1 ?_
  exact ⟨rfl, rfl, rfl⟩

set_option maxHeartbeats 4000000 in
set_option maxRecDepth 100000 in
/-- BanisterWord.Guest.kindNumber  -/
theorem c_X2_kindNumber (l : Launch) (E : xE) (g : hG) (n : Nat) (a : Nat)  : Ct l yX2_kindNumber cX2_kindNumber 1 (some .int) 0 0 0 0 E [.ref a] (g) n (zr (some (.int (nI 0))) (g) (n)) := by
  refine Ct.of (by decide +kernel) (Nat.le_of_ble_eq_true rfl) (fun v hv => by simp only [List.mem_cons, List.not_mem_nil, or_false] at hv; (try rcases hv with rfl) <;> first | rfl | (subst hv; rfl) | exact hv.elim) ?_
  intro K hKl S
  subst hKl
  have X := S.1
  refine r_iconst (v := nI 0) X dX2_kindNumber_0 (by decide) ?_
  refine r_iret S dX2_kindNumber_1 ?_
  exact ⟨rfl, rfl, rfl⟩

set_option maxHeartbeats 4000000 in
set_option maxRecDepth 100000 in
/-- BanisterWord.Maid.kindNumber  -/
theorem c_X3_kindNumber (l : Launch) (E : xE) (g : hG) (n : Nat) (a : Nat)  : Ct l yX3_kindNumber cX3_kindNumber 1 (some .int) 0 0 0 0 E [.ref a] (g) n (zr (some (.int (nI 3))) (g) (n)) := by
  refine Ct.of (by decide +kernel) (Nat.le_of_ble_eq_true rfl) (fun v hv => by simp only [List.mem_cons, List.not_mem_nil, or_false] at hv; (try rcases hv with rfl) <;> first | rfl | (subst hv; rfl) | exact hv.elim) ?_
  intro K hKl S
  subst hKl
  have X := S.1
  refine r_iconst (v := nI 3) X dX3_kindNumber_0 (by decide) ?_
  refine r_iret S dX3_kindNumber_1 ?_
  exact ⟨rfl, rfl, rfl⟩

set_option maxHeartbeats 4000000 in
set_option maxRecDepth 100000 in
/-- BanisterWord.Child.handHeight  -/
theorem c_X0_handHeight (l : Launch) (E : xE) (g : hG) (n : Nat) (a : Nat)  : Ct l yX0_handHeight cX0_handHeight 1 (some .int) 0 0 0 0 E [.ref a] (g) n (zr (some (.int (nI 0))) (g) (n)) := by
  refine Ct.of (by decide +kernel) (Nat.le_of_ble_eq_true rfl) (fun v hv => by simp only [List.mem_cons, List.not_mem_nil, or_false] at hv; (try rcases hv with rfl) <;> first | rfl | (subst hv; rfl) | exact hv.elim) ?_
  intro K hKl S
  subst hKl
  have X := S.1
  refine r_iconst (v := nI 0) X dX0_handHeight_0 (by decide) ?_
  refine r_iret S dX0_handHeight_1 ?_
  exact ⟨rfl, rfl, rfl⟩

set_option maxHeartbeats 4000000 in
set_option maxRecDepth 100000 in
/-- BanisterWord.Person.handHeight  -/
theorem c_X6_handHeight (l : Launch) (E : xE) (g : hG) (n : Nat) (a : Nat)  : Ct l yX6_handHeight cX6_handHeight 1 (some .int) 0 0 0 0 E [.ref a] (g) n (zr (some (.int (nI 1))) (g) (n)) := by
  refine Ct.of (by decide +kernel) (Nat.le_of_ble_eq_true rfl) (fun v hv => by simp only [List.mem_cons, List.not_mem_nil, or_false] at hv; (try rcases hv with rfl) <;> first | rfl | (subst hv; rfl) | exact hv.elim) ?_
  intro K hKl S
  subst hKl
  have X := S.1
  refine r_iconst (v := nI 1) X dX6_handHeight_0 (by decide) ?_
  refine r_iret S dX6_handHeight_1 ?_
  exact ⟨rfl, rfl, rfl⟩

set_option maxHeartbeats 4000000 in
set_option maxRecDepth 100000 in
/-- BanisterWord.Maid.firmness  -/
theorem c_X3_firmness (l : Launch) (E : xE) (g : hG) (n : Nat) (a : Nat)  : Ct l yX3_firmness cX3_firmness 1 (some .int) 0 0 0 0 E [.ref a] (g) n (zr (some (.int (nI 0))) (g) (n)) := by
  refine Ct.of (by decide +kernel) (Nat.le_of_ble_eq_true rfl) (fun v hv => by simp only [List.mem_cons, List.not_mem_nil, or_false] at hv; (try rcases hv with rfl) <;> first | rfl | (subst hv; rfl) | exact hv.elim) ?_
  intro K hKl S
  subst hKl
  have X := S.1
  refine r_iconst (v := nI 0) X dX3_firmness_0 (by decide) ?_
  refine r_iret S dX3_firmness_1 ?_
  exact ⟨rfl, rfl, rfl⟩

set_option maxHeartbeats 4000000 in
set_option maxRecDepth 100000 in
/-- BanisterWord.Guest.feels  -/
theorem c_X2_feels (l : Launch) (E : xE) (g : hG) (n : Nat) (a : Nat)  : Ct l yX2_feels cX2_feels 1 (some .boolean) 0 0 0 0 E [.ref a] (g) n (zr (some (.int (bI true))) (g) (n)) := by
  refine Ct.of (by decide +kernel) (Nat.le_of_ble_eq_true rfl) (fun v hv => by simp only [List.mem_cons, List.not_mem_nil, or_false] at hv; (try rcases hv with rfl) <;> first | rfl | (subst hv; rfl) | exact hv.elim) ?_
  intro K hKl S
  subst hKl
  have X := S.1
  refine r_iconst (v := nI 1) X dX2_feels_0 (by decide) ?_
  refine r_zret S dX2_feels_1 (by first | rfl | exact bI_nar _) ?_
  exact ⟨rfl, rfl, rfl⟩

set_option maxHeartbeats 4000000 in
set_option maxRecDepth 100000 in
/-- BanisterWord.Gloved.feels  -/
theorem c_X1_feels (l : Launch) (E : xE) (g : hG) (n : Nat) (a : Nat)  : Ct l yX1_feels cX1_feels 1 (some .boolean) 0 0 0 0 E [.ref a] (g) n (zr (some (.int (bI false))) (g) (n)) := by
  refine Ct.of (by decide +kernel) (Nat.le_of_ble_eq_true rfl) (fun v hv => by simp only [List.mem_cons, List.not_mem_nil, or_false] at hv; (try rcases hv with rfl) <;> first | rfl | (subst hv; rfl) | exact hv.elim) ?_
  intro K hKl S
  subst hKl
  have X := S.1
  refine r_iconst (v := nI 0) X dX1_feels_0 (by decide) ?_
  refine r_zret S dX1_feels_1 (by first | rfl | exact bI_nar _) ?_
  exact ⟨rfl, rfl, rfl⟩

set_option maxHeartbeats 4000000 in
set_option maxRecDepth 100000 in
/-- BanisterWord.Maid.feels  -/
theorem c_X3_feels (l : Launch) (E : xE) (g : hG) (n : Nat) (a : Nat)  : Ct l yX3_feels cX3_feels 1 (some .boolean) 0 0 0 0 E [.ref a] (g) n (zr (some (.int (bI false))) (g) (n)) := by
  refine Ct.of (by decide +kernel) (Nat.le_of_ble_eq_true rfl) (fun v hv => by simp only [List.mem_cons, List.not_mem_nil, or_false] at hv; (try rcases hv with rfl) <;> first | rfl | (subst hv; rfl) | exact hv.elim) ?_
  intro K hKl S
  subst hKl
  have X := S.1
  refine r_iconst (v := nI 0) X dX3_feels_0 (by decide) ?_
  refine r_zret S dX3_feels_1 (by first | rfl | exact bI_nar _) ?_
  exact ⟨rfl, rfl, rfl⟩

set_option maxHeartbeats 4000000 in
set_option maxRecDepth 100000 in
/-- BanisterWord.Child.firmness  -/
theorem c_X0_firmness (l : Launch) (E : xE) (g : hG) (n : Nat) (a w : Nat) (ha : g a = some (oc 0 [.int (nI w)])) (hw : w < 1000) : Ct l yX0_firmness cX0_firmness 1 (some .int) 0 0 0 0 E [.ref a] (g) n (zr (some (.int (nI (2 * w)))) (g) (n)) := by
  refine Ct.of (by decide +kernel) (Nat.le_of_ble_eq_true rfl) (fun v hv => by simp only [List.mem_cons, List.not_mem_nil, or_false] at hv; (try rcases hv with rfl) <;> first | rfl | (subst hv; rfl) | exact hv.elim) ?_
  intro K hKl S
  subst hKl
  have X := S.1
  refine r_iconst (v := nI 2) X dX0_firmness_0 (by decide) ?_
  refine r_aload_n X dX0_firmness_1 rfl ?_
  refine r_get (ci := 0) X 0 _ ti_RX0 rfl (by decide) tw_341 (fun x9 h9 => u_same (X.w _ tw_342) x9 h9) dX0_firmness_2 (by first | assumption | exact hu_eq _ _ _ | (rw [hu_ne _ _ (by omega)]; first | assumption | exact hu_eq _ _ _) | (rw [hu_ne _ _ (by omega), hu_ne _ _ (by omega)]; first | assumption | exact hu_eq _ _ _)) rfl ?_
  first | refine r_imulN X dX0_firmness_5 ?_ | refine r_imul X _ dX0_firmness_5 rfl ?_
  refine r_iret S dX0_firmness_6 ?_
  exact ⟨rfl, rfl, rfl⟩

set_option maxHeartbeats 4000000 in
set_option maxRecDepth 100000 in
/-- BanisterWord.Gloved.firmness  -/
theorem c_X1_firmness (l : Launch) (E : xE) (g : hG) (n : Nat) (a w : Nat) (ha : g a = some (oc 1 [.int (nI w)])) (hw : w < 1000) : Ct l yX1_firmness cX1_firmness 1 (some .int) 0 0 0 0 E [.ref a] (g) n (zr (some (.int (nI (w / 2)))) (g) (n)) := by
  refine Ct.of (by decide +kernel) (Nat.le_of_ble_eq_true rfl) (fun v hv => by simp only [List.mem_cons, List.not_mem_nil, or_false] at hv; (try rcases hv with rfl) <;> first | rfl | (subst hv; rfl) | exact hv.elim) ?_
  intro K hKl S
  subst hKl
  have X := S.1
  refine r_aload_n X dX1_firmness_0 rfl ?_
  refine r_get (ci := 1) X 0 _ ti_RX1 rfl (by decide) tw_337 (fun x9 h9 => u_same (X.w _ tw_338) x9 h9) dX1_firmness_1 (by first | assumption | exact hu_eq _ _ _ | (rw [hu_ne _ _ (by omega)]; first | assumption | exact hu_eq _ _ _) | (rw [hu_ne _ _ (by omega), hu_ne _ _ (by omega)]; first | assumption | exact hu_eq _ _ _)) rfl ?_
  refine r_iconst (v := nI 2) X dX1_firmness_4 (by decide) ?_
  refine r_idivN X dX1_firmness_5 (by omega) (by omega) (by omega) ?_
  refine r_iret S dX1_firmness_6 ?_
  exact ⟨rfl, rfl, rfl⟩

set_option maxHeartbeats 4000000 in
set_option maxRecDepth 100000 in
/-- BanisterWord.Guest.firmness  -/
theorem c_X2_firmness (l : Launch) (E : xE) (g : hG) (n : Nat) (a w : Nat) (ha : g a = some (oc 2 [.int (nI w)])) (hw : w < 1000) : Ct l yX2_firmness cX2_firmness 1 (some .int) 0 0 0 0 E [.ref a] (g) n (zr (some (.int (nI (w)))) (g) (n)) := by
  refine Ct.of (by decide +kernel) (Nat.le_of_ble_eq_true rfl) (fun v hv => by simp only [List.mem_cons, List.not_mem_nil, or_false] at hv; (try rcases hv with rfl) <;> first | rfl | (subst hv; rfl) | exact hv.elim) ?_
  intro K hKl S
  subst hKl
  have X := S.1
  refine r_aload_n X dX2_firmness_0 rfl ?_
  refine r_get (ci := 2) X 0 _ ti_RX2 rfl (by decide) tw_339 (fun x9 h9 => u_same (X.w _ tw_340) x9 h9) dX2_firmness_1 (by first | assumption | exact hu_eq _ _ _ | (rw [hu_ne _ _ (by omega)]; first | assumption | exact hu_eq _ _ _) | (rw [hu_ne _ _ (by omega), hu_ne _ _ (by omega)]; first | assumption | exact hu_eq _ _ _)) rfl ?_
  refine r_iret S dX2_firmness_4 ?_
  exact ⟨rfl, rfl, rfl⟩

set_option maxHeartbeats 2000000 in
theorem vc_RX7_handHeight {K : xC} {E : xE} {cells slots pc nL : Nat} {ls : List (Option Value)} {st : List Value} {g : hG} {n : Nat} {cc : ByteArray} {R : Room} (S : Sx K E cc nL "BanisterWord$Rails" R) (hlen : ls.length = nL) {a c w : Nat} (hc : c < 4) (hw : w < 1000) (he : g a = some (oc c [.int (nI w)])) (hR : 1 ≤ R.frames ∧ 8 + (1 + 11) + 0 ≤ R.locals) (hok : (cells + 0 ≤ R.cells ∧ slots + 0 ≤ R.slots) ∧ (st.map fun v => v.category).sum ≤ 8) (hd : decode cc pc = .ok (.invokevirtual 32, 3)) (kk : Wg K E cells slots (pc + 3) ls (.int (nI (handN c)) :: st) g n) : Wg K E cells slots pc ls (.ref a :: st) g n := by
  rcases (show c = 0 ∨ c = 1 ∨ c = 2 ∨ c = 3 by omega) with rfl | rfl | rfl | rfl
  · exact r_callU (ci := 0) (fs := [.int (nI w)]) S hlen (c_X0_handHeight _ E g n a) (va_cwO (owner := "BanisterWord$Person") (x := ⟨"BanisterWord$Person", "handHeight", "()I"⟩) 0 S.w (gd_app (fun w hw => by
      simp only [List.mem_cons, List.not_mem_nil, or_false] at hw
      rcases hw with rfl | rfl | rfl | rfl | rfl | rfl
      · exact tw_477
      · exact tw_479
      · exact tw_478
      · exact tw_480
      · exact tw_481
      · exact tw_14) (gd_all tw_482)) rfl rfl rfl tw_486 ⟨by decide +kernel, by decide +kernel, by decide +kernel⟩ hR) rfl he rfl hok hd (kk_r (Wf := Wg K E _ _ _ _) kk)
  · exact r_callU (ci := 1) (fs := [.int (nI w)]) S hlen (c_X6_handHeight _ E g n a) (va_cwU (owner := "BanisterWord$Person") (x := ⟨"BanisterWord$Person", "handHeight", "()I"⟩) 0 S.w (gd_app (fun w hw => by
      simp only [List.mem_cons, List.not_mem_nil, or_false] at hw
      rcases hw with rfl | rfl | rfl | rfl | rfl
      · exact tw_477
      · exact tw_479
      · exact tw_483
      · exact tw_478
      · exact tw_12) (gd_all tw_486)) rfl rfl rfl rfl ⟨by decide +kernel, by decide +kernel, by decide +kernel⟩ hR) rfl he rfl hok hd (kk_r (Wf := Wg K E _ _ _ _) kk)
  · exact r_callU (ci := 2) (fs := [.int (nI w)]) S hlen (c_X6_handHeight _ E g n a) (va_cwU (owner := "BanisterWord$Person") (x := ⟨"BanisterWord$Person", "handHeight", "()I"⟩) 0 S.w (gd_app (fun w hw => by
      simp only [List.mem_cons, List.not_mem_nil, or_false] at hw
      rcases hw with rfl | rfl | rfl | rfl | rfl
      · exact tw_477
      · exact tw_479
      · exact tw_484
      · exact tw_478
      · exact tw_12) (gd_all tw_486)) rfl rfl rfl rfl ⟨by decide +kernel, by decide +kernel, by decide +kernel⟩ hR) rfl he rfl hok hd (kk_r (Wf := Wg K E _ _ _ _) kk)
  · exact r_callU (ci := 3) (fs := [.int (nI w)]) S hlen (c_X6_handHeight _ E g n a) (va_cwU (owner := "BanisterWord$Person") (x := ⟨"BanisterWord$Person", "handHeight", "()I"⟩) 0 S.w (gd_app (fun w hw => by
      simp only [List.mem_cons, List.not_mem_nil, or_false] at hw
      rcases hw with rfl | rfl | rfl | rfl | rfl
      · exact tw_477
      · exact tw_479
      · exact tw_485
      · exact tw_478
      · exact tw_12) (gd_all tw_486)) rfl rfl rfl rfl ⟨by decide +kernel, by decide +kernel, by decide +kernel⟩ hR) rfl he rfl hok hd (kk_r (Wf := Wg K E _ _ _ _) kk)
set_option maxHeartbeats 2000000 in
theorem vc_RX7_firmness {K : xC} {E : xE} {cells slots pc nL : Nat} {ls : List (Option Value)} {st : List Value} {g : hG} {n : Nat} {cc : ByteArray} {R : Room} (S : Sx K E cc nL "BanisterWord$Rails" R) (hlen : ls.length = nL) {a c w : Nat} (hc : c < 4) (hw : w < 1000) (he : g a = some (oc c [.int (nI w)])) (hR : 1 ≤ R.frames ∧ 8 + (1 + 11) + 0 ≤ R.locals) (hok : (cells + 0 ≤ R.cells ∧ slots + 0 ≤ R.slots) ∧ (st.map fun v => v.category).sum ≤ 8) (hd : decode cc pc = .ok (.invokevirtual 38, 3)) (kk : Wg K E cells slots (pc + 3) ls (.int (nI (firmN c w)) :: st) g n) : Wg K E cells slots pc ls (.ref a :: st) g n := by
  rcases (show c = 0 ∨ c = 1 ∨ c = 2 ∨ c = 3 by omega) with rfl | rfl | rfl | rfl
  · exact r_callU (ci := 0) (fs := [.int (nI w)]) S hlen (c_X0_firmness _ E g n a w he hw) (va_cwA (owner := "BanisterWord$Person") (x := ⟨"BanisterWord$Person", "firmness", "()I"⟩) 0 S.w (gd_app (fun w hw => by
      simp only [List.mem_cons, List.not_mem_nil, or_false] at hw
      rcases hw with rfl | rfl | rfl | rfl | rfl
      · exact tw_487
      · exact tw_441
      · exact tw_442
      · exact tw_443
      · exact tw_14) (gd_all tw_444)) rfl rfl rfl S.2.1.2.1.D1 ⟨by decide +kernel, by decide +kernel, by decide +kernel⟩ hR) rfl he rfl hok hd (kk_r (Wf := Wg K E _ _ _ _) kk)
  · exact r_callU (ci := 1) (fs := [.int (nI w)]) S hlen (c_X1_firmness _ E g n a w he hw) (va_cwA (owner := "BanisterWord$Person") (x := ⟨"BanisterWord$Person", "firmness", "()I"⟩) 0 S.w (gd_app (fun w hw => by
      simp only [List.mem_cons, List.not_mem_nil, or_false] at hw
      rcases hw with rfl | rfl | rfl | rfl | rfl
      · exact tw_487
      · exact tw_441
      · exact tw_445
      · exact tw_446
      · exact tw_15) (gd_all tw_447)) rfl rfl rfl S.2.1.2.1.D1 ⟨by decide +kernel, by decide +kernel, by decide +kernel⟩ hR) rfl he rfl hok hd (kk_r (Wf := Wg K E _ _ _ _) kk)
  · exact r_callU (ci := 2) (fs := [.int (nI w)]) S hlen (c_X2_firmness _ E g n a w he hw) (va_cwA (owner := "BanisterWord$Person") (x := ⟨"BanisterWord$Person", "firmness", "()I"⟩) 0 S.w (gd_app (fun w hw => by
      simp only [List.mem_cons, List.not_mem_nil, or_false] at hw
      rcases hw with rfl | rfl | rfl | rfl | rfl
      · exact tw_487
      · exact tw_441
      · exact tw_448
      · exact tw_449
      · exact tw_13) (gd_all tw_450)) rfl rfl rfl S.2.1.2.1.D1 ⟨by decide +kernel, by decide +kernel, by decide +kernel⟩ hR) rfl he rfl hok hd (kk_r (Wf := Wg K E _ _ _ _) kk)
  · exact r_callU (ci := 3) (fs := [.int (nI w)]) S hlen (c_X3_firmness _ E g n a) (va_cwA (owner := "BanisterWord$Person") (x := ⟨"BanisterWord$Person", "firmness", "()I"⟩) 0 S.w (gd_app (fun w hw => by
      simp only [List.mem_cons, List.not_mem_nil, or_false] at hw
      rcases hw with rfl | rfl | rfl | rfl | rfl
      · exact tw_487
      · exact tw_441
      · exact tw_451
      · exact tw_452
      · exact tw_16) (gd_all tw_453)) rfl rfl rfl S.2.1.2.1.D1 ⟨by decide +kernel, by decide +kernel, by decide +kernel⟩ hR) rfl he rfl hok hd (kk_r (Wf := Wg K E _ _ _ _) kk)
set_option maxHeartbeats 2000000 in
theorem vc_RX7_feels {K : xC} {E : xE} {cells slots pc nL : Nat} {ls : List (Option Value)} {st : List Value} {g : hG} {n : Nat} {cc : ByteArray} {R : Room} (S : Sx K E cc nL "BanisterWord$Rails" R) (hlen : ls.length = nL) {a c w : Nat} (hc : c < 4) (hw : w < 1000) (he : g a = some (oc c [.int (nI w)])) (hR : 1 ≤ R.frames ∧ 8 + (1 + 11) + 0 ≤ R.locals) (hok : (cells + 0 ≤ R.cells ∧ slots + 0 ≤ R.slots) ∧ (st.map fun v => v.category).sum ≤ 8) (hd : decode cc pc = .ok (.invokevirtual 46, 3)) (kk : Wg K E cells slots (pc + 3) ls (.int (bI (feelsB c)) :: st) g n) : Wg K E cells slots pc ls (.ref a :: st) g n := by
  rcases (show c = 0 ∨ c = 1 ∨ c = 2 ∨ c = 3 by omega) with rfl | rfl | rfl | rfl
  · exact r_callU (ci := 0) (fs := [.int (nI w)]) S hlen (c_X2_feels _ E g n a) (va_cwA (owner := "BanisterWord$Person") (x := ⟨"BanisterWord$Person", "feels", "()Z"⟩) 0 S.w (gd_app (fun w hw => by
      simp only [List.mem_cons, List.not_mem_nil, or_false] at hw
      rcases hw with rfl | rfl | rfl | rfl | rfl
      · exact tw_498
      · exact tw_500
      · exact tw_501
      · exact tw_502
      · exact tw_13) (gd_all tw_503)) rfl rfl rfl S.2.1.2.1.D2 ⟨by decide +kernel, by decide +kernel, by decide +kernel⟩ hR) rfl he rfl hok hd (kk_r (Wf := Wg K E _ _ _ _) kk)
  · exact r_callU (ci := 1) (fs := [.int (nI w)]) S hlen (c_X1_feels _ E g n a) (va_cwA (owner := "BanisterWord$Person") (x := ⟨"BanisterWord$Person", "feels", "()Z"⟩) 0 S.w (gd_app (fun w hw => by
      simp only [List.mem_cons, List.not_mem_nil, or_false] at hw
      rcases hw with rfl | rfl | rfl | rfl | rfl
      · exact tw_498
      · exact tw_500
      · exact tw_504
      · exact tw_505
      · exact tw_15) (gd_all tw_506)) rfl rfl rfl S.2.1.2.1.D2 ⟨by decide +kernel, by decide +kernel, by decide +kernel⟩ hR) rfl he rfl hok hd (kk_r (Wf := Wg K E _ _ _ _) kk)
  · exact r_callU (ci := 2) (fs := [.int (nI w)]) S hlen (c_X2_feels _ E g n a) (va_cwA (owner := "BanisterWord$Person") (x := ⟨"BanisterWord$Person", "feels", "()Z"⟩) 0 S.w (gd_app (fun w hw => by
      simp only [List.mem_cons, List.not_mem_nil, or_false] at hw
      rcases hw with rfl | rfl | rfl | rfl | rfl
      · exact tw_498
      · exact tw_500
      · exact tw_507
      · exact tw_502
      · exact tw_13) (gd_all tw_503)) rfl rfl rfl S.2.1.2.1.D2 ⟨by decide +kernel, by decide +kernel, by decide +kernel⟩ hR) rfl he rfl hok hd (kk_r (Wf := Wg K E _ _ _ _) kk)
  · exact r_callU (ci := 3) (fs := [.int (nI w)]) S hlen (c_X3_feels _ E g n a) (va_cwA (owner := "BanisterWord$Person") (x := ⟨"BanisterWord$Person", "feels", "()Z"⟩) 0 S.w (gd_app (fun w hw => by
      simp only [List.mem_cons, List.not_mem_nil, or_false] at hw
      rcases hw with rfl | rfl | rfl | rfl | rfl
      · exact tw_498
      · exact tw_500
      · exact tw_508
      · exact tw_509
      · exact tw_16) (gd_all tw_510)) rfl rfl rfl S.2.1.2.1.D2 ⟨by decide +kernel, by decide +kernel, by decide +kernel⟩ hR) rfl he rfl hok hd (kk_r (Wf := Wg K E _ _ _ _) kk)
set_option maxHeartbeats 2000000 in
theorem vc_RX10_kindNumber {K : xC} {E : xE} {cells slots pc nL : Nat} {ls : List (Option Value)} {st : List Value} {g : hG} {n : Nat} {cc : ByteArray} {R : Room} (S : Sx K E cc nL "BanisterWord" R) (hlen : ls.length = nL) {a c w : Nat} (hc : c < 4) (hw : w < 1000) (he : g a = some (oc c [.int (nI w)])) (hR : 1 ≤ R.frames ∧ 8 + (1 + 11) + 0 ≤ R.locals) (hok : (cells + 0 ≤ R.cells ∧ slots + 0 ≤ R.slots) ∧ (st.map fun v => v.category).sum ≤ 8) (hd : decode cc pc = .ok (.invokevirtual 92, 3)) (kk : Wg K E cells slots (pc + 3) ls (.int (nI (kindN c)) :: st) g n) : Wg K E cells slots pc ls (.ref a :: st) g n := by
  rcases (show c = 0 ∨ c = 1 ∨ c = 2 ∨ c = 3 by omega) with rfl | rfl | rfl | rfl
  · exact r_callU (ci := 0) (fs := [.int (nI w)]) S hlen (c_X0_kindNumber _ E g n a) (va_cwA (owner := "BanisterWord$Person") (x := ⟨"BanisterWord$Person", "kindNumber", "()I"⟩) 0 S.w (gd_app (fun w hw => by
      simp only [List.mem_cons, List.not_mem_nil, or_false] at hw
      rcases hw with rfl | rfl | rfl | rfl | rfl
      · exact tw_394
      · exact tw_396
      · exact tw_397
      · exact tw_398
      · exact tw_14) (gd_all tw_399)) rfl rfl rfl S.2.1.2.1.D0 ⟨by decide +kernel, by decide +kernel, by decide +kernel⟩ hR) rfl he rfl hok hd (kk_r (Wf := Wg K E _ _ _ _) kk)
  · exact r_callU (ci := 1) (fs := [.int (nI w)]) S hlen (c_X1_kindNumber _ E g n a) (va_cwA (owner := "BanisterWord$Person") (x := ⟨"BanisterWord$Person", "kindNumber", "()I"⟩) 0 S.w (gd_app (fun w hw => by
      simp only [List.mem_cons, List.not_mem_nil, or_false] at hw
      rcases hw with rfl | rfl | rfl | rfl | rfl
      · exact tw_394
      · exact tw_396
      · exact tw_400
      · exact tw_401
      · exact tw_15) (gd_all tw_402)) rfl rfl rfl S.2.1.2.1.D0 ⟨by decide +kernel, by decide +kernel, by decide +kernel⟩ hR) rfl he rfl hok hd (kk_r (Wf := Wg K E _ _ _ _) kk)
  · exact r_callU (ci := 2) (fs := [.int (nI w)]) S hlen (c_X2_kindNumber _ E g n a) (va_cwA (owner := "BanisterWord$Person") (x := ⟨"BanisterWord$Person", "kindNumber", "()I"⟩) 0 S.w (gd_app (fun w hw => by
      simp only [List.mem_cons, List.not_mem_nil, or_false] at hw
      rcases hw with rfl | rfl | rfl | rfl | rfl
      · exact tw_394
      · exact tw_396
      · exact tw_403
      · exact tw_404
      · exact tw_13) (gd_all tw_405)) rfl rfl rfl S.2.1.2.1.D0 ⟨by decide +kernel, by decide +kernel, by decide +kernel⟩ hR) rfl he rfl hok hd (kk_r (Wf := Wg K E _ _ _ _) kk)
  · exact r_callU (ci := 3) (fs := [.int (nI w)]) S hlen (c_X3_kindNumber _ E g n a) (va_cwA (owner := "BanisterWord$Person") (x := ⟨"BanisterWord$Person", "kindNumber", "()I"⟩) 0 S.w (gd_app (fun w hw => by
      simp only [List.mem_cons, List.not_mem_nil, or_false] at hw
      rcases hw with rfl | rfl | rfl | rfl | rfl
      · exact tw_394
      · exact tw_396
      · exact tw_406
      · exact tw_407
      · exact tw_16) (gd_all tw_408)) rfl rfl rfl S.2.1.2.1.D0 ⟨by decide +kernel, by decide +kernel, by decide +kernel⟩ hR) rfl he rfl hok hd (kk_r (Wf := Wg K E _ _ _ _) kk)
set_option maxHeartbeats 2000000 in
theorem vc_RX10_firmness {K : xC} {E : xE} {cells slots pc nL : Nat} {ls : List (Option Value)} {st : List Value} {g : hG} {n : Nat} {cc : ByteArray} {R : Room} (S : Sx K E cc nL "BanisterWord" R) (hlen : ls.length = nL) {a c w : Nat} (hc : c < 4) (hw : w < 1000) (he : g a = some (oc c [.int (nI w)])) (hR : 1 ≤ R.frames ∧ 8 + (1 + 11) + 0 ≤ R.locals) (hok : (cells + 0 ≤ R.cells ∧ slots + 0 ≤ R.slots) ∧ (st.map fun v => v.category).sum ≤ 8) (hd : decode cc pc = .ok (.invokevirtual 123, 3)) (kk : Wg K E cells slots (pc + 3) ls (.int (nI (firmN c w)) :: st) g n) : Wg K E cells slots pc ls (.ref a :: st) g n := by
  rcases (show c = 0 ∨ c = 1 ∨ c = 2 ∨ c = 3 by omega) with rfl | rfl | rfl | rfl
  · exact r_callU (ci := 0) (fs := [.int (nI w)]) S hlen (c_X0_firmness _ E g n a w he hw) (va_cwA (owner := "BanisterWord$Person") (x := ⟨"BanisterWord$Person", "firmness", "()I"⟩) 0 S.w (gd_app (fun w hw => by
      simp only [List.mem_cons, List.not_mem_nil, or_false] at hw
      rcases hw with rfl | rfl | rfl | rfl | rfl
      · exact tw_439
      · exact tw_441
      · exact tw_442
      · exact tw_443
      · exact tw_14) (gd_all tw_444)) rfl rfl rfl S.2.1.2.1.D1 ⟨by decide +kernel, by decide +kernel, by decide +kernel⟩ hR) rfl he rfl hok hd (kk_r (Wf := Wg K E _ _ _ _) kk)
  · exact r_callU (ci := 1) (fs := [.int (nI w)]) S hlen (c_X1_firmness _ E g n a w he hw) (va_cwA (owner := "BanisterWord$Person") (x := ⟨"BanisterWord$Person", "firmness", "()I"⟩) 0 S.w (gd_app (fun w hw => by
      simp only [List.mem_cons, List.not_mem_nil, or_false] at hw
      rcases hw with rfl | rfl | rfl | rfl | rfl
      · exact tw_439
      · exact tw_441
      · exact tw_445
      · exact tw_446
      · exact tw_15) (gd_all tw_447)) rfl rfl rfl S.2.1.2.1.D1 ⟨by decide +kernel, by decide +kernel, by decide +kernel⟩ hR) rfl he rfl hok hd (kk_r (Wf := Wg K E _ _ _ _) kk)
  · exact r_callU (ci := 2) (fs := [.int (nI w)]) S hlen (c_X2_firmness _ E g n a w he hw) (va_cwA (owner := "BanisterWord$Person") (x := ⟨"BanisterWord$Person", "firmness", "()I"⟩) 0 S.w (gd_app (fun w hw => by
      simp only [List.mem_cons, List.not_mem_nil, or_false] at hw
      rcases hw with rfl | rfl | rfl | rfl | rfl
      · exact tw_439
      · exact tw_441
      · exact tw_448
      · exact tw_449
      · exact tw_13) (gd_all tw_450)) rfl rfl rfl S.2.1.2.1.D1 ⟨by decide +kernel, by decide +kernel, by decide +kernel⟩ hR) rfl he rfl hok hd (kk_r (Wf := Wg K E _ _ _ _) kk)
  · exact r_callU (ci := 3) (fs := [.int (nI w)]) S hlen (c_X3_firmness _ E g n a) (va_cwA (owner := "BanisterWord$Person") (x := ⟨"BanisterWord$Person", "firmness", "()I"⟩) 0 S.w (gd_app (fun w hw => by
      simp only [List.mem_cons, List.not_mem_nil, or_false] at hw
      rcases hw with rfl | rfl | rfl | rfl | rfl
      · exact tw_439
      · exact tw_441
      · exact tw_451
      · exact tw_452
      · exact tw_16) (gd_all tw_453)) rfl rfl rfl S.2.1.2.1.D1 ⟨by decide +kernel, by decide +kernel, by decide +kernel⟩ hR) rfl he rfl hok hd (kk_r (Wf := Wg K E _ _ _ _) kk)
set_option maxHeartbeats 2000000 in
theorem vc_RX10_handHeight {K : xC} {E : xE} {cells slots pc nL : Nat} {ls : List (Option Value)} {st : List Value} {g : hG} {n : Nat} {cc : ByteArray} {R : Room} (S : Sx K E cc nL "BanisterWord" R) (hlen : ls.length = nL) {a c w : Nat} (hc : c < 4) (hw : w < 1000) (he : g a = some (oc c [.int (nI w)])) (hR : 1 ≤ R.frames ∧ 8 + (1 + 11) + 0 ≤ R.locals) (hok : (cells + 0 ≤ R.cells ∧ slots + 0 ≤ R.slots) ∧ (st.map fun v => v.category).sum ≤ 8) (hd : decode cc pc = .ok (.invokevirtual 137, 3)) (kk : Wg K E cells slots (pc + 3) ls (.int (nI (handN c)) :: st) g n) : Wg K E cells slots pc ls (.ref a :: st) g n := by
  rcases (show c = 0 ∨ c = 1 ∨ c = 2 ∨ c = 3 by omega) with rfl | rfl | rfl | rfl
  · exact r_callU (ci := 0) (fs := [.int (nI w)]) S hlen (c_X0_handHeight _ E g n a) (va_cwO (owner := "BanisterWord$Person") (x := ⟨"BanisterWord$Person", "handHeight", "()I"⟩) 0 S.w (gd_app (fun w hw => by
      simp only [List.mem_cons, List.not_mem_nil, or_false] at hw
      rcases hw with rfl | rfl | rfl | rfl | rfl | rfl
      · exact tw_489
      · exact tw_479
      · exact tw_478
      · exact tw_480
      · exact tw_481
      · exact tw_14) (gd_all tw_482)) rfl rfl rfl tw_486 ⟨by decide +kernel, by decide +kernel, by decide +kernel⟩ hR) rfl he rfl hok hd (kk_r (Wf := Wg K E _ _ _ _) kk)
  · exact r_callU (ci := 1) (fs := [.int (nI w)]) S hlen (c_X6_handHeight _ E g n a) (va_cwU (owner := "BanisterWord$Person") (x := ⟨"BanisterWord$Person", "handHeight", "()I"⟩) 0 S.w (gd_app (fun w hw => by
      simp only [List.mem_cons, List.not_mem_nil, or_false] at hw
      rcases hw with rfl | rfl | rfl | rfl | rfl
      · exact tw_489
      · exact tw_479
      · exact tw_483
      · exact tw_478
      · exact tw_12) (gd_all tw_486)) rfl rfl rfl rfl ⟨by decide +kernel, by decide +kernel, by decide +kernel⟩ hR) rfl he rfl hok hd (kk_r (Wf := Wg K E _ _ _ _) kk)
  · exact r_callU (ci := 2) (fs := [.int (nI w)]) S hlen (c_X6_handHeight _ E g n a) (va_cwU (owner := "BanisterWord$Person") (x := ⟨"BanisterWord$Person", "handHeight", "()I"⟩) 0 S.w (gd_app (fun w hw => by
      simp only [List.mem_cons, List.not_mem_nil, or_false] at hw
      rcases hw with rfl | rfl | rfl | rfl | rfl
      · exact tw_489
      · exact tw_479
      · exact tw_484
      · exact tw_478
      · exact tw_12) (gd_all tw_486)) rfl rfl rfl rfl ⟨by decide +kernel, by decide +kernel, by decide +kernel⟩ hR) rfl he rfl hok hd (kk_r (Wf := Wg K E _ _ _ _) kk)
  · exact r_callU (ci := 3) (fs := [.int (nI w)]) S hlen (c_X6_handHeight _ E g n a) (va_cwU (owner := "BanisterWord$Person") (x := ⟨"BanisterWord$Person", "handHeight", "()I"⟩) 0 S.w (gd_app (fun w hw => by
      simp only [List.mem_cons, List.not_mem_nil, or_false] at hw
      rcases hw with rfl | rfl | rfl | rfl | rfl
      · exact tw_489
      · exact tw_479
      · exact tw_485
      · exact tw_478
      · exact tw_12) (gd_all tw_486)) rfl rfl rfl rfl ⟨by decide +kernel, by decide +kernel, by decide +kernel⟩ hR) rfl he rfl hok hd (kk_r (Wf := Wg K E _ _ _ _) kk)
set_option maxHeartbeats 2000000 in
theorem vc_RX10_feels {K : xC} {E : xE} {cells slots pc nL : Nat} {ls : List (Option Value)} {st : List Value} {g : hG} {n : Nat} {cc : ByteArray} {R : Room} (S : Sx K E cc nL "BanisterWord" R) (hlen : ls.length = nL) {a c w : Nat} (hc : c < 4) (hw : w < 1000) (he : g a = some (oc c [.int (nI w)])) (hR : 1 ≤ R.frames ∧ 8 + (1 + 11) + 0 ≤ R.locals) (hok : (cells + 0 ≤ R.cells ∧ slots + 0 ≤ R.slots) ∧ (st.map fun v => v.category).sum ≤ 8) (hd : decode cc pc = .ok (.invokevirtual 181, 3)) (kk : Wg K E cells slots (pc + 3) ls (.int (bI (feelsB c)) :: st) g n) : Wg K E cells slots pc ls (.ref a :: st) g n := by
  rcases (show c = 0 ∨ c = 1 ∨ c = 2 ∨ c = 3 by omega) with rfl | rfl | rfl | rfl
  · exact r_callU (ci := 0) (fs := [.int (nI w)]) S hlen (c_X2_feels _ E g n a) (va_cwA (owner := "BanisterWord$Person") (x := ⟨"BanisterWord$Person", "feels", "()Z"⟩) 0 S.w (gd_app (fun w hw => by
      simp only [List.mem_cons, List.not_mem_nil, or_false] at hw
      rcases hw with rfl | rfl | rfl | rfl | rfl
      · exact tw_577
      · exact tw_500
      · exact tw_501
      · exact tw_502
      · exact tw_13) (gd_all tw_503)) rfl rfl rfl S.2.1.2.1.D2 ⟨by decide +kernel, by decide +kernel, by decide +kernel⟩ hR) rfl he rfl hok hd (kk_r (Wf := Wg K E _ _ _ _) kk)
  · exact r_callU (ci := 1) (fs := [.int (nI w)]) S hlen (c_X1_feels _ E g n a) (va_cwA (owner := "BanisterWord$Person") (x := ⟨"BanisterWord$Person", "feels", "()Z"⟩) 0 S.w (gd_app (fun w hw => by
      simp only [List.mem_cons, List.not_mem_nil, or_false] at hw
      rcases hw with rfl | rfl | rfl | rfl | rfl
      · exact tw_577
      · exact tw_500
      · exact tw_504
      · exact tw_505
      · exact tw_15) (gd_all tw_506)) rfl rfl rfl S.2.1.2.1.D2 ⟨by decide +kernel, by decide +kernel, by decide +kernel⟩ hR) rfl he rfl hok hd (kk_r (Wf := Wg K E _ _ _ _) kk)
  · exact r_callU (ci := 2) (fs := [.int (nI w)]) S hlen (c_X2_feels _ E g n a) (va_cwA (owner := "BanisterWord$Person") (x := ⟨"BanisterWord$Person", "feels", "()Z"⟩) 0 S.w (gd_app (fun w hw => by
      simp only [List.mem_cons, List.not_mem_nil, or_false] at hw
      rcases hw with rfl | rfl | rfl | rfl | rfl
      · exact tw_577
      · exact tw_500
      · exact tw_507
      · exact tw_502
      · exact tw_13) (gd_all tw_503)) rfl rfl rfl S.2.1.2.1.D2 ⟨by decide +kernel, by decide +kernel, by decide +kernel⟩ hR) rfl he rfl hok hd (kk_r (Wf := Wg K E _ _ _ _) kk)
  · exact r_callU (ci := 3) (fs := [.int (nI w)]) S hlen (c_X3_feels _ E g n a) (va_cwA (owner := "BanisterWord$Person") (x := ⟨"BanisterWord$Person", "feels", "()Z"⟩) 0 S.w (gd_app (fun w hw => by
      simp only [List.mem_cons, List.not_mem_nil, or_false] at hw
      rcases hw with rfl | rfl | rfl | rfl | rfl
      · exact tw_577
      · exact tw_500
      · exact tw_508
      · exact tw_509
      · exact tw_16) (gd_all tw_510)) rfl rfl rfl S.2.1.2.1.D2 ⟨by decide +kernel, by decide +kernel, by decide +kernel⟩ hR) rfl he rfl hok hd (kk_r (Wf := Wg K E _ _ _ _) kk)
