/-- Rails at r: its two rows lie behind it -/
def rR (E : xE) (g : hG) (r : Nat) (f h : Nat → Nat) : hG := hu (hu g (r + 1) (nc E 24 f)) (r + 2) (nc E 24 h)
def ra (E : xE) (g : hG) (r : Nat) (f h : Nat → Nat) : Prop := g r = some (oc 6 [.ref (r + 1), .ref (r + 2)]) ∧ g (r + 1) = some (nc E 24 f) ∧ g (r + 2) = some (nc E 24 h)
theorem rR_ne {E : xE} {g : hG} {r q : Nat} {f h : Nat → Nat} (h1 : q ≠ r + 1) (h2 : q ≠ r + 2) : rR E g r f h q = g q := by unfold rR; rw [hu_ne _ _ h2, hu_ne _ _ h1]
theorem rR_1 {E : xE} {g : hG} {r : Nat} {f h : Nat → Nat} : rR E g r f h (r + 1) = some (nc E 24 f) := by unfold rR; rw [hu_ne _ _ (by omega), hu_eq]
theorem rR_2 {E : xE} {g : hG} {r : Nat} {f h : Nat → Nat} : rR E g r f h (r + 2) = some (nc E 24 h) := by unfold rR; rw [hu_eq]
theorem ra.set {E : xE} {g : hG} {r : Nat} {f h f' h' : Nat → Nat} (a : ra E g r f h) : ra E (rR E g r f' h') r f' h' := ⟨by rw [rR_ne (by omega) (by omega)]; exact a.1, rR_1, rR_2⟩
theorem rR_rR {E : xE} {g : hG} {r : Nat} {f h f' h' : Nat → Nat} : rR E (rR E g r f h) r f' h' = rR E g r f' h' := by
  funext q
  by_cases h2 : q = r + 2
  · subst h2; rw [rR_2, rR_2]
  · by_cases h1 : q = r + 1
    · subst h1; rw [rR_1, rR_1]
    · rw [rR_ne h1 h2, rR_ne h1 h2, rR_ne h1 h2]
theorem ra.self {E : xE} {g : hG} {r : Nat} {f h : Nat → Nat} (a : ra E g r f h) : rR E g r f h = g := by
  funext q
  by_cases h2 : q = r + 2
  · subst h2; rw [rR_2, a.2.2]
  · by_cases h1 : q = r + 1
    · subst h1; rw [rR_1, a.2.1]
    · rw [rR_ne h1 h2]
theorem rR_congr {E : xE} {g : hG} {r : Nat} {f h f' h' : Nat → Nat} (e1 : ∀ j, j < 24 → f j = f' j) (e2 : ∀ j, j < 24 → h j = h' j) : rR E g r f h = rR E g r f' h' := by unfold rR; rw [nc_congr e1, nc_congr e2]
/-- the bit of a saying -/
def bt (x : Nat) : Nat := if x = 0 then 0 else 2 ^ x
theorem bt_lt {x : Nat} (h : x ≤ 7) : bt x < 256 := by
  have : ∀ x, x ≤ 7 → bt x < 256 := by decide
  exact this x h
def hbF (f : Nat → Nat) (hd : Nat) : Nat → Nat
  | 0 => 0
  | k + 1 => hbF f hd k ||| bt (f (k * 2 + hd))
theorem or_lt {a b : Nat} (ha : a < 256) (hb : b < 256) : a ||| b < 256 := Nat.or_lt_two_pow (n := 8) ha hb
theorem hbF_lt {f : Nat → Nat} (hf : ∀ j, f j ≤ 7) (hd : Nat) : ∀ k, hbF f hd k < 256
  | 0 => (by decide : 0 < 256)
  | k + 1 => or_lt (hbF_lt hf hd k) (bt_lt (hf _))
/-- places p are less firm by 1 -/
def rubF (p : Nat → Bool) (f h : Nat → Nat) : Nat → Nat := fun j => if p j = true then (if h j - 1 = 0 then 0 else f j) else f j
def rubH (p : Nat → Bool) (h : Nat → Nat) : Nat → Nat := fun j => if p j = true then h j - 1 else h j
theorem rub_step {p p' : Nat → Bool} {f h : Nat → Nat} {j0 : Nat} (h0 : p j0 = false) (h1 : p' j0 = true) (h2 : ∀ j, j ≠ j0 → p' j = p j) : va_up (rubF p f h) j0 (if rubH p h j0 - 1 = 0 then 0 else rubF p f h j0) = rubF p' f h ∧ va_up (rubH p h) j0 (rubH p h j0 - 1) = rubH p' h := by
  constructor
  · funext j
    by_cases e : j = j0
    · subst e; simp [va_up, rubF, rubH, h0, h1]
    · simp [va_up, rubF, e, h2 j e]
  · funext j
    by_cases e : j = j0
    · subst e; simp [va_up, rubH, h0, h1]
    · simp [va_up, rubH, e, h2 j e]
def upP (hd k : Nat) : Nat → Bool := fun j => decide (j % 2 = hd ∧ j / 2 < k)
def ltP (k : Nat) : Nat → Bool := fun j => decide (j < k)
theorem rub_none {p : Nat → Bool} {f h : Nat → Nat} (hp : ∀ j, p j = false) : rubF p f h = f ∧ rubH p h = h := ⟨by funext j; simp [rubF, hp], by funext j; simp [rubH, hp]⟩
def takeF (f h : Nat → Nat) (j q t : Nat) : Nat → Nat := if f j = 0 ∨ f j = t then va_up f j (if min 99 (h j + q) = 0 then 0 else t) else if h j < q then va_up f j (if q - h j = 0 then 0 else t) else va_up f j (if h j - q = 0 then 0 else f j)
def takeH (f h : Nat → Nat) (j q t : Nat) : Nat → Nat := if f j = 0 ∨ f j = t then va_up h j (min 99 (h j + q)) else if h j < q then va_up h j (q - h j) else va_up h j (h j - q)
def fmx (f h : Nat → Nat) (t ht : Nat) : Nat → Nat
  | 0 => 0
  | k + 1 => if f (k * 2 + ht) = t then max (fmx f h t ht k) (h (k * 2 + ht)) else fmx f h t ht k
theorem fmx_le {f h : Nat → Nat} (hh : ∀ j, h j ≤ 99) (t ht : Nat) : ∀ k, fmx f h t ht k ≤ 99
  | 0 => by simp [fmx]
  | k + 1 => by
    have h1 := fmx_le (f := f) hh t ht k
    have h2 := hh (k * 2 + ht)
    unfold fmx
    split
    · omega
    · exact h1
def cntF (f : Nat → Nat) : Nat → Nat
  | 0 => 0
  | k + 1 => cntF f k + (if f k = 0 then 0 else 1)
theorem cntF_le (f : Nat → Nat) : ∀ k, cntF f k ≤ k
  | 0 => by simp [cntF]
  | k + 1 => by have := cntF_le f k; unfold cntF; split <;> omega
def sumF (h : Nat → Nat) : Nat → Nat
  | 0 => 0
  | k + 1 => sumF h k + h k
def orF (f : Nat → Nat) : Nat → Nat
  | 0 => 0
  | k + 1 => orF f k ||| bt (f k)
theorem orF_lt {f : Nat → Nat} (hf : ∀ j, f j ≤ 7) : ∀ k, orF f k < 256
  | 0 => (by decide : 0 < 256)
  | k + 1 => or_lt (orF_lt hf k) (bt_lt (hf _))

set_option maxHeartbeats 4000000 in
set_option maxRecDepth 100000 in
/-- BanisterWord.Rails.<init>  -/
theorem c_X7_init (l : Launch) (E : xE) (g : hG) (n : Nat) (r : Nat) (hn : n = r + 1) (hr : g r = some (oc 6 [.null, .null])) : Ct l yX7_init cX7_init 1 none 1 48 2 48 E [.ref r] (g) n (zr (none) (rR E (hu g r (oc 6 [.ref (r + 1), .ref (r + 2)])) r (fun _ => 0) (fun _ => 0)) (n + 2)) := by
  refine Ct.of (by decide +kernel) (Nat.le_of_ble_eq_true rfl) (fun v hv => by simp only [List.mem_cons, List.not_mem_nil, or_false] at hv; (try rcases hv with rfl) <;> first | rfl | (subst hv; rfl) | exact hv.elim) ?_
  intro K hKl S
  subst hKl
  have X := S.1
  subst hn
  refine r_aload_n X dX7_init_0 rfl ?_
  refine r_objInit X rfl tw_65 tw_25 tw_26 (Nat.le_of_ble_eq_true rfl) (Nat.le_of_ble_eq_true rfl) dX7_init_1 ?_
  refine r_aload_n X dX7_init_4 rfl ?_
  refine r_bipush (v := nI 24) X dX7_init_5 (by decide) ?_
  refine r_newi X tw_57 24 rfl (by decide) (Nat.le_of_ble_eq_true rfl) (Nat.le_of_ble_eq_true rfl) dX7_init_7 ?_
  refine r_putF (ci := 6) (ty := .array .int) X 0 ti_RX7 tyX7 tyX7_ok nmX7 rfl (by decide) tw_66 (fun _ h => h) rfl S.2.2.2.2 rfl (by decide +kernel) dX7_init_9 (by first | assumption | exact hu_eq _ _ _ | (rw [hu_ne _ _ (by omega)]; first | assumption | exact hu_eq _ _ _) | (rw [hu_ne _ _ (by omega), hu_ne _ _ (by omega)]; first | assumption | exact hu_eq _ _ _)) rfl rfl (Nat.le_of_ble_eq_true rfl) ?_
  try dsimp only [List.set]
  refine r_aload_n X dX7_init_12 rfl ?_
  refine r_bipush (v := nI 24) X dX7_init_13 (by decide) ?_
  refine r_newi X tw_57 24 rfl (by decide) (Nat.le_of_ble_eq_true rfl) (Nat.le_of_ble_eq_true rfl) dX7_init_15 ?_
  refine r_putF (ci := 6) (ty := .array .int) X 1 ti_RX7 tyX7 tyX7_ok nmX7 rfl (by decide) tw_67 (fun _ h => h) rfl S.2.2.2.2 rfl (by decide +kernel) dX7_init_17 (by first | assumption | exact hu_eq _ _ _ | (rw [hu_ne _ _ (by omega)]; first | assumption | exact hu_eq _ _ _) | (rw [hu_ne _ _ (by omega), hu_ne _ _ (by omega)]; first | assumption | exact hu_eq _ _ _)) rfl rfl (Nat.le_of_ble_eq_true rfl) ?_
  try dsimp only [List.set]
  refine r_vret S dX7_init_20 ?_
  refine ⟨rfl, ?_, rfl⟩
  funext q
  by_cases e2 : q = r + 2
  · subst e2; rw [rR_2]; simp [hu, nc_0]
  · by_cases e1 : q = r + 1
    · subst e1; rw [rR_1]; simp [hu, nc_0]
    · rw [rR_ne e1 e2]; by_cases e0 : q = r
      · subst e0; simp [hu]
      · simp [hu, e0, e1, e2, show ¬ q = r + 1 + 1 by omega]

set_option maxHeartbeats 4000000 in
set_option maxRecDepth 100000 in
/-- BanisterWord.Rails.cell  -/
theorem c_X7_cell (l : Launch) (E : xE) (g : hG) (n : Nat) (s t : Nat)  : Ct l yX7_cell cX7_cell 2 (some .int) 0 0 0 0 E [.int (nI s), .int (nI t)] (g) n (zr (some (.int (nI (s * 2 + t)))) (g) (n)) := by
  refine Ct.of (by decide +kernel) (Nat.le_of_ble_eq_true rfl) (fun v hv => by simp only [List.mem_cons, List.not_mem_nil, or_false] at hv; (try rcases hv with rfl | rfl) <;> first | rfl | (subst hv; rfl) | exact hv.elim) ?_
  intro K hKl S
  subst hKl
  have X := S.1
  refine r_iload_n X dX7_cell_0 rfl ?_
  refine r_iconst (v := nI 2) X dX7_cell_1 (by decide) ?_
  first | refine r_imulN X dX7_cell_2 ?_ | refine r_imul X _ dX7_cell_2 rfl ?_
  refine r_iload_n X dX7_cell_3 rfl ?_
  first | refine r_iaddN X dX7_cell_4 ?_ | refine r_iadd X _ dX7_cell_4 rfl ?_
  refine r_iret S dX7_cell_5 ?_
  exact ⟨rfl, rfl, rfl⟩

set_option maxHeartbeats 4000000 in
set_option maxRecDepth 100000 in
/-- BanisterWord.Rails.sayingAt  -/
theorem c_X7_sayingAt (l : Launch) (E : xE) (g : hG) (n : Nat) (r : Nat) (f h : Nat → Nat) (s t : Nat) (hr : ra E g r f h) (hs : s * 2 + t < 24) : Ct l yX7_sayingAt cX7_sayingAt 3 (some .int) 1 21 0 0 E [.ref r, .int (nI s), .int (nI t)] (g) n (zr (some (.int (nI (f (s * 2 + t))))) (g) (n)) := by
  refine Ct.of (by decide +kernel) (Nat.le_of_ble_eq_true rfl) (fun v hv => by simp only [List.mem_cons, List.not_mem_nil, or_false] at hv; (try rcases hv with rfl | rfl | rfl) <;> first | rfl | (subst hv; rfl) | exact hv.elim) ?_
  intro K hKl S
  subst hKl
  have X := S.1
  obtain ⟨hr0, hr1, hr2⟩ := id hr
  refine r_aload_n X dX7_sayingAt_0 rfl ?_
  refine r_get (ci := 6) X 0 _ ti_RX7 rfl (by decide) tw_66 (fun _ h => h) dX7_sayingAt_1 (by first | assumption | exact hu_eq _ _ _ | (rw [hu_ne _ _ (by omega)]; first | assumption | exact hu_eq _ _ _) | (rw [hu_ne _ _ (by omega), hu_ne _ _ (by omega)]; first | assumption | exact hu_eq _ _ _)) rfl ?_
  refine r_iload_n X dX7_sayingAt_4 rfl ?_
  refine r_iload_n X dX7_sayingAt_5 rfl ?_
  refine r_callS X rfl (c_X7_cell _ E g n s t) tw_317 tw_318 tw_3 tw_319 rfl ⟨ok_X7_cell, ⟨Nat.le_of_ble_eq_true rfl, Nat.le_of_ble_eq_true rfl⟩, ⟨Nat.le_of_ble_eq_true rfl, Nat.le_of_ble_eq_true rfl⟩, Nat.le_of_ble_eq_true rfl⟩ dX7_sayingAt_6 (kk_r (Wf := Wg K E _ _ _ _) ?_)
  refine r_nald X _ dX7_sayingAt_9 (by first | assumption | exact hu_eq _ _ _ | (rw [hu_ne _ _ (by omega)]; first | assumption | exact hu_eq _ _ _) | (rw [hu_ne _ _ (by omega), hu_ne _ _ (by omega)]; first | assumption | exact hu_eq _ _ _)) (rfl) (by omega) (by decide) ?_
  refine r_iret S dX7_sayingAt_10 ?_
  exact ⟨rfl, rfl, rfl⟩

set_option maxHeartbeats 4000000 in
set_option maxRecDepth 100000 in
/-- BanisterWord.Rails.firmAt  -/
theorem c_X7_firmAt (l : Launch) (E : xE) (g : hG) (n : Nat) (r : Nat) (f h : Nat → Nat) (s t : Nat) (hr : ra E g r f h) (hs : s * 2 + t < 24) : Ct l yX7_firmAt cX7_firmAt 3 (some .int) 1 21 0 0 E [.ref r, .int (nI s), .int (nI t)] (g) n (zr (some (.int (nI (h (s * 2 + t))))) (g) (n)) := by
  refine Ct.of (by decide +kernel) (Nat.le_of_ble_eq_true rfl) (fun v hv => by simp only [List.mem_cons, List.not_mem_nil, or_false] at hv; (try rcases hv with rfl | rfl | rfl) <;> first | rfl | (subst hv; rfl) | exact hv.elim) ?_
  intro K hKl S
  subst hKl
  have X := S.1
  obtain ⟨hr0, hr1, hr2⟩ := id hr
  refine r_aload_n X dX7_firmAt_0 rfl ?_
  refine r_get (ci := 6) X 1 _ ti_RX7 rfl (by decide) tw_67 (fun _ h => h) dX7_firmAt_1 (by first | assumption | exact hu_eq _ _ _ | (rw [hu_ne _ _ (by omega)]; first | assumption | exact hu_eq _ _ _) | (rw [hu_ne _ _ (by omega), hu_ne _ _ (by omega)]; first | assumption | exact hu_eq _ _ _)) rfl ?_
  refine r_iload_n X dX7_firmAt_4 rfl ?_
  refine r_iload_n X dX7_firmAt_5 rfl ?_
  refine r_callS X rfl (c_X7_cell _ E g n s t) tw_317 tw_318 tw_3 tw_319 rfl ⟨ok_X7_cell, ⟨Nat.le_of_ble_eq_true rfl, Nat.le_of_ble_eq_true rfl⟩, ⟨Nat.le_of_ble_eq_true rfl, Nat.le_of_ble_eq_true rfl⟩, Nat.le_of_ble_eq_true rfl⟩ dX7_firmAt_6 (kk_r (Wf := Wg K E _ _ _ _) ?_)
  refine r_nald X _ dX7_firmAt_9 (by first | assumption | exact hu_eq _ _ _ | (rw [hu_ne _ _ (by omega)]; first | assumption | exact hu_eq _ _ _) | (rw [hu_ne _ _ (by omega), hu_ne _ _ (by omega)]; first | assumption | exact hu_eq _ _ _)) (rfl) (by omega) (by decide) ?_
  refine r_iret S dX7_firmAt_10 ?_
  exact ⟨rfl, rfl, rfl⟩

set_option maxHeartbeats 4000000 in
set_option maxRecDepth 100000 in
/-- BanisterWord.Rails.set  -/
theorem c_X7_set (l : Launch) (E : xE) (g : hG) (n : Nat) (r : Nat) (f h : Nat → Nat) (j x y : Nat) (hr : ra E g r f h) (hj : j < 24) (hy : y < 2 ^ 31) : Ct l yX7_set cX7_set 4 none 0 0 0 0 E [.ref r, .int (nI j), .int (nI x), .int (nI y)] (g) n (zr (none) (rR E g r (va_up f j (if y = 0 then 0 else x)) (va_up h j y)) (n)) := by
  refine Ct.of (by decide +kernel) (Nat.le_of_ble_eq_true rfl) (fun v hv => by simp only [List.mem_cons, List.not_mem_nil, or_false] at hv; (try rcases hv with rfl | rfl | rfl | rfl) <;> first | rfl | (subst hv; rfl) | exact hv.elim) ?_
  intro K hKl S
  subst hKl
  have X := S.1
  obtain ⟨hr0, hr1, hr2⟩ := id hr
  refine r_aload_n X dX7_set_0 rfl ?_
  refine r_get (ci := 6) X 0 _ ti_RX7 rfl (by decide) tw_66 (fun _ h => h) dX7_set_1 (by first | assumption | exact hu_eq _ _ _ | (rw [hu_ne _ _ (by omega)]; first | assumption | exact hu_eq _ _ _) | (rw [hu_ne _ _ (by omega), hu_ne _ _ (by omega)]; first | assumption | exact hu_eq _ _ _)) rfl ?_
  refine r_iload_n X dX7_set_4 rfl ?_
  refine r_iload_n X dX7_set_5 rfl ?_
  refine r_if_leN X 13 dX7_set_6 (by decide) (by omega) (fun c_6 => ?_) (fun c_6 => ?_)
  · skip
    refine r_iconst (v := nI 0) X dX7_set_13 (by decide) ?_
    refine r_nast X _ dX7_set_14 (by first | assumption | exact hu_eq _ _ _ | (rw [hu_ne _ _ (by omega)]; first | assumption | exact hu_eq _ _ _) | (rw [hu_ne _ _ (by omega), hu_ne _ _ (by omega)]; first | assumption | exact hu_eq _ _ _)) (rfl) (by omega) (by decide) ?_
    refine r_aload_n X dX7_set_15 rfl ?_
    refine r_get (ci := 6) X 1 _ ti_RX7 rfl (by decide) tw_67 (fun _ h => h) dX7_set_16 (by first | assumption | exact hu_eq _ _ _ | (rw [hu_ne _ _ (by omega)]; first | assumption | exact hu_eq _ _ _) | (rw [hu_ne _ _ (by omega), hu_ne _ _ (by omega)]; first | assumption | exact hu_eq _ _ _)) rfl ?_
    refine r_iload_n X dX7_set_19 rfl ?_
    refine r_iload_n X dX7_set_20 rfl ?_
    refine r_nast X _ dX7_set_21 (by first | assumption | exact hu_eq _ _ _ | (rw [hu_ne _ _ (by omega)]; first | assumption | exact hu_eq _ _ _) | (rw [hu_ne _ _ (by omega), hu_ne _ _ (by omega)]; first | assumption | exact hu_eq _ _ _)) (rfl) (by omega) (by decide) ?_
    refine r_vret S dX7_set_22 ?_
    first | (subst c_6; exact ⟨rfl, rfl, rfl⟩) | (rw [if_neg (Nat.ne_of_gt c_6)]; exact ⟨rfl, rfl, rfl⟩)
  · skip
    refine r_iload_n X dX7_set_9 rfl ?_
    refine r_goto X 14 dX7_set_10 (by decide) ?_
    refine r_nast X _ dX7_set_14 (by first | assumption | exact hu_eq _ _ _ | (rw [hu_ne _ _ (by omega)]; first | assumption | exact hu_eq _ _ _) | (rw [hu_ne _ _ (by omega), hu_ne _ _ (by omega)]; first | assumption | exact hu_eq _ _ _)) (rfl) (by omega) (by decide) ?_
    refine r_aload_n X dX7_set_15 rfl ?_
    refine r_get (ci := 6) X 1 _ ti_RX7 rfl (by decide) tw_67 (fun _ h => h) dX7_set_16 (by first | assumption | exact hu_eq _ _ _ | (rw [hu_ne _ _ (by omega)]; first | assumption | exact hu_eq _ _ _) | (rw [hu_ne _ _ (by omega), hu_ne _ _ (by omega)]; first | assumption | exact hu_eq _ _ _)) rfl ?_
    refine r_iload_n X dX7_set_19 rfl ?_
    refine r_iload_n X dX7_set_20 rfl ?_
    refine r_nast X _ dX7_set_21 (by first | assumption | exact hu_eq _ _ _ | (rw [hu_ne _ _ (by omega)]; first | assumption | exact hu_eq _ _ _) | (rw [hu_ne _ _ (by omega), hu_ne _ _ (by omega)]; first | assumption | exact hu_eq _ _ _)) (rfl) (by omega) (by decide) ?_
    refine r_vret S dX7_set_22 ?_
    first | (subst c_6; exact ⟨rfl, rfl, rfl⟩) | (rw [if_neg (Nat.ne_of_gt c_6)]; exact ⟨rfl, rfl, rfl⟩)

set_option maxHeartbeats 4000000 in
set_option maxRecDepth 100000 in
/-- BanisterWord.Rails.put  -/
theorem c_X7_put (l : Launch) (E : xE) (g : hG) (n : Nat) (r : Nat) (f h : Nat → Nat) (s t x y : Nat) (hr : ra E g r f h) (hs : s * 2 + t < 24) (hy : y < 2 ^ 31) : Ct l yX7_put cX7_put 5 none 1 23 0 0 E [.ref r, .int (nI s), .int (nI t), .int (nI x), .int (nI y)] (g) n (zr (none) (rR E g r (va_up f (s * 2 + t) (if y = 0 then 0 else x)) (va_up h (s * 2 + t) y)) (n)) := by
  refine Ct.of (by decide +kernel) (Nat.le_of_ble_eq_true rfl) (fun v hv => by simp only [List.mem_cons, List.not_mem_nil, or_false] at hv; (try rcases hv with rfl | rfl | rfl | rfl | rfl) <;> first | rfl | (subst hv; rfl) | exact hv.elim) ?_
  intro K hKl S
  subst hKl
  have X := S.1
  obtain ⟨hr0, hr1, hr2⟩ := id hr
  refine r_aload_n X dX7_put_0 rfl ?_
  refine r_iload_n X dX7_put_1 rfl ?_
  refine r_iload_n X dX7_put_2 rfl ?_
  refine r_callS X rfl (c_X7_cell _ E g n s t) tw_317 tw_318 tw_3 tw_319 rfl ⟨ok_X7_cell, ⟨Nat.le_of_ble_eq_true rfl, Nat.le_of_ble_eq_true rfl⟩, ⟨Nat.le_of_ble_eq_true rfl, Nat.le_of_ble_eq_true rfl⟩, Nat.le_of_ble_eq_true rfl⟩ dX7_put_3 (kk_r (Wf := Wg K E _ _ _ _) ?_)
  refine r_iload_n X dX7_put_6 rfl ?_
  refine r_iload X dX7_put_7 rfl ?_
  refine r_callV (ci := 6) X rfl (c_X7_set _ E g n r f h (s * 2 + t) x y hr hs hy) tw_309 tw_311 tp_8 tw_3 tw_312 rfl rfl (by first | assumption | exact hu_eq _ _ _ | (rw [hu_ne _ _ (by omega)]; first | assumption | exact hu_eq _ _ _) | (rw [hu_ne _ _ (by omega), hu_ne _ _ (by omega)]; first | assumption | exact hu_eq _ _ _)) rfl ⟨ok_X7_set, ⟨Nat.le_of_ble_eq_true rfl, Nat.le_of_ble_eq_true rfl⟩, ⟨Nat.le_of_ble_eq_true rfl, Nat.le_of_ble_eq_true rfl⟩, Nat.le_of_ble_eq_true rfl⟩ dX7_put_9 (kk_v (Wf := Wg K E _ _ _ _) ?_)
  refine r_vret S dX7_put_12 ?_
  exact ⟨rfl, rfl, rfl⟩

set_option maxHeartbeats 4000000 in
set_option maxRecDepth 100000 in
/-- BanisterWord.Rails.clear  -/
theorem c_X7_clear (l : Launch) (E : xE) (g : hG) (n : Nat) (r : Nat) (f h : Nat → Nat) (hr : ra E g r f h) : Ct l yX7_clear cX7_clear 2 none 1 23 0 0 E [.ref r] (g) n (zr (none) (rR E g r (fun _ => 0) (fun _ => 0)) (n)) := by
  refine Ct.of (by decide +kernel) (Nat.le_of_ble_eq_true rfl) (fun v hv => by simp only [List.mem_cons, List.not_mem_nil, or_false] at hv; (try rcases hv with rfl) <;> first | rfl | (subst hv; rfl) | exact hv.elim) ?_
  intro K hKl S
  subst hKl
  have X := S.1
  obtain ⟨hr0, hr1, hr2⟩ := id hr
  refine r_iconst (v := nI 0) X dX7_clear_0 (by decide) ?_
  refine r_istore_n X dX7_clear_1 (Nat.le_of_ble_eq_true rfl) ?_
  try dsimp only [List.set]
  have hloop : ∀ (k : Nat), k ≤ 24 → Wg K E (0) (0) 2 [some (.ref r), some (.int (nI k))] [] (rR E g r (fun j => if j < k then 0 else f j) (fun j => if j < k then 0 else h j)) (n) := by
    refine ind_up _ (24) (fun k hk ih => ?_)
    have hra : ra E (rR E g r (fun j => if j < k then 0 else f j) (fun j => if j < k then 0 else h j)) r _ _ := hr.set
    refine r_iload_n X dX7_clear_2 rfl ?_
    refine r_bipush (v := nI 24) X dX7_clear_3 (by decide) ?_
    refine r_icmp_geN X 21 dX7_clear_5 (by decide) (by omega) (by omega) (fun c_5 => ?_) (fun c_5 => ?_)
    · skip
      refine r_vret S dX7_clear_21 ?_
      obtain rfl : k = 24 := by omega
      refine ⟨rfl, rR_congr (fun j hj => by simp [hj]) (fun j hj => by simp [hj]), rfl⟩
    · skip
      refine r_aload_n X dX7_clear_8 rfl ?_
      refine r_iload_n X dX7_clear_9 rfl ?_
      refine r_iconst (v := nI 0) X dX7_clear_10 (by decide) ?_
      refine r_iconst (v := nI 0) X dX7_clear_11 (by decide) ?_
      refine r_callV (ci := 6) X rfl (c_X7_set _ E _ n r _ _ k 0 0 hra (by omega) (by omega)) tw_309 tw_311 tp_8 tw_3 tw_312 rfl rfl (by first | exact hra.1 | assumption) rfl ⟨ok_X7_set, ⟨Nat.le_of_ble_eq_true rfl, Nat.le_of_ble_eq_true rfl⟩, ⟨Nat.le_of_ble_eq_true rfl, Nat.le_of_ble_eq_true rfl⟩, Nat.le_of_ble_eq_true rfl⟩ dX7_clear_12 (kk_v (Wf := Wg K E _ _ _ _) ?_)
      first | refine r_iincN X dX7_clear_15 rfl ?_ | refine r_iinc X _ dX7_clear_15 rfl rfl ?_
      try dsimp only [List.set]
      refine r_goto X 2 dX7_clear_18 (by decide) ?_
      refine r_heap ?_ (ih (by omega))
      rw [rR_rR]
      refine rR_congr (fun j _ => ?_) (fun j _ => ?_)
      · by_cases e : j = k
        · subst e; simp [va_up]
        · simp only [va_up, if_neg e]; by_cases e2 : j < k
          · simp [e2, show j < k + 1 by omega]
          · simp [e2, show ¬ j < k + 1 by omega]
      · by_cases e : j = k
        · subst e; simp [va_up]
        · simp only [va_up, if_neg e]; by_cases e2 : j < k
          · simp [e2, show j < k + 1 by omega]
          · simp [e2, show ¬ j < k + 1 by omega]
  refine r_heap ?_ (hloop 0 (Nat.zero_le _))
  rw [show (fun j => if j < 0 then 0 else f j) = f from by funext j; simp, show (fun j => if j < 0 then 0 else h j) = h from by funext j; simp, hr.self]

set_option maxHeartbeats 4000000 in
set_option maxRecDepth 100000 in
/-- BanisterWord.Rails.copyFrom  -/
theorem c_X7_copyFrom (l : Launch) (E : xE) (g : hG) (n : Nat) (r q : Nat) (f h f2 h2 : Nat → Nat) (hr : ra E g r f h) (hq : ra E g q f2 h2) (hd : q + 2 < r ∨ r + 2 < q) : Ct l yX7_copyFrom cX7_copyFrom 2 none 1 48 0 0 E [.ref r, .ref q] (g) n (zr (none) (rR E g r f2 h2) (n)) := by
  refine Ct.of (by decide +kernel) (Nat.le_of_ble_eq_true rfl) (fun v hv => by simp only [List.mem_cons, List.not_mem_nil, or_false] at hv; (try rcases hv with rfl | rfl) <;> first | rfl | (subst hv; rfl) | exact hv.elim) ?_
  intro K hKl S
  subst hKl
  have X := S.1
  obtain ⟨hr0, hr1, hr2⟩ := id hr
  obtain ⟨hq0, hq1, hq2⟩ := id hq
  refine r_aload_n X dX7_copyFrom_0 rfl ?_
  refine r_get (ci := 6) X 0 _ ti_RX7 rfl (by decide) tw_66 (fun _ h => h) dX7_copyFrom_1 (by first | assumption | exact hu_eq _ _ _ | (rw [hu_ne _ _ (by omega)]; first | assumption | exact hu_eq _ _ _) | (rw [hu_ne _ _ (by omega), hu_ne _ _ (by omega)]; first | assumption | exact hu_eq _ _ _)) rfl ?_
  refine r_iconst (v := nI 0) X dX7_copyFrom_4 (by decide) ?_
  refine r_aload_n X dX7_copyFrom_5 rfl ?_
  refine r_get (ci := 6) X 0 _ ti_RX7 rfl (by decide) tw_66 (fun _ h => h) dX7_copyFrom_6 (by first | assumption | exact hu_eq _ _ _ | (rw [hu_ne _ _ (by omega)]; first | assumption | exact hu_eq _ _ _) | (rw [hu_ne _ _ (by omega), hu_ne _ _ (by omega)]; first | assumption | exact hu_eq _ _ _)) rfl ?_
  refine r_iconst (v := nI 0) X dX7_copyFrom_9 (by decide) ?_
  refine r_bipush (v := nI 24) X dX7_copyFrom_10 (by decide) ?_
  refine r_copy X rfl tw_383 tw_385 tw_384 tw_17 (Nat.le_of_ble_eq_true rfl) (Nat.le_of_ble_eq_true rfl) dX7_copyFrom_12 (by first | assumption | exact hu_eq _ _ _ | (rw [hu_ne _ _ (by omega)]; first | assumption | exact hu_eq _ _ _) | (rw [hu_ne _ _ (by omega), hu_ne _ _ (by omega)]; first | assumption | exact hu_eq _ _ _)) (by first | assumption | exact hu_eq _ _ _ | (rw [hu_ne _ _ (by omega)]; first | assumption | exact hu_eq _ _ _) | (rw [hu_ne _ _ (by omega), hu_ne _ _ (by omega)]; first | assumption | exact hu_eq _ _ _)) (by decide) rfl ?_
  refine r_aload_n X dX7_copyFrom_15 rfl ?_
  refine r_get (ci := 6) X 1 _ ti_RX7 rfl (by decide) tw_67 (fun _ h => h) dX7_copyFrom_16 (by first | assumption | exact hu_eq _ _ _ | (rw [hu_ne _ _ (by omega)]; first | assumption | exact hu_eq _ _ _) | (rw [hu_ne _ _ (by omega), hu_ne _ _ (by omega)]; first | assumption | exact hu_eq _ _ _)) rfl ?_
  refine r_iconst (v := nI 0) X dX7_copyFrom_19 (by decide) ?_
  refine r_aload_n X dX7_copyFrom_20 rfl ?_
  refine r_get (ci := 6) X 1 _ ti_RX7 rfl (by decide) tw_67 (fun _ h => h) dX7_copyFrom_21 (by first | assumption | exact hu_eq _ _ _ | (rw [hu_ne _ _ (by omega)]; first | assumption | exact hu_eq _ _ _) | (rw [hu_ne _ _ (by omega), hu_ne _ _ (by omega)]; first | assumption | exact hu_eq _ _ _)) rfl ?_
  refine r_iconst (v := nI 0) X dX7_copyFrom_24 (by decide) ?_
  refine r_bipush (v := nI 24) X dX7_copyFrom_25 (by decide) ?_
  refine r_copy X rfl tw_383 tw_385 tw_384 tw_17 (Nat.le_of_ble_eq_true rfl) (Nat.le_of_ble_eq_true rfl) dX7_copyFrom_27 (by first | assumption | exact hu_eq _ _ _ | (rw [hu_ne _ _ (by omega)]; first | assumption | exact hu_eq _ _ _) | (rw [hu_ne _ _ (by omega), hu_ne _ _ (by omega)]; first | assumption | exact hu_eq _ _ _)) (by first | assumption | exact hu_eq _ _ _ | (rw [hu_ne _ _ (by omega)]; first | assumption | exact hu_eq _ _ _) | (rw [hu_ne _ _ (by omega), hu_ne _ _ (by omega)]; first | assumption | exact hu_eq _ _ _)) (by decide) rfl ?_
  refine r_vret S dX7_copyFrom_30 ?_
  exact ⟨rfl, rfl, rfl⟩

set_option maxHeartbeats 4000000 in
set_option maxRecDepth 100000 in
/-- BanisterWord.Rails.bitOf  -/
theorem c_X7_bitOf (l : Launch) (E : xE) (g : hG) (n : Nat) (r : Nat) (f h : Nat → Nat) (j : Nat) (hr : ra E g r f h) (hj : j < 24) (hf : ∀ j, f j ≤ 7) : Ct l yX7_bitOf cX7_bitOf 2 (some .int) 0 0 0 0 E [.ref r, .int (nI j)] (g) n (zr (some (.int (nI (bt (f j))))) (g) (n)) := by
  refine Ct.of (by decide +kernel) (Nat.le_of_ble_eq_true rfl) (fun v hv => by simp only [List.mem_cons, List.not_mem_nil, or_false] at hv; (try rcases hv with rfl | rfl) <;> first | rfl | (subst hv; rfl) | exact hv.elim) ?_
  intro K hKl S
  subst hKl
  have X := S.1
  obtain ⟨hr0, hr1, hr2⟩ := id hr
  have hfj := hf j
  refine r_aload_n X dX7_bitOf_0 rfl ?_
  refine r_get (ci := 6) X 0 _ ti_RX7 rfl (by decide) tw_66 (fun _ h => h) dX7_bitOf_1 (by first | assumption | exact hu_eq _ _ _ | (rw [hu_ne _ _ (by omega)]; first | assumption | exact hu_eq _ _ _) | (rw [hu_ne _ _ (by omega), hu_ne _ _ (by omega)]; first | assumption | exact hu_eq _ _ _)) rfl ?_
  refine r_iload_n X dX7_bitOf_4 rfl ?_
  refine r_nald X _ dX7_bitOf_5 (by first | assumption | exact hu_eq _ _ _ | (rw [hu_ne _ _ (by omega)]; first | assumption | exact hu_eq _ _ _) | (rw [hu_ne _ _ (by omega), hu_ne _ _ (by omega)]; first | assumption | exact hu_eq _ _ _)) (rfl) (by omega) (by decide) ?_
  refine r_if_neN X 13 dX7_bitOf_6 (by decide) (by omega) (fun c_6 => ?_) (fun c_6 => ?_)
  · skip
    refine r_iconst (v := nI 1) X dX7_bitOf_13 (by decide) ?_
    refine r_aload_n X dX7_bitOf_14 rfl ?_
    refine r_get (ci := 6) X 0 _ ti_RX7 rfl (by decide) tw_66 (fun _ h => h) dX7_bitOf_15 (by first | assumption | exact hu_eq _ _ _ | (rw [hu_ne _ _ (by omega)]; first | assumption | exact hu_eq _ _ _) | (rw [hu_ne _ _ (by omega), hu_ne _ _ (by omega)]; first | assumption | exact hu_eq _ _ _)) rfl ?_
    refine r_iload_n X dX7_bitOf_18 rfl ?_
    refine r_nald X _ dX7_bitOf_19 (by first | assumption | exact hu_eq _ _ _ | (rw [hu_ne _ _ (by omega)]; first | assumption | exact hu_eq _ _ _) | (rw [hu_ne _ _ (by omega), hu_ne _ _ (by omega)]; first | assumption | exact hu_eq _ _ _)) (rfl) (by omega) (by decide) ?_
    refine r_ishl1N X dX7_bitOf_20 (by omega) ?_
    refine r_iret S dX7_bitOf_21 ?_
    first | (exact ⟨by rw [c_6]; rfl, rfl, rfl⟩) | (exact ⟨by unfold bt; rw [if_neg (Nat.ne_of_gt c_6)], rfl, rfl⟩)
  · skip
    refine r_iconst (v := nI 0) X dX7_bitOf_9 (by decide) ?_
    refine r_goto X 21 dX7_bitOf_10 (by decide) ?_
    refine r_iret S dX7_bitOf_21 ?_
    first | (exact ⟨by rw [c_6]; rfl, rfl, rfl⟩) | (exact ⟨by unfold bt; rw [if_neg (Nat.ne_of_gt c_6)], rfl, rfl⟩)

set_option maxHeartbeats 4000000 in
set_option maxRecDepth 100000 in
/-- BanisterWord.Rails.lessen  -/
theorem c_X7_lessen (l : Launch) (E : xE) (g : hG) (n : Nat) (r : Nat) (f h : Nat → Nat) (j : Nat) (hr : ra E g r f h) (hj : j < 24) (hh : ∀ j, h j ≤ 99) : Ct l yX7_lessen cX7_lessen 2 none 1 48 0 0 E [.ref r, .int (nI j)] (g) n (zr (none) (rR E g r (va_up f j (if h j - 1 = 0 then 0 else f j)) (va_up h j (h j - 1))) (n)) := by
  refine Ct.of (by decide +kernel) (Nat.le_of_ble_eq_true rfl) (fun v hv => by simp only [List.mem_cons, List.not_mem_nil, or_false] at hv; (try rcases hv with rfl | rfl) <;> first | rfl | (subst hv; rfl) | exact hv.elim) ?_
  intro K hKl S
  subst hKl
  have X := S.1
  obtain ⟨hr0, hr1, hr2⟩ := id hr
  have hhj := hh j
  refine r_aload_n X dX7_lessen_0 rfl ?_
  refine r_iload_n X dX7_lessen_1 rfl ?_
  refine r_aload_n X dX7_lessen_2 rfl ?_
  refine r_get (ci := 6) X 0 _ ti_RX7 rfl (by decide) tw_66 (fun _ h => h) dX7_lessen_3 (by first | assumption | exact hu_eq _ _ _ | (rw [hu_ne _ _ (by omega)]; first | assumption | exact hu_eq _ _ _) | (rw [hu_ne _ _ (by omega), hu_ne _ _ (by omega)]; first | assumption | exact hu_eq _ _ _)) rfl ?_
  refine r_iload_n X dX7_lessen_6 rfl ?_
  refine r_nald X _ dX7_lessen_7 (by first | assumption | exact hu_eq _ _ _ | (rw [hu_ne _ _ (by omega)]; first | assumption | exact hu_eq _ _ _) | (rw [hu_ne _ _ (by omega), hu_ne _ _ (by omega)]; first | assumption | exact hu_eq _ _ _)) (rfl) (by omega) (by decide) ?_
  refine r_iconst (v := nI 0) X dX7_lessen_8 (by decide) ?_
  refine r_aload_n X dX7_lessen_9 rfl ?_
  refine r_get (ci := 6) X 1 _ ti_RX7 rfl (by decide) tw_67 (fun _ h => h) dX7_lessen_10 (by first | assumption | exact hu_eq _ _ _ | (rw [hu_ne _ _ (by omega)]; first | assumption | exact hu_eq _ _ _) | (rw [hu_ne _ _ (by omega), hu_ne _ _ (by omega)]; first | assumption | exact hu_eq _ _ _)) rfl ?_
  refine r_iload_n X dX7_lessen_13 rfl ?_
  refine r_nald X _ dX7_lessen_14 (by first | assumption | exact hu_eq _ _ _ | (rw [hu_ne _ _ (by omega)]; first | assumption | exact hu_eq _ _ _) | (rw [hu_ne _ _ (by omega), hu_ne _ _ (by omega)]; first | assumption | exact hu_eq _ _ _)) (rfl) (by omega) (by decide) ?_
  refine r_iconst (v := nI 1) X dX7_lessen_15 (by decide) ?_
  refine r_isub X _ dX7_lessen_16 rfl ?_
  refine r_max X rfl tw_523 tw_524 tw_18 tw_525 (Nat.le_of_ble_eq_true rfl) (Nat.le_of_ble_eq_true rfl) (Nat.le_of_ble_eq_true rfl) (Nat.le_of_ble_eq_true rfl) dX7_lessen_17 ?_
  refine r_top _ _ (nI_max1 (by omega)) ?_
  refine r_callV (ci := 6) X rfl (c_X7_set _ E g n r f h j (f j) (h j - 1) hr hj (by omega)) tw_309 tw_311 tp_8 tw_3 tw_312 rfl rfl (by first | assumption | exact hu_eq _ _ _ | (rw [hu_ne _ _ (by omega)]; first | assumption | exact hu_eq _ _ _) | (rw [hu_ne _ _ (by omega), hu_ne _ _ (by omega)]; first | assumption | exact hu_eq _ _ _)) rfl ⟨ok_X7_set, ⟨Nat.le_of_ble_eq_true rfl, Nat.le_of_ble_eq_true rfl⟩, ⟨Nat.le_of_ble_eq_true rfl, Nat.le_of_ble_eq_true rfl⟩, Nat.le_of_ble_eq_true rfl⟩ dX7_lessen_20 (kk_v (Wf := Wg K E _ _ _ _) ?_)
  refine r_vret S dX7_lessen_23 ?_
  exact ⟨rfl, rfl, rfl⟩

