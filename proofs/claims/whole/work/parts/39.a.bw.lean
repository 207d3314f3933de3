theorem blk_grow {g : hG} {a len l : Nat} {c d : Nat → va_E} (h : ∀ k, k < l → d k = c (len + k)) : blk (blk g a len c) (a + len) l d = blk g a (len + l) c := by
  funext q
  unfold blk
  by_cases e1 : a + len ≤ q ∧ q < a + len + l
  · rw [if_pos e1, if_pos ⟨by omega, by omega⟩, h _ (by omega), show len + (q - (a + len)) = q - a by omega]
  · rw [if_neg e1]
    by_cases e2 : a ≤ q ∧ q < a + len
    · rw [if_pos e2, if_pos ⟨by omega, by omega⟩]
    · rw [if_neg e2, if_neg (by omega)]
theorem blk_abs {g : hG} {a l : Nat} {x : va_E} {d : Nat → va_E} (h : 0 < l) : blk (hu g a x) a l d = blk g a l d := by
  funext q
  unfold blk
  split
  · rfl
  · exact hu_ne _ _ (by omega)
theorem hu_blk {g : hG} {a : Nat} {e : va_E} : hu g a e = blk g a 1 (fun _ => e) := by
  funext q
  unfold blk
  by_cases h : q = a
  · subst h; rw [hu_eq, if_pos ⟨by omega, by omega⟩]
  · rw [hu_ne _ _ h, if_neg (by omega)]
theorem rR_blk {E : xE} {g : hG} {r : Nat} {x : va_E} {f h : Nat → Nat} : rR E (hu (hu g r x) r (oc 6 [.ref (r + 1), .ref (r + 2)])) r f h = blk g r 3 (raCell E r f h) := by
  funext q
  unfold rR blk
  by_cases e0 : q = r
  · subst e0; rw [hu_ne _ _ (by omega), hu_ne _ _ (by omega), hu_eq, if_pos ⟨by omega, by omega⟩, Nat.sub_self]; rfl
  · by_cases e1 : q = r + 1
    · subst e1; rw [hu_ne _ _ (by omega), hu_eq, if_pos ⟨by omega, by omega⟩, show r + 1 - r = 1 by omega]; rfl
    · by_cases e2 : q = r + 2
      · subst e2; rw [hu_eq, if_pos ⟨by omega, by omega⟩, show r + 2 - r = 2 by omega]; rfl
      · rw [hu_ne _ _ e2, hu_ne _ _ e1, hu_ne _ _ e0, hu_ne _ _ e0, if_neg (by omega)]
def txCell (E : xE) (a : Nat) (k : Nat) : va_E := if k = 0 then tO a 0 0 0 0 0 else if k = 1 then nc E 160 (fun _ => 0) else nc E 70 (fun _ => 0)
theorem tx_blk {E : xE} {g : hG} {a : Nat} {x : va_E} : hu (hu (hu (hu g a x) (a + 1) (nc E 160 (fun _ => 0))) (a + 2) (nc E 70 (fun _ => 0))) a (tO a 0 0 0 0 0) = blk g a 3 (txCell E a) := by
  funext q
  unfold blk
  by_cases e0 : q = a
  · subst e0; rw [hu_eq, if_pos ⟨by omega, by omega⟩, Nat.sub_self]; rfl
  · by_cases e1 : q = a + 1
    · subst e1; rw [hu_ne _ _ e0, hu_ne _ _ (by omega), hu_eq, if_pos ⟨by omega, by omega⟩, show a + 1 - a = 1 by omega]; rfl
    · by_cases e2 : q = a + 2
      · subst e2; rw [hu_ne _ _ e0, hu_eq, if_pos ⟨by omega, by omega⟩, show a + 2 - a = 2 by omega]; rfl
      · rw [hu_ne _ _ e0, hu_ne _ _ e2, hu_ne _ _ e1, hu_ne _ _ e0, if_neg (by omega)]
def vB : Nat → Nat := fun k => if k = 0 then 8 else 0
def bw0 (E : xE) (Y k : Nat) : va_E := bwCell E Y vB (fun _ _ => 0) (fun _ => none) (fun _ => none) mo0 (fun _ => mo0) (fun _ => mo0) k
/-- a house under way: its object o, kept moments so far m -/
def ini (E : xE) (Y : Nat) (o : va_E) (m k : Nat) : va_E := if k = 0 then o else if k = 58 then qc E 2 2 (fun i => if i < m then some (Y + 65 + 5 * i) else none) else bw0 E Y k
theorem ini_ne {E : xE} {Y m k : Nat} {o : va_E} (h : k ≠ 0) (h2 : k ≠ 58) : ini E Y o m k = bw0 E Y k := by unfold ini; rw [if_neg h, if_neg h2]
theorem ini_put {E : xE} {g : hG} {Y m len : Nat} {o o' : va_E} (h : 0 < len) : hu (blk g Y len (ini E Y o m)) Y o' = blk g Y len (ini E Y o' m) := by
  refine (blk_hu (o := 0) h).trans (blk_congr (fun k hk => ?_))
  by_cases e : k = 0
  · subst e; rfl
  · rw [vu_ne e]; unfold ini; rw [if_neg e, if_neg e]

set_option maxHeartbeats 4000000 in
set_option maxRecDepth 100000 in
/-- BanisterWord.<init>  -/
theorem c_X10_init (l : Launch) (E : xE) (g : hG) (n : Nat) (Y : Nat) (hn : n = Y + 1) (ha : g Y = some (oc 9 [.null, .null, .null, .null, .null, .null, .null, .null, .null, .int 0, .int 0])) : Ct l yX10_init cX10_init 2 none 4 109 74 1036 E [.ref Y] (g) n (zr (none) (bG E g Y vB (fun _ _ => 0) (fun _ => none) (fun _ => none) mo0 (fun _ => mo0) (fun _ => mo0)) (Y + 75)) := by
  refine Ct.of (by decide +kernel) (Nat.le_of_ble_eq_true rfl) (fun v hv => by simp only [List.mem_cons, List.not_mem_nil, or_false] at hv; (try rcases hv with rfl) <;> first | rfl | (subst hv; rfl) | exact hv.elim) ?_
  intro K hKl S
  subst hKl
  have X := S.1
  subst hn
  refine r_heap (show g = blk g Y 1 (ini E Y (oc 9 [.null, .null, .null, .null, .null, .null, .null, .null, .null, .int 0, .int 0]) 0) from (blk_self (fun k hk => by obtain rfl : k = 0 := (by omega); exact ha)).symm) ?_
  refine r_aload_n X dX10_init_0 rfl ?_
  refine r_objInit X rfl tw_24 tw_25 tw_26 (Nat.le_of_ble_eq_true rfl) (Nat.le_of_ble_eq_true rfl) dX10_init_1 ?_
  refine r_aload_n X dX10_init_4 rfl ?_
  refine r_new (ci := 8) (fs := [.null, .null, .int 0, .int 0, .int 0, .int 0, .int 0]) X ti_RX9 tyX9 tyX9_ok tw_27 tw_28 tw_2 rfl (fun j hj => by rcases (show j = 0 ∨ j = 1 ∨ j = 2 ∨ j = 3 ∨ j = 4 ∨ j = 5 ∨ j = 6 by omega) with rfl | rfl | rfl | rfl | rfl | rfl | rfl <;> rfl) (Nat.le_of_ble_eq_true rfl) (Nat.le_of_ble_eq_true rfl) dX10_init_5 ?_
  refine r_dup X dX10_init_8 rfl ?_
  refine r_callIN X rfl (c_X9_init _ E _ _ (Y + 1) rfl (hu_eq _ _ _)) X.2.1.2.1.N5 tw_30 tw_2 tw_31 rfl rfl ⟨ok_X9_init, ⟨Nat.le_of_ble_eq_true rfl, Nat.le_of_ble_eq_true rfl⟩, ⟨Nat.le_of_ble_eq_true rfl, Nat.le_of_ble_eq_true rfl⟩, Nat.le_of_ble_eq_true rfl⟩ dX10_init_9 (kk_v (Wf := Wg K E _ _ _ _) ?_)
  refine r_heap (tx_blk.trans (blk_grow (len := 1) (fun k hk => by rcases (show k = 0 ∨ k = 1 ∨ k = 2 by omega) with rfl | rfl | rfl <;> rfl))) ?_
  refine r_cs (n2 := Y + 4) rfl rfl (by omega) ?_
  refine r_putF (ci := 9) (ty := .object "BanisterWord$Text") X 0 ti_RX10 tyX10 tyX10_ok nmX10 rfl (by decide) tw_139 (fun _ h => h) rfl S.2.2.2.2 rfl (by decide +kernel) dX10_init_12 (blk_0 (by decide)) rfl rfl (Nat.le_of_ble_eq_true rfl) ?_
  try dsimp only [List.set]
  refine r_heap (ini_put (by decide)) ?_
  refine r_aload_n X dX10_init_15 rfl ?_
  refine r_bipush (v := nI 6) X dX10_init_16 (by decide) ?_
  refine r_newq (k := 3) X tw_58 X.2.1.2.1.AP rfl 6 rfl (by decide) (Nat.le_of_ble_eq_true rfl) (Nat.le_of_ble_eq_true rfl) dX10_init_18 ?_
  refine r_heap (hu_blk.trans (blk_grow (len := 4) (fun k hk => by obtain rfl : k = 0 := (by omega); rfl))) ?_
  refine r_cs (n2 := Y + 5) rfl rfl (by omega) ?_
  refine r_putF (ci := 9) (ty := .array (.object "BanisterWord$Person")) X 1 ti_RX10 tyX10 tyX10_ok nmX10 rfl (by decide) tw_140 (fun _ h => h) rfl S.2.2.2.2 rfl (by decide +kernel) dX10_init_21 (blk_0 (by decide)) rfl rfl (Nat.le_of_ble_eq_true rfl) ?_
  try dsimp only [List.set]
  refine r_heap (ini_put (by decide)) ?_
  refine r_aload_n X dX10_init_24 rfl ?_
  refine r_new (ci := 6) (fs := [.null, .null]) X ti_RX7 tyX7 tyX7_ok tw_60 tw_61 tw_3 rfl (fun j hj => by rcases (show j = 0 ∨ j = 1 by omega) with rfl | rfl <;> rfl) (Nat.le_of_ble_eq_true rfl) (Nat.le_of_ble_eq_true rfl) dX10_init_25 ?_
  refine r_dup X dX10_init_28 rfl ?_
  refine r_callIN X rfl (c_X7_init _ E _ _ (Y + 5) rfl (hu_eq _ _ _)) X.2.1.2.1.N4 tw_63 tw_3 tw_64 rfl rfl ⟨ok_X7_init, ⟨Nat.le_of_ble_eq_true rfl, Nat.le_of_ble_eq_true rfl⟩, ⟨Nat.le_of_ble_eq_true rfl, Nat.le_of_ble_eq_true rfl⟩, Nat.le_of_ble_eq_true rfl⟩ dX10_init_29 (kk_v (Wf := Wg K E _ _ _ _) ?_)
  refine r_heap (rR_blk.trans (blk_grow (len := 5) (fun k hk => by rcases (show k = 0 ∨ k = 1 ∨ k = 2 by omega) with rfl | rfl | rfl <;> rfl))) ?_
  refine r_cs (n2 := Y + 8) rfl rfl (by omega) ?_
  refine r_putF (ci := 9) (ty := .object "BanisterWord$Rails") X 2 ti_RX10 tyX10 tyX10_ok nmX10 rfl (by decide) tw_141 (fun _ h => h) rfl S.2.2.2.2 rfl (by decide +kernel) dX10_init_32 (blk_0 (by decide)) rfl rfl (Nat.le_of_ble_eq_true rfl) ?_
  try dsimp only [List.set]
  refine r_heap (ini_put (by decide)) ?_
  refine r_aload_n X dX10_init_35 rfl ?_
  refine r_new (ci := 6) (fs := [.null, .null]) X ti_RX7 tyX7 tyX7_ok tw_60 tw_61 tw_3 rfl (fun j hj => by rcases (show j = 0 ∨ j = 1 by omega) with rfl | rfl <;> rfl) (Nat.le_of_ble_eq_true rfl) (Nat.le_of_ble_eq_true rfl) dX10_init_36 ?_
  refine r_dup X dX10_init_39 rfl ?_
  refine r_callIN X rfl (c_X7_init _ E _ _ (Y + 8) rfl (hu_eq _ _ _)) X.2.1.2.1.N4 tw_63 tw_3 tw_64 rfl rfl ⟨ok_X7_init, ⟨Nat.le_of_ble_eq_true rfl, Nat.le_of_ble_eq_true rfl⟩, ⟨Nat.le_of_ble_eq_true rfl, Nat.le_of_ble_eq_true rfl⟩, Nat.le_of_ble_eq_true rfl⟩ dX10_init_40 (kk_v (Wf := Wg K E _ _ _ _) ?_)
  refine r_heap (rR_blk.trans (blk_grow (len := 8) (fun k hk => by rcases (show k = 0 ∨ k = 1 ∨ k = 2 by omega) with rfl | rfl | rfl <;> rfl))) ?_
  refine r_cs (n2 := Y + 11) rfl rfl (by omega) ?_
  refine r_putF (ci := 9) (ty := .object "BanisterWord$Rails") X 3 ti_RX10 tyX10 tyX10_ok nmX10 rfl (by decide) tw_142 (fun _ h => h) rfl S.2.2.2.2 rfl (by decide +kernel) dX10_init_43 (blk_0 (by decide)) rfl rfl (Nat.le_of_ble_eq_true rfl) ?_
  try dsimp only [List.set]
  refine r_heap (ini_put (by decide)) ?_
  refine r_aload_n X dX10_init_46 rfl ?_
  refine r_new (ci := 4) (fs := [.null, .null, .int 0]) X ti_RX4 tyX4 tyX4_ok tw_73 tw_74 tw_4 rfl (fun j hj => by rcases (show j = 0 ∨ j = 1 ∨ j = 2 by omega) with rfl | rfl | rfl <;> rfl) (Nat.le_of_ble_eq_true rfl) (Nat.le_of_ble_eq_true rfl) dX10_init_47 ?_
  refine r_dup X dX10_init_50 rfl ?_
  refine r_callIN X rfl (c_X4_init _ E _ _ (Y + 11) rfl (hu_eq _ _ _)) X.2.1.2.1.N3 tw_76 tw_4 tw_77 rfl rfl ⟨ok_X4_init, ⟨Nat.le_of_ble_eq_true rfl, Nat.le_of_ble_eq_true rfl⟩, ⟨Nat.le_of_ble_eq_true rfl, Nat.le_of_ble_eq_true rfl⟩, Nat.le_of_ble_eq_true rfl⟩ dX10_init_51 (kk_v (Wf := Wg K E _ _ _ _) ?_)
  refine r_heap ((blk_abs (by decide)).trans (blk_grow (len := 11) (fun k hk => by rcases (show k = 0 ∨ k = 1 ∨ k = 2 ∨ k = 3 ∨ k = 4 by omega) with rfl | rfl | rfl | rfl | rfl <;> rfl))) ?_
  refine r_cs (n2 := Y + 16) rfl rfl (by omega) ?_
  refine r_putF (ci := 9) (ty := .object "BanisterWord$Moment") X 4 ti_RX10 tyX10 tyX10_ok nmX10 rfl (by decide) tw_143 (fun _ h => h) rfl S.2.2.2.2 rfl (by decide +kernel) dX10_init_54 (blk_0 (by decide)) rfl rfl (Nat.le_of_ble_eq_true rfl) ?_
  try dsimp only [List.set]
  refine r_heap (ini_put (by decide)) ?_
  refine r_aload_n X dX10_init_57 rfl ?_
  refine r_new (ci := 5) (fs := [.null, .int 0, .int 0]) X ti_RX5 tyX5 tyX5_ok tw_94 tw_95 tw_5 rfl (fun j hj => by rcases (show j = 0 ∨ j = 1 ∨ j = 2 by omega) with rfl | rfl | rfl <;> rfl) (Nat.le_of_ble_eq_true rfl) (Nat.le_of_ble_eq_true rfl) dX10_init_58 ?_
  refine r_dup X dX10_init_61 rfl ?_
  refine r_callI X rfl (c_X5_init _ E _ _ (Y + 16) rfl (hu_eq _ _ _)) tw_96 tw_97 tw_5 tw_98 rfl rfl ⟨ok_X5_init, ⟨Nat.le_of_ble_eq_true rfl, Nat.le_of_ble_eq_true rfl⟩, ⟨Nat.le_of_ble_eq_true rfl, Nat.le_of_ble_eq_true rfl⟩, Nat.le_of_ble_eq_true rfl⟩ dX10_init_62 (kk_v (Wf := Wg K E _ _ _ _) ?_)
  refine r_heap ((blk_abs (by decide)).trans (blk_grow (len := 16) (fun k hk => by rw [ini_ne (by omega) (by omega)]; unfold bw0; rw [cg_p (by omega), show 16 + k - 16 = k by omega]; rfl))) ?_
  refine r_cs (n2 := Y + 58) rfl rfl (by omega) ?_
  refine r_putF (ci := 9) (ty := .object "BanisterWord$Past") X 5 ti_RX10 tyX10 tyX10_ok nmX10 rfl (by decide) tw_144 (fun _ h => h) rfl S.2.2.2.2 rfl (by decide +kernel) dX10_init_65 (blk_0 (by decide)) rfl rfl (Nat.le_of_ble_eq_true rfl) ?_
  try dsimp only [List.set]
  refine r_heap (ini_put (by decide)) ?_
  refine r_aload_n X dX10_init_68 rfl ?_
  refine r_iconst (v := nI 2) X dX10_init_69 (by decide) ?_
  refine r_newq (k := 2) X tw_73 X.2.1.2.1.AM rfl 2 rfl (by decide) (Nat.le_of_ble_eq_true rfl) (Nat.le_of_ble_eq_true rfl) dX10_init_70 ?_
  refine r_heap (hu_blk.trans (blk_grow (len := 58) (fun k hk => by obtain rfl : k = 0 := (by omega); exact qc_congr (fun i hi => by simp)))) ?_
  refine r_cs (n2 := Y + 59) rfl rfl (by omega) ?_
  refine r_putF (ci := 9) (ty := .array (.object "BanisterWord$Moment")) X 6 ti_RX10 tyX10 tyX10_ok nmX10 rfl (by decide) tw_145 (fun _ h => h) rfl S.2.2.2.2 rfl (by decide +kernel) dX10_init_73 (blk_0 (by decide)) rfl rfl (Nat.le_of_ble_eq_true rfl) ?_
  try dsimp only [List.set]
  refine r_heap (ini_put (by decide)) ?_
  refine r_aload_n X dX10_init_76 rfl ?_
  refine r_iconst (v := nI 2) X dX10_init_77 (by decide) ?_
  refine r_newz X tw_138 2 rfl (by decide) (Nat.le_of_ble_eq_true rfl) (Nat.le_of_ble_eq_true rfl) dX10_init_78 ?_
  refine r_heap (hu_blk.trans (blk_grow (len := 59) (fun k hk => by obtain rfl : k = 0 := (by omega); rfl))) ?_
  refine r_cs (n2 := Y + 60) rfl rfl (by omega) ?_
  refine r_putF (ci := 9) (ty := .array .boolean) X 7 ti_RX10 tyX10 tyX10_ok nmX10 rfl (by decide) tw_146 (fun _ h => h) rfl S.2.2.2.2 rfl (by decide +kernel) dX10_init_80 (blk_0 (by decide)) rfl rfl (Nat.le_of_ble_eq_true rfl) ?_
  try dsimp only [List.set]
  refine r_heap (ini_put (by decide)) ?_
  refine r_aload_n X dX10_init_83 rfl ?_
  refine r_new (ci := 7) (fs := [.null, .null, .null, .null, .int 0]) X ti_RX8 tyX8 tyX8_ok tw_114 tw_115 tw_6 rfl (fun j hj => by rcases (show j = 0 ∨ j = 1 ∨ j = 2 ∨ j = 3 ∨ j = 4 by omega) with rfl | rfl | rfl | rfl | rfl <;> rfl) (Nat.le_of_ble_eq_true rfl) (Nat.le_of_ble_eq_true rfl) dX10_init_84 ?_
  refine r_dup X dX10_init_87 rfl ?_
  refine r_callIN X rfl (c_X8_init _ E _ _ (Y + 60) rfl (hu_eq _ _ _)) X.2.1.2.1.N2 tw_117 tw_6 tw_118 rfl rfl ⟨ok_X8_init, ⟨Nat.le_of_ble_eq_true rfl, Nat.le_of_ble_eq_true rfl⟩, ⟨Nat.le_of_ble_eq_true rfl, Nat.le_of_ble_eq_true rfl⟩, Nat.le_of_ble_eq_true rfl⟩ dX10_init_88 (kk_v (Wf := Wg K E _ _ _ _) ?_)
  refine r_heap ((blk_abs (by decide)).trans (blk_grow (len := 60) (fun k hk => by rcases (show k = 0 ∨ k = 1 ∨ k = 2 ∨ k = 3 ∨ k = 4 by omega) with rfl | rfl | rfl | rfl | rfl <;> rfl))) ?_
  refine r_cs (n2 := Y + 65) rfl rfl (by omega) ?_
  refine r_putF (ci := 9) (ty := .object "BanisterWord$Sights") X 8 ti_RX10 tyX10 tyX10_ok nmX10 rfl (by decide) tw_147 (fun _ h => h) rfl S.2.2.2.2 rfl (by decide +kernel) dX10_init_91 (blk_0 (by decide)) rfl rfl (Nat.le_of_ble_eq_true rfl) ?_
  try dsimp only [List.set]
  refine r_heap (ini_put (by decide)) ?_
  refine r_aload_n X dX10_init_94 rfl ?_
  refine r_bipush (v := nI 8) X dX10_init_95 (by decide) ?_
  refine r_put (ci := 9) (ty := .int) X 9 ti_RX10 tyX10 tyX10_ok nmX10 rfl (by decide) tw_148 (fun _ h => h) rfl (by decide +kernel) dX10_init_97 (blk_0 (by decide)) rfl rfl (Nat.le_of_ble_eq_true rfl) ?_
  try dsimp only [List.set]
  refine r_heap (ini_put (by decide)) ?_
  refine r_iconst (v := nI 0) X dX10_init_100 (by decide) ?_
  refine r_istore_n X dX10_init_101 (Nat.le_of_ble_eq_true rfl) ?_
  try dsimp only [List.set]
  have hloop : ∀ (k : Nat), k ≤ 2 → Wg K E (64 + 5 * k) (918 + 59 * k) 102 [some (.ref Y), some (.int (nI k))] [] (blk g Y (65 + 5 * k) (ini E Y (oc 9 [.ref (Y + 1), .ref (Y + 4), .ref (Y + 5), .ref (Y + 8), .ref (Y + 11), .ref (Y + 16), .ref (Y + 58), .ref (Y + 59), .ref (Y + 60), .int (nI 8), .int 0]) k)) (Y + 65 + 5 * k) := by
    refine ind_up _ (2) (fun k hk ih => ?_)
    have hb0 : blk g Y (65 + 5 * k) (ini E Y (oc 9 [.ref (Y + 1), .ref (Y + 4), .ref (Y + 5), .ref (Y + 8), .ref (Y + 11), .ref (Y + 16), .ref (Y + 58), .ref (Y + 59), .ref (Y + 60), .int (nI 8), .int 0]) k) Y = some (oc 9 [.ref (Y + 1), .ref (Y + 4), .ref (Y + 5), .ref (Y + 8), .ref (Y + 11), .ref (Y + 16), .ref (Y + 58), .ref (Y + 59), .ref (Y + 60), .int (nI 8), .int 0]) := blk_0 (by omega)
    have hb58 : blk g Y (65 + 5 * k) (ini E Y (oc 9 [.ref (Y + 1), .ref (Y + 4), .ref (Y + 5), .ref (Y + 8), .ref (Y + 11), .ref (Y + 16), .ref (Y + 58), .ref (Y + 59), .ref (Y + 60), .int (nI 8), .int 0]) k) (Y + 58) = some (qc E 2 2 (fun i => if i < k then some (Y + 65 + 5 * i) else none)) := blk_in (k := 58) (by omega)
    refine r_iload_n X dX10_init_102 rfl ?_
    refine r_iconst (v := nI 2) X dX10_init_103 (by decide) ?_
    refine r_icmp_geN X 126 dX10_init_104 (by decide) (by omega) (by omega) (fun c_104 => ?_) (fun c_104 => ?_)
    · skip
      obtain rfl : k = 2 := by omega
      refine r_vret S dX10_init_126 ?_
      refine ⟨rfl, blk_congr (fun j hj => ?_), rfl⟩
      by_cases e1 : j = 0
      · subst e1; rfl
      · by_cases e2 : j = 58
        · subst e2; exact qc_congr (fun i hi => by simp [hi])
        · exact ini_ne e1 e2
    · skip
      refine r_aload_n X dX10_init_107 rfl ?_
      refine r_get (ci := 9) X 6 _ ti_RX10 rfl (by decide) tw_145 (fun _ h => h) dX10_init_108 hb0 rfl ?_
      refine r_iload_n X dX10_init_111 rfl ?_
      refine r_new (ci := 4) (fs := [.null, .null, .int 0]) X ti_RX4 tyX4 tyX4_ok tw_73 tw_74 tw_4 rfl (fun j hj => by rcases (show j = 0 ∨ j = 1 ∨ j = 2 by omega) with rfl | rfl | rfl <;> rfl) (by show _ ≤ 74; omega) (by show _ ≤ 1036; omega) dX10_init_112 ?_
      refine r_dup X dX10_init_115 rfl ?_
      refine r_callIN X rfl (c_X4_init _ E _ _ (Y + 65 + 5 * k) rfl (hu_eq _ _ _)) X.2.1.2.1.N3 tw_76 tw_4 tw_77 rfl rfl ⟨ok_X4_init, ⟨Nat.le_of_ble_eq_true rfl, Nat.le_of_ble_eq_true rfl⟩, ⟨by show _ ≤ 74; omega, by show _ ≤ 1036; omega⟩, Nat.le_of_ble_eq_true rfl⟩ dX10_init_116 (kk_v (Wf := Wg K E _ _ _ _) ?_)
      refine r_aast (k := 2) X _ dX10_init_119 rfl (by rw [mR_out (by omega), hu_ne _ _ (by omega)]; exact hb58) (any_M X (ma.set.c0)) (rfl) (by omega) (by decide) ?_
      first | refine r_iincN X dX10_init_120 rfl ?_ | refine r_iinc X _ dX10_init_120 rfl rfl ?_
      try dsimp only [List.set]
      refine r_goto X 102 dX10_init_123 (by decide) ?_
      refine r_cs (c2 := 64 + 5 * (k + 1)) (s2 := 918 + 59 * (k + 1)) (n2 := Y + 65 + 5 * (k + 1)) (by omega) (by omega) (by omega) ?_
      refine r_heap ?_ (ih (by omega))
      funext q
      by_cases e1 : q = Y + 58
      · subst e1; rw [hu_eq, blk_in (k := 58) (by omega)]; show _ = some (qc E 2 2 _); congr 1; refine qc_congr (fun i hi => ?_); simp only [va_up]; (repeat' split) <;> first | rfl | omega | (subst_vars; rfl)
      · rw [hu_ne _ _ e1]; by_cases e2 : Y + 65 + 5 * k ≤ q ∧ q < Y + 65 + 5 * k + 5
        · obtain ⟨r, hr, rfl⟩ : ∃ r, r < 5 ∧ q = Y + 65 + 5 * k + r := ⟨q - (Y + 65 + 5 * k), by omega, by omega⟩
          rw [ma.set r hr, show Y + 65 + 5 * k + r = Y + (65 + 5 * k + r) by omega, blk_in (by omega), ini_ne (by omega) (by omega)]; unfold bw0; rw [cg_k (by omega), show (65 + 5 * k + r - 65) / 5 = k by omega, show (65 + 5 * k + r - 65) % 5 = r by omega]; rfl
        · rw [mR_out (by omega), hu_ne _ _ (by omega)]; by_cases e3 : Y ≤ q ∧ q < Y + 65 + 5 * k
          · obtain ⟨j, hj, rfl⟩ : ∃ j, j < 65 + 5 * k ∧ q = Y + j := ⟨q - Y, by omega, by omega⟩
            rw [blk_in hj, blk_in (by omega)]; unfold ini; rw [if_neg (show ¬ j = 58 by omega), if_neg (show ¬ j = 58 by omega)]
          · rw [blk_out (by omega), blk_out (by omega)]
  refine r_cs (c2 := 64) (s2 := 918) (n2 := Y + 65) rfl rfl rfl ?_
  exact hloop 0 (Nat.zero_le _)

