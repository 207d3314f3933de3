/-- Text at a -/
abbrev tO (a at_ st pp ln cl : Nat) : va_E := oc 8 [.ref (a + 1), .ref (a + 2), .int (nI at_), .int (nI st), .int (nI pp), .int (nI ln), .int (nI cl)]
def ta (E : xE) (g : hG) (a : Nat) (L Pt : Nat → Nat) (at_ st pp ln cl : Nat) : Prop := g a = some (tO a at_ st pp ln cl) ∧ g (a + 1) = some (nc E 160 L) ∧ g (a + 2) = some (nc E 70 Pt)
theorem hu_self {g : hG} {a : Nat} {e : va_E} (h : g a = some e) : hu g a e = g := by
  funext q
  by_cases e : q = a
  · subst e; rw [hu_eq, h]
  · rw [hu_ne _ _ e]
theorem ta.mv {E : xE} {g : hG} {a : Nat} {L Pt : Nat → Nat} {at_ st pp ln cl at2 st2 pp2 ln2 cl2 : Nat} (h : ta E g a L Pt at_ st pp ln cl) : ta E (hu g a (tO a at2 st2 pp2 ln2 cl2)) a L Pt at2 st2 pp2 ln2 cl2 := ⟨hu_eq _ _ _, by rw [hu_ne _ _ (by omega)]; exact h.2.1, by rw [hu_ne _ _ (by omega)]; exact h.2.2⟩
/-- from p on, as long as ok -/
def scn (ok : Nat → Bool) : Nat → Nat → Nat
  | 0, p => p
  | d + 1, p => if ok p = true then scn ok d (p + 1) else p
def sc (ok : Nat → Bool) (ln p : Nat) : Nat := scn ok (ln - p) p
theorem sc_t {ok : Nat → Bool} {ln p : Nat} (h : p < ln) (h2 : ok p = true) : sc ok ln p = sc ok ln (p + 1) := by
  unfold sc
  rw [show ln - p = (ln - (p + 1)) + 1 by omega]
  show (if ok p = true then _ else _) = _
  rw [if_pos h2]
theorem sc_f {ok : Nat → Bool} {ln p : Nat} (h2 : ok p = false) : sc ok ln p = p := by
  unfold sc
  cases ln - p with
  | zero => rfl
  | succ d => show (if ok p = true then _ else _) = _; rw [h2]; rfl
theorem sc_ge {ok : Nat → Bool} {ln p : Nat} (h : ln ≤ p) : sc ok ln p = p := by
  unfold sc
  rw [show ln - p = 0 by omega]
  rfl
theorem scn_b {ok : Nat → Bool} : ∀ d p, p ≤ scn ok d p ∧ scn ok d p ≤ p + d
  | 0, p => ⟨Nat.le_refl _, Nat.le_refl _⟩
  | d + 1, p => by
    show p ≤ (if ok p = true then scn ok d (p + 1) else p) ∧ (if ok p = true then scn ok d (p + 1) else p) ≤ p + (d + 1)
    have := scn_b (ok := ok) d (p + 1)
    split <;> omega
theorem sc_lo {ok : Nat → Bool} {ln p : Nat} : p ≤ sc ok ln p := (scn_b _ _).1
theorem sc_hi {ok : Nat → Bool} {ln p : Nat} (h : p ≤ ln) : sc ok ln p ≤ ln := by
  have := (scn_b (ok := ok) (ln - p) p).2
  unfold sc
  omega
theorem scn_ok {ok : Nat → Bool} : ∀ d p j, p ≤ j → j < scn ok d p → ok j = true
  | 0, p, j, h1, h2 => absurd h2 (by show ¬ j < p; omega)
  | d + 1, p, j, h1, h2 => by
    by_cases e : ok p = true
    · have h3 : scn ok (d + 1) p = scn ok d (p + 1) := by show (if ok p = true then _ else _) = _; rw [if_pos e]
      rw [h3] at h2
      by_cases e2 : j = p
      · subst e2; exact e
      · exact scn_ok d (p + 1) j (by omega) h2
    · have h3 : scn ok (d + 1) p = p := by show (if ok p = true then _ else _) = _; rw [if_neg e]
      rw [h3] at h2
      omega
theorem sc_ok {ok : Nat → Bool} {ln p j : Nat} (h1 : p ≤ j) (h2 : j < sc ok ln p) : ok j = true := scn_ok _ _ _ h1 h2
def okB (L : Nat → Nat) (p : Nat) : Bool := decide (L p = 32)
def okL (L : Nat → Nat) (p : Nat) : Bool := decide (97 ≤ L p ∧ L p ≤ 122)
def okD (L : Nat → Nat) (p : Nat) : Bool := decide (48 ≤ L p ∧ L p ≤ 57)
def oI (o : Option Nat) : Int32 := match o with
  | none => -1
  | some v => nI v
/-- the letters from s on are those of the word i, the first k of them -/
def mtch (L : Nat → Nat) (s i : Nat) : Nat → Bool
  | 0 => true
  | k + 1 => mtch L s i k && decide (L (s + k) = nmC i k)
theorem mtch_mono {L : Nat → Nat} {s i k : Nat} (h : mtch L s i k = false) : ∀ d, mtch L s i (k + d) = false
  | 0 => h
  | d + 1 => by
    have := mtch_mono h d
    show (mtch L s i (k + d) && _) = false
    rw [this]
    rfl
def spB (L : Nat → Nat) (s e i : Nat) : Bool := decide (e - s = nlen i) && mtch L s i (e - s)
def fwF (L : Nat → Nat) (s e : Nat) : Nat → Nat → Option Nat
  | 0, _ => none
  | d + 1, i => if spB L s e i = true then some i else fwF L s e d (i + 1)
def findW (L : Nat → Nat) (s e : Nat) : Option Nat := fwF L s e 7 0
/-- a number of one or two digits -/
def nuF (L : Nat → Nat) (s j : Nat) : Nat := if j = 0 then 0 else if j = 1 then L s - 48 else (L s - 48) * 10 + L (s + 1) - 48
def rdN (L : Nat → Nat) (ln s : Nat) : Option Nat := if sc (okD L) ln s = s ∨ 2 < sc (okD L) ln s - s then none else some (nuF L s (sc (okD L) ln s - s))
def perB (w : Nat) : Bool := decide (w ≤ 3)
def nbN (w : Nat) : Nat := if w = 5 then 4 else if w = 6 then 0 else 1
def loN (w i : Nat) : Nat := if w = 4 then 2 else if w = 5 ∧ i < 2 then 0 else 1
def hiN (w st i : Nat) : Nat := if w = 4 then 12 else if w = 5 then (if i = 0 then st - 1 else if i = 1 then 1 else if i = 2 then 7 else 20) else 9

set_option maxHeartbeats 4000000 in
set_option maxRecDepth 100000 in
/-- BanisterWord.Text.<init>  -/
theorem c_X9_init (l : Launch) (E : xE) (g : hG) (n : Nat) (a : Nat) (hn : n = a + 1) (ha : g a = some (oc 8 [.null, .null, .int 0, .int 0, .int 0, .int 0, .int 0])) : Ct l yX9_init cX9_init 1 none 1 48 2 230 E [.ref a] (g) n (zr (none) (hu (hu (hu g (a + 1) (nc E 160 (fun _ => 0))) (a + 2) (nc E 70 (fun _ => 0))) a (tO a 0 0 0 0 0)) (a + 3)) := by
  refine Ct.of (by decide +kernel) (Nat.le_of_ble_eq_true rfl) (fun v hv => by simp only [List.mem_cons, List.not_mem_nil, or_false] at hv; (try rcases hv with rfl) <;> first | rfl | (subst hv; rfl) | exact hv.elim) ?_
  intro K hKl S
  subst hKl
  have X := S.1
  subst hn
  refine r_aload_n X dX9_init_0 rfl ?_
  refine r_objInit X rfl tw_32 tw_25 tw_26 (Nat.le_of_ble_eq_true rfl) (Nat.le_of_ble_eq_true rfl) dX9_init_1 ?_
  refine r_aload_n X dX9_init_4 rfl ?_
  refine r_sipush (v := nI 160) X dX9_init_5 (by decide) ?_
  refine r_newi X tw_57 160 rfl (by decide) (Nat.le_of_ble_eq_true rfl) (Nat.le_of_ble_eq_true rfl) dX9_init_8 ?_
  refine r_putF (ci := 8) (ty := .array .int) X 0 ti_RX9 tyX9 tyX9_ok nmX9 rfl (by decide) tw_33 (fun _ h => h) rfl S.2.2.2.2 rfl (by decide +kernel) dX9_init_10 (by first | assumption | (repeat rw [hu_ne _ _ (by omega)]); first | assumption | exact hu_eq _ _ _) rfl rfl (Nat.le_of_ble_eq_true rfl) ?_
  try dsimp only [List.set]
  refine r_aload_n X dX9_init_13 rfl ?_
  refine r_bipush (v := nI 70) X dX9_init_14 (by decide) ?_
  refine r_newi X tw_57 70 rfl (by decide) (Nat.le_of_ble_eq_true rfl) (Nat.le_of_ble_eq_true rfl) dX9_init_16 ?_
  refine r_putF (ci := 8) (ty := .array .int) X 1 ti_RX9 tyX9 tyX9_ok nmX9 rfl (by decide) tw_34 (fun _ h => h) rfl S.2.2.2.2 rfl (by decide +kernel) dX9_init_18 (by first | assumption | (repeat rw [hu_ne _ _ (by omega)]); first | assumption | exact hu_eq _ _ _) rfl rfl (Nat.le_of_ble_eq_true rfl) ?_
  try dsimp only [List.set]
  refine r_vret S dX9_init_21 ?_
  refine ⟨rfl, ?_, rfl⟩
  funext q
  simp only [hu]
  (repeat' split) <;> first | rfl | omega

set_option maxHeartbeats 4000000 in
set_option maxRecDepth 100000 in
/-- BanisterWord.Text.add  -/
theorem c_X9_add (l : Launch) (E : xE) (g : hG) (n : Nat) (a : Nat) (L Pt : Nat → Nat) (at_ st pp ln cl : Nat) (x : Nat) (ht : ta E g a L Pt at_ st pp ln cl) (hln : ln < 160) : Ct l yX9_add cX9_add 2 none 0 0 0 0 E [.ref a, .int (nI x)] (g) n (zr (none) (hu (hu g (a + 1) (nc E 160 (va_up L ln x))) a (tO a at_ st pp (ln + 1) cl)) (n)) := by
  refine Ct.of (by decide +kernel) (Nat.le_of_ble_eq_true rfl) (fun v hv => by simp only [List.mem_cons, List.not_mem_nil, or_false] at hv; (try rcases hv with rfl | rfl) <;> first | rfl | (subst hv; rfl) | exact hv.elim) ?_
  intro K hKl S
  subst hKl
  have X := S.1
  obtain ⟨ht0, ht1, ht2⟩ := id ht
  refine r_aload_n X dX9_add_0 rfl ?_
  refine r_get (ci := 8) X 5 _ ti_RX9 rfl (by decide) tw_38 (fun _ h => h) dX9_add_1 (by first | assumption | (repeat rw [hu_ne _ _ (by omega)]); first | assumption | exact hu_eq _ _ _) rfl ?_
  refine r_sipush (v := nI 160) X dX9_add_4 (by decide) ?_
  refine r_icmp_geN X 30 dX9_add_7 (by decide) (by omega) (by omega) (fun c_7 => ?_) (fun c_7 => ?_)
  · exact absurd c_7 (by omega)
  refine r_aload_n X dX9_add_10 rfl ?_
  refine r_get (ci := 8) X 0 _ ti_RX9 rfl (by decide) tw_33 (fun _ h => h) dX9_add_11 (by first | assumption | (repeat rw [hu_ne _ _ (by omega)]); first | assumption | exact hu_eq _ _ _) rfl ?_
  refine r_aload_n X dX9_add_14 rfl ?_
  refine r_get (ci := 8) X 5 _ ti_RX9 rfl (by decide) tw_38 (fun _ h => h) dX9_add_15 (by first | assumption | (repeat rw [hu_ne _ _ (by omega)]); first | assumption | exact hu_eq _ _ _) rfl ?_
  refine r_iload_n X dX9_add_18 rfl ?_
  refine r_nast X _ dX9_add_19 (by first | assumption | (repeat rw [hu_ne _ _ (by omega)]); first | assumption | exact hu_eq _ _ _) (rfl) (by omega) (by decide) ?_
  refine r_aload_n X dX9_add_20 rfl ?_
  refine r_dup X dX9_add_21 rfl ?_
  refine r_get (ci := 8) X 5 _ ti_RX9 rfl (by decide) tw_38 (fun _ h => h) dX9_add_22 (by first | assumption | (repeat rw [hu_ne _ _ (by omega)]); first | assumption | exact hu_eq _ _ _) rfl ?_
  refine r_iconst (v := nI 1) X dX9_add_25 (by decide) ?_
  first | refine r_iaddN X dX9_add_26 ?_ | refine r_iadd X _ dX9_add_26 rfl ?_
  refine r_put (ci := 8) (ty := .int) X 5 ti_RX9 tyX9 tyX9_ok nmX9 rfl (by decide) tw_38 (fun _ h => h) rfl (by decide +kernel) dX9_add_27 (by first | assumption | (repeat rw [hu_ne _ _ (by omega)]); first | assumption | exact hu_eq _ _ _) rfl rfl (Nat.le_of_ble_eq_true rfl) ?_
  try dsimp only [List.set]
  refine r_vret S dX9_add_30 ?_
  exact ⟨rfl, rfl, rfl⟩

set_option maxHeartbeats 4000000 in
set_option maxRecDepth 100000 in
/-- BanisterWord.Text.wordOf  -/
theorem c_X9_wordOf (l : Launch) (E : xE) (g : hG) (n : Nat) (a : Nat) (L Pt : Nat → Nat) (at_ st pp ln cl : Nat) (i : Nat) (ht : ta E g a L Pt at_ st pp ln cl) (hi : i < 14) : Ct l yX9_wordOf cX9_wordOf 2 (some .int) 0 0 0 0 E [.ref a, .int (nI i)] (g) n (zr (some (.int (nI (Pt (i * 5))))) (g) (n)) := by
  refine Ct.of (by decide +kernel) (Nat.le_of_ble_eq_true rfl) (fun v hv => by simp only [List.mem_cons, List.not_mem_nil, or_false] at hv; (try rcases hv with rfl | rfl) <;> first | rfl | (subst hv; rfl) | exact hv.elim) ?_
  intro K hKl S
  subst hKl
  have X := S.1
  obtain ⟨ht0, ht1, ht2⟩ := id ht
  refine r_aload_n X dX9_wordOf_0 rfl ?_
  refine r_get (ci := 8) X 1 _ ti_RX9 rfl (by decide) tw_34 (fun _ h => h) dX9_wordOf_1 (by first | assumption | (repeat rw [hu_ne _ _ (by omega)]); first | assumption | exact hu_eq _ _ _) rfl ?_
  refine r_iload_n X dX9_wordOf_4 rfl ?_
  refine r_iconst (v := nI 5) X dX9_wordOf_5 (by decide) ?_
  first | refine r_imulN X dX9_wordOf_6 ?_ | refine r_imul X _ dX9_wordOf_6 rfl ?_
  refine r_nald X _ dX9_wordOf_7 (by first | assumption | (repeat rw [hu_ne _ _ (by omega)]); first | assumption | exact hu_eq _ _ _) (rfl) (by omega) (by decide) ?_
  refine r_iret S dX9_wordOf_8 ?_
  exact ⟨rfl, rfl, rfl⟩

set_option maxHeartbeats 4000000 in
set_option maxRecDepth 100000 in
/-- BanisterWord.Text.numberOf  -/
theorem c_X9_numberOf (l : Launch) (E : xE) (g : hG) (n : Nat) (a : Nat) (L Pt : Nat → Nat) (at_ st pp ln cl : Nat) (i j : Nat) (ht : ta E g a L Pt at_ st pp ln cl) (hi : i < 14) (hj : j < 4) : Ct l yX9_numberOf cX9_numberOf 3 (some .int) 0 0 0 0 E [.ref a, .int (nI i), .int (nI j)] (g) n (zr (some (.int (nI (Pt (i * 5 + 1 + j))))) (g) (n)) := by
  refine Ct.of (by decide +kernel) (Nat.le_of_ble_eq_true rfl) (fun v hv => by simp only [List.mem_cons, List.not_mem_nil, or_false] at hv; (try rcases hv with rfl | rfl | rfl) <;> first | rfl | (subst hv; rfl) | exact hv.elim) ?_
  intro K hKl S
  subst hKl
  have X := S.1
  obtain ⟨ht0, ht1, ht2⟩ := id ht
  refine r_aload_n X dX9_numberOf_0 rfl ?_
  refine r_get (ci := 8) X 1 _ ti_RX9 rfl (by decide) tw_34 (fun _ h => h) dX9_numberOf_1 (by first | assumption | (repeat rw [hu_ne _ _ (by omega)]); first | assumption | exact hu_eq _ _ _) rfl ?_
  refine r_iload_n X dX9_numberOf_4 rfl ?_
  refine r_iconst (v := nI 5) X dX9_numberOf_5 (by decide) ?_
  first | refine r_imulN X dX9_numberOf_6 ?_ | refine r_imul X _ dX9_numberOf_6 rfl ?_
  refine r_iconst (v := nI 1) X dX9_numberOf_7 (by decide) ?_
  first | refine r_iaddN X dX9_numberOf_8 ?_ | refine r_iadd X _ dX9_numberOf_8 rfl ?_
  refine r_iload_n X dX9_numberOf_9 rfl ?_
  first | refine r_iaddN X dX9_numberOf_10 ?_ | refine r_iadd X _ dX9_numberOf_10 rfl ?_
  refine r_nald X _ dX9_numberOf_11 (by first | assumption | (repeat rw [hu_ne _ _ (by omega)]); first | assumption | exact hu_eq _ _ _) (rfl) (by omega) (by decide) ?_
  refine r_iret S dX9_numberOf_12 ?_
  exact ⟨rfl, rfl, rfl⟩

set_option maxHeartbeats 4000000 in
set_option maxRecDepth 100000 in
/-- BanisterWord.Text.isPersonWord  -/
theorem c_X9_isPersonWord (l : Launch) (E : xE) (g : hG) (n : Nat) (w : Nat) (hw : w < 1000) : Ct l yX9_isPersonWord cX9_isPersonWord 1 (some .boolean) 0 0 0 0 E [.int (nI w)] (g) n (zr (some (.int (bI (perB w)))) (g) (n)) := by
  refine Ct.of (by decide +kernel) (Nat.le_of_ble_eq_true rfl) (fun v hv => by simp only [List.mem_cons, List.not_mem_nil, or_false] at hv; (try rcases hv with rfl) <;> first | rfl | (subst hv; rfl) | exact hv.elim) ?_
  intro K hKl S
  subst hKl
  have X := S.1
  refine r_iload_n X dX9_isPersonWord_0 rfl ?_
  refine r_if_ltN X 13 dX9_isPersonWord_1 (by decide) (by omega) ?_
  refine r_iload_n X dX9_isPersonWord_4 rfl ?_
  refine r_iconst (v := nI 3) X dX9_isPersonWord_5 (by decide) ?_
  refine r_icmp_gtN X 13 dX9_isPersonWord_6 (by decide) (by omega) (by omega) (fun c_6 => ?_) (fun c_6 => ?_)
  · skip
    refine r_iconst (v := nI 0) X dX9_isPersonWord_13 (by decide) ?_
    refine r_zret S dX9_isPersonWord_14 (by first | rfl | exact bI_nar _) ?_
    exact ⟨by unfold perB; first | (rw [decide_eq_true (by omega)]; rfl) | (rw [decide_eq_false (by omega)]; rfl), rfl, rfl⟩
  · skip
    refine r_iconst (v := nI 1) X dX9_isPersonWord_9 (by decide) ?_
    refine r_goto X 14 dX9_isPersonWord_10 (by decide) ?_
    refine r_zret S dX9_isPersonWord_14 (by first | rfl | exact bI_nar _) ?_
    exact ⟨by unfold perB; first | (rw [decide_eq_true (by omega)]; rfl) | (rw [decide_eq_false (by omega)]; rfl), rfl, rfl⟩

set_option maxHeartbeats 4000000 in
set_option maxRecDepth 100000 in
/-- BanisterWord.Text.numbersBehind  -/
theorem c_X9_numbersBehind (l : Launch) (E : xE) (g : hG) (n : Nat) (w : Nat) (hw : w < 7) : Ct l yX9_numbersBehind cX9_numbersBehind 1 (some .int) 0 0 0 0 E [.int (nI w)] (g) n (zr (some (.int (nI (nbN w)))) (g) (n)) := by
  refine Ct.of (by decide +kernel) (Nat.le_of_ble_eq_true rfl) (fun v hv => by simp only [List.mem_cons, List.not_mem_nil, or_false] at hv; (try rcases hv with rfl) <;> first | rfl | (subst hv; rfl) | exact hv.elim) ?_
  intro K hKl S
  subst hKl
  have X := S.1
  refine r_iload_n X dX9_numbersBehind_0 rfl ?_
  rcases (show w = 0 ∨ w = 1 ∨ w = 2 ∨ w = 3 ∨ w = 4 ∨ w = 5 ∨ w = 6 by omega) with rfl | rfl | rfl | rfl | rfl | rfl | rfl
  · refine r_lookup (off := 31) X 32 dX9_numbersBehind_1 (by decide) (by decide) (by decide) ?_
    refine r_iconst (v := nI 1) X dX9_numbersBehind_32 (by decide) ?_
    refine r_iret S dX9_numbersBehind_33 ?_
    exact ⟨rfl, rfl, rfl⟩
  · refine r_lookup (off := 31) X 32 dX9_numbersBehind_1 (by decide) (by decide) (by decide) ?_
    refine r_iconst (v := nI 1) X dX9_numbersBehind_32 (by decide) ?_
    refine r_iret S dX9_numbersBehind_33 ?_
    exact ⟨rfl, rfl, rfl⟩
  · refine r_lookup (off := 31) X 32 dX9_numbersBehind_1 (by decide) (by decide) (by decide) ?_
    refine r_iconst (v := nI 1) X dX9_numbersBehind_32 (by decide) ?_
    refine r_iret S dX9_numbersBehind_33 ?_
    exact ⟨rfl, rfl, rfl⟩
  · refine r_lookup (off := 31) X 32 dX9_numbersBehind_1 (by decide) (by decide) (by decide) ?_
    refine r_iconst (v := nI 1) X dX9_numbersBehind_32 (by decide) ?_
    refine r_iret S dX9_numbersBehind_33 ?_
    exact ⟨rfl, rfl, rfl⟩
  · refine r_lookup (off := 31) X 32 dX9_numbersBehind_1 (by decide) (by decide) (by decide) ?_
    refine r_iconst (v := nI 1) X dX9_numbersBehind_32 (by decide) ?_
    refine r_iret S dX9_numbersBehind_33 ?_
    exact ⟨rfl, rfl, rfl⟩
  · refine r_lookup (off := 27) X 28 dX9_numbersBehind_1 (by decide) (by decide) (by decide) ?_
    refine r_iconst (v := nI 4) X dX9_numbersBehind_28 (by decide) ?_
    refine r_iret S dX9_numbersBehind_29 ?_
    exact ⟨rfl, rfl, rfl⟩
  · refine r_lookup (off := 29) X 30 dX9_numbersBehind_1 (by decide) (by decide) (by decide) ?_
    refine r_iconst (v := nI 0) X dX9_numbersBehind_30 (by decide) ?_
    refine r_iret S dX9_numbersBehind_31 ?_
    exact ⟨rfl, rfl, rfl⟩

set_option maxHeartbeats 4000000 in
set_option maxRecDepth 100000 in
/-- BanisterWord.Text.least  -/
theorem c_X9_least (l : Launch) (E : xE) (g : hG) (n : Nat) (w i : Nat) (hw : w < 7) (hi : i < 4) : Ct l yX9_least cX9_least 2 (some .int) 0 0 0 0 E [.int (nI w), .int (nI i)] (g) n (zr (some (.int (nI (loN w i)))) (g) (n)) := by
  refine Ct.of (by decide +kernel) (Nat.le_of_ble_eq_true rfl) (fun v hv => by simp only [List.mem_cons, List.not_mem_nil, or_false] at hv; (try rcases hv with rfl | rfl) <;> first | rfl | (subst hv; rfl) | exact hv.elim) ?_
  intro K hKl S
  subst hKl
  have X := S.1
  refine r_iload_n X dX9_least_0 rfl ?_
  refine r_iconst (v := nI 4) X dX9_least_1 (by decide) ?_
  refine r_icmp_neN X 7 dX9_least_2 (by decide) (by omega) (by omega) (fun c_2 => ?_) (fun c_2 => ?_)
  · skip
    refine r_iload_n X dX9_least_7 rfl ?_
    refine r_iconst (v := nI 5) X dX9_least_8 (by decide) ?_
    refine r_icmp_neN X 21 dX9_least_9 (by decide) (by omega) (by omega) (fun c_9 => ?_) (fun c_9 => ?_)
    · skip
      refine r_iconst (v := nI 1) X dX9_least_21 (by decide) ?_
      refine r_iret S dX9_least_22 ?_
      exact ⟨by unfold loN; (repeat' split) <;> first | rfl | omega, rfl, rfl⟩
    · skip
      refine r_iload_n X dX9_least_12 rfl ?_
      refine r_iconst (v := nI 2) X dX9_least_13 (by decide) ?_
      refine r_icmp_geN X 21 dX9_least_14 (by decide) (by omega) (by omega) (fun c_14 => ?_) (fun c_14 => ?_)
      · skip
        refine r_iconst (v := nI 1) X dX9_least_21 (by decide) ?_
        refine r_iret S dX9_least_22 ?_
        exact ⟨by unfold loN; (repeat' split) <;> first | rfl | omega, rfl, rfl⟩
      · skip
        refine r_iconst (v := nI 0) X dX9_least_17 (by decide) ?_
        refine r_goto X 22 dX9_least_18 (by decide) ?_
        refine r_iret S dX9_least_22 ?_
        exact ⟨by unfold loN; (repeat' split) <;> first | rfl | omega, rfl, rfl⟩
  · skip
    refine r_iconst (v := nI 2) X dX9_least_5 (by decide) ?_
    refine r_iret S dX9_least_6 ?_
    exact ⟨by unfold loN; (repeat' split) <;> first | rfl | omega, rfl, rfl⟩

set_option maxHeartbeats 4000000 in
set_option maxRecDepth 100000 in
/-- BanisterWord.Text.most  -/
theorem c_X9_most (l : Launch) (E : xE) (g : hG) (n : Nat) (a : Nat) (L Pt : Nat → Nat) (at_ st pp ln cl : Nat) (w i : Nat) (ht : ta E g a L Pt at_ st pp ln cl) (hw : w < 7) (hi : i < 4) (hst : 2 ≤ st) (hst2 : st ≤ 12) : Ct l yX9_most cX9_most 3 (some .int) 0 0 0 0 E [.ref a, .int (nI w), .int (nI i)] (g) n (zr (some (.int (nI (hiN w st i)))) (g) (n)) := by
  refine Ct.of (by decide +kernel) (Nat.le_of_ble_eq_true rfl) (fun v hv => by simp only [List.mem_cons, List.not_mem_nil, or_false] at hv; (try rcases hv with rfl | rfl | rfl) <;> first | rfl | (subst hv; rfl) | exact hv.elim) ?_
  intro K hKl S
  subst hKl
  have X := S.1
  obtain ⟨ht0, ht1, ht2⟩ := id ht
  refine r_iload_n X dX9_most_0 rfl ?_
  refine r_iconst (v := nI 4) X dX9_most_1 (by decide) ?_
  refine r_icmp_neN X 8 dX9_most_2 (by decide) (by omega) (by omega) (fun c_2 => ?_) (fun c_2 => ?_)
  · skip
    refine r_iload_n X dX9_most_8 rfl ?_
    refine r_iconst (v := nI 5) X dX9_most_9 (by decide) ?_
    refine r_icmp_eqN X 16 dX9_most_10 (by decide) (by omega) (by omega) (fun c_10 => ?_) (fun c_10 => ?_)
    · skip
      refine r_iload_n X dX9_most_16 rfl ?_
      subst c_10
      rcases (show i = 0 ∨ i = 1 ∨ i = 2 ∨ i = 3 by omega) with rfl | rfl | rfl | rfl
      · refine r_tableIn (off := 27) X 44 dX9_most_17 (by decide) (by decide) rfl (by decide) ?_
        refine r_aload_n X dX9_most_44 rfl ?_
        refine r_get (ci := 8) X 3 _ ti_RX9 rfl (by decide) tw_36 (fun _ h => h) dX9_most_45 ht0 rfl ?_
        refine r_iconst (v := nI 1) X dX9_most_48 (by decide) ?_
        refine r_isubN X dX9_most_49 (by omega) ?_
        refine r_iret S dX9_most_50 ?_
        exact ⟨rfl, rfl, rfl⟩
      · refine r_tableIn (off := 34) X 51 dX9_most_17 (by decide) (by decide) rfl (by decide) ?_
        refine r_iconst (v := nI 1) X dX9_most_51 (by decide) ?_
        refine r_iret S dX9_most_52 ?_
        exact ⟨rfl, rfl, rfl⟩
      · refine r_tableIn (off := 36) X 53 dX9_most_17 (by decide) (by decide) rfl (by decide) ?_
        refine r_bipush (v := nI 7) X dX9_most_53 (by decide) ?_
        refine r_iret S dX9_most_55 ?_
        exact ⟨rfl, rfl, rfl⟩
      · refine r_tableOut X 56 dX9_most_17 (by decide) (by decide) ?_
        refine r_bipush (v := nI 20) X dX9_most_56 (by decide) ?_
        refine r_iret S dX9_most_58 ?_
        exact ⟨rfl, rfl, rfl⟩
    · skip
      refine r_bipush (v := nI 9) X dX9_most_13 (by decide) ?_
      refine r_iret S dX9_most_15 ?_
      exact ⟨by unfold hiN; (repeat' split) <;> first | rfl | omega, rfl, rfl⟩
  · skip
    refine r_bipush (v := nI 12) X dX9_most_5 (by decide) ?_
    refine r_iret S dX9_most_7 ?_
    exact ⟨by unfold hiN; (repeat' split) <;> first | rfl | omega, rfl, rfl⟩

set_option maxHeartbeats 4000000 in
set_option maxRecDepth 100000 in
/-- BanisterWord.Text.foresee  -/
theorem c_X9_foresee (l : Launch) (E : xE) (g : hG) (n : Nat) (a : Nat) (L Pt : Nat → Nat) (at_ st pp ln cl : Nat) (w x : Nat) (ht : ta E g a L Pt at_ st pp ln cl) (hw : w < 7) (hpp : pp ≤ 6) : Ct l yX9_foresee cX9_foresee 3 none 1 20 0 0 E [.ref a, .int (nI w), .int (nI x)] (g) n (zr (none) (hu g a (tO a at_ (if w = 4 then x else st) (if w = 4 then 0 else if w ≤ 3 then pp + 1 else pp) ln cl)) (n)) := by
  refine Ct.of (by decide +kernel) (Nat.le_of_ble_eq_true rfl) (fun v hv => by simp only [List.mem_cons, List.not_mem_nil, or_false] at hv; (try rcases hv with rfl | rfl | rfl) <;> first | rfl | (subst hv; rfl) | exact hv.elim) ?_
  intro K hKl S
  subst hKl
  have X := S.1
  obtain ⟨ht0, ht1, ht2⟩ := id ht
  refine r_iload_n X dX9_foresee_0 rfl ?_
  refine r_iconst (v := nI 4) X dX9_foresee_1 (by decide) ?_
  refine r_icmp_neN X 18 dX9_foresee_2 (by decide) (by omega) (by omega) (fun c_2 => ?_) (fun c_2 => ?_)
  · skip
    refine r_iload_n X dX9_foresee_18 rfl ?_
    refine r_callS X rfl (c_X9_isPersonWord _ E g n w (by omega)) tw_267 tw_268 tw_2 tw_269 rfl ⟨ok_X9_isPersonWord, ⟨Nat.le_of_ble_eq_true rfl, Nat.le_of_ble_eq_true rfl⟩, ⟨Nat.le_of_ble_eq_true rfl, Nat.le_of_ble_eq_true rfl⟩, Nat.le_of_ble_eq_true rfl⟩ dX9_foresee_19 (kk_r (Wf := Wg K E _ _ _ _) ?_)
    refine r_if_eqB X 35 dX9_foresee_22 (by decide) (fun c_22 => ?_) (fun c_22 => ?_)
    · skip
      refine r_vret S dX9_foresee_35 ?_
      refine ⟨rfl, ?_, rfl⟩
      first | (subst c_2; rw [hu_hu]; rfl) | (rw [if_neg c_2, if_neg c_2]; first | (rw [if_pos (of_decide_eq_true c_22)]; done) | (rw [if_neg (of_decide_eq_false c_22)]; exact (hu_self ht0).symm))
    · skip
      refine r_aload_n X dX9_foresee_25 rfl ?_
      refine r_dup X dX9_foresee_26 rfl ?_
      refine r_get (ci := 8) X 4 _ ti_RX9 rfl (by decide) tw_37 (fun _ h => h) dX9_foresee_27 (by first | assumption | (repeat rw [hu_ne _ _ (by omega)]); first | assumption | exact hu_eq _ _ _) rfl ?_
      refine r_iconst (v := nI 1) X dX9_foresee_30 (by decide) ?_
      first | refine r_iaddN X dX9_foresee_31 ?_ | refine r_iadd X _ dX9_foresee_31 rfl ?_
      refine r_put (ci := 8) (ty := .int) X 4 ti_RX9 tyX9 tyX9_ok nmX9 rfl (by decide) tw_37 (fun _ h => h) rfl (by decide +kernel) dX9_foresee_32 (by first | assumption | (repeat rw [hu_ne _ _ (by omega)]); first | assumption | exact hu_eq _ _ _) rfl rfl (Nat.le_of_ble_eq_true rfl) ?_
      try dsimp only [List.set]
      refine r_vret S dX9_foresee_35 ?_
      refine ⟨rfl, ?_, rfl⟩
      first | (subst c_2; rw [hu_hu]; rfl) | (rw [if_neg c_2, if_neg c_2]; first | (rw [if_pos (of_decide_eq_true c_22)]; done) | (rw [if_neg (of_decide_eq_false c_22)]; exact (hu_self ht0).symm))
  · skip
    refine r_aload_n X dX9_foresee_5 rfl ?_
    refine r_iload_n X dX9_foresee_6 rfl ?_
    refine r_put (ci := 8) (ty := .int) X 3 ti_RX9 tyX9 tyX9_ok nmX9 rfl (by decide) tw_36 (fun _ h => h) rfl (by decide +kernel) dX9_foresee_7 (by first | assumption | (repeat rw [hu_ne _ _ (by omega)]); first | assumption | exact hu_eq _ _ _) rfl rfl (Nat.le_of_ble_eq_true rfl) ?_
    try dsimp only [List.set]
    refine r_aload_n X dX9_foresee_10 rfl ?_
    refine r_iconst (v := nI 0) X dX9_foresee_11 (by decide) ?_
    refine r_put (ci := 8) (ty := .int) X 4 ti_RX9 tyX9 tyX9_ok nmX9 rfl (by decide) tw_37 (fun _ h => h) rfl (by decide +kernel) dX9_foresee_12 (by first | assumption | (repeat rw [hu_ne _ _ (by omega)]); first | assumption | exact hu_eq _ _ _) rfl rfl (Nat.le_of_ble_eq_true rfl) ?_
    try dsimp only [List.set]
    refine r_goto X 35 dX9_foresee_15 (by decide) ?_
    refine r_vret S dX9_foresee_35 ?_
    refine ⟨rfl, ?_, rfl⟩
    first | (subst c_2; rw [hu_hu]; rfl) | (rw [if_neg c_2, if_neg c_2]; first | (rw [if_pos (of_decide_eq_true c_22)]; done) | (rw [if_neg (of_decide_eq_false c_22)]; exact (hu_self ht0).symm))

set_option maxHeartbeats 4000000 in
set_option maxRecDepth 100000 in
/-- BanisterWord.Text.skipBlanks  -/
theorem c_X9_skipBlanks (l : Launch) (E : xE) (g : hG) (n : Nat) (a : Nat) (L Pt : Nat → Nat) (at_ st pp ln cl : Nat) (ht : ta E g a L Pt at_ st pp ln cl) (hL : ∀ j, L j ≤ 255) (hln : ln ≤ 160) (hat : at_ ≤ ln) : Ct l yX9_skipBlanks cX9_skipBlanks 1 none 0 0 0 0 E [.ref a] (g) n (zr (none) (hu g a (tO a (sc (okB L) ln at_) st pp ln cl)) (n)) := by
  refine Ct.of (by decide +kernel) (Nat.le_of_ble_eq_true rfl) (fun v hv => by simp only [List.mem_cons, List.not_mem_nil, or_false] at hv; (try rcases hv with rfl) <;> first | rfl | (subst hv; rfl) | exact hv.elim) ?_
  intro K hKl S
  subst hKl
  have X := S.1
  obtain ⟨ht0, ht1, ht2⟩ := id ht
  have hloop : ∀ (k : Nat), k ≤ ln → (sc (okB L) ln at_ = sc (okB L) ln k) → Wg K E (0) (0) 0 [some (.ref a)] [] (hu g a (tO a k st pp ln cl)) (n) := by
    refine ind_up _ (ln) (fun k hk ih hq => ?_)
    have hLk := hL k
    refine r_aload_n X dX9_skipBlanks_0 rfl ?_
    refine r_get (ci := 8) X 2 _ ti_RX9 rfl (by decide) tw_35 (fun _ h => h) dX9_skipBlanks_1 (by first | assumption | (repeat rw [hu_ne _ _ (by omega)]); first | assumption | exact hu_eq _ _ _) rfl ?_
    refine r_aload_n X dX9_skipBlanks_4 rfl ?_
    refine r_get (ci := 8) X 5 _ ti_RX9 rfl (by decide) tw_38 (fun _ h => h) dX9_skipBlanks_5 (by first | assumption | (repeat rw [hu_ne _ _ (by omega)]); first | assumption | exact hu_eq _ _ _) rfl ?_
    refine r_icmp_geN X 38 dX9_skipBlanks_8 (by decide) (by omega) (by omega) (fun c_8 => ?_) (fun c_8 => ?_)
    · skip
      refine r_vret S dX9_skipBlanks_38 ?_
      exact ⟨rfl, by rw [hq]; first | rw [sc_ge c_8] | rw [sc_f (decide_eq_false c_22)], rfl⟩
    · skip
      refine r_aload_n X dX9_skipBlanks_11 rfl ?_
      refine r_get (ci := 8) X 0 _ ti_RX9 rfl (by decide) tw_33 (fun _ h => h) dX9_skipBlanks_12 (by first | assumption | (repeat rw [hu_ne _ _ (by omega)]); first | assumption | exact hu_eq _ _ _) rfl ?_
      refine r_aload_n X dX9_skipBlanks_15 rfl ?_
      refine r_get (ci := 8) X 2 _ ti_RX9 rfl (by decide) tw_35 (fun _ h => h) dX9_skipBlanks_16 (by first | assumption | (repeat rw [hu_ne _ _ (by omega)]); first | assumption | exact hu_eq _ _ _) rfl ?_
      refine r_nald X _ dX9_skipBlanks_19 (by first | assumption | (repeat rw [hu_ne _ _ (by omega)]); first | assumption | exact hu_eq _ _ _) (rfl) (by omega) (by decide) ?_
      refine r_bipush (v := nI 32) X dX9_skipBlanks_20 (by decide) ?_
      refine r_icmp_neN X 38 dX9_skipBlanks_22 (by decide) (by omega) (by omega) (fun c_22 => ?_) (fun c_22 => ?_)
      · skip
        refine r_vret S dX9_skipBlanks_38 ?_
        exact ⟨rfl, by rw [hq]; first | rw [sc_ge c_8] | rw [sc_f (decide_eq_false c_22)], rfl⟩
      · skip
        refine r_aload_n X dX9_skipBlanks_25 rfl ?_
        refine r_dup X dX9_skipBlanks_26 rfl ?_
        refine r_get (ci := 8) X 2 _ ti_RX9 rfl (by decide) tw_35 (fun _ h => h) dX9_skipBlanks_27 (by first | assumption | (repeat rw [hu_ne _ _ (by omega)]); first | assumption | exact hu_eq _ _ _) rfl ?_
        refine r_iconst (v := nI 1) X dX9_skipBlanks_30 (by decide) ?_
        first | refine r_iaddN X dX9_skipBlanks_31 ?_ | refine r_iadd X _ dX9_skipBlanks_31 rfl ?_
        refine r_put (ci := 8) (ty := .int) X 2 ti_RX9 tyX9 tyX9_ok nmX9 rfl (by decide) tw_35 (fun _ h => h) rfl (by decide +kernel) dX9_skipBlanks_32 (by first | assumption | (repeat rw [hu_ne _ _ (by omega)]); first | assumption | exact hu_eq _ _ _) rfl rfl (Nat.le_of_ble_eq_true rfl) ?_
        try dsimp only [List.set]
        refine r_goto X 0 dX9_skipBlanks_35 (by decide) ?_
        refine r_heap hu_hu (ih (by omega) (hq.trans (sc_t (by omega) (decide_eq_true c_22))))
  refine r_heap (hu_self ht0).symm (hloop at_ hat rfl)

set_option maxHeartbeats 4000000 in
set_option maxRecDepth 100000 in
/-- BanisterWord.Text.nameOf  -/
theorem c_X9_nameOf (l : Launch) (E : xE) (g : hG) (n : Nat) (w : Nat) (hw : w < 7) : Ct l yX9_nameOf cX9_nameOf 1 (some (.object "java/lang/String")) 0 0 0 0 E [.int (nI w)] (g) n (zr (some (.ref (E.2.2.2.1 w))) (g) (n)) := by
  refine Ct.of (by decide +kernel) (Nat.le_of_ble_eq_true rfl) (fun v hv => by simp only [List.mem_cons, List.not_mem_nil, or_false] at hv; (try rcases hv with rfl) <;> first | rfl | (subst hv; rfl) | exact hv.elim) ?_
  intro K hKl S
  subst hKl
  have X := S.1
  refine r_iload_n X dX9_nameOf_0 rfl ?_
  rcases (show w = 0 ∨ w = 1 ∨ w = 2 ∨ w = 3 ∨ w = 4 ∨ w = 5 ∨ w = 6 by omega) with rfl | rfl | rfl | rfl | rfl | rfl | rfl
  · refine r_tableIn (off := 39) X 40 dX9_nameOf_1 (by decide) (by decide) rfl (by decide) ?_
    refine r_ldcS X (X.2.1.2.2.1.1 0 (by decide)) dX9_nameOf_40 ?_
    refine r_aret S dX9_nameOf_42 (Or.inr ⟨_, rfl⟩) ?_
    exact ⟨rfl, rfl, rfl⟩
  · refine r_tableIn (off := 42) X 43 dX9_nameOf_1 (by decide) (by decide) rfl (by decide) ?_
    refine r_ldcS X (X.2.1.2.2.1.1 1 (by decide)) dX9_nameOf_43 ?_
    refine r_aret S dX9_nameOf_45 (Or.inr ⟨_, rfl⟩) ?_
    exact ⟨rfl, rfl, rfl⟩
  · refine r_tableIn (off := 45) X 46 dX9_nameOf_1 (by decide) (by decide) rfl (by decide) ?_
    refine r_ldcS X (X.2.1.2.2.1.1 2 (by decide)) dX9_nameOf_46 ?_
    refine r_aret S dX9_nameOf_48 (Or.inr ⟨_, rfl⟩) ?_
    exact ⟨rfl, rfl, rfl⟩
  · refine r_tableIn (off := 48) X 49 dX9_nameOf_1 (by decide) (by decide) rfl (by decide) ?_
    refine r_ldcS X (X.2.1.2.2.1.1 3 (by decide)) dX9_nameOf_49 ?_
    refine r_aret S dX9_nameOf_51 (Or.inr ⟨_, rfl⟩) ?_
    exact ⟨rfl, rfl, rfl⟩
  · refine r_tableIn (off := 51) X 52 dX9_nameOf_1 (by decide) (by decide) rfl (by decide) ?_
    refine r_ldcS X (X.2.1.2.2.1.1 4 (by decide)) dX9_nameOf_52 ?_
    refine r_aret S dX9_nameOf_54 (Or.inr ⟨_, rfl⟩) ?_
    exact ⟨rfl, rfl, rfl⟩
  · refine r_tableIn (off := 54) X 55 dX9_nameOf_1 (by decide) (by decide) rfl (by decide) ?_
    refine r_ldcS X (X.2.1.2.2.1.1 5 (by decide)) dX9_nameOf_55 ?_
    refine r_aret S dX9_nameOf_57 (Or.inr ⟨_, rfl⟩) ?_
    exact ⟨rfl, rfl, rfl⟩
  · refine r_tableOut X 58 dX9_nameOf_1 (by decide) (by decide) ?_
    refine r_ldcS X (X.2.1.2.2.1.1 6 (by decide)) dX9_nameOf_58 ?_
    refine r_aret S dX9_nameOf_60 (Or.inr ⟨_, rfl⟩) ?_
    exact ⟨rfl, rfl, rfl⟩

set_option maxHeartbeats 4000000 in
set_option maxRecDepth 100000 in
/-- BanisterWord.Text.spells  -/
theorem c_X9_spells (l : Launch) (E : xE) (g : hG) (n : Nat) (a : Nat) (L Pt : Nat → Nat) (at_ st pp ln cl : Nat) (s e i : Nat) (ht : ta E g a L Pt at_ st pp ln cl) (hL : ∀ j, L j ≤ 255) (hse : s ≤ e) (he : e ≤ 160) (hi : i < 7) : Ct l yX9_spells cX9_spells 5 (some .boolean) 5 106 0 0 E [.ref a, .int (nI s), .int (nI e), .ref (E.2.2.2.1 i)] (g) n (zr (some (.int (bI (spB L s e i)))) (g) (n)) := by
  refine Ct.of (by decide +kernel) (Nat.le_of_ble_eq_true rfl) (fun v hv => by simp only [List.mem_cons, List.not_mem_nil, or_false] at hv; (try rcases hv with rfl | rfl | rfl | rfl) <;> first | rfl | (subst hv; rfl) | exact hv.elim) ?_
  intro K hKl S
  subst hKl
  have X := S.1
  obtain ⟨ht0, ht1, ht2⟩ := id ht
  have hnl := nlen_le i hi
  refine r_iload_n X dX9_spells_0 rfl ?_
  refine r_iload_n X dX9_spells_1 rfl ?_
  first | refine r_isubN X dX9_spells_2 (by omega) ?_ | refine r_isub X _ dX9_spells_2 rfl ?_
  refine r_aload_n X dX9_spells_3 rfl ?_
  refine r_callT X rfl hi (c_J0_length_8abf5 _ E g n i hi) tw_219 tw_220 tw_221 tw_8 tw_222 rfl rfl ⟨ok_J0_length_8abf5, ⟨Nat.le_of_ble_eq_true rfl, Nat.le_of_ble_eq_true rfl⟩, ⟨Nat.le_of_ble_eq_true rfl, Nat.le_of_ble_eq_true rfl⟩, Nat.le_of_ble_eq_true rfl⟩ dX9_spells_4 (kk_r (Wf := Wg K E _ _ _ _) ?_)
  refine r_icmp_eqN X 12 dX9_spells_7 (by decide) (by omega) (by omega) (fun c_7 => ?_) (fun c_7 => ?_)
  · skip
    refine r_iload_n X dX9_spells_12 rfl ?_
    refine r_istore X dX9_spells_13 (Nat.le_of_ble_eq_true rfl) ?_
    try dsimp only [List.set]
    have hloop : ∀ (k : Nat), k ≤ e → (s ≤ k ∧ mtch L s i (k - s) = true) → Wg K E (0) (0) 15 [some (.ref a), some (.int (nI s)), some (.int (nI e)), some (.ref (E.2.2.2.1 i)), some (.int (nI k))] [] (g) (n) := by
      refine ind_up _ (e) (fun k hk ih hq => ?_)
      have hLk := hL k
      refine r_iload X dX9_spells_15 rfl ?_
      refine r_iload_n X dX9_spells_17 rfl ?_
      refine r_icmp_geN X 47 dX9_spells_18 (by decide) (by omega) (by omega) (fun c_18 => ?_) (fun c_18 => ?_)
      · skip
        refine r_iconst (v := nI 1) X dX9_spells_47 (by decide) ?_
        refine r_zret S dX9_spells_48 (by first | rfl | exact bI_nar _) ?_
        obtain rfl : k = e := by omega
        exact ⟨by unfold spB; rw [decide_eq_true c_7, hq.2]; rfl, rfl, rfl⟩
      · skip
        have hnm := nmC_lt i hi (k - s) (by omega) (by omega)
        refine r_aload_n X dX9_spells_21 rfl ?_
        refine r_get (ci := 8) X 0 _ ti_RX9 rfl (by decide) tw_33 (fun _ h => h) dX9_spells_22 (by first | assumption | (repeat rw [hu_ne _ _ (by omega)]); first | assumption | exact hu_eq _ _ _) rfl ?_
        refine r_iload X dX9_spells_25 rfl ?_
        refine r_nald X _ dX9_spells_27 (by first | assumption | (repeat rw [hu_ne _ _ (by omega)]); first | assumption | exact hu_eq _ _ _) (rfl) (by omega) (by decide) ?_
        refine r_aload_n X dX9_spells_28 rfl ?_
        refine r_iload X dX9_spells_29 rfl ?_
        refine r_iload_n X dX9_spells_31 rfl ?_
        first | refine r_isubN X dX9_spells_32 (by omega) ?_ | refine r_isub X _ dX9_spells_32 rfl ?_
        refine r_callT X rfl hi (c_J0_charAt_5068e _ E g n i (k - s) hi (by omega)) tw_229 tw_230 tw_231 tw_8 tw_232 rfl rfl ⟨ok_J0_charAt_5068e, ⟨Nat.le_of_ble_eq_true rfl, Nat.le_of_ble_eq_true rfl⟩, ⟨Nat.le_of_ble_eq_true rfl, Nat.le_of_ble_eq_true rfl⟩, Nat.le_of_ble_eq_true rfl⟩ dX9_spells_33 (kk_r (Wf := Wg K E _ _ _ _) ?_)
        refine r_icmp_eqN X 41 dX9_spells_36 (by decide) (by omega) (by omega) (fun c_36 => ?_) (fun c_36 => ?_)
        · skip
          first | refine r_iincN X dX9_spells_41 rfl ?_ | refine r_iinc X _ dX9_spells_41 rfl rfl ?_
          try dsimp only [List.set]
          refine r_goto X 15 dX9_spells_44 (by decide) ?_
          refine ih (by omega) ⟨by omega, ?_⟩
          rw [show k + 1 - s = (k - s) + 1 by omega]
          show (mtch L s i (k - s) && decide (L (s + (k - s)) = nmC i (k - s))) = true
          rw [hq.2, show s + (k - s) = k by omega, c_36]; simp
        · skip
          refine r_iconst (v := nI 0) X dX9_spells_39 (by decide) ?_
          refine r_zret S dX9_spells_40 (by first | rfl | exact bI_nar _) ?_
          refine ⟨?_, rfl, rfl⟩
          have e1 : mtch L s i (k - s + 1) = false := by show (mtch L s i (k - s) && decide (L (s + (k - s)) = nmC i (k - s))) = false; rw [hq.2, show s + (k - s) = k by omega, decide_eq_false c_36]; rfl
          have e2 := mtch_mono e1 (e - (k + 1))
          rw [show k - s + 1 + (e - (k + 1)) = e - s by omega] at e2
          unfold spB; rw [e2, Bool.and_false]; rfl
    exact hloop s hse ⟨Nat.le_refl _, by rw [Nat.sub_self]; rfl⟩
  · skip
    refine r_iconst (v := nI 0) X dX9_spells_10 (by decide) ?_
    refine r_zret S dX9_spells_11 (by first | rfl | exact bI_nar _) ?_
    exact ⟨by unfold spB; rw [decide_eq_false c_7]; rfl, rfl, rfl⟩

