def tH (E : xE) (g : hG) (a : Nat) (Pt : Nat → Nat) (at_ st pp ln cl : Nat) : hG := hu (hu g (a + 2) (nc E 70 Pt)) a (tO a at_ st pp ln cl)
theorem hu_comm {g : hG} {a b : Nat} {x y : va_E} (h : a ≠ b) : hu (hu g a x) b y = hu (hu g b y) a x := by
  funext q
  by_cases e1 : q = b
  · subst e1; rw [hu_eq, hu_ne _ _ (Ne.symm h), hu_eq]
  · by_cases e2 : q = a
    · subst e2; rw [hu_ne _ _ e1, hu_eq, hu_eq]
    · rw [hu_ne _ _ e1, hu_ne _ _ e2, hu_ne _ _ e2, hu_ne _ _ e1]
theorem tH_hu {E : xE} {g : hG} {a : Nat} {Pt : Nat → Nat} {at_ st pp ln cl at2 st2 pp2 ln2 cl2 : Nat} : hu (tH E g a Pt at_ st pp ln cl) a (tO a at2 st2 pp2 ln2 cl2) = tH E g a Pt at2 st2 pp2 ln2 cl2 := hu_hu
theorem tH_pt {E : xE} {g : hG} {a : Nat} {Pt Pt2 : Nat → Nat} {at_ st pp ln cl : Nat} : hu (tH E g a Pt at_ st pp ln cl) (a + 2) (nc E 70 Pt2) = tH E g a Pt2 at_ st pp ln cl := by
  unfold tH
  rw [hu_comm (by omega), hu_hu]
theorem ta.tH {E : xE} {g : hG} {a : Nat} {L Pt Pt2 : Nat → Nat} {at_ st pp ln cl at2 st2 pp2 ln2 cl2 : Nat} (h : ta E g a L Pt at_ st pp ln cl) : ta E (tH E g a Pt2 at2 st2 pp2 ln2 cl2) a L Pt2 at2 st2 pp2 ln2 cl2 := ⟨hu_eq _ _ _, by unfold Jvm.Pilot.@@N@@.tH; rw [hu_ne _ _ (by omega), hu_ne _ _ (by omega)]; exact h.2.1, by unfold Jvm.Pilot.@@N@@.tH; rw [hu_ne _ _ (by omega), hu_eq]⟩
/-- numbers i, i + 1 .. of a clause, d of them, from p on: the fault's place, or the numbers and the place behind them -/
def nmb (L : Nat → Nat) (ln w st : Nat) : Nat → Nat → Nat → (Nat → Nat) → Nat ⊕ (Nat → Nat) × Nat
  | 0, _, p, a => .inr (a, p)
  | d + 1, i, p, a => match rdN L ln (sc (okB L) ln p) with
    | none => .inl (sc (okB L) ln p)
    | some v => if loN w i ≤ v ∧ v ≤ hiN w st i then nmb L ln w st d (i + 1) (sc (okD L) ln (sc (okB L) ln p)) (va_up a i v) else .inl (sc (okB L) ln p)
theorem nmb_none {L : Nat → Nat} {ln w st d i p : Nat} {a : Nat → Nat} (h : rdN L ln (sc (okB L) ln p) = none) : nmb L ln w st (d + 1) i p a = .inl (sc (okB L) ln p) := by simp only [nmb, h]
theorem nmb_bad {L : Nat → Nat} {ln w st d i p v : Nat} {a : Nat → Nat} (h : rdN L ln (sc (okB L) ln p) = some v) (h2 : ¬ (loN w i ≤ v ∧ v ≤ hiN w st i)) : nmb L ln w st (d + 1) i p a = .inl (sc (okB L) ln p) := by simp only [nmb, h, if_neg h2]
theorem nmb_ok {L : Nat → Nat} {ln w st d i p v : Nat} {a : Nat → Nat} (h : rdN L ln (sc (okB L) ln p) = some v) (h2 : loN w i ≤ v ∧ v ≤ hiN w st i) : nmb L ln w st (d + 1) i p a = nmb L ln w st d (i + 1) (sc (okD L) ln (sc (okB L) ln p)) (va_up a i v) := by simp only [nmb, h, if_pos h2]
/-- a clause from p on: the fault's place, or its word, its numbers, the place behind it -/
def pcl (L : Nat → Nat) (ln st pp p : Nat) : Nat ⊕ Nat × (Nat → Nat) × Nat := match findW L (sc (okB L) ln p) (sc (okL L) ln (sc (okB L) ln p)) with
  | none => .inl (sc (okB L) ln p)
  | some w => if w ≤ 3 ∧ 6 ≤ pp then .inl (sc (okB L) ln p) else match nmb L ln w st (nbN w) 0 (sc (okL L) ln (sc (okB L) ln p)) (fun _ => 0) with
    | .inl r => .inl r
    | .inr (a, e) => .inr (w, a, e)
theorem pcl_none {L : Nat → Nat} {ln st pp p : Nat} (h : findW L (sc (okB L) ln p) (sc (okL L) ln (sc (okB L) ln p)) = none) : pcl L ln st pp p = .inl (sc (okB L) ln p) := by simp only [pcl, h]
theorem pcl_full {L : Nat → Nat} {ln st pp p w : Nat} (h : findW L (sc (okB L) ln p) (sc (okL L) ln (sc (okB L) ln p)) = some w) (h2 : w ≤ 3 ∧ 6 ≤ pp) : pcl L ln st pp p = .inl (sc (okB L) ln p) := by simp only [pcl, h, if_pos h2]
theorem pcl_l {L : Nat → Nat} {ln st pp p w r : Nat} (h : findW L (sc (okB L) ln p) (sc (okL L) ln (sc (okB L) ln p)) = some w) (h2 : ¬ (w ≤ 3 ∧ 6 ≤ pp)) (h3 : nmb L ln w st (nbN w) 0 (sc (okL L) ln (sc (okB L) ln p)) (fun _ => 0) = .inl r) : pcl L ln st pp p = .inl r := by simp only [pcl, h, if_neg h2, h3]
theorem pcl_r {L : Nat → Nat} {ln st pp p w e : Nat} {a : Nat → Nat} (h : findW L (sc (okB L) ln p) (sc (okL L) ln (sc (okB L) ln p)) = some w) (h2 : ¬ (w ≤ 3 ∧ 6 ≤ pp)) (h3 : nmb L ln w st (nbN w) 0 (sc (okL L) ln (sc (okB L) ln p)) (fun _ => 0) = .inr (a, e)) : pcl L ln st pp p = .inr (w, a, e) := by simp only [pcl, h, if_neg h2, h3]
def stA (w st : Nat) (a : Nat → Nat) : Nat := if w = 4 then a 0 else st
def ppA (w pp : Nat) : Nat := if w = 4 then 0 else if w ≤ 3 then pp + 1 else pp
theorem fwF_lt {L : Nat → Nat} {s e : Nat} : ∀ d i w, fwF L s e d i = some w → w < i + d
  | 0, i, w, h => by cases h
  | d + 1, i, w, h => by
    have h9 : (if spB L s e i = true then some i else fwF L s e d (i + 1)) = some w := h
    split at h9
    · cases h9; omega
    · have := fwF_lt d (i + 1) w h9; omega
theorem findW_lt {L : Nat → Nat} {s e w : Nat} (h : findW L s e = some w) : w < 7 := by have := fwF_lt 7 0 w h; omega
theorem nbN_le (w : Nat) : nbN w ≤ 4 := by unfold nbN; (repeat' split) <;> omega
theorem nuF_lt {L : Nat → Nat} (hL : ∀ j, L j ≤ 255) (s j : Nat) : nuF L s j < 3000 := by
  have h1 := hL s
  have h2 := hL (s + 1)
  unfold nuF
  repeat' split
  all_goals omega
theorem rdN_lt {L : Nat → Nat} (hL : ∀ j, L j ≤ 255) {ln s v : Nat} (h : rdN L ln s = some v) : v < 3000 := by
  unfold rdN at h
  split at h
  · cases h
  · cases h; exact nuF_lt hL _ _
theorem m1_ne (v : Nat) (h : v < 2 ^ 31) : ¬ nI v = -1 := fun e => by
  have h1 : nI v < 0 := by rw [e]; decide
  exact nI_pos h h1
theorem m1_lt {v : Nat} (h : v < 2 ^ 31) : (-1 : Int32) < nI v := Int32.lt_iff_toInt_lt.mpr (by rw [nI_toInt h]; show (-1 : Int) < _; omega)
theorem loN_lt (w i : Nat) : loN w i ≤ 2 := by unfold loN; (repeat' split) <;> omega
theorem hiN_lt {w st i : Nat} (h : st ≤ 12) : hiN w st i ≤ 20 := by unfold hiN; (repeat' split) <;> omega
/-- behind readClause -/
def Zrc (E : xE) (g : hG) (n a : Nat) (Pt : Nat → Nat) (st pp ln cl : Nat) (R : Nat ⊕ Nat × (Nat → Nat) × Nat) : Option Value → hG → Nat → Prop := fun v g' n' => n' = n ∧ ((∃ q Pt2 at2, R = .inl q ∧ v = some (.int (nI q)) ∧ g' = tH E g a Pt2 at2 st pp ln cl ∧ (∀ j, Pt2 j < 3000)) ∨ (∃ w nm e Pt2, R = .inr (w, nm, e) ∧ e ≤ ln ∧ w < 7 ∧ v = some (.int (-1)) ∧ g' = tH E g a Pt2 e (stA w st nm) (ppA w pp) ln (cl + 1) ∧ (∀ j, j < cl * 5 → Pt2 j = Pt j) ∧ Pt2 (cl * 5) = w ∧ (∀ i, i < nbN w → Pt2 (cl * 5 + 1 + i) = nm i) ∧ (∀ j, Pt2 j < 3000)))

set_option maxHeartbeats 4000000 in
set_option maxRecDepth 100000 in
/-- BanisterWord.Text.readClause  -/
theorem c_X9_readClause (l : Launch) (E : xE) (g : hG) (n : Nat) (a : Nat) (L Pt : Nat → Nat) (at_ st pp ln cl : Nat) (ht : ta E g a L Pt at_ st pp ln cl) (hL : ∀ j, L j ≤ 255) (hln : ln ≤ 160) (hat : at_ ≤ ln) (hst : 2 ≤ st) (hst2 : st ≤ 12) (hpp : pp ≤ 6) (hcl : cl < 14) (hPt : ∀ j, Pt j < 3000) : Ct l yX9_readClause cX9_readClause 6 (some .int) 7 152 0 0 E [.ref a] (g) n (Zrc E g n a Pt st pp ln cl (pcl L ln st pp at_)) := by
  refine Ct.of (by decide +kernel) (Nat.le_of_ble_eq_true rfl) (fun v hv => by simp only [List.mem_cons, List.not_mem_nil, or_false] at hv; (try rcases hv with rfl) <;> first | rfl | (subst hv; rfl) | exact hv.elim) ?_
  intro K hKl S
  subst hKl
  have X := S.1
  obtain ⟨ht0, ht1, ht2⟩ := id ht
  have hq1 : (sc (okB L) ln at_) ≤ ln := sc_hi hat
  have he1 : (sc (okL L) ln (sc (okB L) ln at_)) ≤ ln := sc_hi hq1
  refine r_aload_n X dX9_readClause_0 rfl ?_
  refine r_callV (ci := 8) X rfl (c_X9_skipBlanks _ E g n a L Pt at_ st pp ln cl ht hL hln hat) tw_197 tw_199 tp_1 tw_2 tw_200 rfl rfl (by first | assumption | exact htk.1 | exact htk.2.1 | exact htk.2.2 | (repeat rw [hu_ne _ _ (by omega)]); first | assumption | exact hu_eq _ _ _) rfl ⟨ok_X9_skipBlanks, ⟨Nat.le_of_ble_eq_true rfl, Nat.le_of_ble_eq_true rfl⟩, ⟨Nat.le_of_ble_eq_true rfl, Nat.le_of_ble_eq_true rfl⟩, Nat.le_of_ble_eq_true rfl⟩ dX9_readClause_1 (kk_v (Wf := Wg K E _ _ _ _) ?_)
  refine r_aload_n X dX9_readClause_4 rfl ?_
  refine r_get (ci := 8) X 2 _ ti_RX9 rfl (by decide) tw_35 (fun _ h => h) dX9_readClause_5 (by first | assumption | exact htk.1 | exact htk.2.1 | exact htk.2.2 | (repeat rw [hu_ne _ _ (by omega)]); first | assumption | exact hu_eq _ _ _) rfl ?_
  refine r_istore_n X dX9_readClause_8 (Nat.le_of_ble_eq_true rfl) ?_
  try dsimp only [List.set]
  refine r_aload_n X dX9_readClause_9 rfl ?_
  refine r_callV (ci := 8) X rfl (c_X9_readWord _ E _ n a L Pt (sc (okB L) ln at_) st pp ln cl ht.mv hL hln hq1) tw_201 tw_203 tp_2 tw_2 tw_204 rfl rfl (hu_eq _ _ _) rfl ⟨ok_X9_readWord, ⟨Nat.le_of_ble_eq_true rfl, Nat.le_of_ble_eq_true rfl⟩, ⟨Nat.le_of_ble_eq_true rfl, Nat.le_of_ble_eq_true rfl⟩, Nat.le_of_ble_eq_true rfl⟩ dX9_readClause_10 (kk_r (Wf := Wg K E _ _ _ _) ?_)
  refine r_heap hu_hu ?_
  rcases hfw : findW L (sc (okB L) ln at_) (sc (okL L) ln (sc (okB L) ln at_)) with _ | w
  · skip
    refine r_istore_n X dX9_readClause_13 (Nat.le_of_ble_eq_true rfl) ?_
    try dsimp only [List.set]
    refine r_iload_n X dX9_readClause_14 rfl ?_
    refine r_iconst (v := (-1)) X dX9_readClause_15 (by decide) ?_
    refine r_icmp_eq X 35 dX9_readClause_16 (by decide) (fun c_16 => ?_) (fun c_16 => ?_)
    rotate_left
    · exact absurd rfl c_16
    refine r_iload_n X dX9_readClause_35 rfl ?_
    refine r_iret S dX9_readClause_36 ?_
    exact ⟨rfl, Or.inl ⟨_, Pt, (sc (okL L) ln (sc (okB L) ln at_)), pcl_none hfw, rfl, (by unfold tH; rw [hu_self ht2]), hPt⟩⟩
  · skip
    have hw7 := findW_lt hfw
    have hnb := nbN_le w
    refine r_istore_n X dX9_readClause_13 (Nat.le_of_ble_eq_true rfl) ?_
    try dsimp only [List.set]
    refine r_iload_n X dX9_readClause_14 rfl ?_
    refine r_iconst (v := (-1)) X dX9_readClause_15 (by decide) ?_
    refine r_icmp_eq X 35 dX9_readClause_16 (by decide) (fun c_16 => ?_) (fun c_16 => ?_)
    · exact absurd c_16 (m1_ne w (by omega))
    refine r_iload_n X dX9_readClause_19 rfl ?_
    refine r_callS X rfl (c_X9_isPersonWord _ E _ n w (by omega)) tw_267 tw_268 tw_2 tw_269 rfl ⟨ok_X9_isPersonWord, ⟨Nat.le_of_ble_eq_true rfl, Nat.le_of_ble_eq_true rfl⟩, ⟨Nat.le_of_ble_eq_true rfl, Nat.le_of_ble_eq_true rfl⟩, Nat.le_of_ble_eq_true rfl⟩ dX9_readClause_20 (kk_r (Wf := Wg K E _ _ _ _) ?_)
    refine r_if_eqB X 37 dX9_readClause_23 (by decide) (fun c_23 => ?_) (fun c_23 => ?_)
    · skip
      have hper : ¬ (w ≤ 3 ∧ 6 ≤ pp) := fun q => of_decide_eq_false c_23 q.1
      refine r_aload_n X dX9_readClause_37 rfl ?_
      refine r_get (ci := 8) X 6 _ ti_RX9 rfl (by decide) tw_40 (fun _ h => h) dX9_readClause_38 (by first | assumption | exact htk.1 | exact htk.2.1 | exact htk.2.2 | (repeat rw [hu_ne _ _ (by omega)]); first | assumption | exact hu_eq _ _ _) rfl ?_
      refine r_iconst (v := nI 5) X dX9_readClause_41 (by decide) ?_
      first | refine r_imulN X dX9_readClause_42 ?_ | refine r_imul X _ dX9_readClause_42 rfl ?_
      refine r_istore_n X dX9_readClause_43 (Nat.le_of_ble_eq_true rfl) ?_
      try dsimp only [List.set]
      refine r_aload_n X dX9_readClause_44 rfl ?_
      refine r_get (ci := 8) X 1 _ ti_RX9 rfl (by decide) tw_34 (fun _ h => h) dX9_readClause_45 (by first | assumption | exact htk.1 | exact htk.2.1 | exact htk.2.2 | (repeat rw [hu_ne _ _ (by omega)]); first | assumption | exact hu_eq _ _ _) rfl ?_
      refine r_iload_n X dX9_readClause_48 rfl ?_
      refine r_iload_n X dX9_readClause_49 rfl ?_
      refine r_nast X _ dX9_readClause_50 (by first | assumption | exact htk.1 | exact htk.2.1 | exact htk.2.2 | (repeat rw [hu_ne _ _ (by omega)]); first | assumption | exact hu_eq _ _ _) (rfl) (by omega) (by decide) ?_
      refine r_heap (hu_comm (by omega)) ?_
      refine r_iconst (v := nI 0) X dX9_readClause_51 (by decide) ?_
      refine r_istore X dX9_readClause_52 (Nat.le_of_ble_eq_true rfl) ?_
      try dsimp only [List.set]
      have hloop : ∀ (k : Nat), k ≤ nbN w → ∀ (p : Nat) (nm Pt2 : Nat → Nat) (u_ v_ : Option Value), (nmb L ln w st (nbN w) 0 (sc (okL L) ln (sc (okB L) ln at_)) (fun _ => 0) = nmb L ln w st (nbN w - k) k p nm ∧ p ≤ ln ∧ (∀ j, j < cl * 5 → Pt2 j = Pt j) ∧ Pt2 (cl * 5) = w ∧ (∀ i, i < k → Pt2 (cl * 5 + 1 + i) = nm i) ∧ (∀ j, Pt2 j < 3000)) → Wg K E (0) (0) 54 [some (.ref a), u_, some (.int (nI w)), some (.int (nI (cl * 5))), some (.int (nI k)), v_] [] (tH E g a Pt2 p st pp ln cl) (n) := by
        refine ind_up _ (nbN w) (fun k hk ih p nm Pt2 u_ v_ hq => ?_)
        have htk : ta E (tH E g a Pt2 p st pp ln cl) a L Pt2 p st pp ln cl := ht.tH
        have hqk : (sc (okB L) ln p) ≤ ln := sc_hi hq.2.1
        refine r_iload X dX9_readClause_54 rfl ?_
        refine r_iload_n X dX9_readClause_56 rfl ?_
        refine r_callS X rfl (c_X9_numbersBehind _ E _ n w hw7) tw_270 tw_271 tw_2 tw_272 rfl ⟨ok_X9_numbersBehind, ⟨Nat.le_of_ble_eq_true rfl, Nat.le_of_ble_eq_true rfl⟩, ⟨Nat.le_of_ble_eq_true rfl, Nat.le_of_ble_eq_true rfl⟩, Nat.le_of_ble_eq_true rfl⟩ dX9_readClause_57 (kk_r (Wf := Wg K E _ _ _ _) ?_)
        refine r_icmp_geN X 122 dX9_readClause_60 (by decide) (by omega) (by omega) (fun c_60 => ?_) (fun c_60 => ?_)
        · skip
          refine r_aload_n X dX9_readClause_122 rfl ?_
          refine r_dup X dX9_readClause_123 rfl ?_
          refine r_get (ci := 8) X 6 _ ti_RX9 rfl (by decide) tw_40 (fun _ h => h) dX9_readClause_124 (by first | assumption | exact htk.1 | exact htk.2.1 | exact htk.2.2 | (repeat rw [hu_ne _ _ (by omega)]); first | assumption | exact hu_eq _ _ _) rfl ?_
          refine r_iconst (v := nI 1) X dX9_readClause_127 (by decide) ?_
          first | refine r_iaddN X dX9_readClause_128 ?_ | refine r_iadd X _ dX9_readClause_128 rfl ?_
          refine r_put (ci := 8) (ty := .int) X 6 ti_RX9 tyX9 tyX9_ok nmX9 rfl (by decide) tw_40 (fun _ h => h) rfl (by decide +kernel) dX9_readClause_129 (by first | assumption | exact htk.1 | exact htk.2.1 | exact htk.2.2 | (repeat rw [hu_ne _ _ (by omega)]); first | assumption | exact hu_eq _ _ _) rfl rfl (Nat.le_of_ble_eq_true rfl) ?_
          try dsimp only [List.set]
          refine r_heap tH_hu ?_
          refine r_aload_n X dX9_readClause_132 rfl ?_
          refine r_iload_n X dX9_readClause_133 rfl ?_
          refine r_aload_n X dX9_readClause_134 rfl ?_
          refine r_get (ci := 8) X 1 _ ti_RX9 rfl (by decide) tw_34 (fun _ h => h) dX9_readClause_135 (hu_eq _ _ _) rfl ?_
          refine r_iload_n X dX9_readClause_138 rfl ?_
          refine r_iconst (v := nI 1) X dX9_readClause_139 (by decide) ?_
          first | refine r_iaddN X dX9_readClause_140 ?_ | refine r_iadd X _ dX9_readClause_140 rfl ?_
          refine r_nald X _ dX9_readClause_141 ht.tH.2.2 (rfl) (by omega) (by decide) ?_
          refine r_callV (ci := 8) X rfl (c_X9_foresee _ E _ n a L Pt2 p st pp ln (cl + 1) w (Pt2 (cl * 5 + 1)) ht.tH hw7 hpp) tw_284 tw_286 tp_6 tw_2 tw_287 rfl rfl (hu_eq _ _ _) rfl ⟨ok_X9_foresee, ⟨Nat.le_of_ble_eq_true rfl, Nat.le_of_ble_eq_true rfl⟩, ⟨Nat.le_of_ble_eq_true rfl, Nat.le_of_ble_eq_true rfl⟩, Nat.le_of_ble_eq_true rfl⟩ dX9_readClause_142 (kk_v (Wf := Wg K E _ _ _ _) ?_)
          refine r_heap tH_hu ?_
          refine r_iconst (v := (-1)) X dX9_readClause_145 (by decide) ?_
          refine r_iret S dX9_readClause_146 ?_
          obtain rfl : k = nbN w := by omega
          have h9 := hq.1
          rw [Nat.sub_self] at h9
          refine ⟨rfl, Or.inr ⟨w, nm, p, Pt2, pcl_r hfw hper h9, hq.2.1, hw7, rfl, ?_, hq.2.2.1, hq.2.2.2.1, hq.2.2.2.2.1, hq.2.2.2.2.2⟩⟩
          have e4 : (if w = 4 then Pt2 (cl * 5 + 1) else st) = stA w st nm := by
            unfold stA
            by_cases e9 : w = 4
            · rw [if_pos e9, if_pos e9]; exact hq.2.2.2.2.1 0 (by rw [e9]; decide)
            · rw [if_neg e9, if_neg e9]
          rw [e4]; rfl
        · skip
          refine r_aload_n X dX9_readClause_63 rfl ?_
          refine r_callV (ci := 8) X rfl (c_X9_skipBlanks _ E _ n a L Pt2 p st pp ln cl htk hL hln hq.2.1) tw_197 tw_199 tp_1 tw_2 tw_200 rfl rfl htk.1 rfl ⟨ok_X9_skipBlanks, ⟨Nat.le_of_ble_eq_true rfl, Nat.le_of_ble_eq_true rfl⟩, ⟨Nat.le_of_ble_eq_true rfl, Nat.le_of_ble_eq_true rfl⟩, Nat.le_of_ble_eq_true rfl⟩ dX9_readClause_64 (kk_v (Wf := Wg K E _ _ _ _) ?_)
          refine r_heap tH_hu ?_
          refine r_aload_n X dX9_readClause_67 rfl ?_
          refine r_get (ci := 8) X 2 _ ti_RX9 rfl (by decide) tw_35 (fun _ h => h) dX9_readClause_68 (hu_eq _ _ _) rfl ?_
          refine r_istore_n X dX9_readClause_71 (Nat.le_of_ble_eq_true rfl) ?_
          try dsimp only [List.set]
          refine r_aload_n X dX9_readClause_72 rfl ?_
          refine r_callV (ci := 8) X rfl (c_X9_readNumber _ E _ n a L Pt2 (sc (okB L) ln p) st pp ln cl ht.tH hL hln hqk) tw_273 tw_275 tp_4 tw_2 tw_276 rfl rfl (hu_eq _ _ _) rfl ⟨ok_X9_readNumber, ⟨Nat.le_of_ble_eq_true rfl, Nat.le_of_ble_eq_true rfl⟩, ⟨Nat.le_of_ble_eq_true rfl, Nat.le_of_ble_eq_true rfl⟩, Nat.le_of_ble_eq_true rfl⟩ dX9_readClause_73 (kk_r (Wf := Wg K E _ _ _ _) ?_)
          refine r_heap tH_hu ?_
          rcases hrd : rdN L ln (sc (okB L) ln p) with _ | v
          · skip
            have hlo := loN_lt w k
            refine r_istore X dX9_readClause_76 (Nat.le_of_ble_eq_true rfl) ?_
            try dsimp only [List.set]
            refine r_iload X dX9_readClause_78 rfl ?_
            refine r_iload_n X dX9_readClause_80 rfl ?_
            refine r_iload X dX9_readClause_81 rfl ?_
            refine r_callS X rfl (c_X9_least _ E _ n w k hw7 (by omega)) tw_277 tw_278 tw_2 tw_279 rfl ⟨ok_X9_least, ⟨Nat.le_of_ble_eq_true rfl, Nat.le_of_ble_eq_true rfl⟩, ⟨Nat.le_of_ble_eq_true rfl, Nat.le_of_ble_eq_true rfl⟩, Nat.le_of_ble_eq_true rfl⟩ dX9_readClause_83 (kk_r (Wf := Wg K E _ _ _ _) ?_)
            refine r_icmp_lt X 101 dX9_readClause_86 (by decide) (fun c_86 => ?_) (fun c_86 => ?_)
            rotate_left
            · exact absurd (m1_lt (by omega)) c_86
            refine r_iload_n X dX9_readClause_101 rfl ?_
            refine r_iret S dX9_readClause_102 ?_
            exact ⟨rfl, Or.inl ⟨_, Pt2, _, pcl_l hfw hper (hq.1.trans (by rw [show nbN w - k = (nbN w - (k + 1)) + 1 by omega]; exact nmb_none hrd)), rfl, rfl, hq.2.2.2.2.2⟩⟩
          · skip
            have hv3 := rdN_lt hL hrd
            have hlo := loN_lt w k
            have hhi := hiN_lt (w := w) (i := k) hst2
            refine r_top (oI (some v)) (nI v) rfl ?_
            refine r_istore X dX9_readClause_76 (Nat.le_of_ble_eq_true rfl) ?_
            try dsimp only [List.set]
            refine r_iload X dX9_readClause_78 rfl ?_
            refine r_iload_n X dX9_readClause_80 rfl ?_
            refine r_iload X dX9_readClause_81 rfl ?_
            refine r_callS X rfl (c_X9_least _ E _ n w k hw7 (by omega)) tw_277 tw_278 tw_2 tw_279 rfl ⟨ok_X9_least, ⟨Nat.le_of_ble_eq_true rfl, Nat.le_of_ble_eq_true rfl⟩, ⟨Nat.le_of_ble_eq_true rfl, Nat.le_of_ble_eq_true rfl⟩, Nat.le_of_ble_eq_true rfl⟩ dX9_readClause_83 (kk_r (Wf := Wg K E _ _ _ _) ?_)
            refine r_icmp_ltN X 101 dX9_readClause_86 (by decide) (by omega) (by omega) (fun c_86 => ?_) (fun c_86 => ?_)
            · skip
              refine r_iload_n X dX9_readClause_101 rfl ?_
              refine r_iret S dX9_readClause_102 ?_
              exact ⟨rfl, Or.inl ⟨_, Pt2, _, pcl_l hfw hper (hq.1.trans (by rw [show nbN w - k = (nbN w - (k + 1)) + 1 by omega]; exact nmb_bad hrd (by omega))), rfl, rfl, hq.2.2.2.2.2⟩⟩
            · skip
              refine r_iload X dX9_readClause_89 rfl ?_
              refine r_aload_n X dX9_readClause_91 rfl ?_
              refine r_iload_n X dX9_readClause_92 rfl ?_
              refine r_iload X dX9_readClause_93 rfl ?_
              refine r_callV (ci := 8) X rfl (c_X9_most _ E _ n a L Pt2 (sc (okD L) ln (sc (okB L) ln p)) st pp ln cl w k ht.tH hw7 (by omega) hst hst2) tw_280 tw_282 tp_5 tw_2 tw_283 rfl rfl (hu_eq _ _ _) rfl ⟨ok_X9_most, ⟨Nat.le_of_ble_eq_true rfl, Nat.le_of_ble_eq_true rfl⟩, ⟨Nat.le_of_ble_eq_true rfl, Nat.le_of_ble_eq_true rfl⟩, Nat.le_of_ble_eq_true rfl⟩ dX9_readClause_95 (kk_r (Wf := Wg K E _ _ _ _) ?_)
              refine r_icmp_leN X 103 dX9_readClause_98 (by decide) (by omega) (by omega) (fun c_98 => ?_) (fun c_98 => ?_)
              · skip
                refine r_aload_n X dX9_readClause_103 rfl ?_
                refine r_get (ci := 8) X 1 _ ti_RX9 rfl (by decide) tw_34 (fun _ h => h) dX9_readClause_104 (hu_eq _ _ _) rfl ?_
                refine r_iload_n X dX9_readClause_107 rfl ?_
                refine r_iconst (v := nI 1) X dX9_readClause_108 (by decide) ?_
                first | refine r_iaddN X dX9_readClause_109 ?_ | refine r_iadd X _ dX9_readClause_109 rfl ?_
                refine r_iload X dX9_readClause_110 rfl ?_
                first | refine r_iaddN X dX9_readClause_112 ?_ | refine r_iadd X _ dX9_readClause_112 rfl ?_
                refine r_iload X dX9_readClause_113 rfl ?_
                refine r_nast X _ dX9_readClause_115 ht.tH.2.2 (rfl) (by omega) (by decide) ?_
                refine r_heap tH_pt ?_
                first | refine r_iincN X dX9_readClause_116 rfl ?_ | refine r_iinc X _ dX9_readClause_116 rfl rfl ?_
                try dsimp only [List.set]
                refine r_goto X 54 dX9_readClause_119 (by decide) ?_
                refine ih (by omega) (sc (okD L) ln (sc (okB L) ln p)) (va_up nm k v) _ _ _ ⟨hq.1.trans (by rw [show nbN w - k = (nbN w - (k + 1)) + 1 by omega]; exact nmb_ok hrd (by omega)), sc_hi hqk, fun j hj => ?_, ?_, fun i hi => ?_, fun j => ?_⟩
                · rw [va_up, if_neg (by omega)]; exact hq.2.2.1 j hj
                · rw [va_up, if_neg (by omega)]; exact hq.2.2.2.1
                · by_cases e9 : i = k
                  · subst e9; simp [va_up]
                  · rw [va_up, if_neg (by omega), va_up, if_neg e9]; exact hq.2.2.2.2.1 i (by omega)
                · have := hq.2.2.2.2.2 j
                  simp only [va_up]; split <;> omega
              · skip
                refine r_iload_n X dX9_readClause_101 rfl ?_
                refine r_iret S dX9_readClause_102 ?_
                exact ⟨rfl, Or.inl ⟨_, Pt2, _, pcl_l hfw hper (hq.1.trans (by rw [show nbN w - k = (nbN w - (k + 1)) + 1 by omega]; exact nmb_bad hrd (by omega))), rfl, rfl, hq.2.2.2.2.2⟩⟩
      refine hloop 0 (Nat.zero_le _) (sc (okL L) ln (sc (okB L) ln at_)) (fun _ => 0) _ _ _ ⟨rfl, he1, fun j hj => ?_, ?_, fun i hi => absurd hi (by omega), fun j => ?_⟩
      · rw [va_up, if_neg (by omega)]
      · simp [va_up]
      · have := hPt j
        simp only [va_up]; split <;> omega
    · skip
      refine r_aload_n X dX9_readClause_26 rfl ?_
      refine r_get (ci := 8) X 4 _ ti_RX9 rfl (by decide) tw_37 (fun _ h => h) dX9_readClause_27 (by first | assumption | exact htk.1 | exact htk.2.1 | exact htk.2.2 | (repeat rw [hu_ne _ _ (by omega)]); first | assumption | exact hu_eq _ _ _) rfl ?_
      refine r_bipush (v := nI 6) X dX9_readClause_30 (by decide) ?_
      refine r_icmp_ltN X 37 dX9_readClause_32 (by decide) (by omega) (by omega) (fun c_32 => ?_) (fun c_32 => ?_)
      · skip
        have hper : ¬ (w ≤ 3 ∧ 6 ≤ pp) := by omega
        refine r_aload_n X dX9_readClause_37 rfl ?_
        refine r_get (ci := 8) X 6 _ ti_RX9 rfl (by decide) tw_40 (fun _ h => h) dX9_readClause_38 (by first | assumption | exact htk.1 | exact htk.2.1 | exact htk.2.2 | (repeat rw [hu_ne _ _ (by omega)]); first | assumption | exact hu_eq _ _ _) rfl ?_
        refine r_iconst (v := nI 5) X dX9_readClause_41 (by decide) ?_
        first | refine r_imulN X dX9_readClause_42 ?_ | refine r_imul X _ dX9_readClause_42 rfl ?_
        refine r_istore_n X dX9_readClause_43 (Nat.le_of_ble_eq_true rfl) ?_
        try dsimp only [List.set]
        refine r_aload_n X dX9_readClause_44 rfl ?_
        refine r_get (ci := 8) X 1 _ ti_RX9 rfl (by decide) tw_34 (fun _ h => h) dX9_readClause_45 (by first | assumption | exact htk.1 | exact htk.2.1 | exact htk.2.2 | (repeat rw [hu_ne _ _ (by omega)]); first | assumption | exact hu_eq _ _ _) rfl ?_
        refine r_iload_n X dX9_readClause_48 rfl ?_
        refine r_iload_n X dX9_readClause_49 rfl ?_
        refine r_nast X _ dX9_readClause_50 (by first | assumption | exact htk.1 | exact htk.2.1 | exact htk.2.2 | (repeat rw [hu_ne _ _ (by omega)]); first | assumption | exact hu_eq _ _ _) (rfl) (by omega) (by decide) ?_
        refine r_heap (hu_comm (by omega)) ?_
        refine r_iconst (v := nI 0) X dX9_readClause_51 (by decide) ?_
        refine r_istore X dX9_readClause_52 (Nat.le_of_ble_eq_true rfl) ?_
        try dsimp only [List.set]
        have hloop : ∀ (k : Nat), k ≤ nbN w → ∀ (p : Nat) (nm Pt2 : Nat → Nat) (u_ v_ : Option Value), (nmb L ln w st (nbN w) 0 (sc (okL L) ln (sc (okB L) ln at_)) (fun _ => 0) = nmb L ln w st (nbN w - k) k p nm ∧ p ≤ ln ∧ (∀ j, j < cl * 5 → Pt2 j = Pt j) ∧ Pt2 (cl * 5) = w ∧ (∀ i, i < k → Pt2 (cl * 5 + 1 + i) = nm i) ∧ (∀ j, Pt2 j < 3000)) → Wg K E (0) (0) 54 [some (.ref a), u_, some (.int (nI w)), some (.int (nI (cl * 5))), some (.int (nI k)), v_] [] (tH E g a Pt2 p st pp ln cl) (n) := by
          refine ind_up _ (nbN w) (fun k hk ih p nm Pt2 u_ v_ hq => ?_)
          have htk : ta E (tH E g a Pt2 p st pp ln cl) a L Pt2 p st pp ln cl := ht.tH
          have hqk : (sc (okB L) ln p) ≤ ln := sc_hi hq.2.1
          refine r_iload X dX9_readClause_54 rfl ?_
          refine r_iload_n X dX9_readClause_56 rfl ?_
          refine r_callS X rfl (c_X9_numbersBehind _ E _ n w hw7) tw_270 tw_271 tw_2 tw_272 rfl ⟨ok_X9_numbersBehind, ⟨Nat.le_of_ble_eq_true rfl, Nat.le_of_ble_eq_true rfl⟩, ⟨Nat.le_of_ble_eq_true rfl, Nat.le_of_ble_eq_true rfl⟩, Nat.le_of_ble_eq_true rfl⟩ dX9_readClause_57 (kk_r (Wf := Wg K E _ _ _ _) ?_)
          refine r_icmp_geN X 122 dX9_readClause_60 (by decide) (by omega) (by omega) (fun c_60 => ?_) (fun c_60 => ?_)
          · skip
            refine r_aload_n X dX9_readClause_122 rfl ?_
            refine r_dup X dX9_readClause_123 rfl ?_
            refine r_get (ci := 8) X 6 _ ti_RX9 rfl (by decide) tw_40 (fun _ h => h) dX9_readClause_124 (by first | assumption | exact htk.1 | exact htk.2.1 | exact htk.2.2 | (repeat rw [hu_ne _ _ (by omega)]); first | assumption | exact hu_eq _ _ _) rfl ?_
            refine r_iconst (v := nI 1) X dX9_readClause_127 (by decide) ?_
            first | refine r_iaddN X dX9_readClause_128 ?_ | refine r_iadd X _ dX9_readClause_128 rfl ?_
            refine r_put (ci := 8) (ty := .int) X 6 ti_RX9 tyX9 tyX9_ok nmX9 rfl (by decide) tw_40 (fun _ h => h) rfl (by decide +kernel) dX9_readClause_129 (by first | assumption | exact htk.1 | exact htk.2.1 | exact htk.2.2 | (repeat rw [hu_ne _ _ (by omega)]); first | assumption | exact hu_eq _ _ _) rfl rfl (Nat.le_of_ble_eq_true rfl) ?_
            try dsimp only [List.set]
            refine r_heap tH_hu ?_
            refine r_aload_n X dX9_readClause_132 rfl ?_
            refine r_iload_n X dX9_readClause_133 rfl ?_
            refine r_aload_n X dX9_readClause_134 rfl ?_
            refine r_get (ci := 8) X 1 _ ti_RX9 rfl (by decide) tw_34 (fun _ h => h) dX9_readClause_135 (hu_eq _ _ _) rfl ?_
            refine r_iload_n X dX9_readClause_138 rfl ?_
            refine r_iconst (v := nI 1) X dX9_readClause_139 (by decide) ?_
            first | refine r_iaddN X dX9_readClause_140 ?_ | refine r_iadd X _ dX9_readClause_140 rfl ?_
            refine r_nald X _ dX9_readClause_141 ht.tH.2.2 (rfl) (by omega) (by decide) ?_
            refine r_callV (ci := 8) X rfl (c_X9_foresee _ E _ n a L Pt2 p st pp ln (cl + 1) w (Pt2 (cl * 5 + 1)) ht.tH hw7 hpp) tw_284 tw_286 tp_6 tw_2 tw_287 rfl rfl (hu_eq _ _ _) rfl ⟨ok_X9_foresee, ⟨Nat.le_of_ble_eq_true rfl, Nat.le_of_ble_eq_true rfl⟩, ⟨Nat.le_of_ble_eq_true rfl, Nat.le_of_ble_eq_true rfl⟩, Nat.le_of_ble_eq_true rfl⟩ dX9_readClause_142 (kk_v (Wf := Wg K E _ _ _ _) ?_)
            refine r_heap tH_hu ?_
            refine r_iconst (v := (-1)) X dX9_readClause_145 (by decide) ?_
            refine r_iret S dX9_readClause_146 ?_
            obtain rfl : k = nbN w := by omega
            have h9 := hq.1
            rw [Nat.sub_self] at h9
            refine ⟨rfl, Or.inr ⟨w, nm, p, Pt2, pcl_r hfw hper h9, hq.2.1, hw7, rfl, ?_, hq.2.2.1, hq.2.2.2.1, hq.2.2.2.2.1, hq.2.2.2.2.2⟩⟩
            have e4 : (if w = 4 then Pt2 (cl * 5 + 1) else st) = stA w st nm := by
              unfold stA
              by_cases e9 : w = 4
              · rw [if_pos e9, if_pos e9]; exact hq.2.2.2.2.1 0 (by rw [e9]; decide)
              · rw [if_neg e9, if_neg e9]
            rw [e4]; rfl
          · skip
            refine r_aload_n X dX9_readClause_63 rfl ?_
            refine r_callV (ci := 8) X rfl (c_X9_skipBlanks _ E _ n a L Pt2 p st pp ln cl htk hL hln hq.2.1) tw_197 tw_199 tp_1 tw_2 tw_200 rfl rfl htk.1 rfl ⟨ok_X9_skipBlanks, ⟨Nat.le_of_ble_eq_true rfl, Nat.le_of_ble_eq_true rfl⟩, ⟨Nat.le_of_ble_eq_true rfl, Nat.le_of_ble_eq_true rfl⟩, Nat.le_of_ble_eq_true rfl⟩ dX9_readClause_64 (kk_v (Wf := Wg K E _ _ _ _) ?_)
            refine r_heap tH_hu ?_
            refine r_aload_n X dX9_readClause_67 rfl ?_
            refine r_get (ci := 8) X 2 _ ti_RX9 rfl (by decide) tw_35 (fun _ h => h) dX9_readClause_68 (hu_eq _ _ _) rfl ?_
            refine r_istore_n X dX9_readClause_71 (Nat.le_of_ble_eq_true rfl) ?_
            try dsimp only [List.set]
            refine r_aload_n X dX9_readClause_72 rfl ?_
            refine r_callV (ci := 8) X rfl (c_X9_readNumber _ E _ n a L Pt2 (sc (okB L) ln p) st pp ln cl ht.tH hL hln hqk) tw_273 tw_275 tp_4 tw_2 tw_276 rfl rfl (hu_eq _ _ _) rfl ⟨ok_X9_readNumber, ⟨Nat.le_of_ble_eq_true rfl, Nat.le_of_ble_eq_true rfl⟩, ⟨Nat.le_of_ble_eq_true rfl, Nat.le_of_ble_eq_true rfl⟩, Nat.le_of_ble_eq_true rfl⟩ dX9_readClause_73 (kk_r (Wf := Wg K E _ _ _ _) ?_)
            refine r_heap tH_hu ?_
            rcases hrd : rdN L ln (sc (okB L) ln p) with _ | v
            · skip
              have hlo := loN_lt w k
              refine r_istore X dX9_readClause_76 (Nat.le_of_ble_eq_true rfl) ?_
              try dsimp only [List.set]
              refine r_iload X dX9_readClause_78 rfl ?_
              refine r_iload_n X dX9_readClause_80 rfl ?_
              refine r_iload X dX9_readClause_81 rfl ?_
              refine r_callS X rfl (c_X9_least _ E _ n w k hw7 (by omega)) tw_277 tw_278 tw_2 tw_279 rfl ⟨ok_X9_least, ⟨Nat.le_of_ble_eq_true rfl, Nat.le_of_ble_eq_true rfl⟩, ⟨Nat.le_of_ble_eq_true rfl, Nat.le_of_ble_eq_true rfl⟩, Nat.le_of_ble_eq_true rfl⟩ dX9_readClause_83 (kk_r (Wf := Wg K E _ _ _ _) ?_)
              refine r_icmp_lt X 101 dX9_readClause_86 (by decide) (fun c_86 => ?_) (fun c_86 => ?_)
              rotate_left
              · exact absurd (m1_lt (by omega)) c_86
              refine r_iload_n X dX9_readClause_101 rfl ?_
              refine r_iret S dX9_readClause_102 ?_
              exact ⟨rfl, Or.inl ⟨_, Pt2, _, pcl_l hfw hper (hq.1.trans (by rw [show nbN w - k = (nbN w - (k + 1)) + 1 by omega]; exact nmb_none hrd)), rfl, rfl, hq.2.2.2.2.2⟩⟩
            · skip
              have hv3 := rdN_lt hL hrd
              have hlo := loN_lt w k
              have hhi := hiN_lt (w := w) (i := k) hst2
              refine r_top (oI (some v)) (nI v) rfl ?_
              refine r_istore X dX9_readClause_76 (Nat.le_of_ble_eq_true rfl) ?_
              try dsimp only [List.set]
              refine r_iload X dX9_readClause_78 rfl ?_
              refine r_iload_n X dX9_readClause_80 rfl ?_
              refine r_iload X dX9_readClause_81 rfl ?_
              refine r_callS X rfl (c_X9_least _ E _ n w k hw7 (by omega)) tw_277 tw_278 tw_2 tw_279 rfl ⟨ok_X9_least, ⟨Nat.le_of_ble_eq_true rfl, Nat.le_of_ble_eq_true rfl⟩, ⟨Nat.le_of_ble_eq_true rfl, Nat.le_of_ble_eq_true rfl⟩, Nat.le_of_ble_eq_true rfl⟩ dX9_readClause_83 (kk_r (Wf := Wg K E _ _ _ _) ?_)
              refine r_icmp_ltN X 101 dX9_readClause_86 (by decide) (by omega) (by omega) (fun c_86 => ?_) (fun c_86 => ?_)
              · skip
                refine r_iload_n X dX9_readClause_101 rfl ?_
                refine r_iret S dX9_readClause_102 ?_
                exact ⟨rfl, Or.inl ⟨_, Pt2, _, pcl_l hfw hper (hq.1.trans (by rw [show nbN w - k = (nbN w - (k + 1)) + 1 by omega]; exact nmb_bad hrd (by omega))), rfl, rfl, hq.2.2.2.2.2⟩⟩
              · skip
                refine r_iload X dX9_readClause_89 rfl ?_
                refine r_aload_n X dX9_readClause_91 rfl ?_
                refine r_iload_n X dX9_readClause_92 rfl ?_
                refine r_iload X dX9_readClause_93 rfl ?_
                refine r_callV (ci := 8) X rfl (c_X9_most _ E _ n a L Pt2 (sc (okD L) ln (sc (okB L) ln p)) st pp ln cl w k ht.tH hw7 (by omega) hst hst2) tw_280 tw_282 tp_5 tw_2 tw_283 rfl rfl (hu_eq _ _ _) rfl ⟨ok_X9_most, ⟨Nat.le_of_ble_eq_true rfl, Nat.le_of_ble_eq_true rfl⟩, ⟨Nat.le_of_ble_eq_true rfl, Nat.le_of_ble_eq_true rfl⟩, Nat.le_of_ble_eq_true rfl⟩ dX9_readClause_95 (kk_r (Wf := Wg K E _ _ _ _) ?_)
                refine r_icmp_leN X 103 dX9_readClause_98 (by decide) (by omega) (by omega) (fun c_98 => ?_) (fun c_98 => ?_)
                · skip
                  refine r_aload_n X dX9_readClause_103 rfl ?_
                  refine r_get (ci := 8) X 1 _ ti_RX9 rfl (by decide) tw_34 (fun _ h => h) dX9_readClause_104 (hu_eq _ _ _) rfl ?_
                  refine r_iload_n X dX9_readClause_107 rfl ?_
                  refine r_iconst (v := nI 1) X dX9_readClause_108 (by decide) ?_
                  first | refine r_iaddN X dX9_readClause_109 ?_ | refine r_iadd X _ dX9_readClause_109 rfl ?_
                  refine r_iload X dX9_readClause_110 rfl ?_
                  first | refine r_iaddN X dX9_readClause_112 ?_ | refine r_iadd X _ dX9_readClause_112 rfl ?_
                  refine r_iload X dX9_readClause_113 rfl ?_
                  refine r_nast X _ dX9_readClause_115 ht.tH.2.2 (rfl) (by omega) (by decide) ?_
                  refine r_heap tH_pt ?_
                  first | refine r_iincN X dX9_readClause_116 rfl ?_ | refine r_iinc X _ dX9_readClause_116 rfl rfl ?_
                  try dsimp only [List.set]
                  refine r_goto X 54 dX9_readClause_119 (by decide) ?_
                  refine ih (by omega) (sc (okD L) ln (sc (okB L) ln p)) (va_up nm k v) _ _ _ ⟨hq.1.trans (by rw [show nbN w - k = (nbN w - (k + 1)) + 1 by omega]; exact nmb_ok hrd (by omega)), sc_hi hqk, fun j hj => ?_, ?_, fun i hi => ?_, fun j => ?_⟩
                  · rw [va_up, if_neg (by omega)]; exact hq.2.2.1 j hj
                  · rw [va_up, if_neg (by omega)]; exact hq.2.2.2.1
                  · by_cases e9 : i = k
                    · subst e9; simp [va_up]
                    · rw [va_up, if_neg (by omega), va_up, if_neg e9]; exact hq.2.2.2.2.1 i (by omega)
                  · have := hq.2.2.2.2.2 j
                    simp only [va_up]; split <;> omega
                · skip
                  refine r_iload_n X dX9_readClause_101 rfl ?_
                  refine r_iret S dX9_readClause_102 ?_
                  exact ⟨rfl, Or.inl ⟨_, Pt2, _, pcl_l hfw hper (hq.1.trans (by rw [show nbN w - k = (nbN w - (k + 1)) + 1 by omega]; exact nmb_bad hrd (by omega))), rfl, rfl, hq.2.2.2.2.2⟩⟩
        refine hloop 0 (Nat.zero_le _) (sc (okL L) ln (sc (okB L) ln at_)) (fun _ => 0) _ _ _ ⟨rfl, he1, fun j hj => ?_, ?_, fun i hi => absurd hi (by omega), fun j => ?_⟩
        · rw [va_up, if_neg (by omega)]
        · simp [va_up]
        · have := hPt j
          simp only [va_up]; split <;> omega
      · skip
        refine r_iload_n X dX9_readClause_35 rfl ?_
        refine r_iret S dX9_readClause_36 ?_
        have h3 := of_decide_eq_true c_23
        exact ⟨rfl, Or.inl ⟨_, Pt, (sc (okL L) ln (sc (okB L) ln at_)), pcl_full hfw ⟨h3, c_32⟩, rfl, (by unfold tH; rw [hu_self ht2]), hPt⟩⟩

