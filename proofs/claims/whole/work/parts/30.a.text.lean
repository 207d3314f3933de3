/-- clauses i, i + 1 .. of a text, d at most, from p on, in a house of so many steps and people: the fault's place, or how many and which -/
def prs (L : Nat → Nat) (ln : Nat) : Nat → Nat → Nat → Nat → Nat → (Nat → Nat × (Nat → Nat)) → Nat ⊕ Nat × (Nat → Nat × (Nat → Nat))
  | 0, i, _, _, _, C => .inr (i, C)
  | d + 1, i, st, pp, p, C => match pcl L ln st pp p with
    | .inl q => .inl q
    | .inr (w, a, e) => if ln ≤ sc (okB L) ln e then .inr (i + 1, va_up C i (w, a)) else if L (sc (okB L) ln e) ≠ 59 ∨ i + 1 = 14 then .inl (sc (okB L) ln e) else prs L ln d (i + 1) (stA w st a) (ppA w pp) (sc (okB L) ln e + 1) (va_up C i (w, a))
theorem prs_l {L : Nat → Nat} {ln d i st pp p q : Nat} {C : Nat → Nat × (Nat → Nat)} (h : pcl L ln st pp p = .inl q) : prs L ln (d + 1) i st pp p C = .inl q := by simp only [prs, h]
theorem prs_e {L : Nat → Nat} {ln d i st pp p w e : Nat} {a : Nat → Nat} {C : Nat → Nat × (Nat → Nat)} (h : pcl L ln st pp p = .inr (w, a, e)) (h2 : ln ≤ sc (okB L) ln e) : prs L ln (d + 1) i st pp p C = .inr (i + 1, va_up C i (w, a)) := by simp only [prs, h, if_pos h2]
theorem prs_f {L : Nat → Nat} {ln d i st pp p w e : Nat} {a : Nat → Nat} {C : Nat → Nat × (Nat → Nat)} (h : pcl L ln st pp p = .inr (w, a, e)) (h2 : ¬ ln ≤ sc (okB L) ln e) (h3 : L (sc (okB L) ln e) ≠ 59 ∨ i + 1 = 14) : prs L ln (d + 1) i st pp p C = .inl (sc (okB L) ln e) := by simp only [prs, h, if_neg h2, if_pos h3]
theorem prs_n {L : Nat → Nat} {ln d i st pp p w e : Nat} {a : Nat → Nat} {C : Nat → Nat × (Nat → Nat)} (h : pcl L ln st pp p = .inr (w, a, e)) (h2 : ¬ ln ≤ sc (okB L) ln e) (h3 : ¬ (L (sc (okB L) ln e) ≠ 59 ∨ i + 1 = 14)) : prs L ln (d + 1) i st pp p C = prs L ln d (i + 1) (stA w st a) (ppA w pp) (sc (okB L) ln e + 1) (va_up C i (w, a)) := by simp only [prs, h, if_neg h2, if_neg h3]
theorem nmb_r {L : Nat → Nat} {ln w st : Nat} : ∀ (d i p : Nat) (a a' : Nat → Nat) (e : Nat), nmb L ln w st d i p a = .inr (a', e) → p ≤ ln → (∀ j, j < i → loN w j ≤ a j ∧ a j ≤ hiN w st j) → (∀ j, j < i + d → loN w j ≤ a' j ∧ a' j ≤ hiN w st j) ∧ e ≤ ln
  | 0, i, p, a, a', e, h, hp, hb => by
    simp only [nmb] at h
    cases h
    exact ⟨hb, hp⟩
  | d + 1, i, p, a, a', e, h, hp, hb => by
    cases hr : rdN L ln (sc (okB L) ln p) with
    | none => rw [nmb_none hr] at h; cases h
    | some v =>
      by_cases hv : loN w i ≤ v ∧ v ≤ hiN w st i
      · rw [nmb_ok hr hv] at h
        have := nmb_r d (i + 1) _ _ a' e h (sc_hi (sc_hi hp)) (fun j hj => by
          by_cases e9 : j = i
          · subst e9; simp only [va_up, if_true]; exact hv
          · simp only [va_up, if_neg e9]; exact hb j (by omega))
        rw [show i + (d + 1) = i + 1 + d by omega]
        exact this
      · rw [nmb_bad hr hv] at h; cases h
theorem nmb_l {L : Nat → Nat} {ln w st : Nat} : ∀ (d i p : Nat) (a : Nat → Nat) (r : Nat), nmb L ln w st d i p a = .inl r → p ≤ ln → r ≤ ln
  | 0, i, p, a, r, h, hp => by simp only [nmb] at h; cases h
  | d + 1, i, p, a, r, h, hp => by
    cases hr : rdN L ln (sc (okB L) ln p) with
    | none => rw [nmb_none hr] at h; cases h; exact sc_hi hp
    | some v =>
      by_cases hv : loN w i ≤ v ∧ v ≤ hiN w st i
      · rw [nmb_ok hr hv] at h
        exact nmb_l d (i + 1) _ _ r h (sc_hi (sc_hi hp))
      · rw [nmb_bad hr hv] at h; cases h; exact sc_hi hp
theorem pcl_bd {L : Nat → Nat} {ln st pp p w e : Nat} {a : Nat → Nat} (h : pcl L ln st pp p = .inr (w, a, e)) (hp : p ≤ ln) : w < 7 ∧ ¬ (w ≤ 3 ∧ 6 ≤ pp) ∧ (∀ j, j < nbN w → loN w j ≤ a j ∧ a j ≤ hiN w st j) ∧ e ≤ ln := by
  cases hf : findW L (sc (okB L) ln p) (sc (okL L) ln (sc (okB L) ln p)) with
  | none => rw [pcl_none hf] at h; cases h
  | some w2 =>
    by_cases h2 : w2 ≤ 3 ∧ 6 ≤ pp
    · rw [pcl_full hf h2] at h; cases h
    · cases h3 : nmb L ln w2 st (nbN w2) 0 (sc (okL L) ln (sc (okB L) ln p)) (fun _ => 0) with
      | inl r => rw [pcl_l hf h2 h3] at h; cases h
      | inr x =>
        obtain ⟨a2, e2⟩ := x
        rw [pcl_r hf h2 h3] at h
        cases h
        have := nmb_r _ _ _ _ _ _ h3 (sc_hi (sc_hi hp)) (fun j hj => absurd hj (by omega))
        rw [Nat.zero_add] at this
        exact ⟨findW_lt hf, h2, this.1, this.2⟩
theorem pcl_le {L : Nat → Nat} {ln st pp p q : Nat} (h : pcl L ln st pp p = .inl q) (hp : p ≤ ln) : q ≤ ln := by
  cases hf : findW L (sc (okB L) ln p) (sc (okL L) ln (sc (okB L) ln p)) with
  | none => rw [pcl_none hf] at h; cases h; exact sc_hi hp
  | some w2 =>
    by_cases h2 : w2 ≤ 3 ∧ 6 ≤ pp
    · rw [pcl_full hf h2] at h; cases h; exact sc_hi hp
    · cases h3 : nmb L ln w2 st (nbN w2) 0 (sc (okL L) ln (sc (okB L) ln p)) (fun _ => 0) with
      | inl r => rw [pcl_l hf h2 h3] at h; cases h; exact nmb_l _ _ _ _ _ h3 (sc_hi (sc_hi hp))
      | inr x =>
        obtain ⟨a2, e2⟩ := x
        rw [pcl_r hf h2 h3] at h
        cases h
theorem stA_b {w st pp : Nat} {a : Nat → Nat} (h : ∀ j, j < nbN w → loN w j ≤ a j ∧ a j ≤ hiN w st j) (h1 : 2 ≤ st) (h2 : st ≤ 12) : 2 ≤ stA w st a ∧ stA w st a ≤ 12 := by
  unfold stA
  by_cases e : w = 4
  · subst e
    have := h 0 (by decide)
    simp [loN, hiN] at this
    simp; omega
  · rw [if_neg e]; omega
theorem ppA_b {w pp : Nat} (h : ¬ (w ≤ 3 ∧ 6 ≤ pp)) (h1 : pp ≤ 6) : ppA w pp ≤ 6 := by
  unfold ppA
  (repeat' split) <;> omega
/-- what the parts of a text hold of its clauses -/
def pts (Pt : Nat → Nat) (C : Nat → Nat × (Nat → Nat)) (k : Nat) : Prop := ∀ i, i < k → Pt (i * 5) = (C i).1 ∧ (C i).1 < 7 ∧ ∀ j, j < nbN (C i).1 → Pt (i * 5 + 1 + j) = (C i).2 j
theorem pts_s {Pt Pt2 : Nat → Nat} {C : Nat → Nat × (Nat → Nat)} {k w : Nat} {nm : Nat → Nat} (h : pts Pt C k) (f1 : ∀ j, j < k * 5 → Pt2 j = Pt j) (f2 : Pt2 (k * 5) = w) (f3 : ∀ i, i < nbN w → Pt2 (k * 5 + 1 + i) = nm i) (hw : w < 7) : pts Pt2 (va_up C k (w, nm)) (k + 1) := fun i hi => by
  by_cases e : i = k
  · subst e
    simp only [va_up, if_true]
    exact ⟨f2, hw, f3⟩
  · simp only [va_up, if_neg e]
    obtain ⟨h1, h2, h3⟩ := h i (by omega)
    refine ⟨by rw [f1 _ (by omega)]; exact h1, h2, fun j hj => ?_⟩
    have := nbN_le (C i).1
    rw [f1 _ (by omega)]
    exact h3 j hj
def Zrs (E : xE) (g : hG) (n a : Nat) (ln : Nat) (R : Nat ⊕ Nat × (Nat → Nat × (Nat → Nat))) : Option Value → hG → Nat → Prop := fun v g' n' => n' = n ∧ ∃ Pt2 at2 st2 pp2 cl2, g' = tH E g a Pt2 at2 st2 pp2 ln cl2 ∧ (∀ j, Pt2 j < 3000) ∧ ((∃ q, R = .inl q ∧ q ≤ ln ∧ v = some (.int (nI q))) ∨ (∃ C, R = .inr (cl2, C) ∧ cl2 ≤ 14 ∧ v = some (.int (-1)) ∧ pts Pt2 C cl2))
theorem tH_tH {E : xE} {g : hG} {a : Nat} {Pt Pt2 : Nat → Nat} {at_ st pp ln cl at2 st2 pp2 ln2 cl2 : Nat} : tH E (tH E g a Pt at_ st pp ln cl) a Pt2 at2 st2 pp2 ln2 cl2 = tH E g a Pt2 at2 st2 pp2 ln2 cl2 := by
  show hu (hu (tH E g a Pt at_ st pp ln cl) (a + 2) (nc E 70 Pt2)) a _ = _
  rw [tH_pt, tH_hu]

set_option maxHeartbeats 4000000 in
set_option maxRecDepth 100000 in
/-- BanisterWord.Text.readClauses  -/
theorem c_X9_readClauses (l : Launch) (E : xE) (g : hG) (n : Nat) (a : Nat) (L Pt : Nat → Nat) (at_ st pp ln cl : Nat) (s0 p0 : Nat) (ht : ta E g a L Pt at_ st pp ln cl) (hL : ∀ j, L j ≤ 255) (hln : ln ≤ 160) (hst : 2 ≤ s0) (hst2 : s0 ≤ 12) (hpp : p0 ≤ 6) (hPt : ∀ j, Pt j < 3000) : Ct l yX9_readClauses cX9_readClauses 5 (some .int) 8 177 0 0 E [.ref a, .int (nI s0), .int (nI p0)] (g) n (Zrs E g n a ln (prs L ln 14 0 s0 p0 0 (fun _ => (0, fun _ => 0)))) := by
  refine Ct.of (by decide +kernel) (Nat.le_of_ble_eq_true rfl) (fun v hv => by simp only [List.mem_cons, List.not_mem_nil, or_false] at hv; (try rcases hv with rfl | rfl | rfl) <;> first | rfl | (subst hv; rfl) | exact hv.elim) ?_
  intro K hKl S
  subst hKl
  have X := S.1
  obtain ⟨ht0, ht1, ht2⟩ := id ht
  refine r_aload_n X dX9_readClauses_0 rfl ?_
  refine r_iconst (v := nI 0) X dX9_readClauses_1 (by decide) ?_
  refine r_put (ci := 8) (ty := .int) X 2 ti_RX9 tyX9 tyX9_ok nmX9 rfl (by decide) tw_35 (fun _ h => h) rfl (by decide +kernel) dX9_readClauses_2 (by first | assumption | exact hu_eq _ _ _ | exact htk.1 | exact htk.2.1 | (repeat rw [hu_ne _ _ (by omega)]); first | assumption | exact hu_eq _ _ _) rfl rfl (Nat.le_of_ble_eq_true rfl) ?_
  try dsimp only [List.set]
  refine r_aload_n X dX9_readClauses_5 rfl ?_
  refine r_iconst (v := nI 0) X dX9_readClauses_6 (by decide) ?_
  refine r_put (ci := 8) (ty := .int) X 6 ti_RX9 tyX9 tyX9_ok nmX9 rfl (by decide) tw_40 (fun _ h => h) rfl (by decide +kernel) dX9_readClauses_7 (by first | assumption | exact hu_eq _ _ _ | exact htk.1 | exact htk.2.1 | (repeat rw [hu_ne _ _ (by omega)]); first | assumption | exact hu_eq _ _ _) rfl rfl (Nat.le_of_ble_eq_true rfl) ?_
  try dsimp only [List.set]
  refine r_heap hu_hu ?_
  refine r_aload_n X dX9_readClauses_10 rfl ?_
  refine r_iload_n X dX9_readClauses_11 rfl ?_
  refine r_put (ci := 8) (ty := .int) X 3 ti_RX9 tyX9 tyX9_ok nmX9 rfl (by decide) tw_36 (fun _ h => h) rfl (by decide +kernel) dX9_readClauses_12 (by first | assumption | exact hu_eq _ _ _ | exact htk.1 | exact htk.2.1 | (repeat rw [hu_ne _ _ (by omega)]); first | assumption | exact hu_eq _ _ _) rfl rfl (Nat.le_of_ble_eq_true rfl) ?_
  try dsimp only [List.set]
  refine r_heap hu_hu ?_
  refine r_aload_n X dX9_readClauses_15 rfl ?_
  refine r_iload_n X dX9_readClauses_16 rfl ?_
  refine r_put (ci := 8) (ty := .int) X 4 ti_RX9 tyX9 tyX9_ok nmX9 rfl (by decide) tw_37 (fun _ h => h) rfl (by decide +kernel) dX9_readClauses_17 (by first | assumption | exact hu_eq _ _ _ | exact htk.1 | exact htk.2.1 | (repeat rw [hu_ne _ _ (by omega)]); first | assumption | exact hu_eq _ _ _) rfl rfl (Nat.le_of_ble_eq_true rfl) ?_
  try dsimp only [List.set]
  refine r_heap hu_hu ?_
  refine r_iconst (v := nI 0) X dX9_readClauses_20 (by decide) ?_
  refine r_istore_n X dX9_readClauses_21 (Nat.le_of_ble_eq_true rfl) ?_
  try dsimp only [List.set]
  have hloop : ∀ (k : Nat), k ≤ 14 → ∀ (p st2 pp2 : Nat) (C : Nat → Nat × (Nat → Nat)) (Pt2 : Nat → Nat) (u_ : Option Value), (prs L ln 14 0 s0 p0 0 (fun _ => (0, fun _ => 0)) = prs L ln (14 - k) k st2 pp2 p C ∧ k ≤ 13 ∧ p ≤ ln ∧ 2 ≤ st2 ∧ st2 ≤ 12 ∧ pp2 ≤ 6 ∧ pts Pt2 C k ∧ (∀ j, Pt2 j < 3000)) → Wg K E (0) (0) 22 [some (.ref a), some (.int (nI s0)), some (.int (nI p0)), some (.int (nI k)), u_] [] (tH E g a Pt2 p st2 pp2 ln k) (n) := by
    refine ind_up _ (14) (fun k hk ih p st2 pp2 C Pt2 u_ hq => ?_)
    have htk : ta E (tH E g a Pt2 p st2 pp2 ln k) a L Pt2 p st2 pp2 ln k := ht.tH
    refine r_iload_n X dX9_readClauses_22 rfl ?_
    refine r_bipush (v := nI 14) X dX9_readClauses_23 (by decide) ?_
    refine r_icmp_geN X 104 dX9_readClauses_25 (by decide) (by omega) (by omega) (fun c_25 => ?_) (fun c_25 => ?_)
    · exact absurd hq.2.1 (by omega)
    refine r_aload_n X dX9_readClauses_28 rfl ?_
    refine r_callV (ci := 8) X rfl (c_X9_readClause _ E _ n a L Pt2 p st2 pp2 ln k ht.tH hL hln hq.2.2.1 hq.2.2.2.1 hq.2.2.2.2.1 hq.2.2.2.2.2.1 (by omega) hq.2.2.2.2.2.2.2) tw_193 tw_195 tp_0 tw_2 tw_196 rfl rfl (hu_eq _ _ _) rfl ⟨ok_X9_readClause, ⟨Nat.le_of_ble_eq_true rfl, Nat.le_of_ble_eq_true rfl⟩, ⟨Nat.le_of_ble_eq_true rfl, Nat.le_of_ble_eq_true rfl⟩, Nat.le_of_ble_eq_true rfl⟩ dX9_readClauses_29 (fun v_29 g_29 n_29 z_29 => ?_)
    rcases z_29 with ⟨hn9, ⟨q, Pt3, at3, hR, rfl, rfl, hf9⟩ | ⟨w, nm, e, Pt3, hR, he, hw7, rfl, rfl, f1, f2, f3, f4⟩⟩
    · skip
      replace hn9 := hn9.symm
      subst hn9
      have hql := pcl_le hR hq.2.2.1
      refine r_istore X dX9_readClauses_32 (Nat.le_of_ble_eq_true rfl) ?_
      try dsimp only [List.set]
      refine r_iload X dX9_readClauses_34 rfl ?_
      refine r_iconst (v := (-1)) X dX9_readClauses_36 (by decide) ?_
      refine r_icmp_eq X 43 dX9_readClauses_37 (by decide) (fun c_37 => ?_) (fun c_37 => ?_)
      · exact absurd c_37 (m1_ne q (by omega))
      refine r_iload X dX9_readClauses_40 rfl ?_
      refine r_iret S dX9_readClauses_42 ?_
      exact ⟨rfl, Pt3, at3, st2, pp2, k, tH_tH, hf9, Or.inl ⟨q, (hq.1.trans (by rw [show 14 - k = (13 - k) + 1 by omega]; exact prs_l hR)), hql, rfl⟩⟩
    · skip
      replace hn9 := hn9.symm
      subst hn9
      refine r_heap tH_tH ?_
      obtain ⟨-, hnp, hbd, -⟩ := pcl_bd hR hq.2.2.1
      have hsb := stA_b (pp := pp2) hbd hq.2.2.2.1 hq.2.2.2.2.1
      have hpb := ppA_b hnp hq.2.2.2.2.2.1
      have hqe : (sc (okB L) ln e) ≤ ln := sc_hi he
      refine r_istore X dX9_readClauses_32 (Nat.le_of_ble_eq_true rfl) ?_
      try dsimp only [List.set]
      refine r_iload X dX9_readClauses_34 rfl ?_
      refine r_iconst (v := (-1)) X dX9_readClauses_36 (by decide) ?_
      refine r_icmp_eq X 43 dX9_readClauses_37 (by decide) (fun c_37 => ?_) (fun c_37 => ?_)
      rotate_left
      · exact absurd rfl c_37
      refine r_aload_n X dX9_readClauses_43 rfl ?_
      refine r_callV (ci := 8) X rfl (c_X9_skipBlanks _ E _ n a L Pt3 e _ _ ln (k + 1) ht.tH hL hln he) tw_197 tw_199 tp_1 tw_2 tw_200 rfl rfl (hu_eq _ _ _) rfl ⟨ok_X9_skipBlanks, ⟨Nat.le_of_ble_eq_true rfl, Nat.le_of_ble_eq_true rfl⟩, ⟨Nat.le_of_ble_eq_true rfl, Nat.le_of_ble_eq_true rfl⟩, Nat.le_of_ble_eq_true rfl⟩ dX9_readClauses_44 (kk_v (Wf := Wg K E _ _ _ _) ?_)
      refine r_heap tH_hu ?_
      refine r_aload_n X dX9_readClauses_47 rfl ?_
      refine r_get (ci := 8) X 2 _ ti_RX9 rfl (by decide) tw_35 (fun _ h => h) dX9_readClauses_48 (by first | assumption | exact hu_eq _ _ _ | exact htk.1 | exact htk.2.1 | (repeat rw [hu_ne _ _ (by omega)]); first | assumption | exact hu_eq _ _ _) rfl ?_
      refine r_aload_n X dX9_readClauses_51 rfl ?_
      refine r_get (ci := 8) X 5 _ ti_RX9 rfl (by decide) tw_38 (fun _ h => h) dX9_readClauses_52 (by first | assumption | exact hu_eq _ _ _ | exact htk.1 | exact htk.2.1 | (repeat rw [hu_ne _ _ (by omega)]); first | assumption | exact hu_eq _ _ _) rfl ?_
      refine r_icmp_ltN X 60 dX9_readClauses_55 (by decide) (by omega) (by omega) (fun c_55 => ?_) (fun c_55 => ?_)
      · skip
        have hLe := hL (sc (okB L) ln e)
        refine r_aload_n X dX9_readClauses_60 rfl ?_
        refine r_get (ci := 8) X 0 _ ti_RX9 rfl (by decide) tw_33 (fun _ h => h) dX9_readClauses_61 (hu_eq _ _ _) rfl ?_
        refine r_aload_n X dX9_readClauses_64 rfl ?_
        refine r_get (ci := 8) X 2 _ ti_RX9 rfl (by decide) tw_35 (fun _ h => h) dX9_readClauses_65 (hu_eq _ _ _) rfl ?_
        refine r_nald X _ dX9_readClauses_68 (ht.tH.2.1) (rfl) (by omega) (by decide) ?_
        refine r_bipush (v := nI 59) X dX9_readClauses_69 (by decide) ?_
        refine r_icmp_neN X 83 dX9_readClauses_71 (by decide) (by omega) (by omega) (fun c_71 => ?_) (fun c_71 => ?_)
        · skip
          refine r_aload_n X dX9_readClauses_83 rfl ?_
          refine r_get (ci := 8) X 2 _ ti_RX9 rfl (by decide) tw_35 (fun _ h => h) dX9_readClauses_84 (by first | assumption | exact hu_eq _ _ _ | exact htk.1 | exact htk.2.1 | (repeat rw [hu_ne _ _ (by omega)]); first | assumption | exact hu_eq _ _ _) rfl ?_
          refine r_iret S dX9_readClauses_87 ?_
          exact ⟨rfl, Pt3, _, _, _, k + 1, rfl, f4, Or.inl ⟨_, (hq.1.trans (by rw [show 14 - k = (13 - k) + 1 by omega]; exact prs_f hR (by omega) (by first | exact Or.inl c_71 | exact Or.inr c_80))), hqe, rfl⟩⟩
        · skip
          refine r_aload_n X dX9_readClauses_74 rfl ?_
          refine r_get (ci := 8) X 6 _ ti_RX9 rfl (by decide) tw_40 (fun _ h => h) dX9_readClauses_75 (by first | assumption | exact hu_eq _ _ _ | exact htk.1 | exact htk.2.1 | (repeat rw [hu_ne _ _ (by omega)]); first | assumption | exact hu_eq _ _ _) rfl ?_
          refine r_bipush (v := nI 14) X dX9_readClauses_78 (by decide) ?_
          refine r_icmp_neN X 88 dX9_readClauses_80 (by decide) (by omega) (by omega) (fun c_80 => ?_) (fun c_80 => ?_)
          · skip
            refine r_aload_n X dX9_readClauses_88 rfl ?_
            refine r_dup X dX9_readClauses_89 rfl ?_
            refine r_get (ci := 8) X 2 _ ti_RX9 rfl (by decide) tw_35 (fun _ h => h) dX9_readClauses_90 (by first | assumption | exact hu_eq _ _ _ | exact htk.1 | exact htk.2.1 | (repeat rw [hu_ne _ _ (by omega)]); first | assumption | exact hu_eq _ _ _) rfl ?_
            refine r_iconst (v := nI 1) X dX9_readClauses_93 (by decide) ?_
            first | refine r_iaddN X dX9_readClauses_94 ?_ | refine r_iadd X _ dX9_readClauses_94 rfl ?_
            refine r_put (ci := 8) (ty := .int) X 2 ti_RX9 tyX9 tyX9_ok nmX9 rfl (by decide) tw_35 (fun _ h => h) rfl (by decide +kernel) dX9_readClauses_95 (by first | assumption | exact hu_eq _ _ _ | exact htk.1 | exact htk.2.1 | (repeat rw [hu_ne _ _ (by omega)]); first | assumption | exact hu_eq _ _ _) rfl rfl (Nat.le_of_ble_eq_true rfl) ?_
            try dsimp only [List.set]
            refine r_heap tH_hu ?_
            first | refine r_iincN X dX9_readClauses_98 rfl ?_ | refine r_iinc X _ dX9_readClauses_98 rfl rfl ?_
            try dsimp only [List.set]
            refine r_goto X 22 dX9_readClauses_101 (by decide) ?_
            exact ih (by omega) _ _ _ _ _ _ ⟨hq.1.trans (by rw [show 14 - k = (14 - (k + 1)) + 1 by omega]; exact prs_n hR (by omega) (by omega)), by omega, by omega, hsb.1, hsb.2, hpb, pts_s hq.2.2.2.2.2.2.1 f1 f2 f3 hw7, f4⟩
          · skip
            refine r_aload_n X dX9_readClauses_83 rfl ?_
            refine r_get (ci := 8) X 2 _ ti_RX9 rfl (by decide) tw_35 (fun _ h => h) dX9_readClauses_84 (by first | assumption | exact hu_eq _ _ _ | exact htk.1 | exact htk.2.1 | (repeat rw [hu_ne _ _ (by omega)]); first | assumption | exact hu_eq _ _ _) rfl ?_
            refine r_iret S dX9_readClauses_87 ?_
            exact ⟨rfl, Pt3, _, _, _, k + 1, rfl, f4, Or.inl ⟨_, (hq.1.trans (by rw [show 14 - k = (13 - k) + 1 by omega]; exact prs_f hR (by omega) (by first | exact Or.inl c_71 | exact Or.inr c_80))), hqe, rfl⟩⟩
      · skip
        refine r_iconst (v := (-1)) X dX9_readClauses_58 (by decide) ?_
        refine r_iret S dX9_readClauses_59 ?_
        exact ⟨rfl, Pt3, _, _, _, k + 1, rfl, f4, Or.inr ⟨_, (hq.1.trans (by rw [show 14 - k = (13 - k) + 1 by omega]; exact prs_e hR c_55)), by omega, rfl, pts_s hq.2.2.2.2.2.2.1 f1 f2 f3 hw7⟩⟩
  refine r_heap ?_ (hloop 0 (Nat.zero_le _) 0 s0 p0 (fun _ => (0, fun _ => 0)) Pt _ ⟨rfl, by omega, by omega, hst, hst2, hpp, fun i hi => absurd hi (by omega), hPt⟩)
  unfold tH; rw [hu_self ht2]

