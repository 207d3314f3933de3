/-- a house: steps, people, their classes and warmths, what the rails were told -/
abbrev hsT : Type := Nat × Nat × (Nat → Nat) × (Nat → Nat) × (Nat → Nat) × (Nat → Nat)
def cStep (w : Nat) (a : Nat → Nat) (x : hsT) : hsT :=
  if w = 4 then (a 0, 0, x.2.2.1, x.2.2.2.1, fun _ => 0, fun _ => 0)
  else if w = 5 then (x.1, x.2.1, x.2.2.1, x.2.2.2.1, va_up x.2.2.2.2.1 (a 0 * 2 + a 1) (a 2), va_up x.2.2.2.2.2 (a 0 * 2 + a 1) (a 3))
  else if w = 6 then (x.1, x.2.1, x.2.2.1, x.2.2.2.1, fun _ => 0, fun _ => 0)
  else (x.1, x.2.1 + 1, va_up x.2.2.1 x.2.1 (ckN w), va_up x.2.2.2.1 x.2.1 (a 0), x.2.2.2.2.1, x.2.2.2.2.2)
def cFold (C : Nat → Nat × (Nat → Nat)) (x : hsT) : Nat → hsT
  | 0 => x
  | k + 1 => cStep (C k).1 (C k).2 (cFold C x k)
theorem cFold_congr {C D : Nat → Nat × (Nat → Nat)} {x : hsT} : ∀ k, (∀ j, j < k → C j = D j) → cFold C x k = cFold D x k
  | 0, _ => rfl
  | k + 1, h => by
    show cStep (C k).1 (C k).2 (cFold C x k) = cStep (D k).1 (D k).2 (cFold D x k)
    rw [h k (by omega), cFold_congr k (fun j hj => h j (by omega))]
theorem cStep_s (w : Nat) (a : Nat → Nat) (x : hsT) : (cStep w a x).1 = stA w x.1 a := by unfold cStep stA; (repeat' split) <;> first | rfl | omega
theorem cStep_p (w : Nat) (a : Nat → Nat) (x : hsT) (h : w < 7) : (cStep w a x).2.1 = ppA w x.2.1 := by unfold cStep ppA; (repeat' split) <;> first | rfl | omega
/-- a clause that fits a house -/
def gdc (w : Nat) (a : Nat → Nat) (s p : Nat) : Prop := w < 7 ∧ ¬ (w ≤ 3 ∧ 6 ≤ p) ∧ ∀ j, j < nbN w → loN w j ≤ a j ∧ a j ≤ hiN w s j
theorem prs_good {L : Nat → Nat} {ln : Nat} {x : hsT} : ∀ (d i p : Nat) (C C' : Nat → Nat × (Nat → Nat)) (m : Nat), prs L ln d i (cFold C x i).1 (cFold C x i).2.1 p C = .inr (m, C') → p ≤ ln → (∀ j, j < i → gdc (C j).1 (C j).2 (cFold C x j).1 (cFold C x j).2.1) → i ≤ m ∧ m ≤ i + d ∧ ∀ j, j < m → gdc (C' j).1 (C' j).2 (cFold C' x j).1 (cFold C' x j).2.1
  | 0, i, p, C, C', m, h, _, hg => by
    have h9 : (Sum.inr (i, C) : Nat ⊕ Nat × (Nat → Nat × (Nat → Nat))) = .inr (m, C') := h
    injection h9 with h9
    injection h9 with h8 h9
    subst h8; subst h9
    exact ⟨Nat.le_refl _, Nat.le_refl _, hg⟩
  | d + 1, i, p, C, C', m, h, hp, hg => by
    rcases hc : pcl L ln (cFold C x i).1 (cFold C x i).2.1 p with q | ⟨w, a, e⟩
    · rw [prs_l hc] at h; cases h
    · have hb := pcl_bd hc hp
      have hn : ∀ j, j < i + 1 → gdc (va_up C i (w, a) j).1 (va_up C i (w, a) j).2 (cFold (va_up C i (w, a)) x j).1 (cFold (va_up C i (w, a)) x j).2.1 := fun j hj => by
        have e9 : cFold (va_up C i (w, a)) x j = cFold C x j := cFold_congr j (fun t ht => if_neg (by omega))
        rw [e9]
        by_cases e8 : j = i
        · subst e8; rw [show va_up C j (w, a) j = (w, a) from if_pos rfl]; exact ⟨hb.1, hb.2.1, hb.2.2.1⟩
        · rw [show va_up C i (w, a) j = C j from if_neg e8]; exact hg j (by omega)
      have e7 : cFold (va_up C i (w, a)) x (i + 1) = cStep w a (cFold C x i) := by
        show cStep (va_up C i (w, a) i).1 (va_up C i (w, a) i).2 (cFold (va_up C i (w, a)) x i) = _
        rw [show va_up C i (w, a) i = (w, a) from if_pos rfl, show cFold (va_up C i (w, a)) x i = cFold C x i from cFold_congr i (fun t ht => vu_ne (Nat.ne_of_lt ht))]
      by_cases h2 : ln ≤ sc (okB L) ln e
      · rw [prs_e hc h2] at h
        injection h with h9
        injection h9 with h8 h9
        subst h8; subst h9
        exact ⟨by omega, by omega, hn⟩
      · by_cases h3 : L (sc (okB L) ln e) ≠ 59 ∨ i + 1 = 14
        · rw [prs_f hc h2 h3] at h; cases h
        · rw [prs_n hc h2 h3, ← cStep_s, ← cStep_p _ _ _ hb.1, ← e7] at h
          have := prs_good d (i + 1) (sc (okB L) ln e + 1) (va_up C i (w, a)) C' m h (by omega) hn
          exact ⟨by omega, by omega, this.2.2⟩
theorem fold_b {C : Nat → Nat × (Nat → Nat)} {x : hsT} {m : Nat} (h : ∀ j, j < m → gdc (C j).1 (C j).2 (cFold C x j).1 (cFold C x j).2.1) (h1 : 2 ≤ x.1) (h2 : x.1 ≤ 12) (h3 : x.2.1 ≤ 6) : ∀ j, j ≤ m → 2 ≤ (cFold C x j).1 ∧ (cFold C x j).1 ≤ 12 ∧ (cFold C x j).2.1 ≤ 6
  | 0, _ => ⟨h1, h2, h3⟩
  | j + 1, hj => by
    have ih := fold_b h h1 h2 h3 j (by omega)
    have hg := h j (by omega)
    have e1 := stA_b (pp := 0) hg.2.2 ih.1 ih.2.1
    have e2 := ppA_b hg.2.1 ih.2.2
    rw [← cStep_s] at e1
    rw [← cStep_p _ _ _ hg.1] at e2
    exact ⟨e1.1, e1.2, e2⟩
/-- the class holds this house -/
def hsO (g : hG) (Y : Nat) (v : Nat → Nat) (F : Nat → Nat → Nat) (P : Nat → Option Nat) (pad : Nat → Nat) (x : hsT) : Prop :=
  v 0 = x.1 ∧ v 1 = x.2.1 ∧ F 6 = x.2.2.2.2.1 ∧ F 7 = x.2.2.2.2.2 ∧ pOk g Y P (v 1) pad x.2.2.1 x.2.2.2.1
/-- after some clauses -/
def hsI (g0 : hG) (n0 Y : Nat) (v0 : Nat → Nat) (F0 : Nat → Nat → Nat) (x : hsT) (k : Nat) (g : hG) (n : Nat) (v : Nat → Nat) (F : Nat → Nat → Nat) (P : Nat → Option Nat) (pad : Nat → Nat) : Prop :=
  n0 ≤ n ∧ n ≤ n0 + k ∧ (∀ q, q < n0 → g q = g0 q) ∧ (∀ j, j ≠ 6 → j ≠ 7 → F j = F0 j) ∧ (∀ j, 2 ≤ j → v j = v0 j) ∧ hsO g Y v F P pad x
section HI
variable {g0 : hG} {n0 Y : Nat} {v0 : Nat → Nat} {F0 : Nat → Nat → Nat} {x : hsT} {k : Nat} {g : hG} {n : Nat} {v : Nat → Nat} {F : Nat → Nat → Nat} {P : Nat → Option Nat} {pad a : Nat → Nat}
theorem hsI_4 (h : hsI g0 n0 Y v0 F0 x k g n v F P pad) : hsI g0 n0 Y v0 F0 (cStep 4 a x) (k + 1) g n (va_up (va_up v 0 (a 0)) 1 0) (va_up (va_up F 6 (fun _ => 0)) 7 (fun _ => 0)) P pad := by
  obtain ⟨h1, h2, h3, h4, h5, h6⟩ := h
  refine ⟨h1, by omega, h3, fun j e1 e2 => ?_, fun j hj => ?_, rfl, rfl, rfl, rfl, fun i hi => absurd hi (Nat.not_lt_zero _)⟩
  · rw [vu_ne e2, vu_ne e1]; exact h4 j e1 e2
  · rw [vu_ne (by omega), vu_ne (by omega)]; exact h5 j hj
theorem hsI_6 (h : hsI g0 n0 Y v0 F0 x k g n v F P pad) : hsI g0 n0 Y v0 F0 (cStep 6 a x) (k + 1) g n v (va_up (va_up F 6 (fun _ => 0)) 7 (fun _ => 0)) P pad := by
  obtain ⟨h1, h2, h3, h4, h5, h6, h7, h8, h9, h10⟩ := h
  refine ⟨h1, by omega, h3, fun j e1 e2 => ?_, h5, h6, h7, rfl, rfl, h10⟩
  rw [vu_ne e2, vu_ne e1]; exact h4 j e1 e2
theorem hsI_5 (h : hsI g0 n0 Y v0 F0 x k g n v F P pad) : hsI g0 n0 Y v0 F0 (cStep 5 a x) (k + 1) g n v (va_up (va_up F 6 (va_up (F 6) (a 0 * 2 + a 1) (a 2))) 7 (va_up (F 7) (a 0 * 2 + a 1) (a 3))) P pad := by
  obtain ⟨h1, h2, h3, h4, h5, h6, h7, h8, h9, h10⟩ := h
  refine ⟨h1, by omega, h3, fun j e1 e2 => ?_, h5, h6, h7, ?_, ?_, h10⟩
  · rw [vu_ne e2, vu_ne e1]; exact h4 j e1 e2
  · show va_up (F 6) _ _ = va_up x.2.2.2.2.1 _ _; rw [h8]
  · show va_up (F 7) _ _ = va_up x.2.2.2.2.2 _ _; rw [h9]
theorem hsI_p {w : Nat} (hw : w ≤ 3) (ha : a 0 < 1000) (hY : Y + 85 ≤ n) (hq : ∀ i, i < v 1 → pad i < n) (h : hsI g0 n0 Y v0 F0 x k g n v F P pad) : hsI g0 n0 Y v0 F0 (cStep w a x) (k + 1) (hu g n (oc (ckN w) [.int (nI (a 0))])) (n + 1) (va_up v 1 (v 1 + 1)) F (va_up P (v 1) (some n)) (va_up pad (v 1) n) := by
  obtain ⟨h1, h2, h3, h4, h5, h6, h7, h8, h9, h10⟩ := h
  have e : cStep w a x = (x.1, x.2.1 + 1, va_up x.2.2.1 x.2.1 (ckN w), va_up x.2.2.2.1 x.2.1 (a 0), x.2.2.2.2.1, x.2.2.2.2.2) := by unfold cStep; rw [if_neg (by omega), if_neg (by omega), if_neg (by omega)]
  rw [e]
  refine ⟨by omega, by omega, fun q hq => ?_, h4, fun j hj => ?_, h6, ?_, h8, h9, fun i hi => ?_⟩
  · rw [hu_ne _ _ (by omega)]; exact h3 q hq
  · rw [vu_ne (by omega)]; exact h5 j hj
  · show v 1 + 1 = x.2.1 + 1; omega
  · have hi9 : i < v 1 + 1 := hi
    by_cases e8 : i = v 1
    · subst e8
      rw [← h7]
      simp only [va_up, if_pos rfl]
      exact ⟨by simp, by simpa using ckN_lt w, by simpa using ha, by simpa using hu_eq _ _ _, by simpa using hY⟩
    · have h11 := h10 i (by omega)
      have h12 := hq i (by omega)
      rw [← h7]
      dsimp only
      rw [vu_ne e8, vu_ne e8, vu_ne e8, vu_ne e8, hu_ne _ _ (by omega)]
      exact h11
end HI

set_option maxHeartbeats 4000000 in
set_option maxRecDepth 100000 in
/-- BanisterWord.house  -/
theorem c_X10_house (l : Launch) (E : xE) (g : hG) (n : Nat) (Y : Nat) (v : Nat → Nat) (F : Nat → Nat → Nat) (P SP : Nat → Option Nat) (N : Mo) (Mp Kp : Nat → Mo) (pad cl wm : Nat → Nat) (hL : ∀ j, F 2 j ≤ 255) (h5 : v 5 ≤ 160) (h02 : 2 ≤ v 0) (hF3 : ∀ j, F 3 j < 3000) (h0 : v 0 ≤ 12) (h1 : v 1 ≤ 6) (hP : pOk g Y P (v 1) pad cl wm) (hpn : ∀ i, i < v 1 → pad i < n) (hn : Y + 85 ≤ n) : Ct l yX10_house cX10_house 2 (some .int) 9 201 14 14 E [.ref Y] (bG E g Y v F P SP N Mp Kp) n (fun u_ g_ n_ => (∃ q, prs (F 2) (v 5) 14 0 (v 0) (v 1) 0 (fun _ => (0, fun _ => 0)) = .inl q ∧ u_ = some (.int (-4)) ∧ n_ = n ∧ ∃ Pt a b c d, (∀ j, Pt j < 3000) ∧ g_ = bG E g Y (txV v a b c d) (va_up F 3 Pt) P SP N Mp Kp) ∨ (∃ m C, prs (F 2) (v 5) 14 0 (v 0) (v 1) 0 (fun _ => (0, fun _ => 0)) = .inr (m, C) ∧ u_ = some (.int (nI m)) ∧ ∃ g2 v2 F2 P2 pad2, n ≤ n_ ∧ n_ ≤ n + 14 ∧ (∀ q, q < n → g2 q = g q) ∧ hsO g2 Y v2 F2 P2 pad2 (cFold C (v 0, v 1, cl, wm, F 6, F 7) m) ∧ (∀ i, i < v2 1 → pad2 i < n_) ∧ v2 5 = 0 ∧ v2 7 = v 7 ∧ v2 8 = 0 ∧ v2 9 = 0 ∧ (∀ j, F2 3 j < 3000) ∧ F2 59 = (fun _ => 0) ∧ (∀ j, j ≠ 3 → j ≠ 6 → j ≠ 7 → j ≠ 59 → F2 j = F j) ∧ g_ = bG E g2 Y v2 F2 P2 SP (F2 6, F2 7, fun _ => 0, 0) Mp Kp)) := by
  refine Ct.of (by decide +kernel) (Nat.le_of_ble_eq_true rfl) (fun v hv => by simp only [List.mem_cons, List.not_mem_nil, or_false] at hv; (try rcases hv with rfl) <;> first | rfl | (subst hv; rfl) | exact hv.elim) ?_
  intro K hKl S
  subst hKl
  have X := S.1
  refine r_aload_n X dX10_house_0 rfl ?_
  refine r_get (ci := 9) X 0 _ ti_RX10 rfl (by decide) tw_139 (fun _ h => h) dX10_house_1 (by first | exact b0 | exact bnow.c0 | exact bnow.rl.1 | exact bnow.c4 | exact bta.1 | exact b4 | exact btold.1 | exact btrial.1 | exact bpast.c0 | exact bk | exact bz | exact bsi.c0 | assumption) rfl ?_
  refine r_aload_n X dX10_house_4 rfl ?_
  refine r_get (ci := 9) X 9 _ ti_RX10 rfl (by decide) tw_148 (fun _ h => h) dX10_house_5 (by first | exact b0 | exact bnow.c0 | exact bnow.rl.1 | exact bnow.c4 | exact bta.1 | exact b4 | exact btold.1 | exact btrial.1 | exact bpast.c0 | exact bk | exact bz | exact bsi.c0 | assumption) rfl ?_
  refine r_aload_n X dX10_house_8 rfl ?_
  refine r_get (ci := 9) X 10 _ ti_RX10 rfl (by decide) tw_149 (fun _ h => h) dX10_house_9 (by first | exact b0 | exact bnow.c0 | exact bnow.rl.1 | exact bnow.c4 | exact bta.1 | exact b4 | exact btold.1 | exact btrial.1 | exact bpast.c0 | exact bk | exact bz | exact bsi.c0 | assumption) rfl ?_
  refine r_callV (ci := 8) X rfl (c_X9_readClauses _ E _ n (Y + 1) (F 2) (F 3) (v 2) (v 3) (v 4) (v 5) (v 6) (v 0) (v 1) bta hL h5 h02 h0 h1 hF3) tw_189 tw_190 tw_191 tw_2 tw_192 rfl rfl bta.1 rfl ⟨ok_X9_readClauses, ⟨Nat.le_of_ble_eq_true rfl, Nat.le_of_ble_eq_true rfl⟩, ⟨Nat.le_of_ble_eq_true rfl, Nat.le_of_ble_eq_true rfl⟩, Nat.le_of_ble_eq_true rfl⟩ dX10_house_12 (fun v_12 g_12 n_12 z_12 => ?_)
  rcases z_12 with ⟨hn9, Pt, a, b, c, d, rfl, hf9, ⟨q, hR, hql, rfl⟩ | ⟨C, hR, hc, rfl, hpt⟩⟩
  · skip
    replace hn9 := hn9.symm
    subst hn9
    refine r_iconst (v := (-1)) X dX10_house_15 (by decide) ?_
    first | refine r_icmp_eqN X 22 dX10_house_16 (by decide) (by omega) (by omega) (fun c_16 => ?_) (fun c_16 => ?_) | refine r_icmp_eq X 22 dX10_house_16 (by decide) (fun c_16 => ?_) (fun c_16 => ?_)
    · exact absurd c_16 (by intro h; have := congrArg Int32.toInt h; rw [nI_toInt (by omega)] at this; have h9 : ((-1 : Int32)).toInt = -1 := rfl; omega)
    refine r_bipush (v := (-4)) X dX10_house_19 (by decide) ?_
    refine r_widen 14 14 (by omega) (by omega) ?_
    refine r_iret S dX10_house_21 ?_
    exact Or.inl ⟨q, hR, rfl, rfl, Pt, a, b, c, d, hf9, tH_bG _ _ _ _ _⟩
  · skip
    replace hn9 := hn9.symm
    subst hn9
    refine r_heap (tH_bG _ _ _ _ _) ?_
    refine r_iconst (v := (-1)) X dX10_house_15 (by decide) ?_
    first | refine r_icmp_eqN X 22 dX10_house_16 (by decide) (by omega) (by omega) (fun c_16 => ?_) (fun c_16 => ?_) | refine r_icmp_eq X 22 dX10_house_16 (by decide) (fun c_16 => ?_) (fun c_16 => ?_)
    rotate_left
    · exact absurd rfl c_16
    refine r_iconst (v := nI 0) X dX10_house_22 (by decide) ?_
    refine r_istore_n X dX10_house_23 (Nat.le_of_ble_eq_true rfl) ?_
    try dsimp only [List.set]
    have hloop : ∀ (k : Nat), k ≤ d → ∀ (g2 : hG) (n2 : Nat) (v2 : Nat → Nat) (F2 : Nat → Nat → Nat) (P2 : Nat → Option Nat) (pad2 : Nat → Nat), (hsI g n Y (txV v a b c d) (va_up F 3 Pt) (cFold C (v 0, v 1, cl, wm, F 6, F 7) k) k g2 n2 v2 F2 P2 pad2 ∧ ∀ i, i < v2 1 → pad2 i < n2) → Wg K E (k) (k) 24 [some (.ref Y), some (.int (nI k))] [] (bG E g2 Y v2 F2 P2 SP N Mp Kp) (n2) := by
      refine ind_up _ (d) (fun k hk ih g2 n2 v2 F2 P2 pad2 hq => ?_)
      have hv6 : v2 6 = d := hq.1.2.2.2.2.1 6 (by decide)
      refine r_iload_n X dX10_house_24 rfl ?_
      refine r_aload_n X dX10_house_25 rfl ?_
      refine r_get (ci := 9) X 0 _ ti_RX10 rfl (by decide) tw_139 (fun _ h => h) dX10_house_26 (by first | exact b0 | exact bnow.c0 | exact bnow.rl.1 | exact bnow.c4 | exact bta.1 | exact b4 | exact btold.1 | exact btrial.1 | exact bpast.c0 | exact bk | exact bz | exact bsi.c0 | assumption) rfl ?_
      refine r_get (ci := 8) X 6 _ ti_RX9 rfl (by decide) tw_41 (fun _ h => h) dX10_house_29 bta.1 rfl ?_
      refine r_icmp_geN X 46 dX10_house_32 (by decide) (by omega) (by omega) (fun c_32 => ?_) (fun c_32 => ?_)
      · skip
        obtain rfl : k = d := by omega
        refine r_widen 14 14 (by omega) (by omega) ?_
        refine r_aload_n X dX10_house_46 rfl ?_
        refine r_get (ci := 9) X 0 _ ti_RX10 rfl (by decide) tw_139 (fun _ h => h) dX10_house_47 (by first | exact b0 | exact bnow.c0 | exact bnow.rl.1 | exact bnow.c4 | exact bta.1 | exact b4 | exact btold.1 | exact btrial.1 | exact bpast.c0 | exact bk | exact bz | exact bsi.c0 | assumption) rfl ?_
        refine r_iconst (v := nI 0) X dX10_house_50 (by decide) ?_
        refine r_put (ci := 8) (ty := .int) X 5 ti_RX9 tyX9 tyX9_ok nmX9 rfl (by decide) tw_39 (fun _ h => h) rfl (by decide +kernel) dX10_house_51 bta.1 rfl rfl (Nat.le_of_ble_eq_true rfl) ?_
        try dsimp only [List.set]
        refine r_heap (u_txt _ _ _ _ _) ?_
        refine r_aload_n X dX10_house_54 rfl ?_
        refine r_callV (ci := 9) X rfl (c_X10_beginAsTold _ E g2 n2 Y _ F2 P2 SP N Mp Kp) tw_371 tw_373 tp_10 tw_1 tw_374 rfl rfl (by first | exact b0 | exact bnow.c0 | exact bnow.rl.1 | exact bnow.c4 | exact bta.1 | exact b4 | exact btold.1 | exact btrial.1 | exact bpast.c0 | exact bk | exact bz | exact bsi.c0 | assumption) rfl ⟨ok_X10_beginAsTold, ⟨Nat.le_of_ble_eq_true rfl, Nat.le_of_ble_eq_true rfl⟩, ⟨Nat.le_of_ble_eq_true rfl, Nat.le_of_ble_eq_true rfl⟩, Nat.le_of_ble_eq_true rfl⟩ dX10_house_55 (kk_v (Wf := Wg K E _ _ _ _) ?_)
        refine r_aload_n X dX10_house_58 rfl ?_
        refine r_get (ci := 9) X 0 _ ti_RX10 rfl (by decide) tw_139 (fun _ h => h) dX10_house_59 (by first | exact b0 | exact bnow.c0 | exact bnow.rl.1 | exact bnow.c4 | exact bta.1 | exact b4 | exact btold.1 | exact btrial.1 | exact bpast.c0 | exact bk | exact bz | exact bsi.c0 | assumption) rfl ?_
        refine r_get (ci := 8) X 6 _ ti_RX9 rfl (by decide) tw_41 (fun _ h => h) dX10_house_62 bta.1 rfl ?_
        refine r_iret S dX10_house_65 ?_
        refine Or.inr ⟨_, C, hR, ?_, g2, (va_up (va_up (va_up (va_up (va_up (va_up (va_up v2 2 (v2 2)) 3 (v2 3)) 4 (v2 4)) 5 0) 6 (v2 6)) 9 0) 8 0), va_up F2 59 (fun _ => 0), P2, pad2, hq.1.1, by have := hq.1.2.1; omega, hq.1.2.2.1, hq.1.2.2.2.2.2, hq.2, rfl, hq.1.2.2.2.2.1 7 (by decide), rfl, rfl, ?_, rfl, fun j e1 e2 e3 e4 => ?_, rfl⟩
        · rw [← hv6]; rfl
        · intro j; show F2 3 j < 3000; rw [hq.1.2.2.2.1 3 (by decide) (by decide)]; exact hf9 j
        · rw [vu_ne e4, hq.1.2.2.2.1 j e2 e3]; exact vu_ne e1
      · skip
        have hF33 : F2 3 = Pt := hq.1.2.2.2.1 3 (by decide) (by decide)
        have hpk := hpt k (by omega)
        have hgg := (prs_good (x := (v 0, v 1, cl, wm, F 6, F 7)) 14 0 0 _ C _ hR (Nat.zero_le _) (fun j hj => absurd hj (Nat.not_lt_zero _))).2.2
        have hg := hgg k (by omega)
        have hgb := fold_b hgg h02 h0 h1 k (by omega)
        rw [← hq.1.2.2.2.2.2.1, ← hq.1.2.2.2.2.2.2.1] at hg hgb
        refine r_aload_n X dX10_house_35 rfl ?_
        refine r_iload_n X dX10_house_36 rfl ?_
        rcases (show (C k).1 = 4 ∨ (C k).1 = 5 ∨ (C k).1 = 6 ∨ (C k).1 ≤ 3 by have := hg.1; omega) with hw9 | hw9 | hw9 | hw9
        · skip
          refine r_callV (ci := 9) X rfl (c_X10_doClause_4 _ E g2 n2 Y v2 F2 P2 SP N Mp Kp k (by omega) (by rw [hF33, hpk.1, hw9])) tw_293 tw_295 tp_7 tw_1 tw_296 rfl rfl (by first | exact b0 | exact bnow.c0 | exact bnow.rl.1 | exact bnow.c4 | exact bta.1 | exact b4 | exact btold.1 | exact btrial.1 | exact bpast.c0 | exact bk | exact bz | exact bsi.c0 | assumption) rfl ⟨ok_X10_doClause, ⟨Nat.le_of_ble_eq_true rfl, Nat.le_of_ble_eq_true rfl⟩, ⟨by show k + _ ≤ 14; omega, by show k + _ ≤ 14; omega⟩, Nat.le_of_ble_eq_true rfl⟩ dX10_house_37 (kk_v (Wf := Wg K E _ _ _ _) ?_)
          refine r_iincN X dX10_house_40 rfl ?_
          try dsimp only [List.set]
          refine r_goto X 24 dX10_house_43 (by decide) ?_
          refine r_widen (k + 1) (k + 1) (by omega) (by omega) ?_
          rw [hF33, hpk.2.2 0 (by rw [hw9]; decide)]
          refine ih (by omega) _ _ _ _ _ pad2 ⟨?_, ?_⟩
          · rw [show cFold C (v 0, v 1, cl, wm, F 6, F 7) (k + 1) = cStep (C k).1 (C k).2 (cFold C (v 0, v 1, cl, wm, F 6, F 7) k) from rfl]
            rw [hw9]; exact hsI_4 hq.1
          · exact fun i hi => absurd hi (Nat.not_lt_zero _)
        · skip
          refine r_callV (ci := 9) X rfl (c_X10_doClause_5 _ E g2 n2 Y v2 F2 P2 SP N Mp Kp k (by omega) (by rw [hF33, hpk.1, hw9]) (by rw [hF33, hpk.2.2 0 (by rw [hw9]; decide), hpk.2.2 1 (by rw [hw9]; decide)]; have e1 := hg.2.2 0 (by rw [hw9]; decide); have e2 := hg.2.2 1 (by rw [hw9]; decide); rw [hw9] at e1 e2; simp only [hiN, loN] at e1 e2; simp at e1 e2; omega) (by rw [hF33]; exact hf9)) tw_293 tw_295 tp_7 tw_1 tw_296 rfl rfl (by first | exact b0 | exact bnow.c0 | exact bnow.rl.1 | exact bnow.c4 | exact bta.1 | exact b4 | exact btold.1 | exact btrial.1 | exact bpast.c0 | exact bk | exact bz | exact bsi.c0 | assumption) rfl ⟨ok_X10_doClause, ⟨Nat.le_of_ble_eq_true rfl, Nat.le_of_ble_eq_true rfl⟩, ⟨by show k + _ ≤ 14; omega, by show k + _ ≤ 14; omega⟩, Nat.le_of_ble_eq_true rfl⟩ dX10_house_37 (kk_v (Wf := Wg K E _ _ _ _) ?_)
          refine r_iincN X dX10_house_40 rfl ?_
          try dsimp only [List.set]
          refine r_goto X 24 dX10_house_43 (by decide) ?_
          refine r_widen (k + 1) (k + 1) (by omega) (by omega) ?_
          rw [hF33, hpk.2.2 0 (by rw [hw9]; decide), hpk.2.2 1 (by rw [hw9]; decide), hpk.2.2 2 (by rw [hw9]; decide), hpk.2.2 3 (by rw [hw9]; decide), if_neg (by have e1 := hg.2.2 3 (by rw [hw9]; decide); rw [hw9] at e1; simp only [hiN, loN] at e1; simp at e1; omega)]
          refine ih (by omega) _ _ _ _ _ pad2 ⟨?_, ?_⟩
          · rw [show cFold C (v 0, v 1, cl, wm, F 6, F 7) (k + 1) = cStep (C k).1 (C k).2 (cFold C (v 0, v 1, cl, wm, F 6, F 7) k) from rfl]
            rw [hw9]; exact hsI_5 hq.1
          · exact hq.2
        · skip
          refine r_callV (ci := 9) X rfl (c_X10_doClause_6 _ E g2 n2 Y v2 F2 P2 SP N Mp Kp k (by omega) (by rw [hF33, hpk.1, hw9])) tw_293 tw_295 tp_7 tw_1 tw_296 rfl rfl (by first | exact b0 | exact bnow.c0 | exact bnow.rl.1 | exact bnow.c4 | exact bta.1 | exact b4 | exact btold.1 | exact btrial.1 | exact bpast.c0 | exact bk | exact bz | exact bsi.c0 | assumption) rfl ⟨ok_X10_doClause, ⟨Nat.le_of_ble_eq_true rfl, Nat.le_of_ble_eq_true rfl⟩, ⟨by show k + _ ≤ 14; omega, by show k + _ ≤ 14; omega⟩, Nat.le_of_ble_eq_true rfl⟩ dX10_house_37 (kk_v (Wf := Wg K E _ _ _ _) ?_)
          refine r_iincN X dX10_house_40 rfl ?_
          try dsimp only [List.set]
          refine r_goto X 24 dX10_house_43 (by decide) ?_
          refine r_widen (k + 1) (k + 1) (by omega) (by omega) ?_
          refine ih (by omega) _ _ _ _ _ pad2 ⟨?_, ?_⟩
          · rw [show cFold C (v 0, v 1, cl, wm, F 6, F 7) (k + 1) = cStep (C k).1 (C k).2 (cFold C (v 0, v 1, cl, wm, F 6, F 7) k) from rfl]
            rw [hw9]; exact hsI_6 hq.1
          · exact hq.2
        · skip
          have hnb : 0 < nbN (C k).1 := by unfold nbN; rw [if_neg (by omega), if_neg (by omega)]; decide
          refine r_callV (ci := 9) X rfl (c_X10_doClause_p _ E g2 n2 Y v2 F2 P2 SP N Mp Kp k (by omega) (by rw [hF33, hpk.1]; exact hw9) (by have := hg.2.1; omega) (by have := hq.1.1; omega)) tw_293 tw_295 tp_7 tw_1 tw_296 rfl rfl (by first | exact b0 | exact bnow.c0 | exact bnow.rl.1 | exact bnow.c4 | exact bta.1 | exact b4 | exact btold.1 | exact btrial.1 | exact bpast.c0 | exact bk | exact bz | exact bsi.c0 | assumption) rfl ⟨ok_X10_doClause, ⟨Nat.le_of_ble_eq_true rfl, Nat.le_of_ble_eq_true rfl⟩, ⟨by show k + _ ≤ 14; omega, by show k + _ ≤ 14; omega⟩, Nat.le_of_ble_eq_true rfl⟩ dX10_house_37 (kk_v (Wf := Wg K E _ _ _ _) ?_)
          refine r_iincN X dX10_house_40 rfl ?_
          try dsimp only [List.set]
          refine r_goto X 24 dX10_house_43 (by decide) ?_
          rw [hF33, hpk.1, hpk.2.2 0 hnb]
          refine ih (by omega) _ _ _ _ _ (va_up pad2 (v2 1) n2) ⟨?_, ?_⟩
          · rw [show cFold C (v 0, v 1, cl, wm, F 6, F 7) (k + 1) = cStep (C k).1 (C k).2 (cFold C (v 0, v 1, cl, wm, F 6, F 7) k) from rfl]
            exact hsI_p hw9 (by have := hg.2.2 0 hnb; unfold hiN at this; rw [if_neg (by omega), if_neg (by omega)] at this; omega) (by have := hq.1.1; omega) hq.2 hq.1
          · exact fun i hi => by have hi9 : i < v2 1 + 1 := hi; simp only [va_up]; split; omega; have := hq.2 i (by omega); omega
    exact hloop 0 (Nat.zero_le _) g n _ _ P pad ⟨⟨Nat.le_refl _, by omega, fun q _ => rfl, fun j _ _ => rfl, fun j _ => rfl, rfl, rfl, rfl, rfl, hP⟩, hpn⟩

