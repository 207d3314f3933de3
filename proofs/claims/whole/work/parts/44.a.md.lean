theorem upQ_n {c : Nat} {f h : Nat → Nat} (hc : feelsB c = false) (k m : Nat) : rubF (upQ c k) f h = rubF (upQ c m) f h ∧ rubH (upQ c k) h = rubH (upQ c m) h := by
  have h1 := rub_none (f := f) (h := h) (fun j => upQ_f hc k j)
  have h2 := rub_none (f := f) (h := h) (fun j => upQ_f hc m j)
  exact ⟨h1.1.trans h2.1.symm, h1.2.trans h2.2.symm⟩
/-- the most firm so far, over all places -/
def mxF (f h : Nat → Nat) (t : Nat) : Nat → Nat
  | 0 => 0
  | k + 1 => if f k = t then max (mxF f h t k) (h k) else mxF f h t k
theorem mxF_le {f h : Nat → Nat} (hh : ∀ j, h j ≤ 99) (t : Nat) : ∀ k, mxF f h t k ≤ 99
  | 0 => by simp [mxF]
  | k + 1 => by
    have h1 := mxF_le (f := f) hh t k
    have h2 := hh k
    unfold mxF
    split
    · omega
    · exact h1
theorem mxF_2 {f h : Nat → Nat} {t : Nat} : ∀ k, mxF f h t (2 * k) = max (fmx f h t 0 k) (fmx f h t 1 k)
  | 0 => rfl
  | k + 1 => by
    have ih := mxF_2 (f := f) (h := h) (t := t) k
    have a1 : mxF f h t (2 * (k + 1)) = if f (2 * k + 1) = t then max (mxF f h t (2 * k + 1)) (h (2 * k + 1)) else mxF f h t (2 * k + 1) := rfl
    have a2 : mxF f h t (2 * k + 1) = if f (2 * k) = t then max (mxF f h t (2 * k)) (h (2 * k)) else mxF f h t (2 * k) := rfl
    have a3 : fmx f h t 0 (k + 1) = if f (k * 2) = t then max (fmx f h t 0 k) (h (k * 2)) else fmx f h t 0 k := rfl
    have a4 : fmx f h t 1 (k + 1) = if f (k * 2 + 1) = t then max (fmx f h t 1 k) (h (k * 2 + 1)) else fmx f h t 1 k := rfl
    rw [a1, a2, a3, a4, ih, Nat.mul_comm k 2]
    by_cases e1 : f (2 * k) = t
    · by_cases e2 : f (2 * k + 1) = t
      · simp only [if_pos e1, if_pos e2]; omega
      · simp only [if_pos e1, if_neg e2]; omega
    · by_cases e2 : f (2 * k + 1) = t
      · simp only [if_neg e1, if_pos e2]; omega
      · simp only [if_neg e1, if_neg e2]
theorem plF_up {s k : Nat} {f : Nat → Nat} : va_up (plF s k f) (2 * s + k) 0 = plF s (k + 1) f := by
  funext j
  simp only [va_up, plF]
  (repeat' split) <;> first | rfl | omega

set_option maxHeartbeats 4000000 in
set_option maxRecDepth 100000 in
/-- BanisterWordModel.goes  -/
theorem c_X11_goes (l : Launch) (E : xE) (g : hG) (n : Nat) (M : Nat) (u : Nat → Nat) (B : Nat → Nat → Nat) (T : hsT) (N : Mo) (i s : Nat) (hT : B 2 = tfl T) (hS : B 4 = flat N) (h0 : T.1 ≤ 12) (h1 : T.2.1 ≤ 6) (hP : ∀ i, i < T.2.1 → T.2.2.1 i < 4 ∧ T.2.2.2.1 i ≤ 9) (hN : ∀ j, N.1 j ≤ 7) (hN9 : ∀ j, N.2.1 j ≤ 99) (hi : i < T.2.1) (hs : s < 12) : Ct l yX11_goes cX11_goes 5 none 2 46 0 0 E [.ref M, .int (nI i), .int (nI s)] (mG E g M u B) n (zr (none) (mG E g M u (va_up B 4 (flat (upN N (T.2.2.1 i) i s)))) (n)) := by
  refine Ct.of (by decide +kernel) (Nat.le_of_ble_eq_true rfl) (fun v hv => by simp only [List.mem_cons, List.not_mem_nil, or_false] at hv; (try rcases hv with rfl | rfl | rfl) <;> first | rfl | (subst hv; rfl) | exact hv.elim) ?_
  intro K hKl S
  subst hKl
  have X := S.1
  have hhd := handN_le (T.2.2.1 i)
  refine r_aload_n X dX11_goes_0 rfl ?_
  refine r_get (ci := 10) X 4 _ ti_RX11 rfl (by decide) tw_662 (fun _ h => h) dX11_goes_1 (by first | exact m0 | exact m1 | exact m2 | exact m3 | exact m4 | exact m5 | exact m6 | exact m7 | exact m8 | exact m9 | assumption) rfl ?_
  refine r_bipush (v := nI 48) X dX11_goes_4 (by decide) ?_
  refine r_iload_n X dX11_goes_6 rfl ?_
  first | refine r_iaddN X dX11_goes_7 ?_ | refine r_iadd X _ dX11_goes_7 rfl ?_
  refine r_dup2 X dX11_goes_8 rfl rfl ?_
  refine r_nald X _ dX11_goes_9 (by first | exact m0 | exact m1 | exact m2 | exact m3 | exact m4 | exact m5 | exact m6 | exact m7 | exact m8 | exact m9 | assumption) (rfl) (by omega) (by decide) ?_
  refine r_top _ _ (congrArg nI (show B 4 (48 + i) = N.2.2.1 i by rw [hS]; exact flat_k (by omega))) ?_
  refine r_aload_n X dX11_goes_10 rfl ?_
  refine r_iload_n X dX11_goes_11 rfl ?_
  refine r_iload_n X dX11_goes_12 rfl ?_
  refine r_callV (ci := 10) X rfl (c_X11_heard _ E g n M u B T N i s hT hS h0 h1 hP hN hi hs) tw_827 tw_829 tp_36 tw_7 tw_830 rfl rfl (by first | exact m0 | exact m1 | exact m2 | exact m3 | exact m4 | exact m5 | exact m6 | exact m7 | exact m8 | exact m9 | assumption) rfl ⟨ok_X11_heard, ⟨Nat.le_of_ble_eq_true rfl, Nat.le_of_ble_eq_true rfl⟩, ⟨Nat.le_of_ble_eq_true rfl, Nat.le_of_ble_eq_true rfl⟩, Nat.le_of_ble_eq_true rfl⟩ dX11_goes_13 (kk_r (Wf := Wg K E _ _ _ _) ?_)
  refine r_iorN X dX11_goes_16 ?_
  refine r_nast X _ dX11_goes_17 (by first | exact m0 | exact m1 | exact m2 | exact m3 | exact m4 | exact m5 | exact m6 | exact m7 | exact m8 | exact m9 | assumption) (rfl) (by omega) (by decide) ?_
  refine r_heap um4 ?_
  rw [hS, flat_kup (show i < 6 by omega)]
  refine r_iconst (v := nI 0) X dX11_goes_18 (by decide) ?_
  refine r_istore_n X dX11_goes_19 (Nat.le_of_ble_eq_true rfl) ?_
  try dsimp only [List.set]
  have hloop : ∀ (k : Nat), k ≤ s + 1 → ∀ u_ : Option Value, Wg K E (0) (0) 20 [some (.ref M), some (.int (nI i)), some (.int (nI s)), some (.int (nI k)), u_] [] (mG E g M u (va_up B 4 (flat (rubF (upQ (T.2.2.1 i) k) N.1 N.2.1, rubH (upQ (T.2.2.1 i) k) N.2.1, va_up N.2.2.1 i (N.2.2.1 i ||| hearN (T.2.2.1 i) N.1 (s + 1)), N.2.2.2)))) (n) := by
    refine ind_up _ (s + 1) (fun k hk ih u_ => ?_)
    have h99 : rubH (upQ (T.2.2.1 i) k) N.2.1 (2 * k + handN (T.2.2.1 i)) ≤ 99 := by have := hN9 (2 * k + handN (T.2.2.1 i)); unfold rubH; split <;> omega
    refine r_iload_n X dX11_goes_20 rfl ?_
    refine r_iload_n X dX11_goes_21 rfl ?_
    refine r_icmp_gtN X 75 dX11_goes_22 (by decide) (by omega) (by omega) (fun c_22 => ?_) (fun c_22 => ?_)
    · skip
      refine r_vret S dX11_goes_75 ?_
      refine ⟨rfl, ?_, rfl⟩
      unfold upN
      first | (rw [(upQ_n (f := N.1) (h := N.2.1) c_30 k (s + 1)).1, (upQ_n (f := N.1) (h := N.2.1) c_30 k (s + 1)).2]; done) | (rw [show k = s + 1 by omega])
    · skip
      refine r_aload_n X dX11_goes_25 rfl ?_
      refine r_iload_n X dX11_goes_26 rfl ?_
      refine r_callV (ci := 10) X rfl (c_X11_feels _ E g n M u (va_up B 4 (flat (rubF (upQ (T.2.2.1 i) k) N.1 N.2.1, rubH (upQ (T.2.2.1 i) k) N.2.1, va_up N.2.2.1 i (N.2.2.1 i ||| hearN (T.2.2.1 i) N.1 (s + 1)), N.2.2.2))) T i (show (va_up B 4 (flat (rubF (upQ (T.2.2.1 i) k) N.1 N.2.1, rubH (upQ (T.2.2.1 i) k) N.2.1, va_up N.2.2.1 i (N.2.2.1 i ||| hearN (T.2.2.1 i) N.1 (s + 1)), N.2.2.2))) 2 = tfl T from hT) (by omega) (hP i hi).1) tw_831 tw_833 tp_37 tw_7 tw_834 rfl rfl (by first | exact m0 | exact m1 | exact m2 | exact m3 | exact m4 | exact m5 | exact m6 | exact m7 | exact m8 | exact m9 | assumption) rfl ⟨ok_X11_feels, ⟨Nat.le_of_ble_eq_true rfl, Nat.le_of_ble_eq_true rfl⟩, ⟨Nat.le_of_ble_eq_true rfl, Nat.le_of_ble_eq_true rfl⟩, Nat.le_of_ble_eq_true rfl⟩ dX11_goes_27 (kk_r (Wf := Wg K E _ _ _ _) ?_)
      refine r_if_eqB X 75 dX11_goes_30 (by decide) (fun c_30 => ?_) (fun c_30 => ?_)
      · skip
        refine r_vret S dX11_goes_75 ?_
        refine ⟨rfl, ?_, rfl⟩
        unfold upN
        first | (rw [(upQ_n (f := N.1) (h := N.2.1) c_30 k (s + 1)).1, (upQ_n (f := N.1) (h := N.2.1) c_30 k (s + 1)).2]; done) | (rw [show k = s + 1 by omega])
      · skip
        refine r_iconst (v := nI 2) X dX11_goes_33 (by decide) ?_
        refine r_iload_n X dX11_goes_34 rfl ?_
        first | refine r_imulN X dX11_goes_35 ?_ | refine r_imul X _ dX11_goes_35 rfl ?_
        refine r_aload_n X dX11_goes_36 rfl ?_
        refine r_iload_n X dX11_goes_37 rfl ?_
        refine r_callV (ci := 10) X rfl (c_X11_handOf _ E g n M u (va_up B 4 (flat (rubF (upQ (T.2.2.1 i) k) N.1 N.2.1, rubH (upQ (T.2.2.1 i) k) N.2.1, va_up N.2.2.1 i (N.2.2.1 i ||| hearN (T.2.2.1 i) N.1 (s + 1)), N.2.2.2))) T i (show (va_up B 4 (flat (rubF (upQ (T.2.2.1 i) k) N.1 N.2.1, rubH (upQ (T.2.2.1 i) k) N.2.1, va_up N.2.2.1 i (N.2.2.1 i ||| hearN (T.2.2.1 i) N.1 (s + 1)), N.2.2.2))) 2 = tfl T from hT) (by omega)) tw_811 tw_813 tp_33 tw_7 tw_814 rfl rfl (by first | exact m0 | exact m1 | exact m2 | exact m3 | exact m4 | exact m5 | exact m6 | exact m7 | exact m8 | exact m9 | assumption) rfl ⟨ok_X11_handOf, ⟨Nat.le_of_ble_eq_true rfl, Nat.le_of_ble_eq_true rfl⟩, ⟨Nat.le_of_ble_eq_true rfl, Nat.le_of_ble_eq_true rfl⟩, Nat.le_of_ble_eq_true rfl⟩ dX11_goes_38 (kk_r (Wf := Wg K E _ _ _ _) ?_)
        first | refine r_iaddN X dX11_goes_41 ?_ | refine r_iadd X _ dX11_goes_41 rfl ?_
        refine r_istore X dX11_goes_42 (Nat.le_of_ble_eq_true rfl) ?_
        try dsimp only [List.set]
        refine r_aload_n X dX11_goes_44 rfl ?_
        refine r_iload X dX11_goes_45 rfl ?_
        refine r_aload_n X dX11_goes_47 rfl ?_
        refine r_get (ci := 10) X 4 _ ti_RX11 rfl (by decide) tw_662 (fun _ h => h) dX11_goes_48 (by first | exact m0 | exact m1 | exact m2 | exact m3 | exact m4 | exact m5 | exact m6 | exact m7 | exact m8 | exact m9 | assumption) rfl ?_
        refine r_iload X dX11_goes_51 rfl ?_
        refine r_nald X _ dX11_goes_53 (show _ = some (nc E 55 (flat (rubF (upQ (T.2.2.1 i) k) N.1 N.2.1, rubH (upQ (T.2.2.1 i) k) N.2.1, va_up N.2.2.1 i (N.2.2.1 i ||| hearN (T.2.2.1 i) N.1 (s + 1)), N.2.2.2))) from m4) (rfl) (by omega) (by decide) ?_
        refine r_top _ (nI (rubF (upQ (T.2.2.1 i) k) N.1 N.2.1 (2 * k + handN (T.2.2.1 i)))) (congrArg nI (flat_f (by omega))) ?_
        refine r_aload_n X dX11_goes_54 rfl ?_
        refine r_get (ci := 10) X 4 _ ti_RX11 rfl (by decide) tw_662 (fun _ h => h) dX11_goes_55 (by first | exact m0 | exact m1 | exact m2 | exact m3 | exact m4 | exact m5 | exact m6 | exact m7 | exact m8 | exact m9 | assumption) rfl ?_
        refine r_bipush (v := nI 24) X dX11_goes_58 (by decide) ?_
        refine r_iload X dX11_goes_60 rfl ?_
        first | refine r_iaddN X dX11_goes_62 ?_ | refine r_iadd X _ dX11_goes_62 rfl ?_
        refine r_nald X _ dX11_goes_63 (show _ = some (nc E 55 (flat (rubF (upQ (T.2.2.1 i) k) N.1 N.2.1, rubH (upQ (T.2.2.1 i) k) N.2.1, va_up N.2.2.1 i (N.2.2.1 i ||| hearN (T.2.2.1 i) N.1 (s + 1)), N.2.2.2))) from m4) (rfl) (by omega) (by decide) ?_
        refine r_top _ (nI (rubH (upQ (T.2.2.1 i) k) N.2.1 (2 * k + handN (T.2.2.1 i)))) (congrArg nI (flat_h (by omega))) ?_
        refine r_iconst (v := nI 1) X dX11_goes_64 (by decide) ?_
        refine r_isub X _ dX11_goes_65 rfl ?_
        refine r_callV (ci := 10) X rfl (c_X11_firms _ E g n M u (va_up B 4 (flat (rubF (upQ (T.2.2.1 i) k) N.1 N.2.1, rubH (upQ (T.2.2.1 i) k) N.2.1, va_up N.2.2.1 i (N.2.2.1 i ||| hearN (T.2.2.1 i) N.1 (s + 1)), N.2.2.2))) (rubF (upQ (T.2.2.1 i) k) N.1 N.2.1, rubH (upQ (T.2.2.1 i) k) N.2.1, va_up N.2.2.1 i (N.2.2.1 i ||| hearN (T.2.2.1 i) N.1 (s + 1)), N.2.2.2) (2 * k + handN (T.2.2.1 i)) _ _ rfl (by omega) (by rw [ix_m1 (by omega)]; omega)) tw_815 tw_817 tp_34 tw_7 tw_818 rfl rfl (by first | exact m0 | exact m1 | exact m2 | exact m3 | exact m4 | exact m5 | exact m6 | exact m7 | exact m8 | exact m9 | assumption) rfl ⟨ok_X11_firms, ⟨Nat.le_of_ble_eq_true rfl, Nat.le_of_ble_eq_true rfl⟩, ⟨Nat.le_of_ble_eq_true rfl, Nat.le_of_ble_eq_true rfl⟩, Nat.le_of_ble_eq_true rfl⟩ dX11_goes_66 (kk_v (Wf := Wg K E _ _ _ _) ?_)
        first | refine r_iincN X dX11_goes_69 rfl ?_ | refine r_iinc X _ dX11_goes_69 rfl rfl ?_
        try dsimp only [List.set]
        refine r_goto X 20 dX11_goes_72 (by decide) ?_
        refine r_heap ?_ (ih (by omega) _)
        rw [vu_vu, ix_m1 (by omega)]
        rw [fm_rub (N := N) (p := upQ (T.2.2.1 i) k) (p' := upQ (T.2.2.1 i) (k + 1)) (by rw [Nat.mul_comm 2 k]; exact upQ_a k) (by rw [Nat.mul_comm 2 k]; exact upQ_b c_30 k) (fun j hj => upQ_c k j (by omega)) (hN9 _)]
  refine r_heap ?_ (hloop 0 (Nat.zero_le _) _)
  rw [(rub_none (f := N.1) (h := N.2.1) (upQ_0 (T.2.2.1 i))).1, (rub_none (f := N.1) (h := N.2.1) (upQ_0 (T.2.2.1 i))).2]

set_option maxHeartbeats 4000000 in
set_option maxRecDepth 100000 in
/-- BanisterWordModel.up  -/
theorem c_X11_up (l : Launch) (E : xE) (g : hG) (n : Nat) (M : Nat) (u : Nat → Nat) (B : Nat → Nat → Nat) (T : hsT) (N : Mo) (Q : Nat → Mo) (x y : Int32) (hT : B 2 = tfl T) (hS : B 4 = flat N) (hQ : B 5 = pfl Q) (h8 : u 1 ≤ 8) (h0 : T.1 ≤ 12) (h1 : T.2.1 ≤ 6) (hP : ∀ i, i < T.2.1 → T.2.2.1 i < 4 ∧ T.2.2.2.1 i ≤ 9) (hN : ∀ j, N.1 j ≤ 7) (hN9 : ∀ j, N.2.1 j ≤ 99) : Ct l yX11_up cX11_up 3 (some .int) 3 70 0 0 E [.ref M, .int x, .int y] (mG E g M u B) n (zr (some (.int (upR T.1 T.2.1 T.2.2.1 N x y))) (if inR x T.2.1 = true ∧ inR y T.1 = true then mG E g M (va_up u 1 (min 8 (u 1 + 1))) (va_up (va_up B 5 (pfl (kpQ (u 1) Q N))) 4 (flat (upN N (T.2.2.1 (ix x)) (ix x) (ix y)))) else mG E g M u B) (n)) := by
  refine Ct.of (by decide +kernel) (Nat.le_of_ble_eq_true rfl) (fun v hv => by simp only [List.mem_cons, List.not_mem_nil, or_false] at hv; (try rcases hv with rfl | rfl | rfl) <;> first | rfl | (subst hv; rfl) | exact hv.elim) ?_
  intro K hKl S
  subst hKl
  have X := S.1
  refine r_aload_n X dX11_up_0 rfl ?_
  refine r_iload_n X dX11_up_1 rfl ?_
  refine r_callV (ci := 10) X rfl (c_X11_isPerson _ E g n M u B x (by rw [(show B 2 1 = T.2.1 by rw [hT]; rfl)]; omega)) tw_776 tw_778 tp_28 tw_7 tw_779 rfl rfl (by first | exact m0 | exact m1 | exact m2 | exact m3 | exact m4 | exact m5 | exact m6 | exact m7 | exact m8 | exact m9 | assumption) rfl ⟨ok_X11_isPerson, ⟨Nat.le_of_ble_eq_true rfl, Nat.le_of_ble_eq_true rfl⟩, ⟨Nat.le_of_ble_eq_true rfl, Nat.le_of_ble_eq_true rfl⟩, Nat.le_of_ble_eq_true rfl⟩ dX11_up_2 (kk_r (Wf := Wg K E _ _ _ _) ?_)
  refine r_top _ _ (congrArg (fun q => bI (inR x q)) (show B 2 1 = T.2.1 by rw [hT]; rfl)) ?_
  refine r_if_eqB X 16 dX11_up_5 (by decide) (fun c_5 => ?_) (fun c_5 => ?_)
  · skip
    refine r_bipush (v := (-2)) X dX11_up_16 (by decide) ?_
    refine r_iret S dX11_up_18 ?_
    exact ⟨by unfold upR; rw [if_neg (by simp [*])], by rw [if_neg (by simp [*])], rfl⟩
  · skip
    refine r_aload_n X dX11_up_8 rfl ?_
    refine r_iload_n X dX11_up_9 rfl ?_
    refine r_callV (ci := 10) X rfl (c_X11_isStep _ E g n M u B y (by rw [(show B 2 0 = T.1 by rw [hT]; rfl)]; omega)) tw_784 tw_786 tp_29 tw_7 tw_787 rfl rfl (by first | exact m0 | exact m1 | exact m2 | exact m3 | exact m4 | exact m5 | exact m6 | exact m7 | exact m8 | exact m9 | assumption) rfl ⟨ok_X11_isStep, ⟨Nat.le_of_ble_eq_true rfl, Nat.le_of_ble_eq_true rfl⟩, ⟨Nat.le_of_ble_eq_true rfl, Nat.le_of_ble_eq_true rfl⟩, Nat.le_of_ble_eq_true rfl⟩ dX11_up_10 (kk_r (Wf := Wg K E _ _ _ _) ?_)
    refine r_top _ _ (congrArg (fun q => bI (inR y q)) (show B 2 0 = T.1 by rw [hT]; rfl)) ?_
    refine r_if_neB X 19 dX11_up_13 (by decide) (fun c_13 => ?_) (fun c_13 => ?_)
    · skip
      obtain ⟨i, hi, rfl⟩ := inR_ex (by omega) c_5
      have hix : ix (nI i) = i := ix_nI (by omega)
      obtain ⟨s, hs, rfl⟩ := inR_ex (by omega) c_13
      have hsx : ix (nI s) = s := ix_nI (by omega)
      refine r_aload_n X dX11_up_19 rfl ?_
      refine r_callV (ci := 10) X rfl (c_X11_keeps _ E g n M u B N Q h8 hS hQ) tw_803 tw_805 tp_31 tw_7 tw_806 rfl rfl (by first | exact m0 | exact m1 | exact m2 | exact m3 | exact m4 | exact m5 | exact m6 | exact m7 | exact m8 | exact m9 | assumption) rfl ⟨ok_X11_keeps, ⟨Nat.le_of_ble_eq_true rfl, Nat.le_of_ble_eq_true rfl⟩, ⟨Nat.le_of_ble_eq_true rfl, Nat.le_of_ble_eq_true rfl⟩, Nat.le_of_ble_eq_true rfl⟩ dX11_up_20 (kk_v (Wf := Wg K E _ _ _ _) ?_)
      refine r_aload_n X dX11_up_23 rfl ?_
      refine r_iload_n X dX11_up_24 rfl ?_
      refine r_iload_n X dX11_up_25 rfl ?_
      refine r_callV (ci := 10) X rfl (c_X11_goes _ E g n M (va_up u 1 (min 8 (u 1 + 1))) (va_up B 5 (pfl (kpQ (u 1) Q N))) T N i s (show (va_up B 5 (pfl (kpQ (u 1) Q N))) 2 = tfl T from hT) (show (va_up B 5 (pfl (kpQ (u 1) Q N))) 4 = flat N from hS) h0 h1 hP hN hN9 hi (by omega)) tw_823 tw_825 tp_35 tw_7 tw_826 rfl rfl (by first | exact m0 | exact m1 | exact m2 | exact m3 | exact m4 | exact m5 | exact m6 | exact m7 | exact m8 | exact m9 | assumption) rfl ⟨ok_X11_goes, ⟨Nat.le_of_ble_eq_true rfl, Nat.le_of_ble_eq_true rfl⟩, ⟨Nat.le_of_ble_eq_true rfl, Nat.le_of_ble_eq_true rfl⟩, Nat.le_of_ble_eq_true rfl⟩ dX11_up_26 (kk_v (Wf := Wg K E _ _ _ _) ?_)
      refine r_aload_n X dX11_up_29 rfl ?_
      refine r_get (ci := 10) X 4 _ ti_RX11 rfl (by decide) tw_662 (fun _ h => h) dX11_up_30 (by first | exact m0 | exact m1 | exact m2 | exact m3 | exact m4 | exact m5 | exact m6 | exact m7 | exact m8 | exact m9 | assumption) rfl ?_
      refine r_bipush (v := nI 48) X dX11_up_33 (by decide) ?_
      refine r_iload_n X dX11_up_35 rfl ?_
      first | refine r_iaddN X dX11_up_36 ?_ | refine r_iadd X _ dX11_up_36 rfl ?_
      refine r_nald X _ dX11_up_37 (show _ = some (nc E 55 (flat (upN N (T.2.2.1 i) i s))) from m4) (rfl) (by omega) (by decide) ?_
      refine r_top _ _ (congrArg nI (flat_k (show i < 6 by omega))) ?_
      refine r_iret S dX11_up_38 ?_
      refine ⟨?_, by rw [if_pos ⟨c_5, c_13⟩, hix, hsx], rfl⟩
      unfold upR; rw [if_pos ⟨c_5, c_13⟩, hix, hsx]
      exact congrArg (fun q => some (Value.int (nI q))) vu_eq
    · skip
      refine r_bipush (v := (-2)) X dX11_up_16 (by decide) ?_
      refine r_iret S dX11_up_18 ?_
      exact ⟨by unfold upR; rw [if_neg (by simp [*])], by rw [if_neg (by simp [*])], rfl⟩

set_option maxHeartbeats 4000000 in
set_option maxRecDepth 100000 in
/-- BanisterWordModel.down  -/
theorem c_X11_down (l : Launch) (E : xE) (g : hG) (n : Nat) (M : Nat) (u : Nat → Nat) (B : Nat → Nat → Nat) (T : hsT) (N : Mo) (Q : Nat → Mo) (x y z : Int32) (hT : B 2 = tfl T) (hS : B 4 = flat N) (hQ : B 5 = pfl Q) (h8 : u 1 ≤ 8) (h0 : T.1 ≤ 12) (h1 : T.2.1 ≤ 6) (hP : ∀ i, i < T.2.1 → T.2.2.1 i < 4 ∧ T.2.2.2.1 i ≤ 9) (hN : ∀ j, N.1 j ≤ 7) (hN9 : ∀ j, N.2.1 j ≤ 99) : Ct l yX11_down cX11_down 5 (some .int) 2 49 0 0 E [.ref M, .int x, .int y, .int z] (mG E g M u B) n (zr (some (.int (downR T.1 T.2.1 T.2.2.1 T.2.2.2.1 N x y z))) (if inR x T.2.1 = true ∧ inR y T.1 = true ∧ sayB z = true then mG E g M (va_up u 1 (min 8 (u 1 + 1))) (va_up (va_up B 5 (pfl (kpQ (u 1) Q N))) 4 (flat (dnN N (T.2.2.1 (ix x)) (T.2.2.2.1 (ix x)) (ix y) (ix z)))) else mG E g M u B) (n)) := by
  refine Ct.of (by decide +kernel) (Nat.le_of_ble_eq_true rfl) (fun v hv => by simp only [List.mem_cons, List.not_mem_nil, or_false] at hv; (try rcases hv with rfl | rfl | rfl | rfl) <;> first | rfl | (subst hv; rfl) | exact hv.elim) ?_
  intro K hKl S
  subst hKl
  have X := S.1
  refine r_aload_n X dX11_down_0 rfl ?_
  refine r_iload_n X dX11_down_1 rfl ?_
  refine r_callV (ci := 10) X rfl (c_X11_isPerson _ E g n M u B x (by rw [(show B 2 1 = T.2.1 by rw [hT]; rfl)]; omega)) tw_776 tw_778 tp_28 tw_7 tw_779 rfl rfl (by first | exact m0 | exact m1 | exact m2 | exact m3 | exact m4 | exact m5 | exact m6 | exact m7 | exact m8 | exact m9 | assumption) rfl ⟨ok_X11_isPerson, ⟨Nat.le_of_ble_eq_true rfl, Nat.le_of_ble_eq_true rfl⟩, ⟨Nat.le_of_ble_eq_true rfl, Nat.le_of_ble_eq_true rfl⟩, Nat.le_of_ble_eq_true rfl⟩ dX11_down_2 (kk_r (Wf := Wg K E _ _ _ _) ?_)
  refine r_top _ _ (congrArg (fun q => bI (inR x q)) (show B 2 1 = T.2.1 by rw [hT]; rfl)) ?_
  refine r_if_eqB X 23 dX11_down_5 (by decide) (fun c_5 => ?_) (fun c_5 => ?_)
  · skip
    refine r_bipush (v := (-2)) X dX11_down_23 (by decide) ?_
    refine r_iret S dX11_down_25 ?_
    exact ⟨by unfold downR; rw [if_neg (by simp [*])], by rw [if_neg (by simp [*])], rfl⟩
  · skip
    refine r_aload_n X dX11_down_8 rfl ?_
    refine r_iload_n X dX11_down_9 rfl ?_
    refine r_callV (ci := 10) X rfl (c_X11_isStep _ E g n M u B y (by rw [(show B 2 0 = T.1 by rw [hT]; rfl)]; omega)) tw_784 tw_786 tp_29 tw_7 tw_787 rfl rfl (by first | exact m0 | exact m1 | exact m2 | exact m3 | exact m4 | exact m5 | exact m6 | exact m7 | exact m8 | exact m9 | assumption) rfl ⟨ok_X11_isStep, ⟨Nat.le_of_ble_eq_true rfl, Nat.le_of_ble_eq_true rfl⟩, ⟨Nat.le_of_ble_eq_true rfl, Nat.le_of_ble_eq_true rfl⟩, Nat.le_of_ble_eq_true rfl⟩ dX11_down_10 (kk_r (Wf := Wg K E _ _ _ _) ?_)
    refine r_top _ _ (congrArg (fun q => bI (inR y q)) (show B 2 0 = T.1 by rw [hT]; rfl)) ?_
    refine r_if_eqB X 23 dX11_down_13 (by decide) (fun c_13 => ?_) (fun c_13 => ?_)
    · skip
      refine r_bipush (v := (-2)) X dX11_down_23 (by decide) ?_
      refine r_iret S dX11_down_25 ?_
      exact ⟨by unfold downR; rw [if_neg (by simp [*])], by rw [if_neg (by simp [*])], rfl⟩
    · skip
      refine r_iload_n X dX11_down_16 rfl ?_
      refine r_callS X rfl (c_X11_isSaying _ E _ n z) tw_800 tw_801 tw_7 tw_802 rfl ⟨ok_X11_isSaying, ⟨Nat.le_of_ble_eq_true rfl, Nat.le_of_ble_eq_true rfl⟩, ⟨Nat.le_of_ble_eq_true rfl, Nat.le_of_ble_eq_true rfl⟩, Nat.le_of_ble_eq_true rfl⟩ dX11_down_17 (kk_r (Wf := Wg K E _ _ _ _) ?_)
      refine r_if_neB X 26 dX11_down_20 (by decide) (fun c_20 => ?_) (fun c_20 => ?_)
      · skip
        obtain ⟨i, hi, rfl⟩ := inR_ex (by omega) c_5
        have hix : ix (nI i) = i := ix_nI (by omega)
        obtain ⟨s, hs, rfl⟩ := inR_ex (by omega) c_13
        have hsx : ix (nI s) = s := ix_nI (by omega)
        obtain ⟨t, ht0, ht, rfl⟩ := sayB_ex c_20
        have htx : ix (nI t) = t := ix_nI (by omega)
        have hhd := handN_le (T.2.2.1 i)
        have h7 : (dnN N (T.2.2.1 i) (T.2.2.2.1 i) s t).1 (2 * s + handN (T.2.2.1 i)) ≤ 7 := takeF_le hN ht _
        refine r_aload_n X dX11_down_26 rfl ?_
        refine r_callV (ci := 10) X rfl (c_X11_keeps _ E g n M u B N Q h8 hS hQ) tw_803 tw_805 tp_31 tw_7 tw_806 rfl rfl (by first | exact m0 | exact m1 | exact m2 | exact m3 | exact m4 | exact m5 | exact m6 | exact m7 | exact m8 | exact m9 | assumption) rfl ⟨ok_X11_keeps, ⟨Nat.le_of_ble_eq_true rfl, Nat.le_of_ble_eq_true rfl⟩, ⟨Nat.le_of_ble_eq_true rfl, Nat.le_of_ble_eq_true rfl⟩, Nat.le_of_ble_eq_true rfl⟩ dX11_down_27 (kk_v (Wf := Wg K E _ _ _ _) ?_)
        refine r_aload_n X dX11_down_30 rfl ?_
        refine r_iload_n X dX11_down_31 rfl ?_
        refine r_iload_n X dX11_down_32 rfl ?_
        refine r_iload_n X dX11_down_33 rfl ?_
        refine r_callV (ci := 10) X rfl (c_X11_says _ E g n M (va_up u 1 (min 8 (u 1 + 1))) (va_up B 5 (pfl (kpQ (u 1) Q N))) T N i s t (show (va_up B 5 (pfl (kpQ (u 1) Q N))) 2 = tfl T from hT) (show (va_up B 5 (pfl (kpQ (u 1) Q N))) 4 = flat N from hS) h0 h1 hP hN hN9 hi (by omega) ht) tw_807 tw_809 tp_32 tw_7 tw_810 rfl rfl (by first | exact m0 | exact m1 | exact m2 | exact m3 | exact m4 | exact m5 | exact m6 | exact m7 | exact m8 | exact m9 | assumption) rfl ⟨ok_X11_says, ⟨Nat.le_of_ble_eq_true rfl, Nat.le_of_ble_eq_true rfl⟩, ⟨Nat.le_of_ble_eq_true rfl, Nat.le_of_ble_eq_true rfl⟩, Nat.le_of_ble_eq_true rfl⟩ dX11_down_34 (kk_v (Wf := Wg K E _ _ _ _) ?_)
        refine r_aload_n X dX11_down_37 rfl ?_
        refine r_get (ci := 10) X 4 _ ti_RX11 rfl (by decide) tw_662 (fun _ h => h) dX11_down_38 (by first | exact m0 | exact m1 | exact m2 | exact m3 | exact m4 | exact m5 | exact m6 | exact m7 | exact m8 | exact m9 | assumption) rfl ?_
        refine r_iconst (v := nI 2) X dX11_down_41 (by decide) ?_
        refine r_iload_n X dX11_down_42 rfl ?_
        first | refine r_imulN X dX11_down_43 ?_ | refine r_imul X _ dX11_down_43 rfl ?_
        refine r_aload_n X dX11_down_44 rfl ?_
        refine r_iload_n X dX11_down_45 rfl ?_
        refine r_callV (ci := 10) X rfl (c_X11_handOf _ E g n M (va_up u 1 (min 8 (u 1 + 1))) _ T i (show va_up (va_up B 5 (pfl (kpQ (u 1) Q N))) 4 _ 2 = tfl T from hT) (by omega)) tw_811 tw_813 tp_33 tw_7 tw_814 rfl rfl (by first | exact m0 | exact m1 | exact m2 | exact m3 | exact m4 | exact m5 | exact m6 | exact m7 | exact m8 | exact m9 | assumption) rfl ⟨ok_X11_handOf, ⟨Nat.le_of_ble_eq_true rfl, Nat.le_of_ble_eq_true rfl⟩, ⟨Nat.le_of_ble_eq_true rfl, Nat.le_of_ble_eq_true rfl⟩, Nat.le_of_ble_eq_true rfl⟩ dX11_down_46 (kk_r (Wf := Wg K E _ _ _ _) ?_)
        first | refine r_iaddN X dX11_down_49 ?_ | refine r_iadd X _ dX11_down_49 rfl ?_
        refine r_nald X _ dX11_down_50 (show _ = some (nc E 55 (flat (dnN N (T.2.2.1 i) (T.2.2.2.1 i) s t))) from m4) (rfl) (by omega) (by decide) ?_
        refine r_top _ _ (congrArg nI (flat_f (by omega))) ?_
        refine r_istore X dX11_down_51 (Nat.le_of_ble_eq_true rfl) ?_
        try dsimp only [List.set]
        refine r_iload X dX11_down_53 rfl ?_
        refine r_if_neN X 62 dX11_down_55 (by decide) (by omega) (fun c_55 => ?_) (fun c_55 => ?_)
        · skip
          refine r_iload X dX11_down_62 rfl ?_
          refine r_iret S dX11_down_64 ?_
          refine ⟨?_, by rw [if_pos ⟨c_5, c_13, c_20⟩, hix, hsx, htx], rfl⟩
          unfold downR noneI; rw [if_pos ⟨c_5, c_13, c_20⟩, hix, hsx, htx]
          rw [show s * 2 + handN (T.2.2.1 i) = 2 * s + handN (T.2.2.1 i) by omega]
          have e9 : (dnN N (T.2.2.1 i) (T.2.2.2.1 i) s t).1 (2 * s + handN (T.2.2.1 i)) = takeF N.1 N.2.1 (2 * s + handN (T.2.2.1 i)) (firmN (T.2.2.1 i) (T.2.2.2.1 i)) t (2 * s + handN (T.2.2.1 i)) := by unfold dnN; rw [Nat.mul_comm s 2]
          rw [e9] at c_55
          first | (rw [if_pos c_55]; done) | (rw [if_neg (by omega), ← e9])
        · skip
          refine r_iconst (v := (-1)) X dX11_down_58 (by decide) ?_
          refine r_goto X 64 dX11_down_59 (by decide) ?_
          refine r_iret S dX11_down_64 ?_
          refine ⟨?_, by rw [if_pos ⟨c_5, c_13, c_20⟩, hix, hsx, htx], rfl⟩
          unfold downR noneI; rw [if_pos ⟨c_5, c_13, c_20⟩, hix, hsx, htx]
          rw [show s * 2 + handN (T.2.2.1 i) = 2 * s + handN (T.2.2.1 i) by omega]
          have e9 : (dnN N (T.2.2.1 i) (T.2.2.2.1 i) s t).1 (2 * s + handN (T.2.2.1 i)) = takeF N.1 N.2.1 (2 * s + handN (T.2.2.1 i)) (firmN (T.2.2.1 i) (T.2.2.2.1 i)) t (2 * s + handN (T.2.2.1 i)) := by unfold dnN; rw [Nat.mul_comm s 2]
          rw [e9] at c_55
          first | (rw [if_pos c_55]; done) | (rw [if_neg (by omega), ← e9])
      · skip
        refine r_bipush (v := (-2)) X dX11_down_23 (by decide) ?_
        refine r_iret S dX11_down_25 ?_
        exact ⟨by unfold downR; rw [if_neg (by simp [*])], by rw [if_neg (by simp [*])], rfl⟩

set_option maxHeartbeats 4000000 in
set_option maxRecDepth 100000 in
/-- BanisterWordModel.polish  -/
theorem c_X11_polish (l : Launch) (E : xE) (g : hG) (n : Nat) (M : Nat) (u : Nat → Nat) (B : Nat → Nat → Nat) (T : hsT) (N : Mo) (Q : Nat → Mo) (x : Int32) (hT : B 2 = tfl T) (hS : B 4 = flat N) (hQ : B 5 = pfl Q) (h8 : u 1 ≤ 8) (h0 : T.1 ≤ 12) (h1 : T.2.1 ≤ 6) (hN : ∀ j, N.1 j ≤ 7) (hN9 : ∀ j, N.2.1 j ≤ 99) : Ct l yX11_polish cX11_polish 4 (some .int) 2 43 0 0 E [.ref M, .int x] (mG E g M u B) n (zr (some (.int (polishR T.1 N x))) (if inR x T.1 = true then mG E g M (va_up u 1 (min 8 (u 1 + 1))) (va_up (va_up B 5 (pfl (kpQ (u 1) Q N))) 4 (flat (plN N (ix x)))) else mG E g M u B) (n)) := by
  refine Ct.of (by decide +kernel) (Nat.le_of_ble_eq_true rfl) (fun v hv => by simp only [List.mem_cons, List.not_mem_nil, or_false] at hv; (try rcases hv with rfl | rfl) <;> first | rfl | (subst hv; rfl) | exact hv.elim) ?_
  intro K hKl S
  subst hKl
  have X := S.1
  refine r_aload_n X dX11_polish_0 rfl ?_
  refine r_iload_n X dX11_polish_1 rfl ?_
  refine r_callV (ci := 10) X rfl (c_X11_isStep _ E g n M u B x (by rw [(show B 2 0 = T.1 by rw [hT]; rfl)]; omega)) tw_784 tw_786 tp_29 tw_7 tw_787 rfl rfl (by first | exact m0 | exact m1 | exact m2 | exact m3 | exact m4 | exact m5 | exact m6 | exact m7 | exact m8 | exact m9 | assumption) rfl ⟨ok_X11_isStep, ⟨Nat.le_of_ble_eq_true rfl, Nat.le_of_ble_eq_true rfl⟩, ⟨Nat.le_of_ble_eq_true rfl, Nat.le_of_ble_eq_true rfl⟩, Nat.le_of_ble_eq_true rfl⟩ dX11_polish_2 (kk_r (Wf := Wg K E _ _ _ _) ?_)
  refine r_top _ _ (congrArg (fun q => bI (inR x q)) (show B 2 0 = T.1 by rw [hT]; rfl)) ?_
  refine r_if_neB X 11 dX11_polish_5 (by decide) (fun c_5 => ?_) (fun c_5 => ?_)
  · skip
    obtain ⟨s, hs, rfl⟩ := inR_ex (by omega) c_5
    have hsx : ix (nI s) = s := ix_nI (by omega)
    refine r_aload_n X dX11_polish_11 rfl ?_
    refine r_callV (ci := 10) X rfl (c_X11_keeps _ E g n M u B N Q h8 hS hQ) tw_803 tw_805 tp_31 tw_7 tw_806 rfl rfl (by first | exact m0 | exact m1 | exact m2 | exact m3 | exact m4 | exact m5 | exact m6 | exact m7 | exact m8 | exact m9 | assumption) rfl ⟨ok_X11_keeps, ⟨Nat.le_of_ble_eq_true rfl, Nat.le_of_ble_eq_true rfl⟩, ⟨Nat.le_of_ble_eq_true rfl, Nat.le_of_ble_eq_true rfl⟩, Nat.le_of_ble_eq_true rfl⟩ dX11_polish_12 (kk_v (Wf := Wg K E _ _ _ _) ?_)
    refine r_iconst (v := nI 0) X dX11_polish_15 (by decide) ?_
    refine r_top _ (nI (plC N.1 s 0)) rfl ?_
    refine r_istore_n X dX11_polish_16 (Nat.le_of_ble_eq_true rfl) ?_
    try dsimp only [List.set]
    refine r_iconst (v := nI 2) X dX11_polish_17 (by decide) ?_
    refine r_iload_n X dX11_polish_18 rfl ?_
    first | refine r_imulN X dX11_polish_19 ?_ | refine r_imul X _ dX11_polish_19 rfl ?_
    refine r_istore_n X dX11_polish_20 (Nat.le_of_ble_eq_true rfl) ?_
    try dsimp only [List.set]
    have hloop : ∀ (k : Nat), k ≤ 2 → Wg K E (0) (0) 21 [some (.ref M), some (.int (nI s)), some (.int (nI (plC N.1 s k))), some (.int (nI (2 * s + k)))] [] (mG E g M (va_up u 1 (min 8 (u 1 + 1))) (va_up (va_up B 5 (pfl (kpQ (u 1) Q N))) 4 (flat (plF s k N.1, plF s k N.2.1, N.2.2.1, N.2.2.2)))) (n) := by
      refine ind_up _ (2) (fun k hk ih => ?_)
      have h7 := hN (2 * s + k)
      refine r_iload_n X dX11_polish_21 rfl ?_
      refine r_iconst (v := nI 2) X dX11_polish_22 (by decide) ?_
      refine r_iload_n X dX11_polish_23 rfl ?_
      first | refine r_imulN X dX11_polish_24 ?_ | refine r_imul X _ dX11_polish_24 rfl ?_
      refine r_iconst (v := nI 2) X dX11_polish_25 (by decide) ?_
      first | refine r_iaddN X dX11_polish_26 ?_ | refine r_iadd X _ dX11_polish_26 rfl ?_
      refine r_icmp_geN X 60 dX11_polish_27 (by decide) (by omega) (by omega) (fun c_27 => ?_) (fun c_27 => ?_)
      · skip
        refine r_iload_n X dX11_polish_60 rfl ?_
        refine r_iret S dX11_polish_61 ?_
        obtain rfl : k = 2 := (by omega)
        exact ⟨by unfold polishR; rw [if_pos c_5, hsx], by rw [if_pos c_5, hsx]; rfl, rfl⟩
      · skip
        refine r_iload_n X dX11_polish_30 rfl ?_
        refine r_aload_n X dX11_polish_31 rfl ?_
        refine r_get (ci := 10) X 4 _ ti_RX11 rfl (by decide) tw_662 (fun _ h => h) dX11_polish_32 (by first | exact m0 | exact m1 | exact m2 | exact m3 | exact m4 | exact m5 | exact m6 | exact m7 | exact m8 | exact m9 | assumption) rfl ?_
        refine r_iload_n X dX11_polish_35 rfl ?_
        refine r_nald X _ dX11_polish_36 (show _ = some (nc E 55 (flat (plF s k N.1, plF s k N.2.1, N.2.2.1, N.2.2.2))) from m4) (rfl) (by omega) (by decide) ?_
        refine r_top _ _ (congrArg nI ((flat_f (by omega)).trans (show plF s k N.1 (2 * s + k) = N.1 (2 * s + k) from if_neg (by omega)))) ?_
        refine r_if_leN X 44 dX11_polish_37 (by decide) (by omega) (fun c_37 => ?_) (fun c_37 => ?_)
        · skip
          refine r_iconst (v := nI 0) X dX11_polish_44 (by decide) ?_
          first | refine r_iaddN X dX11_polish_45 ?_ | refine r_iadd X _ dX11_polish_45 rfl ?_
          refine r_top _ (nI (plC N.1 s (k + 1))) (by show _ = nI (plC N.1 s k + (if N.1 (s * 2 + k) = 0 then 0 else 1)); rw [Nat.mul_comm s 2]; first | (rw [if_pos c_37]; done) | rw [if_neg (by omega)]) ?_
          refine r_istore_n X dX11_polish_46 (Nat.le_of_ble_eq_true rfl) ?_
          try dsimp only [List.set]
          refine r_aload_n X dX11_polish_47 rfl ?_
          refine r_iload_n X dX11_polish_48 rfl ?_
          refine r_iconst (v := nI 0) X dX11_polish_49 (by decide) ?_
          refine r_iconst (v := nI 0) X dX11_polish_50 (by decide) ?_
          refine r_callV (ci := 10) X rfl (c_X11_firms _ E g n M (va_up u 1 (min 8 (u 1 + 1))) (va_up (va_up B 5 (pfl (kpQ (u 1) Q N))) 4 (flat (plF s k N.1, plF s k N.2.1, N.2.2.1, N.2.2.2))) (plF s k N.1, plF s k N.2.1, N.2.2.1, N.2.2.2) (2 * s + k) 0 (nI 0) rfl (by omega) (by decide)) tw_815 tw_817 tp_34 tw_7 tw_818 rfl rfl (by first | exact m0 | exact m1 | exact m2 | exact m3 | exact m4 | exact m5 | exact m6 | exact m7 | exact m8 | exact m9 | assumption) rfl ⟨ok_X11_firms, ⟨Nat.le_of_ble_eq_true rfl, Nat.le_of_ble_eq_true rfl⟩, ⟨Nat.le_of_ble_eq_true rfl, Nat.le_of_ble_eq_true rfl⟩, Nat.le_of_ble_eq_true rfl⟩ dX11_polish_51 (kk_v (Wf := Wg K E _ _ _ _) ?_)
          first | refine r_iincN X dX11_polish_54 rfl ?_ | refine r_iinc X _ dX11_polish_54 rfl rfl ?_
          try dsimp only [List.set]
          refine r_goto X 21 dX11_polish_57 (by decide) ?_
          refine r_heap ?_ (ih (by omega))
          rw [vu_vu, ix_0]
          congr 2
          unfold fmN
          dsimp only
          rw [if_pos rfl, Nat.min_eq_right (by decide), plF_up, plF_up]
        · skip
          refine r_iconst (v := nI 1) X dX11_polish_40 (by decide) ?_
          refine r_goto X 45 dX11_polish_41 (by decide) ?_
          first | refine r_iaddN X dX11_polish_45 ?_ | refine r_iadd X _ dX11_polish_45 rfl ?_
          refine r_top _ (nI (plC N.1 s (k + 1))) (by show _ = nI (plC N.1 s k + (if N.1 (s * 2 + k) = 0 then 0 else 1)); rw [Nat.mul_comm s 2]; first | (rw [if_pos c_37]; done) | rw [if_neg (by omega)]) ?_
          refine r_istore_n X dX11_polish_46 (Nat.le_of_ble_eq_true rfl) ?_
          try dsimp only [List.set]
          refine r_aload_n X dX11_polish_47 rfl ?_
          refine r_iload_n X dX11_polish_48 rfl ?_
          refine r_iconst (v := nI 0) X dX11_polish_49 (by decide) ?_
          refine r_iconst (v := nI 0) X dX11_polish_50 (by decide) ?_
          refine r_callV (ci := 10) X rfl (c_X11_firms _ E g n M (va_up u 1 (min 8 (u 1 + 1))) (va_up (va_up B 5 (pfl (kpQ (u 1) Q N))) 4 (flat (plF s k N.1, plF s k N.2.1, N.2.2.1, N.2.2.2))) (plF s k N.1, plF s k N.2.1, N.2.2.1, N.2.2.2) (2 * s + k) 0 (nI 0) rfl (by omega) (by decide)) tw_815 tw_817 tp_34 tw_7 tw_818 rfl rfl (by first | exact m0 | exact m1 | exact m2 | exact m3 | exact m4 | exact m5 | exact m6 | exact m7 | exact m8 | exact m9 | assumption) rfl ⟨ok_X11_firms, ⟨Nat.le_of_ble_eq_true rfl, Nat.le_of_ble_eq_true rfl⟩, ⟨Nat.le_of_ble_eq_true rfl, Nat.le_of_ble_eq_true rfl⟩, Nat.le_of_ble_eq_true rfl⟩ dX11_polish_51 (kk_v (Wf := Wg K E _ _ _ _) ?_)
          first | refine r_iincN X dX11_polish_54 rfl ?_ | refine r_iinc X _ dX11_polish_54 rfl rfl ?_
          try dsimp only [List.set]
          refine r_goto X 21 dX11_polish_57 (by decide) ?_
          refine r_heap ?_ (ih (by omega))
          rw [vu_vu, ix_0]
          congr 2
          unfold fmN
          dsimp only
          rw [if_pos rfl, Nat.min_eq_right (by decide), plF_up, plF_up]
    refine r_heap ?_ (hloop 0 (by decide))
    refine congrArg (mG E g M _) (vu_self ?_).symm
    show B 4 = _
    rw [hS]
    have e : ∀ f : Nat → Nat, plF s 0 f = f := fun f => by funext j; unfold plF; rw [if_neg (by omega)]
    rw [e, e]
  · skip
    refine r_bipush (v := (-2)) X dX11_polish_8 (by decide) ?_
    refine r_iret S dX11_polish_10 ?_
    exact ⟨by simp [polishR, c_5], by rw [if_neg (by simp [c_5])], rfl⟩

set_option maxHeartbeats 4000000 in
set_option maxRecDepth 100000 in
/-- BanisterWordModel.cools  -/
theorem c_X11_cools (l : Launch) (E : xE) (g : hG) (n : Nat) (M : Nat) (u : Nat → Nat) (B : Nat → Nat → Nat) (N : Mo) (hS : B 4 = flat N) (hN9 : ∀ j, N.2.1 j ≤ 99) : Ct l yX11_cools cX11_cools 2 none 1 23 0 0 E [.ref M] (mG E g M u B) n (zr (none) (mG E g M u (va_up B 4 (flat (rubF (ltP 24) N.1 N.2.1, rubH (ltP 24) N.2.1, N.2.2.1, N.2.2.2)))) (n)) := by
  refine Ct.of (by decide +kernel) (Nat.le_of_ble_eq_true rfl) (fun v hv => by simp only [List.mem_cons, List.not_mem_nil, or_false] at hv; (try rcases hv with rfl) <;> first | rfl | (subst hv; rfl) | exact hv.elim) ?_
  intro K hKl S
  subst hKl
  have X := S.1
  refine r_iconst (v := nI 0) X dX11_cools_0 (by decide) ?_
  refine r_istore_n X dX11_cools_1 (Nat.le_of_ble_eq_true rfl) ?_
  try dsimp only [List.set]
  have hloop : ∀ (k : Nat), k ≤ 24 → Wg K E (0) (0) 2 [some (.ref M), some (.int (nI k))] [] (mG E g M u (va_up B 4 (flat (rubF (ltP k) N.1 N.2.1, rubH (ltP k) N.2.1, N.2.2.1, N.2.2.2)))) (n) := by
    refine ind_up _ (24) (fun k hk ih => ?_)
    have h99 : rubH (ltP k) N.2.1 k ≤ 99 := by have := hN9 k; unfold rubH; split <;> omega
    refine r_iload_n X dX11_cools_2 rfl ?_
    refine r_bipush (v := nI 24) X dX11_cools_3 (by decide) ?_
    refine r_icmp_geN X 36 dX11_cools_5 (by decide) (by omega) (by omega) (fun c_5 => ?_) (fun c_5 => ?_)
    · skip
      refine r_vret S dX11_cools_36 ?_
      obtain rfl : k = 24 := (by omega)
      exact ⟨rfl, rfl, rfl⟩
    · skip
      refine r_aload_n X dX11_cools_8 rfl ?_
      refine r_iload_n X dX11_cools_9 rfl ?_
      refine r_aload_n X dX11_cools_10 rfl ?_
      refine r_get (ci := 10) X 4 _ ti_RX11 rfl (by decide) tw_662 (fun _ h => h) dX11_cools_11 (by first | exact m0 | exact m1 | exact m2 | exact m3 | exact m4 | exact m5 | exact m6 | exact m7 | exact m8 | exact m9 | assumption) rfl ?_
      refine r_iload_n X dX11_cools_14 rfl ?_
      refine r_nald X _ dX11_cools_15 (show _ = some (nc E 55 (flat (rubF (ltP k) N.1 N.2.1, rubH (ltP k) N.2.1, N.2.2.1, N.2.2.2))) from m4) (rfl) (by omega) (by decide) ?_
      refine r_top _ (nI (rubF (ltP k) N.1 N.2.1 k)) (congrArg nI (flat_f (by omega))) ?_
      refine r_aload_n X dX11_cools_16 rfl ?_
      refine r_get (ci := 10) X 4 _ ti_RX11 rfl (by decide) tw_662 (fun _ h => h) dX11_cools_17 (by first | exact m0 | exact m1 | exact m2 | exact m3 | exact m4 | exact m5 | exact m6 | exact m7 | exact m8 | exact m9 | assumption) rfl ?_
      refine r_bipush (v := nI 24) X dX11_cools_20 (by decide) ?_
      refine r_iload_n X dX11_cools_22 rfl ?_
      first | refine r_iaddN X dX11_cools_23 ?_ | refine r_iadd X _ dX11_cools_23 rfl ?_
      refine r_nald X _ dX11_cools_24 (show _ = some (nc E 55 (flat (rubF (ltP k) N.1 N.2.1, rubH (ltP k) N.2.1, N.2.2.1, N.2.2.2))) from m4) (rfl) (by omega) (by decide) ?_
      refine r_top _ (nI (rubH (ltP k) N.2.1 k)) (congrArg nI (flat_h (by omega))) ?_
      refine r_iconst (v := nI 1) X dX11_cools_25 (by decide) ?_
      refine r_isub X _ dX11_cools_26 rfl ?_
      refine r_callV (ci := 10) X rfl (c_X11_firms _ E g n M u (va_up B 4 (flat (rubF (ltP k) N.1 N.2.1, rubH (ltP k) N.2.1, N.2.2.1, N.2.2.2))) (rubF (ltP k) N.1 N.2.1, rubH (ltP k) N.2.1, N.2.2.1, N.2.2.2) k _ _ rfl (by omega) (by rw [ix_m1 (by omega)]; omega)) tw_815 tw_817 tp_34 tw_7 tw_818 rfl rfl (by first | exact m0 | exact m1 | exact m2 | exact m3 | exact m4 | exact m5 | exact m6 | exact m7 | exact m8 | exact m9 | assumption) rfl ⟨ok_X11_firms, ⟨Nat.le_of_ble_eq_true rfl, Nat.le_of_ble_eq_true rfl⟩, ⟨Nat.le_of_ble_eq_true rfl, Nat.le_of_ble_eq_true rfl⟩, Nat.le_of_ble_eq_true rfl⟩ dX11_cools_27 (kk_v (Wf := Wg K E _ _ _ _) ?_)
      first | refine r_iincN X dX11_cools_30 rfl ?_ | refine r_iinc X _ dX11_cools_30 rfl rfl ?_
      try dsimp only [List.set]
      refine r_goto X 2 dX11_cools_33 (by decide) ?_
      refine r_heap ?_ (ih (by omega))
      rw [vu_vu, ix_m1 (by omega)]
      rw [fm_rub (N := N) (p := ltP k) (p' := ltP (k + 1)) (by simp [ltP]) (by simp [ltP]) (fun j hj => by simp only [ltP]; congr 1; apply propext; omega) (hN9 _)]
  refine r_heap ?_ (hloop 0 (by decide))
  refine congrArg (mG E g M _) (vu_self ?_).symm
  rw [hS, (rub_none (f := N.1) (h := N.2.1) (p := ltP 0) (fun j => by simp [ltP])).1, (rub_none (f := N.1) (h := N.2.1) (p := ltP 0) (fun j => by simp [ltP])).2]

set_option maxHeartbeats 4000000 in
set_option maxRecDepth 100000 in
/-- BanisterWordModel.night  -/
theorem c_X11_night (l : Launch) (E : xE) (g : hG) (n : Nat) (M : Nat) (u : Nat → Nat) (B : Nat → Nat → Nat) (N : Mo) (Q : Nat → Mo) (hS : B 4 = flat N) (hQ : B 5 = pfl Q) (h8 : u 1 ≤ 8) (hN9 : ∀ j, N.2.1 j ≤ 99) (hd : N.2.2.2 ≤ 999) : Ct l yX11_night cX11_night 1 (some .int) 2 44 0 0 E [.ref M] (mG E g M u B) n (zr (some (.int (if N.2.2.2 < 999 then nI (N.2.2.2 + 1) else -5))) (if N.2.2.2 < 999 then mG E g M (va_up u 1 (min 8 (u 1 + 1))) (va_up (va_up B 5 (pfl (kpQ (u 1) Q N))) 4 (flat (ngN N))) else mG E g M u B) (n)) := by
  refine Ct.of (by decide +kernel) (Nat.le_of_ble_eq_true rfl) (fun v hv => by simp only [List.mem_cons, List.not_mem_nil, or_false] at hv; (try rcases hv with rfl) <;> first | rfl | (subst hv; rfl) | exact hv.elim) ?_
  intro K hKl S
  subst hKl
  have X := S.1
  refine r_aload_n X dX11_night_0 rfl ?_
  refine r_get (ci := 10) X 4 _ ti_RX11 rfl (by decide) tw_662 (fun _ h => h) dX11_night_1 (by first | exact m0 | exact m1 | exact m2 | exact m3 | exact m4 | exact m5 | exact m6 | exact m7 | exact m8 | exact m9 | assumption) rfl ?_
  refine r_bipush (v := nI 54) X dX11_night_4 (by decide) ?_
  refine r_nald X _ dX11_night_6 (by first | exact m0 | exact m1 | exact m2 | exact m3 | exact m4 | exact m5 | exact m6 | exact m7 | exact m8 | exact m9 | assumption) (rfl) (by omega) (by decide) ?_
  refine r_top _ _ (congrArg nI (show B 4 54 = N.2.2.2 by rw [hS]; rfl)) ?_
  refine r_sipush (v := nI 999) X dX11_night_7 (by decide) ?_
  refine r_icmp_neN X 16 dX11_night_10 (by decide) (by omega) (by omega) (fun c_10 => ?_) (fun c_10 => ?_)
  · skip
    refine r_aload_n X dX11_night_16 rfl ?_
    refine r_callV (ci := 10) X rfl (c_X11_keeps _ E g n M u B N Q h8 hS hQ) tw_803 tw_805 tp_31 tw_7 tw_806 rfl rfl (by first | exact m0 | exact m1 | exact m2 | exact m3 | exact m4 | exact m5 | exact m6 | exact m7 | exact m8 | exact m9 | assumption) rfl ⟨ok_X11_keeps, ⟨Nat.le_of_ble_eq_true rfl, Nat.le_of_ble_eq_true rfl⟩, ⟨Nat.le_of_ble_eq_true rfl, Nat.le_of_ble_eq_true rfl⟩, Nat.le_of_ble_eq_true rfl⟩ dX11_night_17 (kk_v (Wf := Wg K E _ _ _ _) ?_)
    refine r_aload_n X dX11_night_20 rfl ?_
    refine r_callV (ci := 10) X rfl (c_X11_cools _ E g n M (va_up u 1 (min 8 (u 1 + 1))) (va_up B 5 (pfl (kpQ (u 1) Q N))) N (show (va_up B 5 (pfl (kpQ (u 1) Q N))) 4 = flat N from hS) hN9) tw_843 tw_845 tp_38 tw_7 tw_846 rfl rfl (by first | exact m0 | exact m1 | exact m2 | exact m3 | exact m4 | exact m5 | exact m6 | exact m7 | exact m8 | exact m9 | assumption) rfl ⟨ok_X11_cools, ⟨Nat.le_of_ble_eq_true rfl, Nat.le_of_ble_eq_true rfl⟩, ⟨Nat.le_of_ble_eq_true rfl, Nat.le_of_ble_eq_true rfl⟩, Nat.le_of_ble_eq_true rfl⟩ dX11_night_21 (kk_v (Wf := Wg K E _ _ _ _) ?_)
    refine r_aload_n X dX11_night_24 rfl ?_
    refine r_get (ci := 10) X 4 _ ti_RX11 rfl (by decide) tw_662 (fun _ h => h) dX11_night_25 (by first | exact m0 | exact m1 | exact m2 | exact m3 | exact m4 | exact m5 | exact m6 | exact m7 | exact m8 | exact m9 | assumption) rfl ?_
    refine r_bipush (v := nI 54) X dX11_night_28 (by decide) ?_
    refine r_dup2 X dX11_night_30 rfl rfl ?_
    refine r_nald X _ dX11_night_31 (show _ = some (nc E 55 (flat (rubF (ltP 24) N.1 N.2.1, rubH (ltP 24) N.2.1, N.2.2.1, N.2.2.2))) from m4) (rfl) (by omega) (by decide) ?_
    refine r_top _ (nI N.2.2.2) rfl ?_
    refine r_iconst (v := nI 1) X dX11_night_32 (by decide) ?_
    first | refine r_iaddN X dX11_night_33 ?_ | refine r_iadd X _ dX11_night_33 rfl ?_
    refine r_nast X _ dX11_night_34 (show _ = some (nc E 55 (flat (rubF (ltP 24) N.1 N.2.1, rubH (ltP 24) N.2.1, N.2.2.1, N.2.2.2))) from m4) (rfl) (by omega) (by decide) ?_
    refine r_heap um4 ?_
    rw [vu_vu]
    refine r_heap (mc4 (f2 := flat (ngN N)) (fun j hj => ?_)) ?_
    · unfold flat va_up ngN; dsimp only; (repeat' split) <;> first | rfl | omega
    refine r_aload_n X dX11_night_35 rfl ?_
    refine r_get (ci := 10) X 4 _ ti_RX11 rfl (by decide) tw_662 (fun _ h => h) dX11_night_36 (by first | exact m0 | exact m1 | exact m2 | exact m3 | exact m4 | exact m5 | exact m6 | exact m7 | exact m8 | exact m9 | assumption) rfl ?_
    refine r_bipush (v := nI 54) X dX11_night_39 (by decide) ?_
    refine r_nald X _ dX11_night_41 (show _ = some (nc E 55 (flat (ngN N))) from m4) (rfl) (by omega) (by decide) ?_
    refine r_top _ (nI (N.2.2.2 + 1)) rfl ?_
    refine r_iret S dX11_night_42 ?_
    exact ⟨by rw [if_pos (by omega)], by rw [if_pos (by omega)], rfl⟩
  · skip
    refine r_bipush (v := (-5)) X dX11_night_13 (by decide) ?_
    refine r_iret S dX11_night_15 ?_
    exact ⟨by rw [if_neg (by omega)], by rw [if_neg (by omega)], rfl⟩

