set_option maxHeartbeats 4000000 in
set_option maxRecDepth 100000 in
/-- BanisterWordModel.said  -/
theorem c_X11_said (l : Launch) (E : xE) (g : hG) (n : Nat) (M : Nat) (u : Nat → Nat) (B : Nat → Nat → Nat) (T : hsT) (N : Mo) (si st sy hd : Nat → Nat) (x y : Int32) (hT : B 2 = tfl T) (hS : B 4 = flat N) (h0 : T.1 ≤ 12) (h1 : T.2.1 ≤ 6) (hP : ∀ i, i < T.2.1 → T.2.2.1 i < 4 ∧ T.2.2.2.1 i ≤ 9) (hN : ∀ j, N.1 j ≤ 7) (hN9 : ∀ j, N.2.1 j ≤ 99) (h2 : u 2 ≤ 6) (hNo : ∀ k, k < u 2 → B 8 k = 1000 * si k + 20 * (10 * hd k + sy k) + st k ∧ si k < T.2.1 ∧ st k < 12 ∧ sy k ≤ 7 ∧ hd k ≤ 1) : Ct l yX11_said cX11_said 5 (some .int) 3 70 0 0 E [.ref M, .int x, .int y] (mG E g M u B) n (zr (some (.int (saidR T.1 T.2.1 (fun i s t => allS (fun k => T.2.2.1 (si k)) st sy hd (dnN N (T.2.2.1 i) (T.2.2.2.1 i) s t).1 (u 2)) x y))) (if inR x T.2.1 = true ∧ sayB y = true then mG E g M u (va_up B 9 (B 4)) else mG E g M u B) (n)) := by
  refine Ct.of (by decide +kernel) (Nat.le_of_ble_eq_true rfl) (fun v hv => by simp only [List.mem_cons, List.not_mem_nil, or_false] at hv; (try rcases hv with rfl | rfl | rfl) <;> first | rfl | (subst hv; rfl) | exact hv.elim) ?_
  intro K hKl S
  subst hKl
  have X := S.1
  refine r_aload_n X dX11_said_0 rfl ?_
  refine r_iload_n X dX11_said_1 rfl ?_
  refine r_callV (ci := 10) X rfl (c_X11_isPerson _ E g n M u B x (by rw [(show B 2 1 = T.2.1 by rw [hT]; rfl)]; omega)) tw_776 tw_778 tp_28 tw_7 tw_779 rfl rfl (by first | exact m0 | exact m1 | exact m2 | exact m3 | exact m4 | exact m5 | exact m6 | exact m7 | exact m8 | exact m9 | assumption) rfl ⟨ok_X11_isPerson, ⟨Nat.le_of_ble_eq_true rfl, Nat.le_of_ble_eq_true rfl⟩, ⟨Nat.le_of_ble_eq_true rfl, Nat.le_of_ble_eq_true rfl⟩, Nat.le_of_ble_eq_true rfl⟩ dX11_said_2 (kk_r (Wf := Wg K E _ _ _ _) ?_)
  refine r_top _ _ (congrArg (fun q => bI (inR x q)) (show B 2 1 = T.2.1 by rw [hT]; rfl)) ?_
  refine r_if_eqB X 15 dX11_said_5 (by decide) (fun c_5 => ?_) (fun c_5 => ?_)
  · skip
    refine r_bipush (v := (-2)) X dX11_said_15 (by decide) ?_
    refine r_iret S dX11_said_17 ?_
    exact ⟨by unfold saidR; rw [if_neg (by simp [*])], by rw [if_neg (by simp [*])], rfl⟩
  · skip
    refine r_iload_n X dX11_said_8 rfl ?_
    refine r_callS X rfl (c_X11_isSaying _ E _ n y) tw_800 tw_801 tw_7 tw_802 rfl ⟨ok_X11_isSaying, ⟨Nat.le_of_ble_eq_true rfl, Nat.le_of_ble_eq_true rfl⟩, ⟨Nat.le_of_ble_eq_true rfl, Nat.le_of_ble_eq_true rfl⟩, Nat.le_of_ble_eq_true rfl⟩ dX11_said_9 (kk_r (Wf := Wg K E _ _ _ _) ?_)
    refine r_if_neB X 18 dX11_said_12 (by decide) (fun c_12 => ?_) (fun c_12 => ?_)
    · skip
      obtain ⟨i, hi, rfl⟩ := inR_ex (by omega) c_5
      have hix : ix (nI i) = i := ix_nI (by omega)
      obtain ⟨t, ht0, ht, rfl⟩ := sayB_ex c_12
      have htx : ix (nI t) = t := ix_nI (by omega)
      refine r_aload_n X dX11_said_18 rfl ?_
      refine r_callV (ci := 10) X rfl (c_X11_holds _ E g n M u B) tw_871 tw_873 tp_39 tw_7 tw_874 rfl rfl (by first | exact m0 | exact m1 | exact m2 | exact m3 | exact m4 | exact m5 | exact m6 | exact m7 | exact m8 | exact m9 | assumption) rfl ⟨ok_X11_holds, ⟨Nat.le_of_ble_eq_true rfl, Nat.le_of_ble_eq_true rfl⟩, ⟨Nat.le_of_ble_eq_true rfl, Nat.le_of_ble_eq_true rfl⟩, Nat.le_of_ble_eq_true rfl⟩ dX11_said_19 (kk_v (Wf := Wg K E _ _ _ _) ?_)
      refine r_iconst (v := nI 0) X dX11_said_22 (by decide) ?_
      refine r_top _ (nI (saF (fun k => (fun i s t => allS (fun k => T.2.2.1 (si k)) st sy hd (dnN N (T.2.2.1 i) (T.2.2.2.1 i) s t).1 (u 2)) i k t) 0)) (rfl) ?_
      refine r_istore_n X dX11_said_23 (Nat.le_of_ble_eq_true rfl) ?_
      try dsimp only [List.set]
      refine r_iconst (v := nI 0) X dX11_said_24 (by decide) ?_
      refine r_istore X dX11_said_25 (Nat.le_of_ble_eq_true rfl) ?_
      try dsimp only [List.set]
      have hloop : ∀ (k : Nat), k ≤ T.1 → Wg K E (0) (0) 27 [some (.ref M), some (.int (nI i)), some (.int (nI t)), some (.int (nI (saF (fun k => (fun i s t => allS (fun k => T.2.2.1 (si k)) st sy hd (dnN N (T.2.2.1 i) (T.2.2.2.1 i) s t).1 (u 2)) i k t) k))), some (.int (nI k))] [] (mG E g M u (va_up B 9 (B 4))) (n) := by
        refine ind_up _ (T.1) (fun k hk ih => ?_)
        refine r_iload X dX11_said_27 rfl ?_
        refine r_aload_n X dX11_said_29 rfl ?_
        refine r_get (ci := 10) X 2 _ ti_RX11 rfl (by decide) tw_660 (fun _ h => h) dX11_said_30 (by first | exact m0 | exact m1 | exact m2 | exact m3 | exact m4 | exact m5 | exact m6 | exact m7 | exact m8 | exact m9 | assumption) rfl ?_
        refine r_iconst (v := nI 0) X dX11_said_33 (by decide) ?_
        refine r_nald X _ dX11_said_34 (by first | exact m0 | exact m1 | exact m2 | exact m3 | exact m4 | exact m5 | exact m6 | exact m7 | exact m8 | exact m9 | assumption) (rfl) (by omega) (by decide) ?_
        refine r_top _ _ (congrArg nI (show _ = T.1 from (show B 2 0 = T.1 by rw [hT]; rfl))) ?_
        refine r_icmp_geN X 74 dX11_said_35 (by decide) (by omega) (by omega) (fun c_35 => ?_) (fun c_35 => ?_)
        · skip
          refine r_iload_n X dX11_said_74 rfl ?_
          refine r_iret S dX11_said_75 ?_
          refine ⟨?_, by rw [if_pos ⟨c_5, c_12⟩], rfl⟩
          rw [show k = T.1 by omega]
          unfold saidR; rw [if_pos ⟨c_5, c_12⟩, hix, htx]
        · skip
          refine r_aload_n X dX11_said_38 rfl ?_
          refine r_iload_n X dX11_said_39 rfl ?_
          refine r_iload X dX11_said_40 rfl ?_
          refine r_iload_n X dX11_said_42 rfl ?_
          refine r_callV (ci := 10) X rfl (c_X11_says _ E g n M u (va_up B 9 (B 4)) T N i k t (show (va_up B 9 (B 4)) 2 = tfl T from hT) (show (va_up B 9 (B 4)) 4 = flat N from hS) h0 h1 hP hN hN9 hi (by omega) ht) tw_807 tw_809 tp_32 tw_7 tw_810 rfl rfl (by first | exact m0 | exact m1 | exact m2 | exact m3 | exact m4 | exact m5 | exact m6 | exact m7 | exact m8 | exact m9 | assumption) rfl ⟨ok_X11_says, ⟨Nat.le_of_ble_eq_true rfl, Nat.le_of_ble_eq_true rfl⟩, ⟨Nat.le_of_ble_eq_true rfl, Nat.le_of_ble_eq_true rfl⟩, Nat.le_of_ble_eq_true rfl⟩ dX11_said_43 (kk_v (Wf := Wg K E _ _ _ _) ?_)
          refine r_iload_n X dX11_said_46 rfl ?_
          refine r_aload_n X dX11_said_47 rfl ?_
          refine r_callV (ci := 10) X rfl (c_X11_isSo _ E g n M u (va_up (va_up B 9 (B 4)) 4 (flat (dnN N (T.2.2.1 i) (T.2.2.2.1 i) k t))) T (dnN N (T.2.2.1 i) (T.2.2.2.1 i) k t) si st sy hd (show (va_up (va_up B 9 (B 4)) 4 (flat (dnN N (T.2.2.1 i) (T.2.2.2.1 i) k t))) 2 = tfl T from hT) (show (va_up (va_up B 9 (B 4)) 4 (flat (dnN N (T.2.2.1 i) (T.2.2.2.1 i) k t))) 4 = flat (dnN N (T.2.2.1 i) (T.2.2.2.1 i) k t) from rfl) h0 h1 hP (takeF_le hN ht) h2 hNo) tw_898 tw_900 tp_41 tw_7 tw_901 rfl rfl (by first | exact m0 | exact m1 | exact m2 | exact m3 | exact m4 | exact m5 | exact m6 | exact m7 | exact m8 | exact m9 | assumption) rfl ⟨ok_X11_isSo, ⟨Nat.le_of_ble_eq_true rfl, Nat.le_of_ble_eq_true rfl⟩, ⟨Nat.le_of_ble_eq_true rfl, Nat.le_of_ble_eq_true rfl⟩, Nat.le_of_ble_eq_true rfl⟩ dX11_said_48 (kk_r (Wf := Wg K E _ _ _ _) ?_)
          refine r_if_eqB X 61 dX11_said_51 (by decide) (fun c_51 => ?_) (fun c_51 => ?_)
          · skip
            refine r_iconst (v := nI 0) X dX11_said_61 (by decide) ?_
            refine r_iorN X dX11_said_62 ?_
            refine r_top _ (nI (saF (fun k => (fun i s t => allS (fun k => T.2.2.1 (si k)) st sy hd (dnN N (T.2.2.1 i) (T.2.2.2.1 i) s t).1 (u 2)) i k t) (k + 1))) (by show _ = nI (saF (fun k => (fun i s t => allS (fun k => T.2.2.1 (si k)) st sy hd (dnN N (T.2.2.1 i) (T.2.2.2.1 i) s t).1 (u 2)) i k t) k ||| (if (fun i s t => allS (fun k => T.2.2.1 (si k)) st sy hd (dnN N (T.2.2.1 i) (T.2.2.2.1 i) s t).1 (u 2)) i k t = true then 2 ^ k else 0)); first | (rw [if_pos c_51]; done) | (rw [if_neg (fun h9 => absurd (c_51.symm.trans h9) (by decide))])) ?_
            refine r_istore_n X dX11_said_63 (Nat.le_of_ble_eq_true rfl) ?_
            try dsimp only [List.set]
            refine r_aload_n X dX11_said_64 rfl ?_
            refine r_callV (ci := 10) X rfl (c_X11_lets _ E g n M u (va_up (va_up B 9 (B 4)) 4 (flat (dnN N (T.2.2.1 i) (T.2.2.2.1 i) k t)))) tw_878 tw_880 tp_40 tw_7 tw_881 rfl rfl (by first | exact m0 | exact m1 | exact m2 | exact m3 | exact m4 | exact m5 | exact m6 | exact m7 | exact m8 | exact m9 | assumption) rfl ⟨ok_X11_lets, ⟨Nat.le_of_ble_eq_true rfl, Nat.le_of_ble_eq_true rfl⟩, ⟨Nat.le_of_ble_eq_true rfl, Nat.le_of_ble_eq_true rfl⟩, Nat.le_of_ble_eq_true rfl⟩ dX11_said_65 (kk_v (Wf := Wg K E _ _ _ _) ?_)
            refine r_heap (show mG E g M u (va_up (va_up (va_up B 9 (B 4)) 4 (flat (dnN N (T.2.2.1 i) (T.2.2.2.1 i) k t))) 4 (B 4)) = mG E g M u (va_up B 9 (B 4)) by rw [vu_vu]; exact congrArg (mG E g M u) (vu_self rfl)) ?_
            first | refine r_iincN X dX11_said_68 rfl ?_ | refine r_iinc X _ dX11_said_68 rfl rfl ?_
            try dsimp only [List.set]
            refine r_goto X 27 dX11_said_71 (by decide) ?_
            exact ih (by omega)
          · skip
            refine r_iconst (v := nI 1) X dX11_said_54 (by decide) ?_
            refine r_iload X dX11_said_55 rfl ?_
            refine r_ishl1N X dX11_said_57 (by omega) ?_
            refine r_goto X 62 dX11_said_58 (by decide) ?_
            refine r_iorN X dX11_said_62 ?_
            refine r_top _ (nI (saF (fun k => (fun i s t => allS (fun k => T.2.2.1 (si k)) st sy hd (dnN N (T.2.2.1 i) (T.2.2.2.1 i) s t).1 (u 2)) i k t) (k + 1))) (by show _ = nI (saF (fun k => (fun i s t => allS (fun k => T.2.2.1 (si k)) st sy hd (dnN N (T.2.2.1 i) (T.2.2.2.1 i) s t).1 (u 2)) i k t) k ||| (if (fun i s t => allS (fun k => T.2.2.1 (si k)) st sy hd (dnN N (T.2.2.1 i) (T.2.2.2.1 i) s t).1 (u 2)) i k t = true then 2 ^ k else 0)); first | (rw [if_pos c_51]; done) | (rw [if_neg (fun h9 => absurd (c_51.symm.trans h9) (by decide))])) ?_
            refine r_istore_n X dX11_said_63 (Nat.le_of_ble_eq_true rfl) ?_
            try dsimp only [List.set]
            refine r_aload_n X dX11_said_64 rfl ?_
            refine r_callV (ci := 10) X rfl (c_X11_lets _ E g n M u (va_up (va_up B 9 (B 4)) 4 (flat (dnN N (T.2.2.1 i) (T.2.2.2.1 i) k t)))) tw_878 tw_880 tp_40 tw_7 tw_881 rfl rfl (by first | exact m0 | exact m1 | exact m2 | exact m3 | exact m4 | exact m5 | exact m6 | exact m7 | exact m8 | exact m9 | assumption) rfl ⟨ok_X11_lets, ⟨Nat.le_of_ble_eq_true rfl, Nat.le_of_ble_eq_true rfl⟩, ⟨Nat.le_of_ble_eq_true rfl, Nat.le_of_ble_eq_true rfl⟩, Nat.le_of_ble_eq_true rfl⟩ dX11_said_65 (kk_v (Wf := Wg K E _ _ _ _) ?_)
            refine r_heap (show mG E g M u (va_up (va_up (va_up B 9 (B 4)) 4 (flat (dnN N (T.2.2.1 i) (T.2.2.2.1 i) k t))) 4 (B 4)) = mG E g M u (va_up B 9 (B 4)) by rw [vu_vu]; exact congrArg (mG E g M u) (vu_self rfl)) ?_
            first | refine r_iincN X dX11_said_68 rfl ?_ | refine r_iinc X _ dX11_said_68 rfl rfl ?_
            try dsimp only [List.set]
            refine r_goto X 27 dX11_said_71 (by decide) ?_
            exact ih (by omega)
      exact hloop 0 (Nat.zero_le _)
    · skip
      refine r_bipush (v := (-2)) X dX11_said_15 (by decide) ?_
      refine r_iret S dX11_said_17 ?_
      exact ⟨by unfold saidR; rw [if_neg (by simp [*])], by rw [if_neg (by simp [*])], rfl⟩

set_option maxHeartbeats 4000000 in
set_option maxRecDepth 100000 in
/-- BanisterWordModel.who  -/
theorem c_X11_who (l : Launch) (E : xE) (g : hG) (n : Nat) (M : Nat) (u : Nat → Nat) (B : Nat → Nat → Nat) (T : hsT) (N : Mo) (si st sy hd : Nat → Nat) (x y : Int32) (hT : B 2 = tfl T) (hS : B 4 = flat N) (h0 : T.1 ≤ 12) (h1 : T.2.1 ≤ 6) (hP : ∀ i, i < T.2.1 → T.2.2.1 i < 4 ∧ T.2.2.2.1 i ≤ 9) (hN : ∀ j, N.1 j ≤ 7) (hN9 : ∀ j, N.2.1 j ≤ 99) (h2 : u 2 ≤ 6) (hNo : ∀ k, k < u 2 → B 8 k = 1000 * si k + 20 * (10 * hd k + sy k) + st k ∧ si k < T.2.1 ∧ st k < 12 ∧ sy k ≤ 7 ∧ hd k ≤ 1) : Ct l yX11_who cX11_who 5 (some .int) 3 70 0 0 E [.ref M, .int x, .int y] (mG E g M u B) n (zr (some (.int (whoR T.1 T.2.1 (fun i s t => allS (fun k => T.2.2.1 (si k)) st sy hd (dnN N (T.2.2.1 i) (T.2.2.2.1 i) s t).1 (u 2)) x y))) (if inR x T.1 = true ∧ sayB y = true then mG E g M u (va_up B 9 (B 4)) else mG E g M u B) (n)) := by
  refine Ct.of (by decide +kernel) (Nat.le_of_ble_eq_true rfl) (fun v hv => by simp only [List.mem_cons, List.not_mem_nil, or_false] at hv; (try rcases hv with rfl | rfl | rfl) <;> first | rfl | (subst hv; rfl) | exact hv.elim) ?_
  intro K hKl S
  subst hKl
  have X := S.1
  refine r_aload_n X dX11_who_0 rfl ?_
  refine r_iload_n X dX11_who_1 rfl ?_
  refine r_callV (ci := 10) X rfl (c_X11_isStep _ E g n M u B x (by rw [(show B 2 0 = T.1 by rw [hT]; rfl)]; omega)) tw_784 tw_786 tp_29 tw_7 tw_787 rfl rfl (by first | exact m0 | exact m1 | exact m2 | exact m3 | exact m4 | exact m5 | exact m6 | exact m7 | exact m8 | exact m9 | assumption) rfl ⟨ok_X11_isStep, ⟨Nat.le_of_ble_eq_true rfl, Nat.le_of_ble_eq_true rfl⟩, ⟨Nat.le_of_ble_eq_true rfl, Nat.le_of_ble_eq_true rfl⟩, Nat.le_of_ble_eq_true rfl⟩ dX11_who_2 (kk_r (Wf := Wg K E _ _ _ _) ?_)
  refine r_top _ _ (congrArg (fun q => bI (inR x q)) (show B 2 0 = T.1 by rw [hT]; rfl)) ?_
  refine r_if_eqB X 15 dX11_who_5 (by decide) (fun c_5 => ?_) (fun c_5 => ?_)
  · skip
    refine r_bipush (v := (-2)) X dX11_who_15 (by decide) ?_
    refine r_iret S dX11_who_17 ?_
    exact ⟨by unfold whoR; rw [if_neg (by simp [*])], by rw [if_neg (by simp [*])], rfl⟩
  · skip
    refine r_iload_n X dX11_who_8 rfl ?_
    refine r_callS X rfl (c_X11_isSaying _ E _ n y) tw_800 tw_801 tw_7 tw_802 rfl ⟨ok_X11_isSaying, ⟨Nat.le_of_ble_eq_true rfl, Nat.le_of_ble_eq_true rfl⟩, ⟨Nat.le_of_ble_eq_true rfl, Nat.le_of_ble_eq_true rfl⟩, Nat.le_of_ble_eq_true rfl⟩ dX11_who_9 (kk_r (Wf := Wg K E _ _ _ _) ?_)
    refine r_if_neB X 18 dX11_who_12 (by decide) (fun c_12 => ?_) (fun c_12 => ?_)
    · skip
      obtain ⟨s, hs, rfl⟩ := inR_ex (by omega) c_5
      have hsx : ix (nI s) = s := ix_nI (by omega)
      obtain ⟨t, ht0, ht, rfl⟩ := sayB_ex c_12
      have htx : ix (nI t) = t := ix_nI (by omega)
      refine r_aload_n X dX11_who_18 rfl ?_
      refine r_callV (ci := 10) X rfl (c_X11_holds _ E g n M u B) tw_871 tw_873 tp_39 tw_7 tw_874 rfl rfl (by first | exact m0 | exact m1 | exact m2 | exact m3 | exact m4 | exact m5 | exact m6 | exact m7 | exact m8 | exact m9 | assumption) rfl ⟨ok_X11_holds, ⟨Nat.le_of_ble_eq_true rfl, Nat.le_of_ble_eq_true rfl⟩, ⟨Nat.le_of_ble_eq_true rfl, Nat.le_of_ble_eq_true rfl⟩, Nat.le_of_ble_eq_true rfl⟩ dX11_who_19 (kk_v (Wf := Wg K E _ _ _ _) ?_)
      refine r_iconst (v := nI 0) X dX11_who_22 (by decide) ?_
      refine r_top _ (nI (saF (fun k => (fun i s t => allS (fun k => T.2.2.1 (si k)) st sy hd (dnN N (T.2.2.1 i) (T.2.2.2.1 i) s t).1 (u 2)) k s t) 0)) (rfl) ?_
      refine r_istore_n X dX11_who_23 (Nat.le_of_ble_eq_true rfl) ?_
      try dsimp only [List.set]
      refine r_iconst (v := nI 0) X dX11_who_24 (by decide) ?_
      refine r_istore X dX11_who_25 (Nat.le_of_ble_eq_true rfl) ?_
      try dsimp only [List.set]
      have hloop : ∀ (k : Nat), k ≤ T.2.1 → Wg K E (0) (0) 27 [some (.ref M), some (.int (nI s)), some (.int (nI t)), some (.int (nI (saF (fun k => (fun i s t => allS (fun k => T.2.2.1 (si k)) st sy hd (dnN N (T.2.2.1 i) (T.2.2.2.1 i) s t).1 (u 2)) k s t) k))), some (.int (nI k))] [] (mG E g M u (va_up B 9 (B 4))) (n) := by
        refine ind_up _ (T.2.1) (fun k hk ih => ?_)
        refine r_iload X dX11_who_27 rfl ?_
        refine r_aload_n X dX11_who_29 rfl ?_
        refine r_get (ci := 10) X 2 _ ti_RX11 rfl (by decide) tw_660 (fun _ h => h) dX11_who_30 (by first | exact m0 | exact m1 | exact m2 | exact m3 | exact m4 | exact m5 | exact m6 | exact m7 | exact m8 | exact m9 | assumption) rfl ?_
        refine r_iconst (v := nI 1) X dX11_who_33 (by decide) ?_
        refine r_nald X _ dX11_who_34 (by first | exact m0 | exact m1 | exact m2 | exact m3 | exact m4 | exact m5 | exact m6 | exact m7 | exact m8 | exact m9 | assumption) (rfl) (by omega) (by decide) ?_
        refine r_top _ _ (congrArg nI (show _ = T.2.1 from (show B 2 1 = T.2.1 by rw [hT]; rfl))) ?_
        refine r_icmp_geN X 74 dX11_who_35 (by decide) (by omega) (by omega) (fun c_35 => ?_) (fun c_35 => ?_)
        · skip
          refine r_iload_n X dX11_who_74 rfl ?_
          refine r_iret S dX11_who_75 ?_
          refine ⟨?_, by rw [if_pos ⟨c_5, c_12⟩], rfl⟩
          rw [show k = T.2.1 by omega]
          unfold whoR; rw [if_pos ⟨c_5, c_12⟩, hsx, htx]
        · skip
          refine r_aload_n X dX11_who_38 rfl ?_
          refine r_iload X dX11_who_39 rfl ?_
          refine r_iload_n X dX11_who_41 rfl ?_
          refine r_iload_n X dX11_who_42 rfl ?_
          refine r_callV (ci := 10) X rfl (c_X11_says _ E g n M u (va_up B 9 (B 4)) T N k s t (show (va_up B 9 (B 4)) 2 = tfl T from hT) (show (va_up B 9 (B 4)) 4 = flat N from hS) h0 h1 hP hN hN9 (by omega) (by omega) ht) tw_807 tw_809 tp_32 tw_7 tw_810 rfl rfl (by first | exact m0 | exact m1 | exact m2 | exact m3 | exact m4 | exact m5 | exact m6 | exact m7 | exact m8 | exact m9 | assumption) rfl ⟨ok_X11_says, ⟨Nat.le_of_ble_eq_true rfl, Nat.le_of_ble_eq_true rfl⟩, ⟨Nat.le_of_ble_eq_true rfl, Nat.le_of_ble_eq_true rfl⟩, Nat.le_of_ble_eq_true rfl⟩ dX11_who_43 (kk_v (Wf := Wg K E _ _ _ _) ?_)
          refine r_iload_n X dX11_who_46 rfl ?_
          refine r_aload_n X dX11_who_47 rfl ?_
          refine r_callV (ci := 10) X rfl (c_X11_isSo _ E g n M u (va_up (va_up B 9 (B 4)) 4 (flat (dnN N (T.2.2.1 k) (T.2.2.2.1 k) s t))) T (dnN N (T.2.2.1 k) (T.2.2.2.1 k) s t) si st sy hd (show (va_up (va_up B 9 (B 4)) 4 (flat (dnN N (T.2.2.1 k) (T.2.2.2.1 k) s t))) 2 = tfl T from hT) (show (va_up (va_up B 9 (B 4)) 4 (flat (dnN N (T.2.2.1 k) (T.2.2.2.1 k) s t))) 4 = flat (dnN N (T.2.2.1 k) (T.2.2.2.1 k) s t) from rfl) h0 h1 hP (takeF_le hN ht) h2 hNo) tw_898 tw_900 tp_41 tw_7 tw_901 rfl rfl (by first | exact m0 | exact m1 | exact m2 | exact m3 | exact m4 | exact m5 | exact m6 | exact m7 | exact m8 | exact m9 | assumption) rfl ⟨ok_X11_isSo, ⟨Nat.le_of_ble_eq_true rfl, Nat.le_of_ble_eq_true rfl⟩, ⟨Nat.le_of_ble_eq_true rfl, Nat.le_of_ble_eq_true rfl⟩, Nat.le_of_ble_eq_true rfl⟩ dX11_who_48 (kk_r (Wf := Wg K E _ _ _ _) ?_)
          refine r_if_eqB X 61 dX11_who_51 (by decide) (fun c_51 => ?_) (fun c_51 => ?_)
          · skip
            refine r_iconst (v := nI 0) X dX11_who_61 (by decide) ?_
            refine r_iorN X dX11_who_62 ?_
            refine r_top _ (nI (saF (fun k => (fun i s t => allS (fun k => T.2.2.1 (si k)) st sy hd (dnN N (T.2.2.1 i) (T.2.2.2.1 i) s t).1 (u 2)) k s t) (k + 1))) (by show _ = nI (saF (fun k => (fun i s t => allS (fun k => T.2.2.1 (si k)) st sy hd (dnN N (T.2.2.1 i) (T.2.2.2.1 i) s t).1 (u 2)) k s t) k ||| (if (fun i s t => allS (fun k => T.2.2.1 (si k)) st sy hd (dnN N (T.2.2.1 i) (T.2.2.2.1 i) s t).1 (u 2)) k s t = true then 2 ^ k else 0)); first | (rw [if_pos c_51]; done) | (rw [if_neg (fun h9 => absurd (c_51.symm.trans h9) (by decide))])) ?_
            refine r_istore_n X dX11_who_63 (Nat.le_of_ble_eq_true rfl) ?_
            try dsimp only [List.set]
            refine r_aload_n X dX11_who_64 rfl ?_
            refine r_callV (ci := 10) X rfl (c_X11_lets _ E g n M u (va_up (va_up B 9 (B 4)) 4 (flat (dnN N (T.2.2.1 k) (T.2.2.2.1 k) s t)))) tw_878 tw_880 tp_40 tw_7 tw_881 rfl rfl (by first | exact m0 | exact m1 | exact m2 | exact m3 | exact m4 | exact m5 | exact m6 | exact m7 | exact m8 | exact m9 | assumption) rfl ⟨ok_X11_lets, ⟨Nat.le_of_ble_eq_true rfl, Nat.le_of_ble_eq_true rfl⟩, ⟨Nat.le_of_ble_eq_true rfl, Nat.le_of_ble_eq_true rfl⟩, Nat.le_of_ble_eq_true rfl⟩ dX11_who_65 (kk_v (Wf := Wg K E _ _ _ _) ?_)
            refine r_heap (show mG E g M u (va_up (va_up (va_up B 9 (B 4)) 4 (flat (dnN N (T.2.2.1 k) (T.2.2.2.1 k) s t))) 4 (B 4)) = mG E g M u (va_up B 9 (B 4)) by rw [vu_vu]; exact congrArg (mG E g M u) (vu_self rfl)) ?_
            first | refine r_iincN X dX11_who_68 rfl ?_ | refine r_iinc X _ dX11_who_68 rfl rfl ?_
            try dsimp only [List.set]
            refine r_goto X 27 dX11_who_71 (by decide) ?_
            exact ih (by omega)
          · skip
            refine r_iconst (v := nI 1) X dX11_who_54 (by decide) ?_
            refine r_iload X dX11_who_55 rfl ?_
            refine r_ishl1N X dX11_who_57 (by omega) ?_
            refine r_goto X 62 dX11_who_58 (by decide) ?_
            refine r_iorN X dX11_who_62 ?_
            refine r_top _ (nI (saF (fun k => (fun i s t => allS (fun k => T.2.2.1 (si k)) st sy hd (dnN N (T.2.2.1 i) (T.2.2.2.1 i) s t).1 (u 2)) k s t) (k + 1))) (by show _ = nI (saF (fun k => (fun i s t => allS (fun k => T.2.2.1 (si k)) st sy hd (dnN N (T.2.2.1 i) (T.2.2.2.1 i) s t).1 (u 2)) k s t) k ||| (if (fun i s t => allS (fun k => T.2.2.1 (si k)) st sy hd (dnN N (T.2.2.1 i) (T.2.2.2.1 i) s t).1 (u 2)) k s t = true then 2 ^ k else 0)); first | (rw [if_pos c_51]; done) | (rw [if_neg (fun h9 => absurd (c_51.symm.trans h9) (by decide))])) ?_
            refine r_istore_n X dX11_who_63 (Nat.le_of_ble_eq_true rfl) ?_
            try dsimp only [List.set]
            refine r_aload_n X dX11_who_64 rfl ?_
            refine r_callV (ci := 10) X rfl (c_X11_lets _ E g n M u (va_up (va_up B 9 (B 4)) 4 (flat (dnN N (T.2.2.1 k) (T.2.2.2.1 k) s t)))) tw_878 tw_880 tp_40 tw_7 tw_881 rfl rfl (by first | exact m0 | exact m1 | exact m2 | exact m3 | exact m4 | exact m5 | exact m6 | exact m7 | exact m8 | exact m9 | assumption) rfl ⟨ok_X11_lets, ⟨Nat.le_of_ble_eq_true rfl, Nat.le_of_ble_eq_true rfl⟩, ⟨Nat.le_of_ble_eq_true rfl, Nat.le_of_ble_eq_true rfl⟩, Nat.le_of_ble_eq_true rfl⟩ dX11_who_65 (kk_v (Wf := Wg K E _ _ _ _) ?_)
            refine r_heap (show mG E g M u (va_up (va_up (va_up B 9 (B 4)) 4 (flat (dnN N (T.2.2.1 k) (T.2.2.2.1 k) s t))) 4 (B 4)) = mG E g M u (va_up B 9 (B 4)) by rw [vu_vu]; exact congrArg (mG E g M u) (vu_self rfl)) ?_
            first | refine r_iincN X dX11_who_68 rfl ?_ | refine r_iinc X _ dX11_who_68 rfl rfl ?_
            try dsimp only [List.set]
            refine r_goto X 27 dX11_who_71 (by decide) ?_
            exact ih (by omega)
      exact hloop 0 (Nat.zero_le _)
    · skip
      refine r_bipush (v := (-2)) X dX11_who_15 (by decide) ?_
      refine r_iret S dX11_who_17 ?_
      exact ⟨by unfold whoR; rw [if_neg (by simp [*])], by rw [if_neg (by simp [*])], rfl⟩

set_option maxHeartbeats 4000000 in
set_option maxRecDepth 100000 in
/-- BanisterWordModel.count  -/
theorem c_X11_count (l : Launch) (E : xE) (g : hG) (n : Nat) (M : Nat) (u : Nat → Nat) (B : Nat → Nat → Nat) (T : hsT) (N : Mo) (x : Int32) (hT : B 2 = tfl T) (hS : B 4 = flat N) (hN : ∀ j, N.1 j ≤ 7) (hN9 : ∀ j, N.2.1 j ≤ 99) : Ct l yX11_count cX11_count 7 (some .int) 0 0 0 0 E [.ref M, .int x] (mG E g M u B) n (zr (some (.int (countR T.1 T.2.1 N.2.2.2 N.1 N.2.1 N.2.2.1 (u 2) (u 1) (u 0) x))) (mG E g M u B) (n)) := by
  refine Ct.of (by decide +kernel) (Nat.le_of_ble_eq_true rfl) (fun v hv => by simp only [List.mem_cons, List.not_mem_nil, or_false] at hv; (try rcases hv with rfl | rfl) <;> first | rfl | (subst hv; rfl) | exact hv.elim) ?_
  intro K hKl S
  subst hKl
  have X := S.1
  refine r_iconst (v := nI 0) X dX11_count_0 (by decide) ?_
  refine r_top _ (nI (cntF N.1 0)) (rfl) ?_
  refine r_istore_n X dX11_count_1 (Nat.le_of_ble_eq_true rfl) ?_
  try dsimp only [List.set]
  refine r_iconst (v := nI 0) X dX11_count_2 (by decide) ?_
  refine r_top _ (nI (sumF N.2.1 0)) (rfl) ?_
  refine r_istore_n X dX11_count_3 (Nat.le_of_ble_eq_true rfl) ?_
  try dsimp only [List.set]
  refine r_iconst (v := nI 0) X dX11_count_4 (by decide) ?_
  refine r_top _ (nI (orN N.2.2.1 0)) (rfl) ?_
  refine r_istore X dX11_count_5 (Nat.le_of_ble_eq_true rfl) ?_
  try dsimp only [List.set]
  refine r_iconst (v := nI 0) X dX11_count_7 (by decide) ?_
  refine r_top _ (nI (orF N.1 0)) (rfl) ?_
  refine r_istore X dX11_count_8 (Nat.le_of_ble_eq_true rfl) ?_
  try dsimp only [List.set]
  refine r_iconst (v := nI 0) X dX11_count_10 (by decide) ?_
  refine r_istore X dX11_count_11 (Nat.le_of_ble_eq_true rfl) ?_
  try dsimp only [List.set]
  have hloop : ∀ (k : Nat), k ≤ 24 → Wg K E (0) (0) 13 [some (.ref M), some (.int x), some (.int (nI (cntF N.1 k))), some (.int (nI (sumF N.2.1 k))), some (.int (nI (orN N.2.2.1 0))), some (.int (nI (orF N.1 k))), some (.int (nI k))] [] (mG E g M u B) (n) := by
    refine ind_up _ (24) (fun k hk ih => ?_)
    have h7 := hN k
    refine r_iload X dX11_count_13 rfl ?_
    refine r_bipush (v := nI 24) X dX11_count_15 (by decide) ?_
    refine r_icmp_geN X 85 dX11_count_17 (by decide) (by omega) (by omega) (fun c_17 => ?_) (fun c_17 => ?_)
    · skip
      obtain rfl : k = 24 := (by omega)
      refine r_iconst (v := nI 0) X dX11_count_85 (by decide) ?_
      refine r_istore X dX11_count_86 (Nat.le_of_ble_eq_true rfl) ?_
      try dsimp only [List.set]
      have hloop2 : ∀ (k : Nat), k ≤ 6 → Wg K E (0) (0) 88 [some (.ref M), some (.int x), some (.int (nI (cntF N.1 24))), some (.int (nI (sumF N.2.1 24))), some (.int (nI (orN N.2.2.1 k))), some (.int (nI (orF N.1 24))), some (.int (nI k))] [] (mG E g M u B) (n) := by
        refine ind_up _ (6) (fun k hk ih => ?_)
        refine r_iload X dX11_count_88 rfl ?_
        refine r_bipush (v := nI 6) X dX11_count_90 (by decide) ?_
        refine r_icmp_geN X 116 dX11_count_92 (by decide) (by omega) (by omega) (fun c_92 => ?_) (fun c_92 => ?_)
        · skip
          obtain rfl : k = 6 := (by omega)
          refine r_iload_n X dX11_count_116 rfl ?_
          cases hsw_117 : inR x 10
          · skip
            refine r_tableOut X 219 dX11_count_117 (sw_out hsw_117) (by decide) ?_
            refine r_bipush (v := (-3)) X dX11_count_219 (by decide) ?_
            refine r_iret S dX11_count_221 ?_
            exact ⟨by unfold countR; rw [if_neg (by rw [hsw_117]; decide)], rfl, rfl⟩
          · skip
            obtain ⟨j_117, hj_117, rfl⟩ := inR_ex (by decide) hsw_117
            rcases (show j_117 = 0 ∨ j_117 = 1 ∨ j_117 = 2 ∨ j_117 = 3 ∨ j_117 = 4 ∨ j_117 = 5 ∨ j_117 = 6 ∨ j_117 = 7 ∨ j_117 = 8 ∨ j_117 = 9 by omega) with rfl | rfl | rfl | rfl | rfl | rfl | rfl | rfl | rfl | rfl
            · skip
              refine r_tableIn (off := 55) X 172 dX11_count_117 (by decide) (by decide) rfl (by decide) ?_
              refine r_aload_n X dX11_count_172 rfl ?_
              refine r_get (ci := 10) X 2 _ ti_RX11 rfl (by decide) tw_660 (fun _ h => h) dX11_count_173 (by first | exact m0 | exact m1 | exact m2 | exact m3 | exact m4 | exact m5 | exact m6 | exact m7 | exact m8 | exact m9 | assumption) rfl ?_
              refine r_iconst (v := nI 0) X dX11_count_176 (by decide) ?_
              refine r_nald X _ dX11_count_177 (by first | exact m0 | exact m1 | exact m2 | exact m3 | exact m4 | exact m5 | exact m6 | exact m7 | exact m8 | exact m9 | assumption) (rfl) (by omega) (by decide) ?_
              refine r_top _ _ (congrArg nI (show _ = T.1 from (show B 2 0 = T.1 by rw [hT]; rfl))) ?_
              refine r_iret S dX11_count_178 ?_
              refine ⟨?_, rfl, rfl⟩
              unfold countR; rw [if_pos (by decide)]
              rfl
            · skip
              refine r_tableIn (off := 62) X 179 dX11_count_117 (by decide) (by decide) rfl (by decide) ?_
              refine r_aload_n X dX11_count_179 rfl ?_
              refine r_get (ci := 10) X 2 _ ti_RX11 rfl (by decide) tw_660 (fun _ h => h) dX11_count_180 (by first | exact m0 | exact m1 | exact m2 | exact m3 | exact m4 | exact m5 | exact m6 | exact m7 | exact m8 | exact m9 | assumption) rfl ?_
              refine r_iconst (v := nI 1) X dX11_count_183 (by decide) ?_
              refine r_nald X _ dX11_count_184 (by first | exact m0 | exact m1 | exact m2 | exact m3 | exact m4 | exact m5 | exact m6 | exact m7 | exact m8 | exact m9 | assumption) (rfl) (by omega) (by decide) ?_
              refine r_top _ _ (congrArg nI (show _ = T.2.1 from (show B 2 1 = T.2.1 by rw [hT]; rfl))) ?_
              refine r_iret S dX11_count_185 ?_
              refine ⟨?_, rfl, rfl⟩
              unfold countR; rw [if_pos (by decide)]
              rfl
            · skip
              refine r_tableIn (off := 69) X 186 dX11_count_117 (by decide) (by decide) rfl (by decide) ?_
              refine r_aload_n X dX11_count_186 rfl ?_
              refine r_get (ci := 10) X 4 _ ti_RX11 rfl (by decide) tw_662 (fun _ h => h) dX11_count_187 (by first | exact m0 | exact m1 | exact m2 | exact m3 | exact m4 | exact m5 | exact m6 | exact m7 | exact m8 | exact m9 | assumption) rfl ?_
              refine r_bipush (v := nI 54) X dX11_count_190 (by decide) ?_
              refine r_nald X _ dX11_count_192 (by first | exact m0 | exact m1 | exact m2 | exact m3 | exact m4 | exact m5 | exact m6 | exact m7 | exact m8 | exact m9 | assumption) (rfl) (by omega) (by decide) ?_
              refine r_top _ _ (congrArg nI (show B 4 54 = N.2.2.2 by rw [hS]; rfl)) ?_
              refine r_iret S dX11_count_193 ?_
              refine ⟨?_, rfl, rfl⟩
              unfold countR; rw [if_pos (by decide)]
              rfl
            · skip
              refine r_tableIn (off := 77) X 194 dX11_count_117 (by decide) (by decide) rfl (by decide) ?_
              refine r_iload_n X dX11_count_194 rfl ?_
              refine r_iret S dX11_count_195 ?_
              refine ⟨?_, rfl, rfl⟩
              unfold countR; rw [if_pos (by decide)]
              rfl
            · skip
              refine r_tableIn (off := 79) X 196 dX11_count_117 (by decide) (by decide) rfl (by decide) ?_
              refine r_iload_n X dX11_count_196 rfl ?_
              refine r_iret S dX11_count_197 ?_
              refine ⟨?_, rfl, rfl⟩
              unfold countR; rw [if_pos (by decide)]
              rfl
            · skip
              refine r_tableIn (off := 81) X 198 dX11_count_117 (by decide) (by decide) rfl (by decide) ?_
              refine r_iload X dX11_count_198 rfl ?_
              refine r_iret S dX11_count_200 ?_
              refine ⟨?_, rfl, rfl⟩
              unfold countR; rw [if_pos (by decide)]
              rfl
            · skip
              refine r_tableIn (off := 84) X 201 dX11_count_117 (by decide) (by decide) rfl (by decide) ?_
              refine r_iload X dX11_count_201 rfl ?_
              refine r_iret S dX11_count_203 ?_
              refine ⟨?_, rfl, rfl⟩
              unfold countR; rw [if_pos (by decide)]
              rfl
            · skip
              refine r_tableIn (off := 87) X 204 dX11_count_117 (by decide) (by decide) rfl (by decide) ?_
              refine r_aload_n X dX11_count_204 rfl ?_
              refine r_get (ci := 10) X 10 _ ti_RX11 rfl (by decide) tw_668 (fun _ h => h) dX11_count_205 (by first | exact m0 | exact m1 | exact m2 | exact m3 | exact m4 | exact m5 | exact m6 | exact m7 | exact m8 | exact m9 | assumption) rfl ?_
              refine r_iret S dX11_count_208 ?_
              refine ⟨?_, rfl, rfl⟩
              unfold countR; rw [if_pos (by decide)]
              rfl
            · skip
              refine r_tableIn (off := 92) X 209 dX11_count_117 (by decide) (by decide) rfl (by decide) ?_
              refine r_aload_n X dX11_count_209 rfl ?_
              refine r_get (ci := 10) X 6 _ ti_RX11 rfl (by decide) tw_664 (fun _ h => h) dX11_count_210 (by first | exact m0 | exact m1 | exact m2 | exact m3 | exact m4 | exact m5 | exact m6 | exact m7 | exact m8 | exact m9 | assumption) rfl ?_
              refine r_iret S dX11_count_213 ?_
              refine ⟨?_, rfl, rfl⟩
              unfold countR; rw [if_pos (by decide)]
              rfl
            · skip
              refine r_tableIn (off := 97) X 214 dX11_count_117 (by decide) (by decide) rfl (by decide) ?_
              refine r_aload_n X dX11_count_214 rfl ?_
              refine r_get (ci := 10) X 1 _ ti_RX11 rfl (by decide) tw_659 (fun _ h => h) dX11_count_215 (by first | exact m0 | exact m1 | exact m2 | exact m3 | exact m4 | exact m5 | exact m6 | exact m7 | exact m8 | exact m9 | assumption) rfl ?_
              refine r_iret S dX11_count_218 ?_
              refine ⟨?_, rfl, rfl⟩
              unfold countR; rw [if_pos (by decide)]
              rfl
        · skip
          refine r_iload X dX11_count_95 rfl ?_
          refine r_aload_n X dX11_count_97 rfl ?_
          refine r_get (ci := 10) X 4 _ ti_RX11 rfl (by decide) tw_662 (fun _ h => h) dX11_count_98 (by first | exact m0 | exact m1 | exact m2 | exact m3 | exact m4 | exact m5 | exact m6 | exact m7 | exact m8 | exact m9 | assumption) rfl ?_
          refine r_bipush (v := nI 48) X dX11_count_101 (by decide) ?_
          refine r_iload X dX11_count_103 rfl ?_
          first | refine r_iaddN X dX11_count_105 ?_ | refine r_iadd X _ dX11_count_105 rfl ?_
          refine r_nald X _ dX11_count_106 (by first | exact m0 | exact m1 | exact m2 | exact m3 | exact m4 | exact m5 | exact m6 | exact m7 | exact m8 | exact m9 | assumption) (rfl) (by omega) (by decide) ?_
          refine r_top _ _ (congrArg nI (show B 4 (48 + k) = N.2.2.1 k by rw [hS]; exact flat_k (by omega))) ?_
          refine r_iorN X dX11_count_107 ?_
          refine r_top _ (nI (orN N.2.2.1 (k + 1))) (rfl) ?_
          refine r_istore X dX11_count_108 (Nat.le_of_ble_eq_true rfl) ?_
          try dsimp only [List.set]
          first | refine r_iincN X dX11_count_110 rfl ?_ | refine r_iinc X _ dX11_count_110 rfl rfl ?_
          try dsimp only [List.set]
          refine r_goto X 88 dX11_count_113 (by decide) ?_
          exact ih (by omega)
      exact hloop2 0 (by decide)
    · skip
      refine r_iload_n X dX11_count_20 rfl ?_
      refine r_aload_n X dX11_count_21 rfl ?_
      refine r_get (ci := 10) X 4 _ ti_RX11 rfl (by decide) tw_662 (fun _ h => h) dX11_count_22 (by first | exact m0 | exact m1 | exact m2 | exact m3 | exact m4 | exact m5 | exact m6 | exact m7 | exact m8 | exact m9 | assumption) rfl ?_
      refine r_iload X dX11_count_25 rfl ?_
      refine r_nald X _ dX11_count_27 (by first | exact m0 | exact m1 | exact m2 | exact m3 | exact m4 | exact m5 | exact m6 | exact m7 | exact m8 | exact m9 | assumption) (rfl) (by omega) (by decide) ?_
      refine r_top _ _ (congrArg nI (show B 4 (k) = N.1 (k) by rw [hS]; exact flat_f (by omega))) ?_
      refine r_if_leN X 35 dX11_count_28 (by decide) (by omega) (fun c_28 => ?_) (fun c_28 => ?_)
      · skip
        refine r_iconst (v := nI 0) X dX11_count_35 (by decide) ?_
        first | refine r_iaddN X dX11_count_36 ?_ | refine r_iadd X _ dX11_count_36 rfl ?_
        refine r_top _ (nI (cntF N.1 (k + 1))) (by show _ = nI (cntF N.1 k + (if N.1 k = 0 then 0 else 1)); first | (rw [if_pos c_28]; done) | (rw [if_neg (by omega)])) ?_
        refine r_istore_n X dX11_count_37 (Nat.le_of_ble_eq_true rfl) ?_
        try dsimp only [List.set]
        refine r_iload_n X dX11_count_38 rfl ?_
        refine r_aload_n X dX11_count_39 rfl ?_
        refine r_get (ci := 10) X 4 _ ti_RX11 rfl (by decide) tw_662 (fun _ h => h) dX11_count_40 (by first | exact m0 | exact m1 | exact m2 | exact m3 | exact m4 | exact m5 | exact m6 | exact m7 | exact m8 | exact m9 | assumption) rfl ?_
        refine r_bipush (v := nI 24) X dX11_count_43 (by decide) ?_
        refine r_iload X dX11_count_45 rfl ?_
        first | refine r_iaddN X dX11_count_47 ?_ | refine r_iadd X _ dX11_count_47 rfl ?_
        refine r_nald X _ dX11_count_48 (by first | exact m0 | exact m1 | exact m2 | exact m3 | exact m4 | exact m5 | exact m6 | exact m7 | exact m8 | exact m9 | assumption) (rfl) (by omega) (by decide) ?_
        refine r_top _ _ (congrArg nI (show B 4 (24 + (k)) = N.2.1 (k) by rw [hS]; exact flat_h (by omega))) ?_
        first | refine r_iaddN X dX11_count_49 ?_ | refine r_iadd X _ dX11_count_49 rfl ?_
        refine r_top _ (nI (sumF N.2.1 (k + 1))) (rfl) ?_
        refine r_istore_n X dX11_count_50 (Nat.le_of_ble_eq_true rfl) ?_
        try dsimp only [List.set]
        refine r_iload X dX11_count_51 rfl ?_
        refine r_aload_n X dX11_count_53 rfl ?_
        refine r_get (ci := 10) X 4 _ ti_RX11 rfl (by decide) tw_662 (fun _ h => h) dX11_count_54 (by first | exact m0 | exact m1 | exact m2 | exact m3 | exact m4 | exact m5 | exact m6 | exact m7 | exact m8 | exact m9 | assumption) rfl ?_
        refine r_iload X dX11_count_57 rfl ?_
        refine r_nald X _ dX11_count_59 (by first | exact m0 | exact m1 | exact m2 | exact m3 | exact m4 | exact m5 | exact m6 | exact m7 | exact m8 | exact m9 | assumption) (rfl) (by omega) (by decide) ?_
        refine r_top _ _ (congrArg nI (show B 4 (k) = N.1 (k) by rw [hS]; exact flat_f (by omega))) ?_
        refine r_if_leN X 75 dX11_count_60 (by decide) (by omega) (fun c_60 => ?_) (fun c_60 => ?_)
        · skip
          refine r_iconst (v := nI 0) X dX11_count_75 (by decide) ?_
          refine r_iorN X dX11_count_76 ?_
          refine r_top _ (nI (orF N.1 (k + 1))) (by show _ = nI (orF N.1 k ||| bt (N.1 k)); unfold bt; first | (rw [if_pos c_60]; done) | (rw [if_neg (by omega)])) ?_
          refine r_istore X dX11_count_77 (Nat.le_of_ble_eq_true rfl) ?_
          try dsimp only [List.set]
          first | refine r_iincN X dX11_count_79 rfl ?_ | refine r_iinc X _ dX11_count_79 rfl rfl ?_
          try dsimp only [List.set]
          refine r_goto X 13 dX11_count_82 (by decide) ?_
          exact ih (by omega)
        · skip
          refine r_iconst (v := nI 1) X dX11_count_63 (by decide) ?_
          refine r_aload_n X dX11_count_64 rfl ?_
          refine r_get (ci := 10) X 4 _ ti_RX11 rfl (by decide) tw_662 (fun _ h => h) dX11_count_65 (by first | exact m0 | exact m1 | exact m2 | exact m3 | exact m4 | exact m5 | exact m6 | exact m7 | exact m8 | exact m9 | assumption) rfl ?_
          refine r_iload X dX11_count_68 rfl ?_
          refine r_nald X _ dX11_count_70 (by first | exact m0 | exact m1 | exact m2 | exact m3 | exact m4 | exact m5 | exact m6 | exact m7 | exact m8 | exact m9 | assumption) (rfl) (by omega) (by decide) ?_
          refine r_top _ _ (congrArg nI (show B 4 (k) = N.1 (k) by rw [hS]; exact flat_f (by omega))) ?_
          refine r_ishl1N X dX11_count_71 (by omega) ?_
          refine r_goto X 76 dX11_count_72 (by decide) ?_
          refine r_iorN X dX11_count_76 ?_
          refine r_top _ (nI (orF N.1 (k + 1))) (by show _ = nI (orF N.1 k ||| bt (N.1 k)); unfold bt; first | (rw [if_pos c_60]; done) | (rw [if_neg (by omega)])) ?_
          refine r_istore X dX11_count_77 (Nat.le_of_ble_eq_true rfl) ?_
          try dsimp only [List.set]
          first | refine r_iincN X dX11_count_79 rfl ?_ | refine r_iinc X _ dX11_count_79 rfl rfl ?_
          try dsimp only [List.set]
          refine r_goto X 13 dX11_count_82 (by decide) ?_
          exact ih (by omega)
      · skip
        refine r_iconst (v := nI 1) X dX11_count_31 (by decide) ?_
        refine r_goto X 36 dX11_count_32 (by decide) ?_
        first | refine r_iaddN X dX11_count_36 ?_ | refine r_iadd X _ dX11_count_36 rfl ?_
        refine r_top _ (nI (cntF N.1 (k + 1))) (by show _ = nI (cntF N.1 k + (if N.1 k = 0 then 0 else 1)); first | (rw [if_pos c_28]; done) | (rw [if_neg (by omega)])) ?_
        refine r_istore_n X dX11_count_37 (Nat.le_of_ble_eq_true rfl) ?_
        try dsimp only [List.set]
        refine r_iload_n X dX11_count_38 rfl ?_
        refine r_aload_n X dX11_count_39 rfl ?_
        refine r_get (ci := 10) X 4 _ ti_RX11 rfl (by decide) tw_662 (fun _ h => h) dX11_count_40 (by first | exact m0 | exact m1 | exact m2 | exact m3 | exact m4 | exact m5 | exact m6 | exact m7 | exact m8 | exact m9 | assumption) rfl ?_
        refine r_bipush (v := nI 24) X dX11_count_43 (by decide) ?_
        refine r_iload X dX11_count_45 rfl ?_
        first | refine r_iaddN X dX11_count_47 ?_ | refine r_iadd X _ dX11_count_47 rfl ?_
        refine r_nald X _ dX11_count_48 (by first | exact m0 | exact m1 | exact m2 | exact m3 | exact m4 | exact m5 | exact m6 | exact m7 | exact m8 | exact m9 | assumption) (rfl) (by omega) (by decide) ?_
        refine r_top _ _ (congrArg nI (show B 4 (24 + (k)) = N.2.1 (k) by rw [hS]; exact flat_h (by omega))) ?_
        first | refine r_iaddN X dX11_count_49 ?_ | refine r_iadd X _ dX11_count_49 rfl ?_
        refine r_top _ (nI (sumF N.2.1 (k + 1))) (rfl) ?_
        refine r_istore_n X dX11_count_50 (Nat.le_of_ble_eq_true rfl) ?_
        try dsimp only [List.set]
        refine r_iload X dX11_count_51 rfl ?_
        refine r_aload_n X dX11_count_53 rfl ?_
        refine r_get (ci := 10) X 4 _ ti_RX11 rfl (by decide) tw_662 (fun _ h => h) dX11_count_54 (by first | exact m0 | exact m1 | exact m2 | exact m3 | exact m4 | exact m5 | exact m6 | exact m7 | exact m8 | exact m9 | assumption) rfl ?_
        refine r_iload X dX11_count_57 rfl ?_
        refine r_nald X _ dX11_count_59 (by first | exact m0 | exact m1 | exact m2 | exact m3 | exact m4 | exact m5 | exact m6 | exact m7 | exact m8 | exact m9 | assumption) (rfl) (by omega) (by decide) ?_
        refine r_top _ _ (congrArg nI (show B 4 (k) = N.1 (k) by rw [hS]; exact flat_f (by omega))) ?_
        refine r_if_leN X 75 dX11_count_60 (by decide) (by omega) (fun c_60 => ?_) (fun c_60 => ?_)
        · skip
          refine r_iconst (v := nI 0) X dX11_count_75 (by decide) ?_
          refine r_iorN X dX11_count_76 ?_
          refine r_top _ (nI (orF N.1 (k + 1))) (by show _ = nI (orF N.1 k ||| bt (N.1 k)); unfold bt; first | (rw [if_pos c_60]; done) | (rw [if_neg (by omega)])) ?_
          refine r_istore X dX11_count_77 (Nat.le_of_ble_eq_true rfl) ?_
          try dsimp only [List.set]
          first | refine r_iincN X dX11_count_79 rfl ?_ | refine r_iinc X _ dX11_count_79 rfl rfl ?_
          try dsimp only [List.set]
          refine r_goto X 13 dX11_count_82 (by decide) ?_
          exact ih (by omega)
        · skip
          refine r_iconst (v := nI 1) X dX11_count_63 (by decide) ?_
          refine r_aload_n X dX11_count_64 rfl ?_
          refine r_get (ci := 10) X 4 _ ti_RX11 rfl (by decide) tw_662 (fun _ h => h) dX11_count_65 (by first | exact m0 | exact m1 | exact m2 | exact m3 | exact m4 | exact m5 | exact m6 | exact m7 | exact m8 | exact m9 | assumption) rfl ?_
          refine r_iload X dX11_count_68 rfl ?_
          refine r_nald X _ dX11_count_70 (by first | exact m0 | exact m1 | exact m2 | exact m3 | exact m4 | exact m5 | exact m6 | exact m7 | exact m8 | exact m9 | assumption) (rfl) (by omega) (by decide) ?_
          refine r_top _ _ (congrArg nI (show B 4 (k) = N.1 (k) by rw [hS]; exact flat_f (by omega))) ?_
          refine r_ishl1N X dX11_count_71 (by omega) ?_
          refine r_goto X 76 dX11_count_72 (by decide) ?_
          refine r_iorN X dX11_count_76 ?_
          refine r_top _ (nI (orF N.1 (k + 1))) (by show _ = nI (orF N.1 k ||| bt (N.1 k)); unfold bt; first | (rw [if_pos c_60]; done) | (rw [if_neg (by omega)])) ?_
          refine r_istore X dX11_count_77 (Nat.le_of_ble_eq_true rfl) ?_
          try dsimp only [List.set]
          first | refine r_iincN X dX11_count_79 rfl ?_ | refine r_iinc X _ dX11_count_79 rfl rfl ?_
          try dsimp only [List.set]
          refine r_goto X 13 dX11_count_82 (by decide) ?_
          exact ih (by omega)
  exact hloop 0 (by decide)

def onF (a : Nat) : Nat → Nat
  | 0 => 0
  | k + 1 => onF a k + a / 2 ^ k % 2

set_option maxHeartbeats 4000000 in
set_option maxRecDepth 100000 in
/-- BanisterWordModel.ones  -/
theorem c_X11_ones (l : Launch) (E : xE) (g : hG) (n : Nat) (a : Nat) (ha : a < 2 ^ 31) : Ct l yX11_ones cX11_ones 3 (some .int) 0 0 0 0 E [.int (nI a)] (g) n (zr (some (.int (nI (onF a 12)))) (g) (n)) := by
  refine Ct.of (by decide +kernel) (Nat.le_of_ble_eq_true rfl) (fun v hv => by simp only [List.mem_cons, List.not_mem_nil, or_false] at hv; (try rcases hv with rfl) <;> first | rfl | (subst hv; rfl) | exact hv.elim) ?_
  intro K hKl S
  subst hKl
  have X := S.1
  refine r_iconst (v := nI 0) X dX11_ones_0 (by decide) ?_
  refine r_top _ (nI (onF a 0)) (rfl) ?_
  refine r_istore_n X dX11_ones_1 (Nat.le_of_ble_eq_true rfl) ?_
  try dsimp only [List.set]
  refine r_iconst (v := nI 0) X dX11_ones_2 (by decide) ?_
  refine r_istore_n X dX11_ones_3 (Nat.le_of_ble_eq_true rfl) ?_
  try dsimp only [List.set]
  have hloop : ∀ (k : Nat), k ≤ 12 → Wg K E (0) (0) 4 [some (.int (nI a)), some (.int (nI (onF a k))), some (.int (nI k))] [] (g) (n) := by
    refine ind_up _ (12) (fun k hk ih => ?_)
    refine r_iload_n X dX11_ones_4 rfl ?_
    refine r_bipush (v := nI 12) X dX11_ones_5 (by decide) ?_
    refine r_icmp_geN X 24 dX11_ones_7 (by decide) (by omega) (by omega) (fun c_7 => ?_) (fun c_7 => ?_)
    · skip
      refine r_iload_n X dX11_ones_24 rfl ?_
      refine r_iret S dX11_ones_25 ?_
      exact ⟨by rw [show k = 12 by omega], rfl, rfl⟩
    · skip
      refine r_iload_n X dX11_ones_10 rfl ?_
      refine r_iload_n X dX11_ones_11 rfl ?_
      refine r_iload_n X dX11_ones_12 rfl ?_
      refine r_ishrN X dX11_ones_13 (by omega) (by omega) ?_
      refine r_iconst (v := nI 1) X dX11_ones_14 (by decide) ?_
      refine r_iand1N X dX11_ones_15 (Nat.lt_of_le_of_lt (Nat.div_le_self _ _) (by omega)) ?_
      first | refine r_iaddN X dX11_ones_16 ?_ | refine r_iadd X _ dX11_ones_16 rfl ?_
      refine r_top _ (nI (onF a (k + 1))) (rfl) ?_
      refine r_istore_n X dX11_ones_17 (Nat.le_of_ble_eq_true rfl) ?_
      try dsimp only [List.set]
      first | refine r_iincN X dX11_ones_18 rfl ?_ | refine r_iinc X _ dX11_ones_18 rfl rfl ?_
      try dsimp only [List.set]
      refine r_goto X 4 dX11_ones_21 (by decide) ?_
      exact ih (by omega)
  exact hloop 0 (by decide)

