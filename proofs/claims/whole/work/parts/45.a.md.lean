set_option maxHeartbeats 4000000 in
set_option maxRecDepth 100000 in
/-- BanisterWordModel.hears  -/
theorem c_X11_hears (l : Launch) (E : xE) (g : hG) (n : Nat) (M : Nat) (u : Nat → Nat) (B : Nat → Nat → Nat) (T : hsT) (N : Mo) (x y : Int32) (hT : B 2 = tfl T) (hS : B 4 = flat N) (h0 : T.1 ≤ 12) (h1 : T.2.1 ≤ 6) (hP : ∀ i, i < T.2.1 → T.2.2.1 i < 4 ∧ T.2.2.2.1 i ≤ 9) (hN : ∀ j, N.1 j ≤ 7) : Ct l yX11_hears cX11_hears 3 (some .int) 2 46 0 0 E [.ref M, .int x, .int y] (mG E g M u B) n (zr (some (.int (hearsR T.1 T.2.1 T.2.2.1 N.1 x y))) (mG E g M u B) (n)) := by
  refine Ct.of (by decide +kernel) (Nat.le_of_ble_eq_true rfl) (fun v hv => by simp only [List.mem_cons, List.not_mem_nil, or_false] at hv; (try rcases hv with rfl | rfl | rfl) <;> first | rfl | (subst hv; rfl) | exact hv.elim) ?_
  intro K hKl S
  subst hKl
  have X := S.1
  refine r_aload_n X dX11_hears_0 rfl ?_
  refine r_iload_n X dX11_hears_1 rfl ?_
  refine r_callV (ci := 10) X rfl (c_X11_isPerson _ E g n M u B x (by rw [(show B 2 1 = T.2.1 by rw [hT]; rfl)]; omega)) tw_776 tw_778 tp_28 tw_7 tw_779 rfl rfl (by first | exact m0 | exact m1 | exact m2 | exact m3 | exact m4 | exact m5 | exact m6 | exact m7 | exact m8 | exact m9 | assumption) rfl ⟨ok_X11_isPerson, ⟨Nat.le_of_ble_eq_true rfl, Nat.le_of_ble_eq_true rfl⟩, ⟨Nat.le_of_ble_eq_true rfl, Nat.le_of_ble_eq_true rfl⟩, Nat.le_of_ble_eq_true rfl⟩ dX11_hears_2 (kk_r (Wf := Wg K E _ _ _ _) ?_)
  refine r_top _ _ (congrArg (fun q => bI (inR x q)) (show B 2 1 = T.2.1 by rw [hT]; rfl)) ?_
  refine r_if_eqB X 25 dX11_hears_5 (by decide) (fun c_5 => ?_) (fun c_5 => ?_)
  · skip
    refine r_bipush (v := (-2)) X dX11_hears_25 (by decide) ?_
    refine r_iret S dX11_hears_27 ?_
    refine ⟨?_, rfl, rfl⟩
    unfold hearsR
    first | (rw [if_pos ⟨c_5, c_13⟩, hix, hsx]; done) | (rw [if_neg (by simp [*])])
  · skip
    refine r_aload_n X dX11_hears_8 rfl ?_
    refine r_iload_n X dX11_hears_9 rfl ?_
    refine r_callV (ci := 10) X rfl (c_X11_isStep _ E g n M u B y (by rw [(show B 2 0 = T.1 by rw [hT]; rfl)]; omega)) tw_784 tw_786 tp_29 tw_7 tw_787 rfl rfl (by first | exact m0 | exact m1 | exact m2 | exact m3 | exact m4 | exact m5 | exact m6 | exact m7 | exact m8 | exact m9 | assumption) rfl ⟨ok_X11_isStep, ⟨Nat.le_of_ble_eq_true rfl, Nat.le_of_ble_eq_true rfl⟩, ⟨Nat.le_of_ble_eq_true rfl, Nat.le_of_ble_eq_true rfl⟩, Nat.le_of_ble_eq_true rfl⟩ dX11_hears_10 (kk_r (Wf := Wg K E _ _ _ _) ?_)
    refine r_top _ _ (congrArg (fun q => bI (inR y q)) (show B 2 0 = T.1 by rw [hT]; rfl)) ?_
    refine r_if_eqB X 25 dX11_hears_13 (by decide) (fun c_13 => ?_) (fun c_13 => ?_)
    · skip
      refine r_bipush (v := (-2)) X dX11_hears_25 (by decide) ?_
      refine r_iret S dX11_hears_27 ?_
      refine ⟨?_, rfl, rfl⟩
      unfold hearsR
      first | (rw [if_pos ⟨c_5, c_13⟩, hix, hsx]; done) | (rw [if_neg (by simp [*])])
    · skip
      obtain ⟨i, hi, rfl⟩ := inR_ex (by omega) c_5
      have hix : ix (nI i) = i := ix_nI (by omega)
      obtain ⟨s, hs, rfl⟩ := inR_ex (by omega) c_13
      have hsx : ix (nI s) = s := ix_nI (by omega)
      refine r_aload_n X dX11_hears_16 rfl ?_
      refine r_iload_n X dX11_hears_17 rfl ?_
      refine r_iload_n X dX11_hears_18 rfl ?_
      refine r_callV (ci := 10) X rfl (c_X11_heard _ E g n M u B T N i s hT hS h0 h1 hP hN hi (by omega)) tw_827 tw_829 tp_36 tw_7 tw_830 rfl rfl (by first | exact m0 | exact m1 | exact m2 | exact m3 | exact m4 | exact m5 | exact m6 | exact m7 | exact m8 | exact m9 | assumption) rfl ⟨ok_X11_heard, ⟨Nat.le_of_ble_eq_true rfl, Nat.le_of_ble_eq_true rfl⟩, ⟨Nat.le_of_ble_eq_true rfl, Nat.le_of_ble_eq_true rfl⟩, Nat.le_of_ble_eq_true rfl⟩ dX11_hears_19 (kk_r (Wf := Wg K E _ _ _ _) ?_)
      refine r_goto X 27 dX11_hears_22 (by decide) ?_
      refine r_iret S dX11_hears_27 ?_
      refine ⟨?_, rfl, rfl⟩
      unfold hearsR
      first | (rw [if_pos ⟨c_5, c_13⟩, hix, hsx]; done) | (rw [if_neg (by simp [*])])

set_option maxHeartbeats 4000000 in
set_option maxRecDepth 100000 in
/-- BanisterWordModel.lasts  -/
theorem c_X11_lasts (l : Launch) (E : xE) (g : hG) (n : Nat) (M : Nat) (u : Nat → Nat) (B : Nat → Nat → Nat) (N : Mo) (x : Int32) (hS : B 4 = flat N) (hN : ∀ j, N.1 j ≤ 7) (hN9 : ∀ j, N.2.1 j ≤ 99) : Ct l yX11_lasts cX11_lasts 4 (some .int) 2 42 0 0 E [.ref M, .int x] (mG E g M u B) n (zr (some (.int (lastsR N.1 N.2.1 x))) (mG E g M u B) (n)) := by
  refine Ct.of (by decide +kernel) (Nat.le_of_ble_eq_true rfl) (fun v hv => by simp only [List.mem_cons, List.not_mem_nil, or_false] at hv; (try rcases hv with rfl | rfl) <;> first | rfl | (subst hv; rfl) | exact hv.elim) ?_
  intro K hKl S
  subst hKl
  have X := S.1
  refine r_iload_n X dX11_lasts_0 rfl ?_
  refine r_callS X rfl (c_X11_isSaying _ E _ n x) tw_800 tw_801 tw_7 tw_802 rfl ⟨ok_X11_isSaying, ⟨Nat.le_of_ble_eq_true rfl, Nat.le_of_ble_eq_true rfl⟩, ⟨Nat.le_of_ble_eq_true rfl, Nat.le_of_ble_eq_true rfl⟩, Nat.le_of_ble_eq_true rfl⟩ dX11_lasts_1 (kk_r (Wf := Wg K E _ _ _ _) ?_)
  refine r_if_neB X 10 dX11_lasts_4 (by decide) (fun c_4 => ?_) (fun c_4 => ?_)
  · skip
    obtain ⟨t, ht0, ht, rfl⟩ := sayB_ex c_4
    have htx : ix (nI t) = t := ix_nI (by omega)
    refine r_iconst (v := nI 0) X dX11_lasts_10 (by decide) ?_
    refine r_top _ (nI (mxF N.1 N.2.1 t 0)) (rfl) ?_
    refine r_istore_n X dX11_lasts_11 (Nat.le_of_ble_eq_true rfl) ?_
    try dsimp only [List.set]
    refine r_iconst (v := nI 0) X dX11_lasts_12 (by decide) ?_
    refine r_istore_n X dX11_lasts_13 (Nat.le_of_ble_eq_true rfl) ?_
    try dsimp only [List.set]
    have hloop : ∀ (k : Nat), k ≤ 24 → Wg K E (0) (0) 14 [some (.ref M), some (.int (nI t)), some (.int (nI (mxF N.1 N.2.1 t k))), some (.int (nI k))] [] (mG E g M u B) (n) := by
      refine ind_up _ (24) (fun k hk ih => ?_)
      have h7 := hN k
      have h99 := hN9 k
      have hmx := mxF_le (f := N.1) hN9 t k
      refine r_iload_n X dX11_lasts_14 rfl ?_
      refine r_bipush (v := nI 24) X dX11_lasts_15 (by decide) ?_
      refine r_icmp_geN X 63 dX11_lasts_17 (by decide) (by omega) (by omega) (fun c_17 => ?_) (fun c_17 => ?_)
      · skip
        refine r_iload_n X dX11_lasts_63 rfl ?_
        refine r_iret S dX11_lasts_64 ?_
        refine ⟨?_, rfl, rfl⟩
        rw [show k = 2 * 12 by omega, mxF_2]
        unfold lastsR; rw [if_pos c_4, htx]
      · skip
        refine r_aload_n X dX11_lasts_20 rfl ?_
        refine r_get (ci := 10) X 4 _ ti_RX11 rfl (by decide) tw_662 (fun _ h => h) dX11_lasts_21 (by first | exact m0 | exact m1 | exact m2 | exact m3 | exact m4 | exact m5 | exact m6 | exact m7 | exact m8 | exact m9 | assumption) rfl ?_
        refine r_iload_n X dX11_lasts_24 rfl ?_
        refine r_nald X _ dX11_lasts_25 (by first | exact m0 | exact m1 | exact m2 | exact m3 | exact m4 | exact m5 | exact m6 | exact m7 | exact m8 | exact m9 | assumption) (rfl) (by omega) (by decide) ?_
        refine r_top _ _ (congrArg nI (show B 4 (k) = N.1 (k) by rw [hS]; exact flat_f (by omega))) ?_
        refine r_iload_n X dX11_lasts_26 rfl ?_
        refine r_icmp_neN X 55 dX11_lasts_27 (by decide) (by omega) (by omega) (fun c_27 => ?_) (fun c_27 => ?_)
        · skip
          refine r_iload_n X dX11_lasts_55 rfl ?_
          refine r_top _ (nI (mxF N.1 N.2.1 t (k + 1))) (by show _ = nI (if N.1 k = t then max (mxF N.1 N.2.1 t k) (N.2.1 k) else mxF N.1 N.2.1 t k); first | (rw [if_neg c_27]; done) | (rw [if_pos c_27, Nat.max_eq_left (by omega)]; done) | (rw [if_pos c_27, Nat.max_eq_right (by omega)])) ?_
          refine r_istore_n X dX11_lasts_56 (Nat.le_of_ble_eq_true rfl) ?_
          try dsimp only [List.set]
          first | refine r_iincN X dX11_lasts_57 rfl ?_ | refine r_iinc X _ dX11_lasts_57 rfl rfl ?_
          try dsimp only [List.set]
          refine r_goto X 14 dX11_lasts_60 (by decide) ?_
          exact ih (by omega)
        · skip
          refine r_aload_n X dX11_lasts_30 rfl ?_
          refine r_get (ci := 10) X 4 _ ti_RX11 rfl (by decide) tw_662 (fun _ h => h) dX11_lasts_31 (by first | exact m0 | exact m1 | exact m2 | exact m3 | exact m4 | exact m5 | exact m6 | exact m7 | exact m8 | exact m9 | assumption) rfl ?_
          refine r_bipush (v := nI 24) X dX11_lasts_34 (by decide) ?_
          refine r_iload_n X dX11_lasts_36 rfl ?_
          first | refine r_iaddN X dX11_lasts_37 ?_ | refine r_iadd X _ dX11_lasts_37 rfl ?_
          refine r_nald X _ dX11_lasts_38 (by first | exact m0 | exact m1 | exact m2 | exact m3 | exact m4 | exact m5 | exact m6 | exact m7 | exact m8 | exact m9 | assumption) (rfl) (by omega) (by decide) ?_
          refine r_top _ _ (congrArg nI (show B 4 (24 + (k)) = N.2.1 (k) by rw [hS]; exact flat_h (by omega))) ?_
          refine r_iload_n X dX11_lasts_39 rfl ?_
          refine r_icmp_leN X 55 dX11_lasts_40 (by decide) (by omega) (by omega) (fun c_40 => ?_) (fun c_40 => ?_)
          · skip
            refine r_iload_n X dX11_lasts_55 rfl ?_
            refine r_top _ (nI (mxF N.1 N.2.1 t (k + 1))) (by show _ = nI (if N.1 k = t then max (mxF N.1 N.2.1 t k) (N.2.1 k) else mxF N.1 N.2.1 t k); first | (rw [if_neg c_27]; done) | (rw [if_pos c_27, Nat.max_eq_left (by omega)]; done) | (rw [if_pos c_27, Nat.max_eq_right (by omega)])) ?_
            refine r_istore_n X dX11_lasts_56 (Nat.le_of_ble_eq_true rfl) ?_
            try dsimp only [List.set]
            first | refine r_iincN X dX11_lasts_57 rfl ?_ | refine r_iinc X _ dX11_lasts_57 rfl rfl ?_
            try dsimp only [List.set]
            refine r_goto X 14 dX11_lasts_60 (by decide) ?_
            exact ih (by omega)
          · skip
            refine r_aload_n X dX11_lasts_43 rfl ?_
            refine r_get (ci := 10) X 4 _ ti_RX11 rfl (by decide) tw_662 (fun _ h => h) dX11_lasts_44 (by first | exact m0 | exact m1 | exact m2 | exact m3 | exact m4 | exact m5 | exact m6 | exact m7 | exact m8 | exact m9 | assumption) rfl ?_
            refine r_bipush (v := nI 24) X dX11_lasts_47 (by decide) ?_
            refine r_iload_n X dX11_lasts_49 rfl ?_
            first | refine r_iaddN X dX11_lasts_50 ?_ | refine r_iadd X _ dX11_lasts_50 rfl ?_
            refine r_nald X _ dX11_lasts_51 (by first | exact m0 | exact m1 | exact m2 | exact m3 | exact m4 | exact m5 | exact m6 | exact m7 | exact m8 | exact m9 | assumption) (rfl) (by omega) (by decide) ?_
            refine r_top _ _ (congrArg nI (show B 4 (24 + (k)) = N.2.1 (k) by rw [hS]; exact flat_h (by omega))) ?_
            refine r_goto X 56 dX11_lasts_52 (by decide) ?_
            refine r_top _ (nI (mxF N.1 N.2.1 t (k + 1))) (by show _ = nI (if N.1 k = t then max (mxF N.1 N.2.1 t k) (N.2.1 k) else mxF N.1 N.2.1 t k); first | (rw [if_neg c_27]; done) | (rw [if_pos c_27, Nat.max_eq_left (by omega)]; done) | (rw [if_pos c_27, Nat.max_eq_right (by omega)])) ?_
            refine r_istore_n X dX11_lasts_56 (Nat.le_of_ble_eq_true rfl) ?_
            try dsimp only [List.set]
            first | refine r_iincN X dX11_lasts_57 rfl ?_ | refine r_iinc X _ dX11_lasts_57 rfl rfl ?_
            try dsimp only [List.set]
            refine r_goto X 14 dX11_lasts_60 (by decide) ?_
            exact ih (by omega)
    exact hloop 0 (by decide)
  · skip
    refine r_bipush (v := (-2)) X dX11_lasts_7 (by decide) ?_
    refine r_iret S dX11_lasts_9 ?_
    exact ⟨by simp [lastsR, c_4], rfl, rfl⟩

set_option maxHeartbeats 4000000 in
set_option maxRecDepth 100000 in
/-- BanisterWordModel.cover  -/
theorem c_X11_cover (l : Launch) (E : xE) (g : hG) (n : Nat) (M : Nat) (u : Nat → Nat) (B : Nat → Nat → Nat) (T : hsT) (N : Mo) (x y : Int32) (hT : B 2 = tfl T) (hS : B 4 = flat N) (h0 : T.1 ≤ 12) (h1 : T.2.1 ≤ 6) (hP : ∀ i, i < T.2.1 → T.2.2.1 i < 4 ∧ T.2.2.2.1 i ≤ 9) (hN : ∀ j, N.1 j ≤ 7) (hN9 : ∀ j, N.2.1 j ≤ 99) : Ct l yX11_cover cX11_cover 6 (some .int) 2 43 0 0 E [.ref M, .int x, .int y] (mG E g M u B) n (zr (some (.int (coverR T.1 T.2.1 T.2.2.1 T.2.2.2.1 N.1 N.2.1 x y))) (mG E g M u B) (n)) := by
  refine Ct.of (by decide +kernel) (Nat.le_of_ble_eq_true rfl) (fun v hv => by simp only [List.mem_cons, List.not_mem_nil, or_false] at hv; (try rcases hv with rfl | rfl | rfl) <;> first | rfl | (subst hv; rfl) | exact hv.elim) ?_
  intro K hKl S
  subst hKl
  have X := S.1
  refine r_aload_n X dX11_cover_0 rfl ?_
  refine r_iload_n X dX11_cover_1 rfl ?_
  refine r_callV (ci := 10) X rfl (c_X11_isStep _ E g n M u B x (by rw [(show B 2 0 = T.1 by rw [hT]; rfl)]; omega)) tw_784 tw_786 tp_29 tw_7 tw_787 rfl rfl (by first | exact m0 | exact m1 | exact m2 | exact m3 | exact m4 | exact m5 | exact m6 | exact m7 | exact m8 | exact m9 | assumption) rfl ⟨ok_X11_isStep, ⟨Nat.le_of_ble_eq_true rfl, Nat.le_of_ble_eq_true rfl⟩, ⟨Nat.le_of_ble_eq_true rfl, Nat.le_of_ble_eq_true rfl⟩, Nat.le_of_ble_eq_true rfl⟩ dX11_cover_2 (kk_r (Wf := Wg K E _ _ _ _) ?_)
  refine r_top _ _ (congrArg (fun q => bI (inR x q)) (show B 2 0 = T.1 by rw [hT]; rfl)) ?_
  refine r_if_eqB X 17 dX11_cover_5 (by decide) (fun c_5 => ?_) (fun c_5 => ?_)
  · skip
    refine r_bipush (v := (-2)) X dX11_cover_17 (by decide) ?_
    refine r_iret S dX11_cover_19 ?_
    exact ⟨by unfold coverR; rw [if_neg (by simp [*])], rfl, rfl⟩
  · skip
    refine r_iload_n X dX11_cover_8 rfl ?_
    refine r_iconst (v := nI 0) X dX11_cover_9 (by decide) ?_
    refine r_iconst (v := nI 1) X dX11_cover_10 (by decide) ?_
    refine r_callS X rfl (c_X11_in _ E _ n _ _ _) tw_711 tw_712 tw_7 tw_713 rfl ⟨ok_X11_in, ⟨Nat.le_of_ble_eq_true rfl, Nat.le_of_ble_eq_true rfl⟩, ⟨Nat.le_of_ble_eq_true rfl, Nat.le_of_ble_eq_true rfl⟩, Nat.le_of_ble_eq_true rfl⟩ dX11_cover_11 (kk_r (Wf := Wg K E _ _ _ _) ?_)
    refine r_top _ _ (congrArg bI (inQ_c 1 (by decide))) ?_
    refine r_if_neB X 20 dX11_cover_14 (by decide) (fun c_14 => ?_) (fun c_14 => ?_)
    · skip
      obtain ⟨s, hs, rfl⟩ := inR_ex (by omega) c_5
      have hsx : ix (nI s) = s := ix_nI (by omega)
      obtain ⟨t, ht, rfl⟩ := inR_ex (by omega) c_14
      have htx : ix (nI t) = t := ix_nI (by omega)
      have hst : s * 2 + t = 2 * s + t := by omega
      have h7 := hN (2 * s + t)
      have h99 := hN9 (2 * s + t)
      refine r_iconst (v := nI 2) X dX11_cover_20 (by decide) ?_
      refine r_iload_n X dX11_cover_21 rfl ?_
      first | refine r_imulN X dX11_cover_22 ?_ | refine r_imul X _ dX11_cover_22 rfl ?_
      refine r_iload_n X dX11_cover_23 rfl ?_
      first | refine r_iaddN X dX11_cover_24 ?_ | refine r_iadd X _ dX11_cover_24 rfl ?_
      refine r_istore_n X dX11_cover_25 (Nat.le_of_ble_eq_true rfl) ?_
      try dsimp only [List.set]
      refine r_iconst (v := nI 0) X dX11_cover_26 (by decide) ?_
      refine r_top _ (nI (if N.1 (2 * s + t) = 0 then 0 else covF T.2.2.1 T.2.2.2.1 t (N.2.1 (2 * s + t)) (0))) (by split <;> rfl) ?_
      refine r_istore X dX11_cover_27 (Nat.le_of_ble_eq_true rfl) ?_
      try dsimp only [List.set]
      refine r_iconst (v := nI 0) X dX11_cover_29 (by decide) ?_
      refine r_istore X dX11_cover_30 (Nat.le_of_ble_eq_true rfl) ?_
      try dsimp only [List.set]
      have hloop : ∀ (k : Nat), k ≤ T.2.1 → Wg K E (0) (0) 32 [some (.ref M), some (.int (nI s)), some (.int (nI t)), some (.int (nI (2 * s + t))), some (.int (nI (if N.1 (2 * s + t) = 0 then 0 else covF T.2.2.1 T.2.2.2.1 t (N.2.1 (2 * s + t)) (k)))), some (.int (nI k))] [] (mG E g M u B) (n) := by
        refine ind_up _ (T.2.1) (fun k hk ih => ?_)
        refine r_iload X dX11_cover_32 rfl ?_
        refine r_aload_n X dX11_cover_34 rfl ?_
        refine r_get (ci := 10) X 2 _ ti_RX11 rfl (by decide) tw_660 (fun _ h => h) dX11_cover_35 (by first | exact m0 | exact m1 | exact m2 | exact m3 | exact m4 | exact m5 | exact m6 | exact m7 | exact m8 | exact m9 | assumption) rfl ?_
        refine r_iconst (v := nI 1) X dX11_cover_38 (by decide) ?_
        refine r_nald X _ dX11_cover_39 (by first | exact m0 | exact m1 | exact m2 | exact m3 | exact m4 | exact m5 | exact m6 | exact m7 | exact m8 | exact m9 | assumption) (rfl) (by omega) (by decide) ?_
        refine r_top _ _ (congrArg nI (show B 2 1 = T.2.1 by rw [hT]; rfl)) ?_
        refine r_icmp_geN X 99 dX11_cover_40 (by decide) (by omega) (by omega) (fun c_40 => ?_) (fun c_40 => ?_)
        · skip
          refine r_iload X dX11_cover_99 rfl ?_
          refine r_iret S dX11_cover_101 ?_
          refine ⟨?_, rfl, rfl⟩
          rw [show k = T.2.1 by omega]
          unfold coverR; rw [if_pos (show inR (nI s) T.1 = true ∧ inR (nI t) 2 = true from ⟨c_5, c_14⟩), hsx, htx, hst]
          split <;> rfl
        · skip
          have hhd := handN_le (T.2.2.1 k)
          have hfm := firmN_le (T.2.2.1 k) (T.2.2.2.1 k)
          have hw9 := (hP k (by omega)).2
          refine r_iload X dX11_cover_43 rfl ?_
          refine r_aload_n X dX11_cover_45 rfl ?_
          refine r_get (ci := 10) X 4 _ ti_RX11 rfl (by decide) tw_662 (fun _ h => h) dX11_cover_46 (by first | exact m0 | exact m1 | exact m2 | exact m3 | exact m4 | exact m5 | exact m6 | exact m7 | exact m8 | exact m9 | assumption) rfl ?_
          refine r_iload_n X dX11_cover_49 rfl ?_
          refine r_nald X _ dX11_cover_50 (by first | exact m0 | exact m1 | exact m2 | exact m3 | exact m4 | exact m5 | exact m6 | exact m7 | exact m8 | exact m9 | assumption) (rfl) (by omega) (by decide) ?_
          refine r_top _ _ (congrArg nI (show B 4 (2 * s + t) = N.1 (2 * s + t) by rw [hS]; exact flat_f (by omega))) ?_
          refine r_if_leN X 89 dX11_cover_51 (by decide) (by omega) (fun c_51 => ?_) (fun c_51 => ?_)
          · skip
            refine r_iconst (v := nI 0) X dX11_cover_89 (by decide) ?_
            refine r_iorN X dX11_cover_90 ?_
            refine r_top _ (nI (if N.1 (2 * s + t) = 0 then 0 else covF T.2.2.1 T.2.2.2.1 t (N.2.1 (2 * s + t)) (k + 1))) (by show _ = nI (if N.1 (2 * s + t) = 0 then 0 else covF T.2.2.1 T.2.2.2.1 t (N.2.1 (2 * s + t)) k ||| (if handN (T.2.2.1 k) = t ∧ N.2.1 (2 * s + t) ≤ firmN (T.2.2.1 k) (T.2.2.2.1 k) then 2 ^ k else 0)); first | (rw [if_pos c_51, if_pos c_51]; rfl) | (rw [if_neg (show ¬ N.1 (2 * s + t) = 0 by omega), if_neg (show ¬ N.1 (2 * s + t) = 0 by omega), if_neg (fun h => c_61 h.1)]; done) | (rw [if_neg (show ¬ N.1 (2 * s + t) = 0 by omega), if_neg (show ¬ N.1 (2 * s + t) = 0 by omega), if_neg (fun h => absurd h.2 (by omega))]; done) | (rw [if_neg (show ¬ N.1 (2 * s + t) = 0 by omega), if_neg (show ¬ N.1 (2 * s + t) = 0 by omega), if_pos ⟨c_61, by omega⟩])) ?_
            refine r_istore X dX11_cover_91 (Nat.le_of_ble_eq_true rfl) ?_
            try dsimp only [List.set]
            first | refine r_iincN X dX11_cover_93 rfl ?_ | refine r_iinc X _ dX11_cover_93 rfl rfl ?_
            try dsimp only [List.set]
            refine r_goto X 32 dX11_cover_96 (by decide) ?_
            exact ih (by omega)
          · skip
            refine r_aload_n X dX11_cover_54 rfl ?_
            refine r_iload X dX11_cover_55 rfl ?_
            refine r_callV (ci := 10) X rfl (c_X11_handOf _ E g n M u B T k hT (by omega)) tw_811 tw_813 tp_33 tw_7 tw_814 rfl rfl (by first | exact m0 | exact m1 | exact m2 | exact m3 | exact m4 | exact m5 | exact m6 | exact m7 | exact m8 | exact m9 | assumption) rfl ⟨ok_X11_handOf, ⟨Nat.le_of_ble_eq_true rfl, Nat.le_of_ble_eq_true rfl⟩, ⟨Nat.le_of_ble_eq_true rfl, Nat.le_of_ble_eq_true rfl⟩, Nat.le_of_ble_eq_true rfl⟩ dX11_cover_57 (kk_r (Wf := Wg K E _ _ _ _) ?_)
            refine r_iload_n X dX11_cover_60 rfl ?_
            refine r_icmp_neN X 89 dX11_cover_61 (by decide) (by omega) (by omega) (fun c_61 => ?_) (fun c_61 => ?_)
            · skip
              refine r_iconst (v := nI 0) X dX11_cover_89 (by decide) ?_
              refine r_iorN X dX11_cover_90 ?_
              refine r_top _ (nI (if N.1 (2 * s + t) = 0 then 0 else covF T.2.2.1 T.2.2.2.1 t (N.2.1 (2 * s + t)) (k + 1))) (by show _ = nI (if N.1 (2 * s + t) = 0 then 0 else covF T.2.2.1 T.2.2.2.1 t (N.2.1 (2 * s + t)) k ||| (if handN (T.2.2.1 k) = t ∧ N.2.1 (2 * s + t) ≤ firmN (T.2.2.1 k) (T.2.2.2.1 k) then 2 ^ k else 0)); first | (rw [if_pos c_51, if_pos c_51]; rfl) | (rw [if_neg (show ¬ N.1 (2 * s + t) = 0 by omega), if_neg (show ¬ N.1 (2 * s + t) = 0 by omega), if_neg (fun h => c_61 h.1)]; done) | (rw [if_neg (show ¬ N.1 (2 * s + t) = 0 by omega), if_neg (show ¬ N.1 (2 * s + t) = 0 by omega), if_neg (fun h => absurd h.2 (by omega))]; done) | (rw [if_neg (show ¬ N.1 (2 * s + t) = 0 by omega), if_neg (show ¬ N.1 (2 * s + t) = 0 by omega), if_pos ⟨c_61, by omega⟩])) ?_
              refine r_istore X dX11_cover_91 (Nat.le_of_ble_eq_true rfl) ?_
              try dsimp only [List.set]
              first | refine r_iincN X dX11_cover_93 rfl ?_ | refine r_iinc X _ dX11_cover_93 rfl rfl ?_
              try dsimp only [List.set]
              refine r_goto X 32 dX11_cover_96 (by decide) ?_
              exact ih (by omega)
            · skip
              refine r_aload_n X dX11_cover_64 rfl ?_
              refine r_iload X dX11_cover_65 rfl ?_
              refine r_callV (ci := 10) X rfl (c_X11_warmOf _ E g n M u B T k hT (by omega) (hP k (by omega)).1 (by have := (hP k (by omega)).2; omega)) tw_792 tw_794 tp_30 tw_7 tw_795 rfl rfl (by first | exact m0 | exact m1 | exact m2 | exact m3 | exact m4 | exact m5 | exact m6 | exact m7 | exact m8 | exact m9 | assumption) rfl ⟨ok_X11_warmOf, ⟨Nat.le_of_ble_eq_true rfl, Nat.le_of_ble_eq_true rfl⟩, ⟨Nat.le_of_ble_eq_true rfl, Nat.le_of_ble_eq_true rfl⟩, Nat.le_of_ble_eq_true rfl⟩ dX11_cover_67 (kk_r (Wf := Wg K E _ _ _ _) ?_)
              refine r_aload_n X dX11_cover_70 rfl ?_
              refine r_get (ci := 10) X 4 _ ti_RX11 rfl (by decide) tw_662 (fun _ h => h) dX11_cover_71 (by first | exact m0 | exact m1 | exact m2 | exact m3 | exact m4 | exact m5 | exact m6 | exact m7 | exact m8 | exact m9 | assumption) rfl ?_
              refine r_bipush (v := nI 24) X dX11_cover_74 (by decide) ?_
              refine r_iload_n X dX11_cover_76 rfl ?_
              first | refine r_iaddN X dX11_cover_77 ?_ | refine r_iadd X _ dX11_cover_77 rfl ?_
              refine r_nald X _ dX11_cover_78 (by first | exact m0 | exact m1 | exact m2 | exact m3 | exact m4 | exact m5 | exact m6 | exact m7 | exact m8 | exact m9 | assumption) (rfl) (by omega) (by decide) ?_
              refine r_top _ _ (congrArg nI (show B 4 (24 + (2 * s + t)) = N.2.1 (2 * s + t) by rw [hS]; exact flat_h (by omega))) ?_
              refine r_icmp_ltN X 89 dX11_cover_79 (by decide) (by omega) (by omega) (fun c_79 => ?_) (fun c_79 => ?_)
              · skip
                refine r_iconst (v := nI 0) X dX11_cover_89 (by decide) ?_
                refine r_iorN X dX11_cover_90 ?_
                refine r_top _ (nI (if N.1 (2 * s + t) = 0 then 0 else covF T.2.2.1 T.2.2.2.1 t (N.2.1 (2 * s + t)) (k + 1))) (by show _ = nI (if N.1 (2 * s + t) = 0 then 0 else covF T.2.2.1 T.2.2.2.1 t (N.2.1 (2 * s + t)) k ||| (if handN (T.2.2.1 k) = t ∧ N.2.1 (2 * s + t) ≤ firmN (T.2.2.1 k) (T.2.2.2.1 k) then 2 ^ k else 0)); first | (rw [if_pos c_51, if_pos c_51]; rfl) | (rw [if_neg (show ¬ N.1 (2 * s + t) = 0 by omega), if_neg (show ¬ N.1 (2 * s + t) = 0 by omega), if_neg (fun h => c_61 h.1)]; done) | (rw [if_neg (show ¬ N.1 (2 * s + t) = 0 by omega), if_neg (show ¬ N.1 (2 * s + t) = 0 by omega), if_neg (fun h => absurd h.2 (by omega))]; done) | (rw [if_neg (show ¬ N.1 (2 * s + t) = 0 by omega), if_neg (show ¬ N.1 (2 * s + t) = 0 by omega), if_pos ⟨c_61, by omega⟩])) ?_
                refine r_istore X dX11_cover_91 (Nat.le_of_ble_eq_true rfl) ?_
                try dsimp only [List.set]
                first | refine r_iincN X dX11_cover_93 rfl ?_ | refine r_iinc X _ dX11_cover_93 rfl rfl ?_
                try dsimp only [List.set]
                refine r_goto X 32 dX11_cover_96 (by decide) ?_
                exact ih (by omega)
              · skip
                refine r_iconst (v := nI 1) X dX11_cover_82 (by decide) ?_
                refine r_iload X dX11_cover_83 rfl ?_
                refine r_ishl1N X dX11_cover_85 (by omega) ?_
                refine r_goto X 90 dX11_cover_86 (by decide) ?_
                refine r_iorN X dX11_cover_90 ?_
                refine r_top _ (nI (if N.1 (2 * s + t) = 0 then 0 else covF T.2.2.1 T.2.2.2.1 t (N.2.1 (2 * s + t)) (k + 1))) (by show _ = nI (if N.1 (2 * s + t) = 0 then 0 else covF T.2.2.1 T.2.2.2.1 t (N.2.1 (2 * s + t)) k ||| (if handN (T.2.2.1 k) = t ∧ N.2.1 (2 * s + t) ≤ firmN (T.2.2.1 k) (T.2.2.2.1 k) then 2 ^ k else 0)); first | (rw [if_pos c_51, if_pos c_51]; rfl) | (rw [if_neg (show ¬ N.1 (2 * s + t) = 0 by omega), if_neg (show ¬ N.1 (2 * s + t) = 0 by omega), if_neg (fun h => c_61 h.1)]; done) | (rw [if_neg (show ¬ N.1 (2 * s + t) = 0 by omega), if_neg (show ¬ N.1 (2 * s + t) = 0 by omega), if_neg (fun h => absurd h.2 (by omega))]; done) | (rw [if_neg (show ¬ N.1 (2 * s + t) = 0 by omega), if_neg (show ¬ N.1 (2 * s + t) = 0 by omega), if_pos ⟨c_61, by omega⟩])) ?_
                refine r_istore X dX11_cover_91 (Nat.le_of_ble_eq_true rfl) ?_
                try dsimp only [List.set]
                first | refine r_iincN X dX11_cover_93 rfl ?_ | refine r_iinc X _ dX11_cover_93 rfl rfl ?_
                try dsimp only [List.set]
                refine r_goto X 32 dX11_cover_96 (by decide) ?_
                exact ih (by omega)
      exact hloop 0 (Nat.zero_le _)
    · skip
      refine r_bipush (v := (-2)) X dX11_cover_17 (by decide) ?_
      refine r_iret S dX11_cover_19 ?_
      exact ⟨by unfold coverR; rw [if_neg (by simp [*])], rfl, rfl⟩

set_option maxHeartbeats 4000000 in
set_option maxRecDepth 100000 in
/-- BanisterWordModel.seen  -/
theorem c_X11_seen (l : Launch) (E : xE) (g : hG) (n : Nat) (M : Nat) (u : Nat → Nat) (B : Nat → Nat → Nat) (T : hsT) (x y z w : Int32) (hT : B 2 = tfl T) (h0 : T.1 ≤ 12) (h1 : T.2.1 ≤ 6) (h2 : u 2 ≤ 6) : Ct l yX11_seen cX11_seen 5 (some .int) 2 43 0 0 E [.ref M, .int x, .int y, .int z, .int w] (mG E g M u B) n (zr (some (.int (seenR T.1 T.2.1 (u 2) x y z w))) (if (inR x T.2.1 = true ∧ inR y T.1 = true ∧ sayB z = true) ∧ inR w 2 = true ∧ u 2 < 6 then mG E g M (va_up u 2 (u 2 + 1)) (va_up B 8 (va_up (B 8) (u 2) (1000 * ix x + 20 * (10 * ix w + ix z) + ix y))) else mG E g M u B) (n)) := by
  refine Ct.of (by decide +kernel) (Nat.le_of_ble_eq_true rfl) (fun v hv => by simp only [List.mem_cons, List.not_mem_nil, or_false] at hv; (try rcases hv with rfl | rfl | rfl | rfl | rfl) <;> first | rfl | (subst hv; rfl) | exact hv.elim) ?_
  intro K hKl S
  subst hKl
  have X := S.1
  refine r_aload_n X dX11_seen_0 rfl ?_
  refine r_iload_n X dX11_seen_1 rfl ?_
  refine r_callV (ci := 10) X rfl (c_X11_isPerson _ E g n M u B x (by rw [(show B 2 1 = T.2.1 by rw [hT]; rfl)]; omega)) tw_776 tw_778 tp_28 tw_7 tw_779 rfl rfl (by first | exact m0 | exact m1 | exact m2 | exact m3 | exact m4 | exact m5 | exact m6 | exact m7 | exact m8 | exact m9 | assumption) rfl ⟨ok_X11_isPerson, ⟨Nat.le_of_ble_eq_true rfl, Nat.le_of_ble_eq_true rfl⟩, ⟨Nat.le_of_ble_eq_true rfl, Nat.le_of_ble_eq_true rfl⟩, Nat.le_of_ble_eq_true rfl⟩ dX11_seen_2 (kk_r (Wf := Wg K E _ _ _ _) ?_)
  refine r_top _ _ (congrArg (fun q => bI (inR x q)) (show B 2 1 = T.2.1 by rw [hT]; rfl)) ?_
  refine r_if_eqB X 23 dX11_seen_5 (by decide) (fun c_5 => ?_) (fun c_5 => ?_)
  · skip
    refine r_bipush (v := (-2)) X dX11_seen_23 (by decide) ?_
    refine r_iret S dX11_seen_25 ?_
    exact ⟨by unfold seenR; rw [if_neg (by simp [*])], by rw [if_neg (by simp [*])], rfl⟩
  · skip
    refine r_aload_n X dX11_seen_8 rfl ?_
    refine r_iload_n X dX11_seen_9 rfl ?_
    refine r_callV (ci := 10) X rfl (c_X11_isStep _ E g n M u B y (by rw [(show B 2 0 = T.1 by rw [hT]; rfl)]; omega)) tw_784 tw_786 tp_29 tw_7 tw_787 rfl rfl (by first | exact m0 | exact m1 | exact m2 | exact m3 | exact m4 | exact m5 | exact m6 | exact m7 | exact m8 | exact m9 | assumption) rfl ⟨ok_X11_isStep, ⟨Nat.le_of_ble_eq_true rfl, Nat.le_of_ble_eq_true rfl⟩, ⟨Nat.le_of_ble_eq_true rfl, Nat.le_of_ble_eq_true rfl⟩, Nat.le_of_ble_eq_true rfl⟩ dX11_seen_10 (kk_r (Wf := Wg K E _ _ _ _) ?_)
    refine r_top _ _ (congrArg (fun q => bI (inR y q)) (show B 2 0 = T.1 by rw [hT]; rfl)) ?_
    refine r_if_eqB X 23 dX11_seen_13 (by decide) (fun c_13 => ?_) (fun c_13 => ?_)
    · skip
      refine r_bipush (v := (-2)) X dX11_seen_23 (by decide) ?_
      refine r_iret S dX11_seen_25 ?_
      exact ⟨by unfold seenR; rw [if_neg (by simp [*])], by rw [if_neg (by simp [*])], rfl⟩
    · skip
      refine r_iload_n X dX11_seen_16 rfl ?_
      refine r_callS X rfl (c_X11_isSaying _ E _ n z) tw_800 tw_801 tw_7 tw_802 rfl ⟨ok_X11_isSaying, ⟨Nat.le_of_ble_eq_true rfl, Nat.le_of_ble_eq_true rfl⟩, ⟨Nat.le_of_ble_eq_true rfl, Nat.le_of_ble_eq_true rfl⟩, Nat.le_of_ble_eq_true rfl⟩ dX11_seen_17 (kk_r (Wf := Wg K E _ _ _ _) ?_)
      refine r_if_neB X 26 dX11_seen_20 (by decide) (fun c_20 => ?_) (fun c_20 => ?_)
      · skip
        obtain ⟨i, hi, rfl⟩ := inR_ex (by omega) c_5
        have hix : ix (nI i) = i := ix_nI (by omega)
        obtain ⟨s, hs, rfl⟩ := inR_ex (by omega) c_13
        have hsx : ix (nI s) = s := ix_nI (by omega)
        obtain ⟨t, ht0, ht, rfl⟩ := sayB_ex c_20
        have htx : ix (nI t) = t := ix_nI (by omega)
        refine r_iload X dX11_seen_26 rfl ?_
        refine r_iconst (v := nI 0) X dX11_seen_28 (by decide) ?_
        refine r_iconst (v := nI 1) X dX11_seen_29 (by decide) ?_
        refine r_callS X rfl (c_X11_in _ E _ n _ _ _) tw_711 tw_712 tw_7 tw_713 rfl ⟨ok_X11_in, ⟨Nat.le_of_ble_eq_true rfl, Nat.le_of_ble_eq_true rfl⟩, ⟨Nat.le_of_ble_eq_true rfl, Nat.le_of_ble_eq_true rfl⟩, Nat.le_of_ble_eq_true rfl⟩ dX11_seen_30 (kk_r (Wf := Wg K E _ _ _ _) ?_)
        refine r_top _ _ (congrArg bI (inQ_c 1 (by decide))) ?_
        refine r_if_neB X 39 dX11_seen_33 (by decide) (fun c_33 => ?_) (fun c_33 => ?_)
        · skip
          obtain ⟨b, hb, rfl⟩ := inR_ex (by omega) c_33
          have hbx : ix (nI b) = b := ix_nI (by omega)
          refine r_aload_n X dX11_seen_39 rfl ?_
          refine r_get (ci := 10) X 10 _ ti_RX11 rfl (by decide) tw_668 (fun _ h => h) dX11_seen_40 (by first | exact m0 | exact m1 | exact m2 | exact m3 | exact m4 | exact m5 | exact m6 | exact m7 | exact m8 | exact m9 | assumption) rfl ?_
          refine r_bipush (v := nI 6) X dX11_seen_43 (by decide) ?_
          refine r_icmp_neN X 51 dX11_seen_45 (by decide) (by omega) (by omega) (fun c_45 => ?_) (fun c_45 => ?_)
          · skip
            refine r_aload_n X dX11_seen_51 rfl ?_
            refine r_get (ci := 10) X 9 _ ti_RX11 rfl (by decide) tw_667 (fun _ h => h) dX11_seen_52 (by first | exact m0 | exact m1 | exact m2 | exact m3 | exact m4 | exact m5 | exact m6 | exact m7 | exact m8 | exact m9 | assumption) rfl ?_
            refine r_aload_n X dX11_seen_55 rfl ?_
            refine r_get (ci := 10) X 10 _ ti_RX11 rfl (by decide) tw_668 (fun _ h => h) dX11_seen_56 (by first | exact m0 | exact m1 | exact m2 | exact m3 | exact m4 | exact m5 | exact m6 | exact m7 | exact m8 | exact m9 | assumption) rfl ?_
            refine r_sipush (v := nI 1000) X dX11_seen_59 (by decide) ?_
            refine r_iload_n X dX11_seen_62 rfl ?_
            first | refine r_imulN X dX11_seen_63 ?_ | refine r_imul X _ dX11_seen_63 rfl ?_
            refine r_bipush (v := nI 20) X dX11_seen_64 (by decide) ?_
            refine r_bipush (v := nI 10) X dX11_seen_66 (by decide) ?_
            refine r_iload X dX11_seen_68 rfl ?_
            first | refine r_imulN X dX11_seen_70 ?_ | refine r_imul X _ dX11_seen_70 rfl ?_
            refine r_iload_n X dX11_seen_71 rfl ?_
            first | refine r_iaddN X dX11_seen_72 ?_ | refine r_iadd X _ dX11_seen_72 rfl ?_
            first | refine r_imulN X dX11_seen_73 ?_ | refine r_imul X _ dX11_seen_73 rfl ?_
            first | refine r_iaddN X dX11_seen_74 ?_ | refine r_iadd X _ dX11_seen_74 rfl ?_
            refine r_iload_n X dX11_seen_75 rfl ?_
            first | refine r_iaddN X dX11_seen_76 ?_ | refine r_iadd X _ dX11_seen_76 rfl ?_
            refine r_nast X _ dX11_seen_77 (by first | exact m0 | exact m1 | exact m2 | exact m3 | exact m4 | exact m5 | exact m6 | exact m7 | exact m8 | exact m9 | assumption) (rfl) (by omega) (by decide) ?_
            refine r_heap um8 ?_
            refine r_aload_n X dX11_seen_78 rfl ?_
            refine r_dup X dX11_seen_79 rfl ?_
            refine r_get (ci := 10) X 10 _ ti_RX11 rfl (by decide) tw_668 (fun _ h => h) dX11_seen_80 (by first | exact m0 | exact m1 | exact m2 | exact m3 | exact m4 | exact m5 | exact m6 | exact m7 | exact m8 | exact m9 | assumption) rfl ?_
            refine r_iconst (v := nI 1) X dX11_seen_83 (by decide) ?_
            first | refine r_iaddN X dX11_seen_84 ?_ | refine r_iadd X _ dX11_seen_84 rfl ?_
            refine r_put (ci := 10) (ty := .int) X 10 ti_RX11 tyX11 tyX11_ok nmX11 rfl (by decide) tw_668 (fun _ h => h) rfl (by decide +kernel) dX11_seen_85 (by first | exact m0 | exact m1 | exact m2 | exact m3 | exact m4 | exact m5 | exact m6 | exact m7 | exact m8 | exact m9 | assumption) rfl rfl (Nat.le_of_ble_eq_true rfl) ?_
            try dsimp only [List.set]
            refine r_heap um_noted ?_
            refine r_aload_n X dX11_seen_88 rfl ?_
            refine r_get (ci := 10) X 10 _ ti_RX11 rfl (by decide) tw_668 (fun _ h => h) dX11_seen_89 (by first | exact m0 | exact m1 | exact m2 | exact m3 | exact m4 | exact m5 | exact m6 | exact m7 | exact m8 | exact m9 | assumption) rfl ?_
            refine r_iret S dX11_seen_92 ?_
            have h6 : u 2 < 6 := by omega
            exact ⟨by unfold seenR; rw [if_pos ⟨c_5, c_13, c_20⟩, if_pos c_33, if_pos h6]; rfl, by rw [if_pos ⟨⟨c_5, c_13, c_20⟩, c_33, h6⟩, hix, hsx, htx, hbx], rfl⟩
          · skip
            refine r_bipush (v := (-5)) X dX11_seen_48 (by decide) ?_
            refine r_iret S dX11_seen_50 ?_
            exact ⟨by unfold seenR; rw [if_pos ⟨c_5, c_13, c_20⟩, if_pos c_33, if_neg (by omega)], by rw [if_neg (by omega)], rfl⟩
        · skip
          refine r_bipush (v := (-3)) X dX11_seen_36 (by decide) ?_
          refine r_iret S dX11_seen_38 ?_
          exact ⟨by unfold seenR; rw [if_pos ⟨c_5, c_13, c_20⟩, if_neg (by simp [c_33])], by rw [if_neg (by simp [c_33])], rfl⟩
      · skip
        refine r_bipush (v := (-2)) X dX11_seen_23 (by decide) ?_
        refine r_iret S dX11_seen_25 ?_
        exact ⟨by unfold seenR; rw [if_neg (by simp [*])], by rw [if_neg (by simp [*])], rfl⟩

set_option maxHeartbeats 4000000 in
set_option maxRecDepth 100000 in
/-- BanisterWordModel.forget  -/
theorem c_X11_forget (l : Launch) (E : xE) (g : hG) (n : Nat) (M : Nat) (u : Nat → Nat) (B : Nat → Nat → Nat)   : Ct l yX11_forget cX11_forget 2 (some .int) 0 0 0 0 E [.ref M] (mG E g M u B) n (zr (some (.int (nI (u 2)))) (mG E g M (va_up u 2 0) B) (n)) := by
  refine Ct.of (by decide +kernel) (Nat.le_of_ble_eq_true rfl) (fun v hv => by simp only [List.mem_cons, List.not_mem_nil, or_false] at hv; (try rcases hv with rfl) <;> first | rfl | (subst hv; rfl) | exact hv.elim) ?_
  intro K hKl S
  subst hKl
  have X := S.1
  refine r_aload_n X dX11_forget_0 rfl ?_
  refine r_get (ci := 10) X 10 _ ti_RX11 rfl (by decide) tw_668 (fun _ h => h) dX11_forget_1 (by first | exact m0 | exact m1 | exact m2 | exact m3 | exact m4 | exact m5 | exact m6 | exact m7 | exact m8 | exact m9 | assumption) rfl ?_
  refine r_istore_n X dX11_forget_4 (Nat.le_of_ble_eq_true rfl) ?_
  try dsimp only [List.set]
  refine r_aload_n X dX11_forget_5 rfl ?_
  refine r_iconst (v := nI 0) X dX11_forget_6 (by decide) ?_
  refine r_put (ci := 10) (ty := .int) X 10 ti_RX11 tyX11 tyX11_ok nmX11 rfl (by decide) tw_668 (fun _ h => h) rfl (by decide +kernel) dX11_forget_7 (by first | exact m0 | exact m1 | exact m2 | exact m3 | exact m4 | exact m5 | exact m6 | exact m7 | exact m8 | exact m9 | assumption) rfl rfl (Nat.le_of_ble_eq_true rfl) ?_
  try dsimp only [List.set]
  refine r_heap um_noted ?_
  refine r_iload_n X dX11_forget_10 rfl ?_
  refine r_iret S dX11_forget_11 ?_
  exact ⟨rfl, rfl, rfl⟩

set_option maxHeartbeats 4000000 in
set_option maxRecDepth 100000 in
/-- BanisterWordModel.isSo  -/
theorem c_X11_isSo (l : Launch) (E : xE) (g : hG) (n : Nat) (M : Nat) (u : Nat → Nat) (B : Nat → Nat → Nat) (T : hsT) (N : Mo) (si st sy hd : Nat → Nat) (hT : B 2 = tfl T) (hS : B 4 = flat N) (h0 : T.1 ≤ 12) (h1 : T.2.1 ≤ 6) (hP : ∀ i, i < T.2.1 → T.2.2.1 i < 4 ∧ T.2.2.2.1 i ≤ 9) (hN : ∀ j, N.1 j ≤ 7) (h2 : u 2 ≤ 6) (hNo : ∀ k, k < u 2 → B 8 k = 1000 * si k + 20 * (10 * hd k + sy k) + st k ∧ si k < T.2.1 ∧ st k < 12 ∧ sy k ≤ 7 ∧ hd k ≤ 1) : Ct l yX11_isSo cX11_isSo 5 (some .boolean) 2 46 0 0 E [.ref M] (mG E g M u B) n (zr (some (.int (bI (allS (fun k => T.2.2.1 (si k)) st sy hd N.1 (u 2))))) (mG E g M u B) (n)) := by
  refine Ct.of (by decide +kernel) (Nat.le_of_ble_eq_true rfl) (fun v hv => by simp only [List.mem_cons, List.not_mem_nil, or_false] at hv; (try rcases hv with rfl) <;> first | rfl | (subst hv; rfl) | exact hv.elim) ?_
  intro K hKl S
  subst hKl
  have X := S.1
  refine r_iconst (v := nI 1) X dX11_isSo_0 (by decide) ?_
  refine r_top _ (bI (allS (fun k => T.2.2.1 (si k)) st sy hd N.1 0)) (rfl) ?_
  refine r_istore_n X dX11_isSo_1 (Nat.le_of_ble_eq_true rfl) ?_
  try dsimp only [List.set]
  refine r_iconst (v := nI 0) X dX11_isSo_2 (by decide) ?_
  refine r_istore_n X dX11_isSo_3 (Nat.le_of_ble_eq_true rfl) ?_
  try dsimp only [List.set]
  have hloop : ∀ (k : Nat), k ≤ u 2 → ∀ (u_ w_ : Option Value), Wg K E (0) (0) 4 [some (.ref M), some (.int (bI (allS (fun k => T.2.2.1 (si k)) st sy hd N.1 k))), some (.int (nI k)), u_, w_] [] (mG E g M u B) (n) := by
    refine ind_up _ (u 2) (fun k hk ih u_ w_ => ?_)
    refine r_iload_n X dX11_isSo_4 rfl ?_
    refine r_aload_n X dX11_isSo_5 rfl ?_
    refine r_get (ci := 10) X 10 _ ti_RX11 rfl (by decide) tw_668 (fun _ h => h) dX11_isSo_6 (by first | exact m0 | exact m1 | exact m2 | exact m3 | exact m4 | exact m5 | exact m6 | exact m7 | exact m8 | exact m9 | assumption) rfl ?_
    refine r_icmp_geN X 83 dX11_isSo_9 (by decide) (by omega) (by omega) (fun c_9 => ?_) (fun c_9 => ?_)
    · skip
      refine r_iload_n X dX11_isSo_83 rfl ?_
      refine r_zret S dX11_isSo_84 (by first | rfl | exact bI_nar _) ?_
      exact ⟨by rw [show k = u 2 by omega], rfl, rfl⟩
    · skip
      obtain ⟨q1, q2, q3, q4, q5⟩ := hNo k c_9
      have hlt := hearN_lt (c := T.2.2.1 (si k)) hN (st k + 1)
      have hm2 : hearN (T.2.2.1 (si k)) N.1 (st k + 1) / 2 ^ sy k % 2 < 2 := Nat.mod_lt _ (by decide)
      refine r_aload_n X dX11_isSo_12 rfl ?_
      refine r_get (ci := 10) X 9 _ ti_RX11 rfl (by decide) tw_667 (fun _ h => h) dX11_isSo_13 (by first | exact m0 | exact m1 | exact m2 | exact m3 | exact m4 | exact m5 | exact m6 | exact m7 | exact m8 | exact m9 | assumption) rfl ?_
      refine r_iload_n X dX11_isSo_16 rfl ?_
      refine r_nald X _ dX11_isSo_17 (by first | exact m0 | exact m1 | exact m2 | exact m3 | exact m4 | exact m5 | exact m6 | exact m7 | exact m8 | exact m9 | assumption) (rfl) (by omega) (by decide) ?_
      refine r_top _ _ (congrArg nI q1) ?_
      refine r_sipush (v := nI 1000) X dX11_isSo_18 (by decide) ?_
      refine r_iremN X dX11_isSo_21 (by omega) (by omega) (by omega) ?_
      refine r_bipush (v := nI 20) X dX11_isSo_22 (by decide) ?_
      refine r_idivN X dX11_isSo_24 (by omega) (by omega) (by omega) ?_
      refine r_top _ (nI (10 * hd k + sy k)) (congrArg nI (by omega)) ?_
      refine r_istore_n X dX11_isSo_25 (Nat.le_of_ble_eq_true rfl) ?_
      try dsimp only [List.set]
      refine r_aload_n X dX11_isSo_26 rfl ?_
      refine r_aload_n X dX11_isSo_27 rfl ?_
      refine r_get (ci := 10) X 9 _ ti_RX11 rfl (by decide) tw_667 (fun _ h => h) dX11_isSo_28 (by first | exact m0 | exact m1 | exact m2 | exact m3 | exact m4 | exact m5 | exact m6 | exact m7 | exact m8 | exact m9 | assumption) rfl ?_
      refine r_iload_n X dX11_isSo_31 rfl ?_
      refine r_nald X _ dX11_isSo_32 (by first | exact m0 | exact m1 | exact m2 | exact m3 | exact m4 | exact m5 | exact m6 | exact m7 | exact m8 | exact m9 | assumption) (rfl) (by omega) (by decide) ?_
      refine r_top _ _ (congrArg nI q1) ?_
      refine r_sipush (v := nI 1000) X dX11_isSo_33 (by decide) ?_
      refine r_idivN X dX11_isSo_36 (by omega) (by omega) (by omega) ?_
      refine r_top _ (nI (si k)) (congrArg nI (by omega)) ?_
      refine r_aload_n X dX11_isSo_37 rfl ?_
      refine r_get (ci := 10) X 9 _ ti_RX11 rfl (by decide) tw_667 (fun _ h => h) dX11_isSo_38 (by first | exact m0 | exact m1 | exact m2 | exact m3 | exact m4 | exact m5 | exact m6 | exact m7 | exact m8 | exact m9 | assumption) rfl ?_
      refine r_iload_n X dX11_isSo_41 rfl ?_
      refine r_nald X _ dX11_isSo_42 (by first | exact m0 | exact m1 | exact m2 | exact m3 | exact m4 | exact m5 | exact m6 | exact m7 | exact m8 | exact m9 | assumption) (rfl) (by omega) (by decide) ?_
      refine r_top _ _ (congrArg nI q1) ?_
      refine r_bipush (v := nI 20) X dX11_isSo_43 (by decide) ?_
      refine r_iremN X dX11_isSo_45 (by omega) (by omega) (by omega) ?_
      refine r_top _ (nI (st k)) (congrArg nI (by omega)) ?_
      refine r_callV (ci := 10) X rfl (c_X11_heard _ E g n M u B T N (si k) (st k) hT hS h0 h1 hP hN q2 q3) tw_827 tw_829 tp_36 tw_7 tw_830 rfl rfl (by first | exact m0 | exact m1 | exact m2 | exact m3 | exact m4 | exact m5 | exact m6 | exact m7 | exact m8 | exact m9 | assumption) rfl ⟨ok_X11_heard, ⟨Nat.le_of_ble_eq_true rfl, Nat.le_of_ble_eq_true rfl⟩, ⟨Nat.le_of_ble_eq_true rfl, Nat.le_of_ble_eq_true rfl⟩, Nat.le_of_ble_eq_true rfl⟩ dX11_isSo_46 (kk_r (Wf := Wg K E _ _ _ _) ?_)
      refine r_istore X dX11_isSo_49 (Nat.le_of_ble_eq_true rfl) ?_
      try dsimp only [List.set]
      refine r_iload_n X dX11_isSo_51 rfl ?_
      refine r_if_eqB X 75 dX11_isSo_52 (by decide) (fun c_52 => ?_) (fun c_52 => ?_)
      · skip
        refine r_iconst (v := nI 0) X dX11_isSo_75 (by decide) ?_
        refine r_top _ (bI (allS (fun k => T.2.2.1 (si k)) st sy hd N.1 (k + 1))) (by show _ = bI (allS (fun k => T.2.2.1 (si k)) st sy hd N.1 k && decide (hearN (T.2.2.1 (si k)) N.1 (st k + 1) / 2 ^ sy k % 2 = hd k)); first | (rw [c_52]; rfl) | (rw [c_52, decide_eq_true c_68]; rfl) | (rw [c_52, decide_eq_false c_68]; rfl)) ?_
        refine r_istore_n X dX11_isSo_76 (Nat.le_of_ble_eq_true rfl) ?_
        try dsimp only [List.set]
        first | refine r_iincN X dX11_isSo_77 rfl ?_ | refine r_iinc X _ dX11_isSo_77 rfl rfl ?_
        try dsimp only [List.set]
        refine r_goto X 4 dX11_isSo_80 (by decide) ?_
        exact ih (by omega) _ _
      · skip
        refine r_iload X dX11_isSo_55 rfl ?_
        refine r_iload_n X dX11_isSo_57 rfl ?_
        refine r_bipush (v := nI 10) X dX11_isSo_58 (by decide) ?_
        refine r_iremN X dX11_isSo_60 (by omega) (by omega) (by omega) ?_
        refine r_top _ (nI (sy k)) (congrArg nI (by omega)) ?_
        refine r_ishrN X dX11_isSo_61 (by omega) (by omega) ?_
        refine r_iconst (v := nI 1) X dX11_isSo_62 (by decide) ?_
        refine r_iand1N X dX11_isSo_63 (Nat.lt_of_le_of_lt (Nat.div_le_self _ _) (by omega)) ?_
        refine r_iload_n X dX11_isSo_64 rfl ?_
        refine r_bipush (v := nI 10) X dX11_isSo_65 (by decide) ?_
        refine r_idivN X dX11_isSo_67 (by omega) (by omega) (by omega) ?_
        refine r_top _ (nI (hd k)) (congrArg nI (by omega)) ?_
        refine r_icmp_neN X 75 dX11_isSo_68 (by decide) (by omega) (by omega) (fun c_68 => ?_) (fun c_68 => ?_)
        · skip
          refine r_iconst (v := nI 0) X dX11_isSo_75 (by decide) ?_
          refine r_top _ (bI (allS (fun k => T.2.2.1 (si k)) st sy hd N.1 (k + 1))) (by show _ = bI (allS (fun k => T.2.2.1 (si k)) st sy hd N.1 k && decide (hearN (T.2.2.1 (si k)) N.1 (st k + 1) / 2 ^ sy k % 2 = hd k)); first | (rw [c_52]; rfl) | (rw [c_52, decide_eq_true c_68]; rfl) | (rw [c_52, decide_eq_false c_68]; rfl)) ?_
          refine r_istore_n X dX11_isSo_76 (Nat.le_of_ble_eq_true rfl) ?_
          try dsimp only [List.set]
          first | refine r_iincN X dX11_isSo_77 rfl ?_ | refine r_iinc X _ dX11_isSo_77 rfl rfl ?_
          try dsimp only [List.set]
          refine r_goto X 4 dX11_isSo_80 (by decide) ?_
          exact ih (by omega) _ _
        · skip
          refine r_iconst (v := nI 1) X dX11_isSo_71 (by decide) ?_
          refine r_goto X 76 dX11_isSo_72 (by decide) ?_
          refine r_top _ (bI (allS (fun k => T.2.2.1 (si k)) st sy hd N.1 (k + 1))) (by show _ = bI (allS (fun k => T.2.2.1 (si k)) st sy hd N.1 k && decide (hearN (T.2.2.1 (si k)) N.1 (st k + 1) / 2 ^ sy k % 2 = hd k)); first | (rw [c_52]; rfl) | (rw [c_52, decide_eq_true c_68]; rfl) | (rw [c_52, decide_eq_false c_68]; rfl)) ?_
          refine r_istore_n X dX11_isSo_76 (Nat.le_of_ble_eq_true rfl) ?_
          try dsimp only [List.set]
          first | refine r_iincN X dX11_isSo_77 rfl ?_ | refine r_iinc X _ dX11_isSo_77 rfl rfl ?_
          try dsimp only [List.set]
          refine r_goto X 4 dX11_isSo_80 (by decide) ?_
          exact ih (by omega) _ _
  exact hloop 0 (Nat.zero_le _) _ _

