theorem cFold_up {C : Nat → Nat × (Nat → Nat)} {T : hsT} {k w : Nat} {a : Nat → Nat} : cFold (va_up C k (w, a)) T (k + 1) = cStep w a (cFold C T k) := by
  show cStep (va_up C k (w, a) k).1 (va_up C k (w, a) k).2 (cFold (va_up C k (w, a)) T k) = _
  rw [show va_up C k (w, a) k = (w, a) from if_pos rfl, show cFold (va_up C k (w, a)) T k = cFold C T k from cFold_congr k (fun t ht => vu_ne (Nat.ne_of_lt ht))]
theorem tkS_n0 {L : Nat → Nat} {ln b : Nat} (h : ¬ ln ≤ b) : tkS L ln b ≠ 0 := by
  unfold tkS; rw [if_neg h]; (repeat' split) <;> omega
theorem tkS_59 {L : Nat → Nat} {ln b : Nat} (h : ¬ ln ≤ b) (h2 : tkS L ln b ≠ 3) : L b ≠ 59 := fun e => h2 (tkS_3 (by omega) (decide_eq_false (by omega)) (decide_eq_false (by omega)))
theorem tkE_3 {L : Nat → Nat} {ln b : Nat} (h : tkS L ln b = 3) : tkE L ln b = b + 1 := by unfold tkE; rw [h]; rfl
/-- behind reads -/
def Zrr (E : xE) (g : hG) (n M : Nat) (u : Nat → Nat) (B : Nat → Nat → Nat) (T : hsT) : Option Value → hG → Nat → Prop := fun v g' n' => n' = n ∧ ∃ (u2 D : Nat → Nat), (u2 0 = u 0 ∧ u2 1 = u 1 ∧ u2 2 = u 2) ∧ g' = mG E g M u2 (va_up B 3 D) ∧ ((∃ q, prs (B 1) (u 0) 14 0 T.1 T.2.1 0 (fun _ => (0, fun _ => 0)) = .inl q ∧ q ≤ u 0 ∧ v = some (.int (-1)) ∧ u2 5 = q) ∨ (∃ m C, prs (B 1) (u 0) 14 0 T.1 T.2.1 0 (fun _ => (0, fun _ => 0)) = .inr (m, C) ∧ m ≤ 14 ∧ v = some (.int (nI m)) ∧ D = tfl (cFold C T m)))
def Zrf (E : xE) (g : hG) (n M : Nat) (u : Nat → Nat) (B : Nat → Nat → Nat) (T : hsT) : Option Value → hG → Nat → Prop := fun v g' n' => v = some (.int (faultR (B 1) (u 0) T.1 T.2.1)) ∧ n' = n ∧ ∃ (u2 D : Nat → Nat), (u2 0 = u 0 ∧ u2 1 = u 1 ∧ u2 2 = u 2) ∧ g' = mG E g M u2 (va_up B 3 D)
def Zrh (E : xE) (g : hG) (n M : Nat) (u : Nat → Nat) (B : Nat → Nat → Nat) (T : hsT) : Option Value → hG → Nat → Prop := fun v g' n' => n' = n ∧ ((∃ q, prs (B 1) (u 0) 14 0 T.1 T.2.1 0 (fun _ => (0, fun _ => 0)) = .inl q ∧ v = some (.int (-4)) ∧ ∃ (u2 D : Nat → Nat), (u2 0 = u 0 ∧ u2 1 = u 1 ∧ u2 2 = u 2) ∧ g' = mG E g M u2 (va_up B 3 D)) ∨ (∃ m C, prs (B 1) (u 0) 14 0 T.1 T.2.1 0 (fun _ => (0, fun _ => 0)) = .inr (m, C) ∧ v = some (.int (nI m)) ∧ ∃ (u2 D : Nat → Nat), (u2 0 = 0 ∧ u2 1 = 0 ∧ u2 2 = 0) ∧ g' = mG E g M u2 (va_up (va_up (va_up (va_up B 3 D) 2 (tfl (cFold C T m))) 4 (flat (laid (cFold C T m)))) 7 (fun _ => 0))))

set_option maxHeartbeats 4000000 in
set_option maxRecDepth 100000 in
/-- BanisterWordModel.reads  -/
theorem c_X11_reads (l : Launch) (E : xE) (g : hG) (n : Nat) (M : Nat) (u : Nat → Nat) (B : Nat → Nat → Nat) (T : hsT) (h5 : u 0 ≤ 160) (hL : ∀ j, B 1 j ≤ 255) (hT : B 2 = tfl T) (h02 : 2 ≤ T.1) (h0 : T.1 ≤ 12) (hp : T.2.1 ≤ 6) : Ct l yX11_reads cX11_reads 3 (some .int) 6 127 0 0 E [.ref M] (mG E g M u B) n (Zrr E g n M u B T) := by
  refine Ct.of (by decide +kernel) (Nat.le_of_ble_eq_true rfl) (fun v hv => by simp only [List.mem_cons, List.not_mem_nil, or_false] at hv; (try rcases hv with rfl) <;> first | rfl | (subst hv; rfl) | exact hv.elim) ?_
  intro K hKl S
  subst hKl
  have X := S.1
  refine r_iconst (v := nI 0) X dX11_reads_0 (by decide) ?_
  refine r_istore_n X dX11_reads_1 (Nat.le_of_ble_eq_true rfl) ?_
  try dsimp only [List.set]
  have hloop : ∀ (k : Nat), k ≤ 62 → Wg K E (0) (0) 2 [some (.ref M), some (.int (nI k)), none] [] (mG E g M u (va_up B 3 (fun j => if j < k then B 2 j else B 3 j))) (n) := by
    refine ind_up _ (62) (fun k hk ih => ?_)
    refine r_iload_n X dX11_reads_2 rfl ?_
    refine r_bipush (v := nI 62) X dX11_reads_3 (by decide) ?_
    refine r_icmp_geN X 26 dX11_reads_5 (by decide) (by omega) (by omega) (fun c_5 => ?_) (fun c_5 => ?_)
    · skip
      refine r_heap (mc3 (f2 := tfl T) (fun j hj => by rw [if_pos (by omega), hT])) ?_
      refine r_aload_n X dX11_reads_26 rfl ?_
      refine r_iconst (v := nI 0) X dX11_reads_27 (by decide) ?_
      refine r_put (ci := 10) (ty := .int) X 11 ti_RX11 tyX11 tyX11_ok nmX11 rfl (by decide) tw_669 (fun _ h => h) rfl (by decide +kernel) dX11_reads_28 (by first | exact m0 | exact m1 | exact m2 | exact m3 | exact m4 | exact m5 | exact m6 | exact m7 | exact m8 | exact m9 | assumption) rfl rfl (Nat.le_of_ble_eq_true rfl) ?_
      try dsimp only [List.set]
      refine r_heap um_at ?_
      refine r_iconst (v := nI 0) X dX11_reads_31 (by decide) ?_
      refine r_istore_n X dX11_reads_32 (Nat.le_of_ble_eq_true rfl) ?_
      try dsimp only [List.set]
      refine r_iconst (v := nI 1) X dX11_reads_33 (by decide) ?_
      refine r_istore_n X dX11_reads_34 (Nat.le_of_ble_eq_true rfl) ?_
      try dsimp only [List.set]
      have hloop2 : ∀ (k : Nat), k ≤ 14 → ∀ (u2 : Nat → Nat) (C : Nat → Nat × (Nat → Nat)), (prs (B 1) (u 0) 14 0 T.1 T.2.1 0 (fun _ => (0, fun _ => 0)) = prs (B 1) (u 0) (14 - k) k (cFold C T k).1 (cFold C T k).2.1 (u2 3) C ∧ k ≤ 13 ∧ u2 3 ≤ u 0 ∧ u2 0 = u 0 ∧ u2 1 = u 1 ∧ u2 2 = u 2 ∧ 2 ≤ (cFold C T k).1 ∧ (cFold C T k).1 ≤ 12 ∧ (cFold C T k).2.1 ≤ 6) → Wg K E (0) (0) 35 [some (.ref M), some (.int (nI k)), some (.int (nI 1))] [] (mG E g M u2 (va_up B 3 (tfl (cFold C T k)))) (n) := by
        refine ind_up _ (14) (fun k hk ih u2 C hq => ?_)
        obtain ⟨hp1, hk13, h23, h20, h21, h22, hb1, hb2, hb3⟩ := hq
        rw [show 14 - k = (13 - k) + 1 by omega] at hp1
        refine r_iload_n X dX11_reads_35 rfl ?_
        refine r_if_eqN X 106 dX11_reads_36 (by decide) (by omega) (fun c_36 => ?_) (fun c_36 => ?_)
        · exact absurd c_36 (by decide)
        refine r_aload_n X dX11_reads_39 rfl ?_
        refine r_callV (ci := 10) X rfl (c_X11_token _ E g n M u2 (va_up B 3 (tfl (cFold C T k))) (by omega) (by omega) hL) tw_726 tw_728 tp_19 tw_7 tw_729 rfl rfl (by first | exact m0 | exact m1 | exact m2 | exact m3 | exact m4 | exact m5 | exact m6 | exact m7 | exact m8 | exact m9 | assumption) rfl ⟨ok_X11_token, ⟨Nat.le_of_ble_eq_true rfl, Nat.le_of_ble_eq_true rfl⟩, ⟨Nat.le_of_ble_eq_true rfl, Nat.le_of_ble_eq_true rfl⟩, Nat.le_of_ble_eq_true rfl⟩ dX11_reads_40 (kk_v (Wf := Wg K E _ _ _ _) ?_)
        refine r_heap (show _ = mG E g M (tok u2 (B 1)) (va_up B 3 (tfl (cFold C T k))) from rfl) ?_
        refine r_aload_n X dX11_reads_43 rfl ?_
        refine r_callV (ci := 10) X rfl (c_X11_readsClause _ E g n M (tok u2 (B 1)) (va_up B 3 (tfl (cFold C T k))) (cFold C T k) (u2 3) (show u2 0 ≤ 160 by omega) hL rfl hb1 hb2 hb3 (show u2 3 ≤ u2 0 by omega) rfl rfl rfl) tw_740 tw_742 tp_21 tw_7 tw_743 rfl rfl (by first | exact m0 | exact m1 | exact m2 | exact m3 | exact m4 | exact m5 | exact m6 | exact m7 | exact m8 | exact m9 | assumption) rfl ⟨ok_X11_readsClause, ⟨Nat.le_of_ble_eq_true rfl, Nat.le_of_ble_eq_true rfl⟩, ⟨Nat.le_of_ble_eq_true rfl, Nat.le_of_ble_eq_true rfl⟩, Nat.le_of_ble_eq_true rfl⟩ dX11_reads_44 (fun v_44 g_44 n_44 z_44 => ?_)
        rcases z_44 with ⟨hn9, u3, ⟨q0, q1, q2⟩, ⟨r, hR, rfl, q5, rfl⟩ | ⟨w, a, e, hR, rfl, q3, rfl⟩⟩
        · skip
          replace hn9 := hn9.symm
          subst hn9
          have hR9 : pcl (B 1) (u 0) (cFold C T k).1 (cFold C T k).2.1 (u2 3) = .inl r := by rw [← h20]; exact hR
          refine r_if_ne X 52 dX11_reads_47 (by decide) (fun c_47 => ?_) (fun c_47 => ?_)
          · exact absurd rfl c_47
          refine r_iconst (v := (-1)) X dX11_reads_50 (by decide) ?_
          refine r_iret S dX11_reads_51 ?_
          exact ⟨rfl, u3, _, ⟨q0.trans h20, q1.trans h21, q2.trans h22⟩, rfl, Or.inl ⟨r, hp1.trans (prs_l hR9), pcl_le hR9 h23, rfl, q5⟩⟩
        · skip
          replace hn9 := hn9.symm
          subst hn9
          have hR9 : pcl (B 1) (u 0) (cFold C T k).1 (cFold C T k).2.1 (u2 3) = .inr (w, a, e) := by rw [← h20]; exact hR
          refine r_heap (congrArg (fun w => mG E g M u3 w) vu_vu) ?_
          have q09 : u3 0 = u 0 := q0.trans h20
          have q19 : u3 1 = u 1 := q1.trans h21
          have q29 : u3 2 = u 2 := q2.trans h22
          obtain ⟨hw7, hnp, hbd, heL⟩ := pcl_bd hR9 h23
          have hsb := stA_b (pp := 0) hbd hb1 hb2
          have hpb := ppA_b hnp hb3
          have hbe : (sc (okB (B 1)) (u 0) e) ≤ u 0 := sc_hi heL
          have hs : tok u3 (B 1) 4 = tkS (B 1) (u 0) (sc (okB (B 1)) (u 0) e) := by show tkS (B 1) (u3 0) (sc (okB (B 1)) (u3 0) (u3 3)) = _; rw [q3, q09]
          have hst : tok u3 (B 1) 5 = (sc (okB (B 1)) (u 0) e) := by show sc (okB (B 1)) (u3 0) (u3 3) = _; rw [q3, q09]
          have hat : tok u3 (B 1) 3 = tkE (B 1) (u 0) (sc (okB (B 1)) (u 0) e) := by show tkE (B 1) (u3 0) (sc (okB (B 1)) (u3 0) (u3 3)) = _; rw [q3, q09]
          have hs4 : tok u3 (B 1) 4 ≤ 3 := tkS_le _ _ _
          refine r_if_ne X 52 dX11_reads_47 (by decide) (fun c_47 => ?_) (fun c_47 => ?_)
          rotate_left
          · exact absurd c_47 (by decide)
          first | refine r_iincN X dX11_reads_52 rfl ?_ | refine r_iinc X _ dX11_reads_52 rfl rfl ?_
          try dsimp only [List.set]
          refine r_aload_n X dX11_reads_55 rfl ?_
          refine r_callV (ci := 10) X rfl (c_X11_token _ E g n M u3 (va_up B 3 (tfl (cStep w a (cFold C T k)))) (by omega) (by omega) hL) tw_726 tw_728 tp_19 tw_7 tw_729 rfl rfl (by first | exact m0 | exact m1 | exact m2 | exact m3 | exact m4 | exact m5 | exact m6 | exact m7 | exact m8 | exact m9 | assumption) rfl ⟨ok_X11_token, ⟨Nat.le_of_ble_eq_true rfl, Nat.le_of_ble_eq_true rfl⟩, ⟨Nat.le_of_ble_eq_true rfl, Nat.le_of_ble_eq_true rfl⟩, Nat.le_of_ble_eq_true rfl⟩ dX11_reads_56 (kk_v (Wf := Wg K E _ _ _ _) ?_)
          refine r_heap (show _ = mG E g M (tok u3 (B 1)) (va_up B 3 (tfl (cStep w a (cFold C T k)))) from rfl) ?_
          refine r_aload_n X dX11_reads_59 rfl ?_
          refine r_get (ci := 10) X 12 _ ti_RX11 rfl (by decide) tw_670 (fun _ h => h) dX11_reads_60 (by first | exact m0 | exact m1 | exact m2 | exact m3 | exact m4 | exact m5 | exact m6 | exact m7 | exact m8 | exact m9 | assumption) rfl ?_
          by_cases hz : u 0 ≤ (sc (okB (B 1)) (u 0) e)
          · skip
            refine r_top _ (nI 0) (congrArg nI (hs.trans (tkS_0 (by omega)))) ?_
            refine r_if_eqN X 70 dX11_reads_63 (by decide) (by omega) (fun c_63 => ?_) (fun c_63 => ?_)
            rotate_left
            · exact absurd c_63 (by decide)
            refine r_iconst (v := nI 0) X dX11_reads_70 (by decide) ?_
            refine r_istore_n X dX11_reads_71 (Nat.le_of_ble_eq_true rfl) ?_
            try dsimp only [List.set]
            refine r_iload_n X dX11_reads_72 rfl ?_
            refine r_if_eqN X 35 dX11_reads_73 (by decide) (by omega) (fun c_73 => ?_) (fun c_73 => ?_)
            rotate_left
            · exact absurd c_73 (by decide)
            refine r_iload_n X dX11_reads_35 rfl ?_
            refine r_if_eqN X 106 dX11_reads_36 (by decide) (by omega) (fun c_36 => ?_) (fun c_36 => ?_)
            rotate_left
            · exact absurd c_36 (by decide)
            refine r_iload_n X dX11_reads_106 rfl ?_
            refine r_iret S dX11_reads_107 ?_
            exact ⟨rfl, tok u3 (B 1), _, ⟨q09, q19, q29⟩, rfl, Or.inr ⟨k + 1, va_up C k (w, a), hp1.trans (prs_e hR9 hz), by omega, rfl, by rw [cFold_up]⟩⟩
          · skip
            have h4n : tok u3 (B 1) 4 ≠ 0 := by rw [hs]; exact tkS_n0 hz
            have hLs := hL (tok u3 (B 1) 5)
            refine r_if_eqN X 70 dX11_reads_63 (by decide) (by omega) (fun c_63 => ?_) (fun c_63 => ?_)
            · exact absurd c_63 (by omega)
            refine r_iconst (v := nI 1) X dX11_reads_66 (by decide) ?_
            refine r_goto X 71 dX11_reads_67 (by decide) ?_
            refine r_istore_n X dX11_reads_71 (Nat.le_of_ble_eq_true rfl) ?_
            try dsimp only [List.set]
            refine r_iload_n X dX11_reads_72 rfl ?_
            refine r_if_eqN X 35 dX11_reads_73 (by decide) (by omega) (fun c_73 => ?_) (fun c_73 => ?_)
            · exact absurd c_73 (by decide)
            refine r_aload_n X dX11_reads_76 rfl ?_
            refine r_get (ci := 10) X 12 _ ti_RX11 rfl (by decide) tw_670 (fun _ h => h) dX11_reads_77 (by first | exact m0 | exact m1 | exact m2 | exact m3 | exact m4 | exact m5 | exact m6 | exact m7 | exact m8 | exact m9 | assumption) rfl ?_
            refine r_iconst (v := nI 3) X dX11_reads_80 (by decide) ?_
            refine r_icmp_neN X 104 dX11_reads_81 (by decide) (by omega) (by omega) (fun c_81 => ?_) (fun c_81 => ?_)
            · skip
              refine r_iconst (v := (-1)) X dX11_reads_104 (by decide) ?_
              refine r_iret S dX11_reads_105 ?_
              refine ⟨rfl, tok u3 (B 1), _, ⟨q09, q19, q29⟩, rfl, Or.inl ⟨(sc (okB (B 1)) (u 0) e), hp1.trans (prs_f hR9 hz ?_), hbe, rfl, hst⟩⟩
              first | exact Or.inl (tkS_59 hz (by rw [← hs]; exact c_81)) | exact Or.inl (by rw [← hst]; exact c_95) | exact Or.inr c_101
            · skip
              refine r_aload_n X dX11_reads_84 rfl ?_
              refine r_get (ci := 10) X 0 _ ti_RX11 rfl (by decide) tw_658 (fun _ h => h) dX11_reads_85 (by first | exact m0 | exact m1 | exact m2 | exact m3 | exact m4 | exact m5 | exact m6 | exact m7 | exact m8 | exact m9 | assumption) rfl ?_
              refine r_aload_n X dX11_reads_88 rfl ?_
              refine r_get (ci := 10) X 13 _ ti_RX11 rfl (by decide) tw_671 (fun _ h => h) dX11_reads_89 (by first | exact m0 | exact m1 | exact m2 | exact m3 | exact m4 | exact m5 | exact m6 | exact m7 | exact m8 | exact m9 | assumption) rfl ?_
              refine r_nald X _ dX11_reads_92 (by first | exact m0 | exact m1 | exact m2 | exact m3 | exact m4 | exact m5 | exact m6 | exact m7 | exact m8 | exact m9 | assumption) (rfl) (by omega) (by decide) ?_
              refine r_top _ (nI (B 1 (tok u3 (B 1) 5))) (rfl) ?_
              refine r_bipush (v := nI 59) X dX11_reads_93 (by decide) ?_
              refine r_icmp_neN X 104 dX11_reads_95 (by decide) (by omega) (by omega) (fun c_95 => ?_) (fun c_95 => ?_)
              · skip
                refine r_iconst (v := (-1)) X dX11_reads_104 (by decide) ?_
                refine r_iret S dX11_reads_105 ?_
                refine ⟨rfl, tok u3 (B 1), _, ⟨q09, q19, q29⟩, rfl, Or.inl ⟨(sc (okB (B 1)) (u 0) e), hp1.trans (prs_f hR9 hz ?_), hbe, rfl, hst⟩⟩
                first | exact Or.inl (tkS_59 hz (by rw [← hs]; exact c_81)) | exact Or.inl (by rw [← hst]; exact c_95) | exact Or.inr c_101
              · skip
                refine r_iload_n X dX11_reads_98 rfl ?_
                refine r_bipush (v := nI 14) X dX11_reads_99 (by decide) ?_
                refine r_icmp_neN X 35 dX11_reads_101 (by decide) (by omega) (by omega) (fun c_101 => ?_) (fun c_101 => ?_)
                · skip
                  refine r_heap (congrArg (fun w => mG E g M (tok u3 (B 1)) (va_up B 3 (tfl w))) cFold_up.symm) ?_
                  refine ih (by omega) (tok u3 (B 1)) (va_up C k (w, a)) ⟨?_, by omega, ?_, q09, q19, q29, ?_⟩
                  · rw [hp1, cFold_up, cStep_s, cStep_p _ _ _ hw7, show 14 - (k + 1) = 13 - k by omega, hat, tkE_3 (hs.symm.trans c_81)]
                    exact prs_n hR9 hz (by rw [← hst]; omega)
                  · rw [hat, tkE_3 (hs.symm.trans c_81)]; omega
                  · rw [cFold_up, cStep_s, cStep_p _ _ _ hw7]; exact ⟨hsb.1, hsb.2, hpb⟩
                · skip
                  refine r_iconst (v := (-1)) X dX11_reads_104 (by decide) ?_
                  refine r_iret S dX11_reads_105 ?_
                  refine ⟨rfl, tok u3 (B 1), _, ⟨q09, q19, q29⟩, rfl, Or.inl ⟨(sc (okB (B 1)) (u 0) e), hp1.trans (prs_f hR9 hz ?_), hbe, rfl, hst⟩⟩
                  first | exact Or.inl (tkS_59 hz (by rw [← hs]; exact c_81)) | exact Or.inl (by rw [← hst]; exact c_95) | exact Or.inr c_101
      exact hloop2 0 (Nat.zero_le _) (va_up u 3 0) (fun _ => (0, fun _ => 0)) ⟨rfl, by omega, Nat.zero_le _, rfl, rfl, rfl, h02, h0, hp⟩
    · skip
      refine r_aload_n X dX11_reads_8 rfl ?_
      refine r_get (ci := 10) X 3 _ ti_RX11 rfl (by decide) tw_661 (fun _ h => h) dX11_reads_9 (by first | exact m0 | exact m1 | exact m2 | exact m3 | exact m4 | exact m5 | exact m6 | exact m7 | exact m8 | exact m9 | assumption) rfl ?_
      refine r_iload_n X dX11_reads_12 rfl ?_
      refine r_aload_n X dX11_reads_13 rfl ?_
      refine r_get (ci := 10) X 2 _ ti_RX11 rfl (by decide) tw_660 (fun _ h => h) dX11_reads_14 (by first | exact m0 | exact m1 | exact m2 | exact m3 | exact m4 | exact m5 | exact m6 | exact m7 | exact m8 | exact m9 | assumption) rfl ?_
      refine r_iload_n X dX11_reads_17 rfl ?_
      refine r_nald X _ dX11_reads_18 (by first | exact m0 | exact m1 | exact m2 | exact m3 | exact m4 | exact m5 | exact m6 | exact m7 | exact m8 | exact m9 | assumption) (rfl) (by omega) (by decide) ?_
      refine r_nast X _ dX11_reads_19 (by first | exact m0 | exact m1 | exact m2 | exact m3 | exact m4 | exact m5 | exact m6 | exact m7 | exact m8 | exact m9 | assumption) (rfl) (by omega) (by decide) ?_
      refine r_heap um3 ?_
      refine r_heap (congrArg (fun w => mG E g M u w) vu_vu) ?_
      first | refine r_iincN X dX11_reads_20 rfl ?_ | refine r_iinc X _ dX11_reads_20 rfl rfl ?_
      try dsimp only [List.set]
      refine r_goto X 2 dX11_reads_23 (by decide) ?_
      refine r_heap ?_ (ih (by omega))
      refine mc3 (fun j hj => ?_)
      show va_up (fun j => if j < k then B 2 j else B 3 j) k (B 2 k) j = _
      simp only [va_up]; (repeat' split) <;> first | rfl | omega | (subst_vars; rfl)
  refine r_heap ?_ (hloop 0 (Nat.zero_le _))
  rw [show (fun j => if j < 0 then B 2 j else B 3 j) = B 3 from funext (fun j => if_neg (by omega)), vu_self rfl]

set_option maxHeartbeats 4000000 in
set_option maxRecDepth 100000 in
/-- BanisterWordModel.fault  -/
theorem c_X11_fault (l : Launch) (E : xE) (g : hG) (n : Nat) (M : Nat) (u : Nat → Nat) (B : Nat → Nat → Nat) (T : hsT) (h5 : u 0 ≤ 160) (hL : ∀ j, B 1 j ≤ 255) (hT : B 2 = tfl T) (h02 : 2 ≤ T.1) (h0 : T.1 ≤ 12) (hp : T.2.1 ≤ 6) : Ct l yX11_fault cX11_fault 1 (some .int) 7 149 0 0 E [.ref M] (mG E g M u B) n (Zrf E g n M u B T) := by
  refine Ct.of (by decide +kernel) (Nat.le_of_ble_eq_true rfl) (fun v hv => by simp only [List.mem_cons, List.not_mem_nil, or_false] at hv; (try rcases hv with rfl) <;> first | rfl | (subst hv; rfl) | exact hv.elim) ?_
  intro K hKl S
  subst hKl
  have X := S.1
  refine r_aload_n X dX11_fault_0 rfl ?_
  refine r_callV (ci := 10) X rfl (c_X11_reads _ E g n M u B T h5 hL hT h02 h0 hp) tw_722 tw_724 tp_18 tw_7 tw_725 rfl rfl (by first | exact m0 | exact m1 | exact m2 | exact m3 | exact m4 | exact m5 | exact m6 | exact m7 | exact m8 | exact m9 | assumption) rfl ⟨ok_X11_reads, ⟨Nat.le_of_ble_eq_true rfl, Nat.le_of_ble_eq_true rfl⟩, ⟨Nat.le_of_ble_eq_true rfl, Nat.le_of_ble_eq_true rfl⟩, Nat.le_of_ble_eq_true rfl⟩ dX11_fault_1 (fun v_1 g_1 n_1 z_1 => ?_)
  rcases z_1 with ⟨hn9, u2, D, ⟨q0, q1, q2⟩, rfl, ⟨q, hR, hq9, rfl, q5⟩ | ⟨m, C, hR, hm, rfl, hD⟩⟩
  · skip
    replace hn9 := hn9.symm
    subst hn9
    refine r_iconst (v := (-1)) X dX11_fault_4 (by decide) ?_
    refine r_icmp_ne X 15 dX11_fault_5 (by decide) (fun c_5 => ?_) (fun c_5 => ?_)
    · exact absurd rfl c_5
    refine r_aload_n X dX11_fault_8 rfl ?_
    refine r_get (ci := 10) X 13 _ ti_RX11 rfl (by decide) tw_671 (fun _ h => h) dX11_fault_9 (by first | exact m0 | exact m1 | exact m2 | exact m3 | exact m4 | exact m5 | exact m6 | exact m7 | exact m8 | exact m9 | assumption) rfl ?_
    refine r_goto X 16 dX11_fault_12 (by decide) ?_
    refine r_iret S dX11_fault_16 ?_
    exact ⟨by unfold faultR; rw [hR]; exact congrArg (fun w => some (Value.int (nI w))) q5, rfl, u2, D, ⟨q0, q1, q2⟩, rfl⟩
  · skip
    replace hn9 := hn9.symm
    subst hn9
    refine r_iconst (v := (-1)) X dX11_fault_4 (by decide) ?_
    refine r_icmp_ne X 15 dX11_fault_5 (by decide) (fun c_5 => ?_) (fun c_5 => ?_)
    rotate_left
    · exact absurd c_5 (m1_ne m (by omega))
    refine r_iconst (v := (-1)) X dX11_fault_15 (by decide) ?_
    refine r_iret S dX11_fault_16 ?_
    exact ⟨by unfold faultR; rw [hR], rfl, u2, D, ⟨q0, q1, q2⟩, rfl⟩

set_option maxHeartbeats 4000000 in
set_option maxRecDepth 100000 in
/-- BanisterWordModel.house  -/
theorem c_X11_house (l : Launch) (E : xE) (g : hG) (n : Nat) (M : Nat) (u : Nat → Nat) (B : Nat → Nat → Nat) (T : hsT) (h5 : u 0 ≤ 160) (hL : ∀ j, B 1 j ≤ 255) (hT : B 2 = tfl T) (h02 : 2 ≤ T.1) (h0 : T.1 ≤ 12) (hp : T.2.1 ≤ 6) : Ct l yX11_house cX11_house 3 (some .int) 7 149 0 0 E [.ref M] (mG E g M u B) n (Zrh E g n M u B T) := by
  refine Ct.of (by decide +kernel) (Nat.le_of_ble_eq_true rfl) (fun v hv => by simp only [List.mem_cons, List.not_mem_nil, or_false] at hv; (try rcases hv with rfl) <;> first | rfl | (subst hv; rfl) | exact hv.elim) ?_
  intro K hKl S
  subst hKl
  have X := S.1
  refine r_aload_n X dX11_house_0 rfl ?_
  refine r_callV (ci := 10) X rfl (c_X11_reads _ E g n M u B T h5 hL hT h02 h0 hp) tw_722 tw_724 tp_18 tw_7 tw_725 rfl rfl (by first | exact m0 | exact m1 | exact m2 | exact m3 | exact m4 | exact m5 | exact m6 | exact m7 | exact m8 | exact m9 | assumption) rfl ⟨ok_X11_reads, ⟨Nat.le_of_ble_eq_true rfl, Nat.le_of_ble_eq_true rfl⟩, ⟨Nat.le_of_ble_eq_true rfl, Nat.le_of_ble_eq_true rfl⟩, Nat.le_of_ble_eq_true rfl⟩ dX11_house_1 (fun v_1 g_1 n_1 z_1 => ?_)
  rcases z_1 with ⟨hn9, u2, D, ⟨q0, q1, q2⟩, rfl, ⟨q, hR, hq9, rfl, q5⟩ | ⟨m, C, hR, hm, rfl, hD⟩⟩
  · skip
    replace hn9 := hn9.symm
    subst hn9
    refine r_istore_n X dX11_house_4 (Nat.le_of_ble_eq_true rfl) ?_
    try dsimp only [List.set]
    refine r_iload_n X dX11_house_5 rfl ?_
    refine r_iconst (v := (-1)) X dX11_house_6 (by decide) ?_
    refine r_icmp_ne X 13 dX11_house_7 (by decide) (fun c_7 => ?_) (fun c_7 => ?_)
    · exact absurd rfl c_7
    refine r_bipush (v := (-4)) X dX11_house_10 (by decide) ?_
    refine r_iret S dX11_house_12 ?_
    exact ⟨rfl, Or.inl ⟨q, hR, rfl, u2, D, ⟨q0, q1, q2⟩, rfl⟩⟩
  · skip
    replace hn9 := hn9.symm
    subst hn9
    refine r_istore_n X dX11_house_4 (Nat.le_of_ble_eq_true rfl) ?_
    try dsimp only [List.set]
    refine r_iload_n X dX11_house_5 rfl ?_
    refine r_iconst (v := (-1)) X dX11_house_6 (by decide) ?_
    refine r_icmp_ne X 13 dX11_house_7 (by decide) (fun c_7 => ?_) (fun c_7 => ?_)
    rotate_left
    · exact absurd c_7 (m1_ne m (by omega))
    refine r_iconst (v := nI 0) X dX11_house_13 (by decide) ?_
    refine r_istore_n X dX11_house_14 (Nat.le_of_ble_eq_true rfl) ?_
    try dsimp only [List.set]
    have hloop : ∀ (k : Nat), k ≤ 62 → Wg K E (0) (0) 15 [some (.ref M), some (.int (nI m)), some (.int (nI k))] [] (mG E g M u2 (va_up (va_up B 3 D) 2 (fun j => if j < k then D j else B 2 j))) (n) := by
      refine ind_up _ (62) (fun k hk ih => ?_)
      refine r_iload_n X dX11_house_15 rfl ?_
      refine r_bipush (v := nI 62) X dX11_house_16 (by decide) ?_
      refine r_icmp_geN X 39 dX11_house_18 (by decide) (by omega) (by omega) (fun c_18 => ?_) (fun c_18 => ?_)
      · skip
        refine r_heap (mc2 (f2 := tfl (cFold C T m)) (fun j hj => by rw [if_pos (by omega), hD])) ?_
        refine r_aload_n X dX11_house_39 rfl ?_
        refine r_callV (ci := 10) X rfl (c_X11_lays _ E g n M u2 (va_up (va_up B 3 D) 2 (tfl (cFold C T m))) (cFold C T m) rfl) tw_654 tw_656 tp_17 tw_7 tw_657 rfl rfl (by first | exact m0 | exact m1 | exact m2 | exact m3 | exact m4 | exact m5 | exact m6 | exact m7 | exact m8 | exact m9 | assumption) rfl ⟨ok_X11_lays, ⟨Nat.le_of_ble_eq_true rfl, Nat.le_of_ble_eq_true rfl⟩, ⟨Nat.le_of_ble_eq_true rfl, Nat.le_of_ble_eq_true rfl⟩, Nat.le_of_ble_eq_true rfl⟩ dX11_house_40 (kk_v (Wf := Wg K E _ _ _ _) ?_)
        refine r_aload_n X dX11_house_43 rfl ?_
        refine r_iconst (v := nI 0) X dX11_house_44 (by decide) ?_
        refine r_put (ci := 10) (ty := .int) X 1 ti_RX11 tyX11 tyX11_ok nmX11 rfl (by decide) tw_659 (fun _ h => h) rfl (by decide +kernel) dX11_house_45 (by first | exact m0 | exact m1 | exact m2 | exact m3 | exact m4 | exact m5 | exact m6 | exact m7 | exact m8 | exact m9 | assumption) rfl rfl (Nat.le_of_ble_eq_true rfl) ?_
        try dsimp only [List.set]
        refine r_heap um_typed ?_
        refine r_iload_n X dX11_house_48 rfl ?_
        refine r_iret S dX11_house_49 ?_
        exact ⟨rfl, Or.inr ⟨m, C, hR, rfl, _, D, ⟨rfl, rfl, rfl⟩, rfl⟩⟩
      · skip
        refine r_aload_n X dX11_house_21 rfl ?_
        refine r_get (ci := 10) X 2 _ ti_RX11 rfl (by decide) tw_660 (fun _ h => h) dX11_house_22 (by first | exact m0 | exact m1 | exact m2 | exact m3 | exact m4 | exact m5 | exact m6 | exact m7 | exact m8 | exact m9 | assumption) rfl ?_
        refine r_iload_n X dX11_house_25 rfl ?_
        refine r_aload_n X dX11_house_26 rfl ?_
        refine r_get (ci := 10) X 3 _ ti_RX11 rfl (by decide) tw_661 (fun _ h => h) dX11_house_27 (by first | exact m0 | exact m1 | exact m2 | exact m3 | exact m4 | exact m5 | exact m6 | exact m7 | exact m8 | exact m9 | assumption) rfl ?_
        refine r_iload_n X dX11_house_30 rfl ?_
        refine r_nald X _ dX11_house_31 (by first | exact m0 | exact m1 | exact m2 | exact m3 | exact m4 | exact m5 | exact m6 | exact m7 | exact m8 | exact m9 | assumption) (rfl) (by omega) (by decide) ?_
        refine r_nast X _ dX11_house_32 (by first | exact m0 | exact m1 | exact m2 | exact m3 | exact m4 | exact m5 | exact m6 | exact m7 | exact m8 | exact m9 | assumption) (rfl) (by omega) (by decide) ?_
        refine r_heap um2 ?_
        refine r_heap (congrArg (fun w => mG E g M u2 w) vu_vu) ?_
        first | refine r_iincN X dX11_house_33 rfl ?_ | refine r_iinc X _ dX11_house_33 rfl rfl ?_
        try dsimp only [List.set]
        refine r_goto X 15 dX11_house_36 (by decide) ?_
        refine r_heap ?_ (ih (by omega))
        refine mc2 (fun j hj => ?_)
        show va_up (fun j => if j < k then D j else B 2 j) k (D k) j = _
        simp only [va_up]; (repeat' split) <;> first | rfl | omega | (subst_vars; rfl)
    refine r_heap ?_ (hloop 0 (Nat.zero_le _))
    rw [show (fun j => if j < 0 then D j else B 2 j) = B 2 from funext (fun j => if_neg (by omega)), vu_self (f := va_up B 3 D) (k := 2) (x := B 2) rfl]

