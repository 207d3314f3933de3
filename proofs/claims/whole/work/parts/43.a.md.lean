/-- one place set -/
def fmN (N : Mo) (k t a : Nat) : Mo := (va_up N.1 k (if a = 0 then 0 else t), va_up N.2.1 k (min 99 a), N.2.2.1, N.2.2.2)
theorem say_a {N : Mo} {j q t : Nat} (h : N.1 j = 0 ∨ N.1 j = t) : fmN N j t (N.2.1 j + q) = (takeF N.1 N.2.1 j q t, takeH N.1 N.2.1 j q t, N.2.2.1, N.2.2.2) := by
  unfold fmN takeF takeH
  rw [if_pos h, if_pos h]
  by_cases e : N.2.1 j + q = 0
  · rw [if_pos e, if_pos (by omega)]
  · rw [if_neg e, if_neg (by omega)]
theorem say_b {N : Mo} {j q t : Nat} (h : ¬ (N.1 j = 0 ∨ N.1 j = t)) (h2 : q ≤ N.2.1 j) (h9 : N.2.1 j ≤ 99) : fmN N j (N.1 j) (N.2.1 j - q) = (takeF N.1 N.2.1 j q t, takeH N.1 N.2.1 j q t, N.2.2.1, N.2.2.2) := by
  unfold fmN takeF takeH
  simp only [if_neg h, if_neg (show ¬ N.2.1 j < q by omega), Nat.min_eq_right (show N.2.1 j - q ≤ 99 by omega)]
theorem say_c {N : Mo} {j q t : Nat} (h : ¬ (N.1 j = 0 ∨ N.1 j = t)) (h2 : N.2.1 j < q) (h9 : q ≤ 99) : fmN N j t (q - N.2.1 j) = (takeF N.1 N.2.1 j q t, takeH N.1 N.2.1 j q t, N.2.2.1, N.2.2.2) := by
  unfold fmN takeF takeH
  simp only [if_neg h, if_pos h2, Nat.min_eq_right (show q - N.2.1 j ≤ 99 by omega)]
theorem fm_rub {N : Mo} {p p' : Nat → Bool} {j0 : Nat} {kn : Nat → Nat} {d : Nat} (h0 : p j0 = false) (h1 : p' j0 = true) (h2 : ∀ j, j ≠ j0 → p' j = p j) (h9 : N.2.1 j0 ≤ 99) : fmN (rubF p N.1 N.2.1, rubH p N.2.1, kn, d) j0 (rubF p N.1 N.2.1 j0) (rubH p N.2.1 j0 - 1) = (rubF p' N.1 N.2.1, rubH p' N.2.1, kn, d) := by
  have h := rub_step (f := N.1) (h := N.2.1) h0 h1 h2
  unfold fmN
  dsimp only
  rw [← h.1, ← h.2, Nat.min_eq_right (show rubH p N.2.1 j0 - 1 ≤ 99 by unfold rubH; rw [h0]; simp; omega)]

set_option maxHeartbeats 4000000 in
set_option maxRecDepth 100000 in
/-- BanisterWordModel.as  -/
theorem c_X11_as (l : Launch) (E : xE) (g : hG) (n : Nat) (M : Nat) (u : Nat → Nat) (B : Nat → Nat → Nat) (T : hsT) (x y : Int32) (hT : B 2 = tfl T) (h0 : T.1 ≤ 12) (h1 : T.2.1 ≤ 6) (hP : ∀ i, i < T.2.1 → T.2.2.1 i < 4 ∧ T.2.2.2.1 i ≤ 9) : Ct l yX11_as cX11_as 5 (some .int) 2 43 0 0 E [.ref M, .int x, .int y] (mG E g M u B) n (zr (some (.int (asR T.2.1 T.2.2.1 T.2.2.2.1 x y))) (mG E g M u B) (n)) := by
  refine Ct.of (by decide +kernel) (Nat.le_of_ble_eq_true rfl) (fun v hv => by simp only [List.mem_cons, List.not_mem_nil, or_false] at hv; (try rcases hv with rfl | rfl | rfl) <;> first | rfl | (subst hv; rfl) | exact hv.elim) ?_
  intro K hKl S
  subst hKl
  have X := S.1
  refine r_aload_n X dX11_as_0 rfl ?_
  refine r_iload_n X dX11_as_1 rfl ?_
  refine r_callV (ci := 10) X rfl (c_X11_isPerson _ E g n M u B x (by rw [(show B 2 1 = T.2.1 by rw [hT]; rfl)]; omega)) tw_776 tw_778 tp_28 tw_7 tw_779 rfl rfl (by first | exact m0 | exact m1 | exact m2 | exact m3 | exact m4 | exact m5 | exact m6 | exact m7 | exact m8 | exact m9 | assumption) rfl ⟨ok_X11_isPerson, ⟨Nat.le_of_ble_eq_true rfl, Nat.le_of_ble_eq_true rfl⟩, ⟨Nat.le_of_ble_eq_true rfl, Nat.le_of_ble_eq_true rfl⟩, Nat.le_of_ble_eq_true rfl⟩ dX11_as_2 (kk_r (Wf := Wg K E _ _ _ _) ?_)
  refine r_top _ _ (congrArg (fun q => bI (inR x q)) (show B 2 1 = T.2.1 by rw [hT]; rfl)) ?_
  refine r_if_neB X 11 dX11_as_5 (by decide) (fun c_5 => ?_) (fun c_5 => ?_)
  · skip
    obtain ⟨i, hi, rfl⟩ := inR_ex (by omega) c_5
    have hix : ix (nI i) = i := ix_nI (by omega)
    refine r_iload_n X dX11_as_11 rfl ?_
    refine r_iconst (v := nI 0) X dX11_as_12 (by decide) ?_
    refine r_iconst (v := nI 4) X dX11_as_13 (by decide) ?_
    refine r_callS X rfl (c_X11_in _ E _ n _ _ _) tw_711 tw_712 tw_7 tw_713 rfl ⟨ok_X11_in, ⟨Nat.le_of_ble_eq_true rfl, Nat.le_of_ble_eq_true rfl⟩, ⟨Nat.le_of_ble_eq_true rfl, Nat.le_of_ble_eq_true rfl⟩, Nat.le_of_ble_eq_true rfl⟩ dX11_as_14 (kk_r (Wf := Wg K E _ _ _ _) ?_)
    refine r_top _ _ (congrArg bI (inQ_c 4 (by decide))) ?_
    refine r_if_neB X 23 dX11_as_17 (by decide) (fun c_17 => ?_) (fun c_17 => ?_)
    · skip
      obtain ⟨k, hk, rfl⟩ := inR_ex (by omega) c_17
      have hkx : ix (nI k) = k := ix_nI (by omega)
      have hkn : kindN (T.2.2.1 i) < 4 := by unfold kindN; (repeat' split) <;> omega
      refine r_aload_n X dX11_as_23 rfl ?_
      refine r_get (ci := 10) X 2 _ ti_RX11 rfl (by decide) tw_660 (fun _ h => h) dX11_as_24 (by first | exact m0 | exact m1 | exact m2 | exact m3 | exact m4 | exact m5 | exact m6 | exact m7 | exact m8 | exact m9 | assumption) rfl ?_
      refine r_iconst (v := nI 2) X dX11_as_27 (by decide) ?_
      refine r_iload_n X dX11_as_28 rfl ?_
      first | refine r_iaddN X dX11_as_29 ?_ | refine r_iadd X _ dX11_as_29 rfl ?_
      refine r_nald X _ dX11_as_30 (by first | exact m0 | exact m1 | exact m2 | exact m3 | exact m4 | exact m5 | exact m6 | exact m7 | exact m8 | exact m9 | assumption) (rfl) (by omega) (by decide) ?_
      refine r_top _ _ (congrArg nI (show B 2 (2 + i) = kindN (T.2.2.1 i) by rw [hT]; exact tfl_k (by omega))) ?_
      refine r_istore_n X dX11_as_31 (Nat.le_of_ble_eq_true rfl) ?_
      try dsimp only [List.set]
      rcases (show T.2.2.1 i = 0 ∨ T.2.2.1 i = 1 ∨ T.2.2.1 i = 2 ∨ T.2.2.1 i = 3 by have := (hP i hi).1; omega) with hc | hc | hc | hc
      · skip
        have hkc : kindN (T.2.2.1 i) = 1 := by rw [hc]; rfl
        refine r_iload_n X dX11_as_32 rfl ?_
        refine r_if_eqN X 53 dX11_as_33 (by decide) (by omega) (fun c_33 => ?_) (fun c_33 => ?_)
        · skip
          refine r_iconst (v := nI 1) X dX11_as_53 (by decide) ?_
          refine r_goto X 58 dX11_as_54 (by decide) ?_
          refine r_istore X dX11_as_58 (Nat.le_of_ble_eq_true rfl) ?_
          try dsimp only [List.set]
          refine r_iload X dX11_as_60 rfl ?_
          refine r_if_eqN X 73 dX11_as_62 (by decide) (by omega) (fun c_62 => ?_) (fun c_62 => ?_)
          · skip
            refine r_bipush (v := (-4)) X dX11_as_73 (by decide) ?_
            refine r_iret S dX11_as_75 ?_
            refine ⟨?_, rfl, rfl⟩
            unfold asR
            rw [if_pos c_5, if_pos c_17, hix, hkx]
            first | exact absurd c_62 (by decide) | (exfalso; omega) | (rw [if_pos (by rw [hc]; unfold okK; simp; omega)]) | (rw [if_neg (by rw [hc]; unfold okK; simp; omega)])
          · skip
            refine r_aload_n X dX11_as_65 rfl ?_
            refine r_iload_n X dX11_as_66 rfl ?_
            refine r_callV (ci := 10) X rfl (c_X11_warmOf _ E g n M u B T i hT (by omega) (hP i hi).1 (by have := (hP i hi).2; omega)) tw_792 tw_794 tp_30 tw_7 tw_795 rfl rfl (by first | exact m0 | exact m1 | exact m2 | exact m3 | exact m4 | exact m5 | exact m6 | exact m7 | exact m8 | exact m9 | assumption) rfl ⟨ok_X11_warmOf, ⟨Nat.le_of_ble_eq_true rfl, Nat.le_of_ble_eq_true rfl⟩, ⟨Nat.le_of_ble_eq_true rfl, Nat.le_of_ble_eq_true rfl⟩, Nat.le_of_ble_eq_true rfl⟩ dX11_as_67 (kk_r (Wf := Wg K E _ _ _ _) ?_)
            refine r_goto X 75 dX11_as_70 (by decide) ?_
            refine r_iret S dX11_as_75 ?_
            refine ⟨?_, rfl, rfl⟩
            unfold asR
            rw [if_pos c_5, if_pos c_17, hix, hkx]
            first | exact absurd c_62 (by decide) | (exfalso; omega) | (rw [if_pos (by rw [hc]; unfold okK; simp; omega)]) | (rw [if_neg (by rw [hc]; unfold okK; simp; omega)])
        · skip
          refine r_iload_n X dX11_as_36 rfl ?_
          refine r_iload_n X dX11_as_37 rfl ?_
          refine r_iconst (v := nI 1) X dX11_as_38 (by decide) ?_
          first | refine r_iaddN X dX11_as_39 ?_ | refine r_iadd X _ dX11_as_39 rfl ?_
          refine r_icmp_eqN X 53 dX11_as_40 (by decide) (by omega) (by omega) (fun c_40 => ?_) (fun c_40 => ?_)
          · skip
            refine r_iconst (v := nI 1) X dX11_as_53 (by decide) ?_
            refine r_goto X 58 dX11_as_54 (by decide) ?_
            refine r_istore X dX11_as_58 (Nat.le_of_ble_eq_true rfl) ?_
            try dsimp only [List.set]
            refine r_iload X dX11_as_60 rfl ?_
            refine r_if_eqN X 73 dX11_as_62 (by decide) (by omega) (fun c_62 => ?_) (fun c_62 => ?_)
            · skip
              refine r_bipush (v := (-4)) X dX11_as_73 (by decide) ?_
              refine r_iret S dX11_as_75 ?_
              refine ⟨?_, rfl, rfl⟩
              unfold asR
              rw [if_pos c_5, if_pos c_17, hix, hkx]
              first | exact absurd c_62 (by decide) | (exfalso; omega) | (rw [if_pos (by rw [hc]; unfold okK; simp; omega)]) | (rw [if_neg (by rw [hc]; unfold okK; simp; omega)])
            · skip
              refine r_aload_n X dX11_as_65 rfl ?_
              refine r_iload_n X dX11_as_66 rfl ?_
              refine r_callV (ci := 10) X rfl (c_X11_warmOf _ E g n M u B T i hT (by omega) (hP i hi).1 (by have := (hP i hi).2; omega)) tw_792 tw_794 tp_30 tw_7 tw_795 rfl rfl (by first | exact m0 | exact m1 | exact m2 | exact m3 | exact m4 | exact m5 | exact m6 | exact m7 | exact m8 | exact m9 | assumption) rfl ⟨ok_X11_warmOf, ⟨Nat.le_of_ble_eq_true rfl, Nat.le_of_ble_eq_true rfl⟩, ⟨Nat.le_of_ble_eq_true rfl, Nat.le_of_ble_eq_true rfl⟩, Nat.le_of_ble_eq_true rfl⟩ dX11_as_67 (kk_r (Wf := Wg K E _ _ _ _) ?_)
              refine r_goto X 75 dX11_as_70 (by decide) ?_
              refine r_iret S dX11_as_75 ?_
              refine ⟨?_, rfl, rfl⟩
              unfold asR
              rw [if_pos c_5, if_pos c_17, hix, hkx]
              first | exact absurd c_62 (by decide) | (exfalso; omega) | (rw [if_pos (by rw [hc]; unfold okK; simp; omega)]) | (rw [if_neg (by rw [hc]; unfold okK; simp; omega)])
          · skip
            refine r_iload_n X dX11_as_43 rfl ?_
            refine r_iconst (v := nI 1) X dX11_as_44 (by decide) ?_
            refine r_icmp_neN X 57 dX11_as_45 (by decide) (by omega) (by omega) (fun c_45 => ?_) (fun c_45 => ?_)
            · skip
              refine r_iconst (v := nI 0) X dX11_as_57 (by decide) ?_
              refine r_istore X dX11_as_58 (Nat.le_of_ble_eq_true rfl) ?_
              try dsimp only [List.set]
              refine r_iload X dX11_as_60 rfl ?_
              refine r_if_eqN X 73 dX11_as_62 (by decide) (by omega) (fun c_62 => ?_) (fun c_62 => ?_)
              · skip
                refine r_bipush (v := (-4)) X dX11_as_73 (by decide) ?_
                refine r_iret S dX11_as_75 ?_
                refine ⟨?_, rfl, rfl⟩
                unfold asR
                rw [if_pos c_5, if_pos c_17, hix, hkx]
                first | exact absurd c_62 (by decide) | (exfalso; omega) | (rw [if_pos (by rw [hc]; unfold okK; simp; omega)]) | (rw [if_neg (by rw [hc]; unfold okK; simp; omega)])
              · skip
                refine r_aload_n X dX11_as_65 rfl ?_
                refine r_iload_n X dX11_as_66 rfl ?_
                refine r_callV (ci := 10) X rfl (c_X11_warmOf _ E g n M u B T i hT (by omega) (hP i hi).1 (by have := (hP i hi).2; omega)) tw_792 tw_794 tp_30 tw_7 tw_795 rfl rfl (by first | exact m0 | exact m1 | exact m2 | exact m3 | exact m4 | exact m5 | exact m6 | exact m7 | exact m8 | exact m9 | assumption) rfl ⟨ok_X11_warmOf, ⟨Nat.le_of_ble_eq_true rfl, Nat.le_of_ble_eq_true rfl⟩, ⟨Nat.le_of_ble_eq_true rfl, Nat.le_of_ble_eq_true rfl⟩, Nat.le_of_ble_eq_true rfl⟩ dX11_as_67 (kk_r (Wf := Wg K E _ _ _ _) ?_)
                refine r_goto X 75 dX11_as_70 (by decide) ?_
                refine r_iret S dX11_as_75 ?_
                refine ⟨?_, rfl, rfl⟩
                unfold asR
                rw [if_pos c_5, if_pos c_17, hix, hkx]
                first | exact absurd c_62 (by decide) | (exfalso; omega) | (rw [if_pos (by rw [hc]; unfold okK; simp; omega)]) | (rw [if_neg (by rw [hc]; unfold okK; simp; omega)])
            · skip
              refine r_iload_n X dX11_as_48 rfl ?_
              refine r_iconst (v := nI 3) X dX11_as_49 (by decide) ?_
              refine r_icmp_geN X 57 dX11_as_50 (by decide) (by omega) (by omega) (fun c_50 => ?_) (fun c_50 => ?_)
              · skip
                refine r_iconst (v := nI 0) X dX11_as_57 (by decide) ?_
                refine r_istore X dX11_as_58 (Nat.le_of_ble_eq_true rfl) ?_
                try dsimp only [List.set]
                refine r_iload X dX11_as_60 rfl ?_
                refine r_if_eqN X 73 dX11_as_62 (by decide) (by omega) (fun c_62 => ?_) (fun c_62 => ?_)
                · skip
                  refine r_bipush (v := (-4)) X dX11_as_73 (by decide) ?_
                  refine r_iret S dX11_as_75 ?_
                  refine ⟨?_, rfl, rfl⟩
                  unfold asR
                  rw [if_pos c_5, if_pos c_17, hix, hkx]
                  first | exact absurd c_62 (by decide) | (exfalso; omega) | (rw [if_pos (by rw [hc]; unfold okK; simp; omega)]) | (rw [if_neg (by rw [hc]; unfold okK; simp; omega)])
                · skip
                  refine r_aload_n X dX11_as_65 rfl ?_
                  refine r_iload_n X dX11_as_66 rfl ?_
                  refine r_callV (ci := 10) X rfl (c_X11_warmOf _ E g n M u B T i hT (by omega) (hP i hi).1 (by have := (hP i hi).2; omega)) tw_792 tw_794 tp_30 tw_7 tw_795 rfl rfl (by first | exact m0 | exact m1 | exact m2 | exact m3 | exact m4 | exact m5 | exact m6 | exact m7 | exact m8 | exact m9 | assumption) rfl ⟨ok_X11_warmOf, ⟨Nat.le_of_ble_eq_true rfl, Nat.le_of_ble_eq_true rfl⟩, ⟨Nat.le_of_ble_eq_true rfl, Nat.le_of_ble_eq_true rfl⟩, Nat.le_of_ble_eq_true rfl⟩ dX11_as_67 (kk_r (Wf := Wg K E _ _ _ _) ?_)
                  refine r_goto X 75 dX11_as_70 (by decide) ?_
                  refine r_iret S dX11_as_75 ?_
                  refine ⟨?_, rfl, rfl⟩
                  unfold asR
                  rw [if_pos c_5, if_pos c_17, hix, hkx]
                  first | exact absurd c_62 (by decide) | (exfalso; omega) | (rw [if_pos (by rw [hc]; unfold okK; simp; omega)]) | (rw [if_neg (by rw [hc]; unfold okK; simp; omega)])
              · skip
                refine r_iconst (v := nI 1) X dX11_as_53 (by decide) ?_
                refine r_goto X 58 dX11_as_54 (by decide) ?_
                refine r_istore X dX11_as_58 (Nat.le_of_ble_eq_true rfl) ?_
                try dsimp only [List.set]
                refine r_iload X dX11_as_60 rfl ?_
                refine r_if_eqN X 73 dX11_as_62 (by decide) (by omega) (fun c_62 => ?_) (fun c_62 => ?_)
                · skip
                  refine r_bipush (v := (-4)) X dX11_as_73 (by decide) ?_
                  refine r_iret S dX11_as_75 ?_
                  refine ⟨?_, rfl, rfl⟩
                  unfold asR
                  rw [if_pos c_5, if_pos c_17, hix, hkx]
                  first | exact absurd c_62 (by decide) | (exfalso; omega) | (rw [if_pos (by rw [hc]; unfold okK; simp; omega)]) | (rw [if_neg (by rw [hc]; unfold okK; simp; omega)])
                · skip
                  refine r_aload_n X dX11_as_65 rfl ?_
                  refine r_iload_n X dX11_as_66 rfl ?_
                  refine r_callV (ci := 10) X rfl (c_X11_warmOf _ E g n M u B T i hT (by omega) (hP i hi).1 (by have := (hP i hi).2; omega)) tw_792 tw_794 tp_30 tw_7 tw_795 rfl rfl (by first | exact m0 | exact m1 | exact m2 | exact m3 | exact m4 | exact m5 | exact m6 | exact m7 | exact m8 | exact m9 | assumption) rfl ⟨ok_X11_warmOf, ⟨Nat.le_of_ble_eq_true rfl, Nat.le_of_ble_eq_true rfl⟩, ⟨Nat.le_of_ble_eq_true rfl, Nat.le_of_ble_eq_true rfl⟩, Nat.le_of_ble_eq_true rfl⟩ dX11_as_67 (kk_r (Wf := Wg K E _ _ _ _) ?_)
                  refine r_goto X 75 dX11_as_70 (by decide) ?_
                  refine r_iret S dX11_as_75 ?_
                  refine ⟨?_, rfl, rfl⟩
                  unfold asR
                  rw [if_pos c_5, if_pos c_17, hix, hkx]
                  first | exact absurd c_62 (by decide) | (exfalso; omega) | (rw [if_pos (by rw [hc]; unfold okK; simp; omega)]) | (rw [if_neg (by rw [hc]; unfold okK; simp; omega)])
      · skip
        have hkc : kindN (T.2.2.1 i) = 2 := by rw [hc]; rfl
        refine r_iload_n X dX11_as_32 rfl ?_
        refine r_if_eqN X 53 dX11_as_33 (by decide) (by omega) (fun c_33 => ?_) (fun c_33 => ?_)
        · skip
          refine r_iconst (v := nI 1) X dX11_as_53 (by decide) ?_
          refine r_goto X 58 dX11_as_54 (by decide) ?_
          refine r_istore X dX11_as_58 (Nat.le_of_ble_eq_true rfl) ?_
          try dsimp only [List.set]
          refine r_iload X dX11_as_60 rfl ?_
          refine r_if_eqN X 73 dX11_as_62 (by decide) (by omega) (fun c_62 => ?_) (fun c_62 => ?_)
          · skip
            refine r_bipush (v := (-4)) X dX11_as_73 (by decide) ?_
            refine r_iret S dX11_as_75 ?_
            refine ⟨?_, rfl, rfl⟩
            unfold asR
            rw [if_pos c_5, if_pos c_17, hix, hkx]
            first | exact absurd c_62 (by decide) | (exfalso; omega) | (rw [if_pos (by rw [hc]; unfold okK; simp; omega)]) | (rw [if_neg (by rw [hc]; unfold okK; simp; omega)])
          · skip
            refine r_aload_n X dX11_as_65 rfl ?_
            refine r_iload_n X dX11_as_66 rfl ?_
            refine r_callV (ci := 10) X rfl (c_X11_warmOf _ E g n M u B T i hT (by omega) (hP i hi).1 (by have := (hP i hi).2; omega)) tw_792 tw_794 tp_30 tw_7 tw_795 rfl rfl (by first | exact m0 | exact m1 | exact m2 | exact m3 | exact m4 | exact m5 | exact m6 | exact m7 | exact m8 | exact m9 | assumption) rfl ⟨ok_X11_warmOf, ⟨Nat.le_of_ble_eq_true rfl, Nat.le_of_ble_eq_true rfl⟩, ⟨Nat.le_of_ble_eq_true rfl, Nat.le_of_ble_eq_true rfl⟩, Nat.le_of_ble_eq_true rfl⟩ dX11_as_67 (kk_r (Wf := Wg K E _ _ _ _) ?_)
            refine r_goto X 75 dX11_as_70 (by decide) ?_
            refine r_iret S dX11_as_75 ?_
            refine ⟨?_, rfl, rfl⟩
            unfold asR
            rw [if_pos c_5, if_pos c_17, hix, hkx]
            first | exact absurd c_62 (by decide) | (exfalso; omega) | (rw [if_pos (by rw [hc]; unfold okK; simp; omega)]) | (rw [if_neg (by rw [hc]; unfold okK; simp; omega)])
        · skip
          refine r_iload_n X dX11_as_36 rfl ?_
          refine r_iload_n X dX11_as_37 rfl ?_
          refine r_iconst (v := nI 1) X dX11_as_38 (by decide) ?_
          first | refine r_iaddN X dX11_as_39 ?_ | refine r_iadd X _ dX11_as_39 rfl ?_
          refine r_icmp_eqN X 53 dX11_as_40 (by decide) (by omega) (by omega) (fun c_40 => ?_) (fun c_40 => ?_)
          · skip
            refine r_iconst (v := nI 1) X dX11_as_53 (by decide) ?_
            refine r_goto X 58 dX11_as_54 (by decide) ?_
            refine r_istore X dX11_as_58 (Nat.le_of_ble_eq_true rfl) ?_
            try dsimp only [List.set]
            refine r_iload X dX11_as_60 rfl ?_
            refine r_if_eqN X 73 dX11_as_62 (by decide) (by omega) (fun c_62 => ?_) (fun c_62 => ?_)
            · skip
              refine r_bipush (v := (-4)) X dX11_as_73 (by decide) ?_
              refine r_iret S dX11_as_75 ?_
              refine ⟨?_, rfl, rfl⟩
              unfold asR
              rw [if_pos c_5, if_pos c_17, hix, hkx]
              first | exact absurd c_62 (by decide) | (exfalso; omega) | (rw [if_pos (by rw [hc]; unfold okK; simp; omega)]) | (rw [if_neg (by rw [hc]; unfold okK; simp; omega)])
            · skip
              refine r_aload_n X dX11_as_65 rfl ?_
              refine r_iload_n X dX11_as_66 rfl ?_
              refine r_callV (ci := 10) X rfl (c_X11_warmOf _ E g n M u B T i hT (by omega) (hP i hi).1 (by have := (hP i hi).2; omega)) tw_792 tw_794 tp_30 tw_7 tw_795 rfl rfl (by first | exact m0 | exact m1 | exact m2 | exact m3 | exact m4 | exact m5 | exact m6 | exact m7 | exact m8 | exact m9 | assumption) rfl ⟨ok_X11_warmOf, ⟨Nat.le_of_ble_eq_true rfl, Nat.le_of_ble_eq_true rfl⟩, ⟨Nat.le_of_ble_eq_true rfl, Nat.le_of_ble_eq_true rfl⟩, Nat.le_of_ble_eq_true rfl⟩ dX11_as_67 (kk_r (Wf := Wg K E _ _ _ _) ?_)
              refine r_goto X 75 dX11_as_70 (by decide) ?_
              refine r_iret S dX11_as_75 ?_
              refine ⟨?_, rfl, rfl⟩
              unfold asR
              rw [if_pos c_5, if_pos c_17, hix, hkx]
              first | exact absurd c_62 (by decide) | (exfalso; omega) | (rw [if_pos (by rw [hc]; unfold okK; simp; omega)]) | (rw [if_neg (by rw [hc]; unfold okK; simp; omega)])
          · skip
            refine r_iload_n X dX11_as_43 rfl ?_
            refine r_iconst (v := nI 1) X dX11_as_44 (by decide) ?_
            refine r_icmp_neN X 57 dX11_as_45 (by decide) (by omega) (by omega) (fun c_45 => ?_) (fun c_45 => ?_)
            · skip
              refine r_iconst (v := nI 0) X dX11_as_57 (by decide) ?_
              refine r_istore X dX11_as_58 (Nat.le_of_ble_eq_true rfl) ?_
              try dsimp only [List.set]
              refine r_iload X dX11_as_60 rfl ?_
              refine r_if_eqN X 73 dX11_as_62 (by decide) (by omega) (fun c_62 => ?_) (fun c_62 => ?_)
              · skip
                refine r_bipush (v := (-4)) X dX11_as_73 (by decide) ?_
                refine r_iret S dX11_as_75 ?_
                refine ⟨?_, rfl, rfl⟩
                unfold asR
                rw [if_pos c_5, if_pos c_17, hix, hkx]
                first | exact absurd c_62 (by decide) | (exfalso; omega) | (rw [if_pos (by rw [hc]; unfold okK; simp; omega)]) | (rw [if_neg (by rw [hc]; unfold okK; simp; omega)])
              · skip
                refine r_aload_n X dX11_as_65 rfl ?_
                refine r_iload_n X dX11_as_66 rfl ?_
                refine r_callV (ci := 10) X rfl (c_X11_warmOf _ E g n M u B T i hT (by omega) (hP i hi).1 (by have := (hP i hi).2; omega)) tw_792 tw_794 tp_30 tw_7 tw_795 rfl rfl (by first | exact m0 | exact m1 | exact m2 | exact m3 | exact m4 | exact m5 | exact m6 | exact m7 | exact m8 | exact m9 | assumption) rfl ⟨ok_X11_warmOf, ⟨Nat.le_of_ble_eq_true rfl, Nat.le_of_ble_eq_true rfl⟩, ⟨Nat.le_of_ble_eq_true rfl, Nat.le_of_ble_eq_true rfl⟩, Nat.le_of_ble_eq_true rfl⟩ dX11_as_67 (kk_r (Wf := Wg K E _ _ _ _) ?_)
                refine r_goto X 75 dX11_as_70 (by decide) ?_
                refine r_iret S dX11_as_75 ?_
                refine ⟨?_, rfl, rfl⟩
                unfold asR
                rw [if_pos c_5, if_pos c_17, hix, hkx]
                first | exact absurd c_62 (by decide) | (exfalso; omega) | (rw [if_pos (by rw [hc]; unfold okK; simp; omega)]) | (rw [if_neg (by rw [hc]; unfold okK; simp; omega)])
            · skip
              refine r_iload_n X dX11_as_48 rfl ?_
              refine r_iconst (v := nI 3) X dX11_as_49 (by decide) ?_
              refine r_icmp_geN X 57 dX11_as_50 (by decide) (by omega) (by omega) (fun c_50 => ?_) (fun c_50 => ?_)
              · skip
                refine r_iconst (v := nI 0) X dX11_as_57 (by decide) ?_
                refine r_istore X dX11_as_58 (Nat.le_of_ble_eq_true rfl) ?_
                try dsimp only [List.set]
                refine r_iload X dX11_as_60 rfl ?_
                refine r_if_eqN X 73 dX11_as_62 (by decide) (by omega) (fun c_62 => ?_) (fun c_62 => ?_)
                · skip
                  refine r_bipush (v := (-4)) X dX11_as_73 (by decide) ?_
                  refine r_iret S dX11_as_75 ?_
                  refine ⟨?_, rfl, rfl⟩
                  unfold asR
                  rw [if_pos c_5, if_pos c_17, hix, hkx]
                  first | exact absurd c_62 (by decide) | (exfalso; omega) | (rw [if_pos (by rw [hc]; unfold okK; simp; omega)]) | (rw [if_neg (by rw [hc]; unfold okK; simp; omega)])
                · skip
                  refine r_aload_n X dX11_as_65 rfl ?_
                  refine r_iload_n X dX11_as_66 rfl ?_
                  refine r_callV (ci := 10) X rfl (c_X11_warmOf _ E g n M u B T i hT (by omega) (hP i hi).1 (by have := (hP i hi).2; omega)) tw_792 tw_794 tp_30 tw_7 tw_795 rfl rfl (by first | exact m0 | exact m1 | exact m2 | exact m3 | exact m4 | exact m5 | exact m6 | exact m7 | exact m8 | exact m9 | assumption) rfl ⟨ok_X11_warmOf, ⟨Nat.le_of_ble_eq_true rfl, Nat.le_of_ble_eq_true rfl⟩, ⟨Nat.le_of_ble_eq_true rfl, Nat.le_of_ble_eq_true rfl⟩, Nat.le_of_ble_eq_true rfl⟩ dX11_as_67 (kk_r (Wf := Wg K E _ _ _ _) ?_)
                  refine r_goto X 75 dX11_as_70 (by decide) ?_
                  refine r_iret S dX11_as_75 ?_
                  refine ⟨?_, rfl, rfl⟩
                  unfold asR
                  rw [if_pos c_5, if_pos c_17, hix, hkx]
                  first | exact absurd c_62 (by decide) | (exfalso; omega) | (rw [if_pos (by rw [hc]; unfold okK; simp; omega)]) | (rw [if_neg (by rw [hc]; unfold okK; simp; omega)])
              · skip
                refine r_iconst (v := nI 1) X dX11_as_53 (by decide) ?_
                refine r_goto X 58 dX11_as_54 (by decide) ?_
                refine r_istore X dX11_as_58 (Nat.le_of_ble_eq_true rfl) ?_
                try dsimp only [List.set]
                refine r_iload X dX11_as_60 rfl ?_
                refine r_if_eqN X 73 dX11_as_62 (by decide) (by omega) (fun c_62 => ?_) (fun c_62 => ?_)
                · skip
                  refine r_bipush (v := (-4)) X dX11_as_73 (by decide) ?_
                  refine r_iret S dX11_as_75 ?_
                  refine ⟨?_, rfl, rfl⟩
                  unfold asR
                  rw [if_pos c_5, if_pos c_17, hix, hkx]
                  first | exact absurd c_62 (by decide) | (exfalso; omega) | (rw [if_pos (by rw [hc]; unfold okK; simp; omega)]) | (rw [if_neg (by rw [hc]; unfold okK; simp; omega)])
                · skip
                  refine r_aload_n X dX11_as_65 rfl ?_
                  refine r_iload_n X dX11_as_66 rfl ?_
                  refine r_callV (ci := 10) X rfl (c_X11_warmOf _ E g n M u B T i hT (by omega) (hP i hi).1 (by have := (hP i hi).2; omega)) tw_792 tw_794 tp_30 tw_7 tw_795 rfl rfl (by first | exact m0 | exact m1 | exact m2 | exact m3 | exact m4 | exact m5 | exact m6 | exact m7 | exact m8 | exact m9 | assumption) rfl ⟨ok_X11_warmOf, ⟨Nat.le_of_ble_eq_true rfl, Nat.le_of_ble_eq_true rfl⟩, ⟨Nat.le_of_ble_eq_true rfl, Nat.le_of_ble_eq_true rfl⟩, Nat.le_of_ble_eq_true rfl⟩ dX11_as_67 (kk_r (Wf := Wg K E _ _ _ _) ?_)
                  refine r_goto X 75 dX11_as_70 (by decide) ?_
                  refine r_iret S dX11_as_75 ?_
                  refine ⟨?_, rfl, rfl⟩
                  unfold asR
                  rw [if_pos c_5, if_pos c_17, hix, hkx]
                  first | exact absurd c_62 (by decide) | (exfalso; omega) | (rw [if_pos (by rw [hc]; unfold okK; simp; omega)]) | (rw [if_neg (by rw [hc]; unfold okK; simp; omega)])
      · skip
        have hkc : kindN (T.2.2.1 i) = 0 := by rw [hc]; rfl
        refine r_iload_n X dX11_as_32 rfl ?_
        refine r_if_eqN X 53 dX11_as_33 (by decide) (by omega) (fun c_33 => ?_) (fun c_33 => ?_)
        · skip
          refine r_iconst (v := nI 1) X dX11_as_53 (by decide) ?_
          refine r_goto X 58 dX11_as_54 (by decide) ?_
          refine r_istore X dX11_as_58 (Nat.le_of_ble_eq_true rfl) ?_
          try dsimp only [List.set]
          refine r_iload X dX11_as_60 rfl ?_
          refine r_if_eqN X 73 dX11_as_62 (by decide) (by omega) (fun c_62 => ?_) (fun c_62 => ?_)
          · skip
            refine r_bipush (v := (-4)) X dX11_as_73 (by decide) ?_
            refine r_iret S dX11_as_75 ?_
            refine ⟨?_, rfl, rfl⟩
            unfold asR
            rw [if_pos c_5, if_pos c_17, hix, hkx]
            first | exact absurd c_62 (by decide) | (exfalso; omega) | (rw [if_pos (by rw [hc]; unfold okK; simp; omega)]) | (rw [if_neg (by rw [hc]; unfold okK; simp; omega)])
          · skip
            refine r_aload_n X dX11_as_65 rfl ?_
            refine r_iload_n X dX11_as_66 rfl ?_
            refine r_callV (ci := 10) X rfl (c_X11_warmOf _ E g n M u B T i hT (by omega) (hP i hi).1 (by have := (hP i hi).2; omega)) tw_792 tw_794 tp_30 tw_7 tw_795 rfl rfl (by first | exact m0 | exact m1 | exact m2 | exact m3 | exact m4 | exact m5 | exact m6 | exact m7 | exact m8 | exact m9 | assumption) rfl ⟨ok_X11_warmOf, ⟨Nat.le_of_ble_eq_true rfl, Nat.le_of_ble_eq_true rfl⟩, ⟨Nat.le_of_ble_eq_true rfl, Nat.le_of_ble_eq_true rfl⟩, Nat.le_of_ble_eq_true rfl⟩ dX11_as_67 (kk_r (Wf := Wg K E _ _ _ _) ?_)
            refine r_goto X 75 dX11_as_70 (by decide) ?_
            refine r_iret S dX11_as_75 ?_
            refine ⟨?_, rfl, rfl⟩
            unfold asR
            rw [if_pos c_5, if_pos c_17, hix, hkx]
            first | exact absurd c_62 (by decide) | (exfalso; omega) | (rw [if_pos (by rw [hc]; unfold okK; simp; omega)]) | (rw [if_neg (by rw [hc]; unfold okK; simp; omega)])
        · skip
          refine r_iload_n X dX11_as_36 rfl ?_
          refine r_iload_n X dX11_as_37 rfl ?_
          refine r_iconst (v := nI 1) X dX11_as_38 (by decide) ?_
          first | refine r_iaddN X dX11_as_39 ?_ | refine r_iadd X _ dX11_as_39 rfl ?_
          refine r_icmp_eqN X 53 dX11_as_40 (by decide) (by omega) (by omega) (fun c_40 => ?_) (fun c_40 => ?_)
          · skip
            refine r_iconst (v := nI 1) X dX11_as_53 (by decide) ?_
            refine r_goto X 58 dX11_as_54 (by decide) ?_
            refine r_istore X dX11_as_58 (Nat.le_of_ble_eq_true rfl) ?_
            try dsimp only [List.set]
            refine r_iload X dX11_as_60 rfl ?_
            refine r_if_eqN X 73 dX11_as_62 (by decide) (by omega) (fun c_62 => ?_) (fun c_62 => ?_)
            · skip
              refine r_bipush (v := (-4)) X dX11_as_73 (by decide) ?_
              refine r_iret S dX11_as_75 ?_
              refine ⟨?_, rfl, rfl⟩
              unfold asR
              rw [if_pos c_5, if_pos c_17, hix, hkx]
              first | exact absurd c_62 (by decide) | (exfalso; omega) | (rw [if_pos (by rw [hc]; unfold okK; simp; omega)]) | (rw [if_neg (by rw [hc]; unfold okK; simp; omega)])
            · skip
              refine r_aload_n X dX11_as_65 rfl ?_
              refine r_iload_n X dX11_as_66 rfl ?_
              refine r_callV (ci := 10) X rfl (c_X11_warmOf _ E g n M u B T i hT (by omega) (hP i hi).1 (by have := (hP i hi).2; omega)) tw_792 tw_794 tp_30 tw_7 tw_795 rfl rfl (by first | exact m0 | exact m1 | exact m2 | exact m3 | exact m4 | exact m5 | exact m6 | exact m7 | exact m8 | exact m9 | assumption) rfl ⟨ok_X11_warmOf, ⟨Nat.le_of_ble_eq_true rfl, Nat.le_of_ble_eq_true rfl⟩, ⟨Nat.le_of_ble_eq_true rfl, Nat.le_of_ble_eq_true rfl⟩, Nat.le_of_ble_eq_true rfl⟩ dX11_as_67 (kk_r (Wf := Wg K E _ _ _ _) ?_)
              refine r_goto X 75 dX11_as_70 (by decide) ?_
              refine r_iret S dX11_as_75 ?_
              refine ⟨?_, rfl, rfl⟩
              unfold asR
              rw [if_pos c_5, if_pos c_17, hix, hkx]
              first | exact absurd c_62 (by decide) | (exfalso; omega) | (rw [if_pos (by rw [hc]; unfold okK; simp; omega)]) | (rw [if_neg (by rw [hc]; unfold okK; simp; omega)])
          · skip
            refine r_iload_n X dX11_as_43 rfl ?_
            refine r_iconst (v := nI 1) X dX11_as_44 (by decide) ?_
            refine r_icmp_neN X 57 dX11_as_45 (by decide) (by omega) (by omega) (fun c_45 => ?_) (fun c_45 => ?_)
            · skip
              refine r_iconst (v := nI 0) X dX11_as_57 (by decide) ?_
              refine r_istore X dX11_as_58 (Nat.le_of_ble_eq_true rfl) ?_
              try dsimp only [List.set]
              refine r_iload X dX11_as_60 rfl ?_
              refine r_if_eqN X 73 dX11_as_62 (by decide) (by omega) (fun c_62 => ?_) (fun c_62 => ?_)
              · skip
                refine r_bipush (v := (-4)) X dX11_as_73 (by decide) ?_
                refine r_iret S dX11_as_75 ?_
                refine ⟨?_, rfl, rfl⟩
                unfold asR
                rw [if_pos c_5, if_pos c_17, hix, hkx]
                first | exact absurd c_62 (by decide) | (exfalso; omega) | (rw [if_pos (by rw [hc]; unfold okK; simp; omega)]) | (rw [if_neg (by rw [hc]; unfold okK; simp; omega)])
              · skip
                refine r_aload_n X dX11_as_65 rfl ?_
                refine r_iload_n X dX11_as_66 rfl ?_
                refine r_callV (ci := 10) X rfl (c_X11_warmOf _ E g n M u B T i hT (by omega) (hP i hi).1 (by have := (hP i hi).2; omega)) tw_792 tw_794 tp_30 tw_7 tw_795 rfl rfl (by first | exact m0 | exact m1 | exact m2 | exact m3 | exact m4 | exact m5 | exact m6 | exact m7 | exact m8 | exact m9 | assumption) rfl ⟨ok_X11_warmOf, ⟨Nat.le_of_ble_eq_true rfl, Nat.le_of_ble_eq_true rfl⟩, ⟨Nat.le_of_ble_eq_true rfl, Nat.le_of_ble_eq_true rfl⟩, Nat.le_of_ble_eq_true rfl⟩ dX11_as_67 (kk_r (Wf := Wg K E _ _ _ _) ?_)
                refine r_goto X 75 dX11_as_70 (by decide) ?_
                refine r_iret S dX11_as_75 ?_
                refine ⟨?_, rfl, rfl⟩
                unfold asR
                rw [if_pos c_5, if_pos c_17, hix, hkx]
                first | exact absurd c_62 (by decide) | (exfalso; omega) | (rw [if_pos (by rw [hc]; unfold okK; simp; omega)]) | (rw [if_neg (by rw [hc]; unfold okK; simp; omega)])
            · skip
              refine r_iload_n X dX11_as_48 rfl ?_
              refine r_iconst (v := nI 3) X dX11_as_49 (by decide) ?_
              refine r_icmp_geN X 57 dX11_as_50 (by decide) (by omega) (by omega) (fun c_50 => ?_) (fun c_50 => ?_)
              · skip
                refine r_iconst (v := nI 0) X dX11_as_57 (by decide) ?_
                refine r_istore X dX11_as_58 (Nat.le_of_ble_eq_true rfl) ?_
                try dsimp only [List.set]
                refine r_iload X dX11_as_60 rfl ?_
                refine r_if_eqN X 73 dX11_as_62 (by decide) (by omega) (fun c_62 => ?_) (fun c_62 => ?_)
                · skip
                  refine r_bipush (v := (-4)) X dX11_as_73 (by decide) ?_
                  refine r_iret S dX11_as_75 ?_
                  refine ⟨?_, rfl, rfl⟩
                  unfold asR
                  rw [if_pos c_5, if_pos c_17, hix, hkx]
                  first | exact absurd c_62 (by decide) | (exfalso; omega) | (rw [if_pos (by rw [hc]; unfold okK; simp; omega)]) | (rw [if_neg (by rw [hc]; unfold okK; simp; omega)])
                · skip
                  refine r_aload_n X dX11_as_65 rfl ?_
                  refine r_iload_n X dX11_as_66 rfl ?_
                  refine r_callV (ci := 10) X rfl (c_X11_warmOf _ E g n M u B T i hT (by omega) (hP i hi).1 (by have := (hP i hi).2; omega)) tw_792 tw_794 tp_30 tw_7 tw_795 rfl rfl (by first | exact m0 | exact m1 | exact m2 | exact m3 | exact m4 | exact m5 | exact m6 | exact m7 | exact m8 | exact m9 | assumption) rfl ⟨ok_X11_warmOf, ⟨Nat.le_of_ble_eq_true rfl, Nat.le_of_ble_eq_true rfl⟩, ⟨Nat.le_of_ble_eq_true rfl, Nat.le_of_ble_eq_true rfl⟩, Nat.le_of_ble_eq_true rfl⟩ dX11_as_67 (kk_r (Wf := Wg K E _ _ _ _) ?_)
                  refine r_goto X 75 dX11_as_70 (by decide) ?_
                  refine r_iret S dX11_as_75 ?_
                  refine ⟨?_, rfl, rfl⟩
                  unfold asR
                  rw [if_pos c_5, if_pos c_17, hix, hkx]
                  first | exact absurd c_62 (by decide) | (exfalso; omega) | (rw [if_pos (by rw [hc]; unfold okK; simp; omega)]) | (rw [if_neg (by rw [hc]; unfold okK; simp; omega)])
              · skip
                refine r_iconst (v := nI 1) X dX11_as_53 (by decide) ?_
                refine r_goto X 58 dX11_as_54 (by decide) ?_
                refine r_istore X dX11_as_58 (Nat.le_of_ble_eq_true rfl) ?_
                try dsimp only [List.set]
                refine r_iload X dX11_as_60 rfl ?_
                refine r_if_eqN X 73 dX11_as_62 (by decide) (by omega) (fun c_62 => ?_) (fun c_62 => ?_)
                · skip
                  refine r_bipush (v := (-4)) X dX11_as_73 (by decide) ?_
                  refine r_iret S dX11_as_75 ?_
                  refine ⟨?_, rfl, rfl⟩
                  unfold asR
                  rw [if_pos c_5, if_pos c_17, hix, hkx]
                  first | exact absurd c_62 (by decide) | (exfalso; omega) | (rw [if_pos (by rw [hc]; unfold okK; simp; omega)]) | (rw [if_neg (by rw [hc]; unfold okK; simp; omega)])
                · skip
                  refine r_aload_n X dX11_as_65 rfl ?_
                  refine r_iload_n X dX11_as_66 rfl ?_
                  refine r_callV (ci := 10) X rfl (c_X11_warmOf _ E g n M u B T i hT (by omega) (hP i hi).1 (by have := (hP i hi).2; omega)) tw_792 tw_794 tp_30 tw_7 tw_795 rfl rfl (by first | exact m0 | exact m1 | exact m2 | exact m3 | exact m4 | exact m5 | exact m6 | exact m7 | exact m8 | exact m9 | assumption) rfl ⟨ok_X11_warmOf, ⟨Nat.le_of_ble_eq_true rfl, Nat.le_of_ble_eq_true rfl⟩, ⟨Nat.le_of_ble_eq_true rfl, Nat.le_of_ble_eq_true rfl⟩, Nat.le_of_ble_eq_true rfl⟩ dX11_as_67 (kk_r (Wf := Wg K E _ _ _ _) ?_)
                  refine r_goto X 75 dX11_as_70 (by decide) ?_
                  refine r_iret S dX11_as_75 ?_
                  refine ⟨?_, rfl, rfl⟩
                  unfold asR
                  rw [if_pos c_5, if_pos c_17, hix, hkx]
                  first | exact absurd c_62 (by decide) | (exfalso; omega) | (rw [if_pos (by rw [hc]; unfold okK; simp; omega)]) | (rw [if_neg (by rw [hc]; unfold okK; simp; omega)])
      · skip
        have hkc : kindN (T.2.2.1 i) = 3 := by rw [hc]; rfl
        refine r_iload_n X dX11_as_32 rfl ?_
        refine r_if_eqN X 53 dX11_as_33 (by decide) (by omega) (fun c_33 => ?_) (fun c_33 => ?_)
        · skip
          refine r_iconst (v := nI 1) X dX11_as_53 (by decide) ?_
          refine r_goto X 58 dX11_as_54 (by decide) ?_
          refine r_istore X dX11_as_58 (Nat.le_of_ble_eq_true rfl) ?_
          try dsimp only [List.set]
          refine r_iload X dX11_as_60 rfl ?_
          refine r_if_eqN X 73 dX11_as_62 (by decide) (by omega) (fun c_62 => ?_) (fun c_62 => ?_)
          · skip
            refine r_bipush (v := (-4)) X dX11_as_73 (by decide) ?_
            refine r_iret S dX11_as_75 ?_
            refine ⟨?_, rfl, rfl⟩
            unfold asR
            rw [if_pos c_5, if_pos c_17, hix, hkx]
            first | exact absurd c_62 (by decide) | (exfalso; omega) | (rw [if_pos (by rw [hc]; unfold okK; simp; omega)]) | (rw [if_neg (by rw [hc]; unfold okK; simp; omega)])
          · skip
            refine r_aload_n X dX11_as_65 rfl ?_
            refine r_iload_n X dX11_as_66 rfl ?_
            refine r_callV (ci := 10) X rfl (c_X11_warmOf _ E g n M u B T i hT (by omega) (hP i hi).1 (by have := (hP i hi).2; omega)) tw_792 tw_794 tp_30 tw_7 tw_795 rfl rfl (by first | exact m0 | exact m1 | exact m2 | exact m3 | exact m4 | exact m5 | exact m6 | exact m7 | exact m8 | exact m9 | assumption) rfl ⟨ok_X11_warmOf, ⟨Nat.le_of_ble_eq_true rfl, Nat.le_of_ble_eq_true rfl⟩, ⟨Nat.le_of_ble_eq_true rfl, Nat.le_of_ble_eq_true rfl⟩, Nat.le_of_ble_eq_true rfl⟩ dX11_as_67 (kk_r (Wf := Wg K E _ _ _ _) ?_)
            refine r_goto X 75 dX11_as_70 (by decide) ?_
            refine r_iret S dX11_as_75 ?_
            refine ⟨?_, rfl, rfl⟩
            unfold asR
            rw [if_pos c_5, if_pos c_17, hix, hkx]
            first | exact absurd c_62 (by decide) | (exfalso; omega) | (rw [if_pos (by rw [hc]; unfold okK; simp; omega)]) | (rw [if_neg (by rw [hc]; unfold okK; simp; omega)])
        · skip
          refine r_iload_n X dX11_as_36 rfl ?_
          refine r_iload_n X dX11_as_37 rfl ?_
          refine r_iconst (v := nI 1) X dX11_as_38 (by decide) ?_
          first | refine r_iaddN X dX11_as_39 ?_ | refine r_iadd X _ dX11_as_39 rfl ?_
          refine r_icmp_eqN X 53 dX11_as_40 (by decide) (by omega) (by omega) (fun c_40 => ?_) (fun c_40 => ?_)
          · skip
            refine r_iconst (v := nI 1) X dX11_as_53 (by decide) ?_
            refine r_goto X 58 dX11_as_54 (by decide) ?_
            refine r_istore X dX11_as_58 (Nat.le_of_ble_eq_true rfl) ?_
            try dsimp only [List.set]
            refine r_iload X dX11_as_60 rfl ?_
            refine r_if_eqN X 73 dX11_as_62 (by decide) (by omega) (fun c_62 => ?_) (fun c_62 => ?_)
            · skip
              refine r_bipush (v := (-4)) X dX11_as_73 (by decide) ?_
              refine r_iret S dX11_as_75 ?_
              refine ⟨?_, rfl, rfl⟩
              unfold asR
              rw [if_pos c_5, if_pos c_17, hix, hkx]
              first | exact absurd c_62 (by decide) | (exfalso; omega) | (rw [if_pos (by rw [hc]; unfold okK; simp; omega)]) | (rw [if_neg (by rw [hc]; unfold okK; simp; omega)])
            · skip
              refine r_aload_n X dX11_as_65 rfl ?_
              refine r_iload_n X dX11_as_66 rfl ?_
              refine r_callV (ci := 10) X rfl (c_X11_warmOf _ E g n M u B T i hT (by omega) (hP i hi).1 (by have := (hP i hi).2; omega)) tw_792 tw_794 tp_30 tw_7 tw_795 rfl rfl (by first | exact m0 | exact m1 | exact m2 | exact m3 | exact m4 | exact m5 | exact m6 | exact m7 | exact m8 | exact m9 | assumption) rfl ⟨ok_X11_warmOf, ⟨Nat.le_of_ble_eq_true rfl, Nat.le_of_ble_eq_true rfl⟩, ⟨Nat.le_of_ble_eq_true rfl, Nat.le_of_ble_eq_true rfl⟩, Nat.le_of_ble_eq_true rfl⟩ dX11_as_67 (kk_r (Wf := Wg K E _ _ _ _) ?_)
              refine r_goto X 75 dX11_as_70 (by decide) ?_
              refine r_iret S dX11_as_75 ?_
              refine ⟨?_, rfl, rfl⟩
              unfold asR
              rw [if_pos c_5, if_pos c_17, hix, hkx]
              first | exact absurd c_62 (by decide) | (exfalso; omega) | (rw [if_pos (by rw [hc]; unfold okK; simp; omega)]) | (rw [if_neg (by rw [hc]; unfold okK; simp; omega)])
          · skip
            refine r_iload_n X dX11_as_43 rfl ?_
            refine r_iconst (v := nI 1) X dX11_as_44 (by decide) ?_
            refine r_icmp_neN X 57 dX11_as_45 (by decide) (by omega) (by omega) (fun c_45 => ?_) (fun c_45 => ?_)
            · skip
              refine r_iconst (v := nI 0) X dX11_as_57 (by decide) ?_
              refine r_istore X dX11_as_58 (Nat.le_of_ble_eq_true rfl) ?_
              try dsimp only [List.set]
              refine r_iload X dX11_as_60 rfl ?_
              refine r_if_eqN X 73 dX11_as_62 (by decide) (by omega) (fun c_62 => ?_) (fun c_62 => ?_)
              · skip
                refine r_bipush (v := (-4)) X dX11_as_73 (by decide) ?_
                refine r_iret S dX11_as_75 ?_
                refine ⟨?_, rfl, rfl⟩
                unfold asR
                rw [if_pos c_5, if_pos c_17, hix, hkx]
                first | exact absurd c_62 (by decide) | (exfalso; omega) | (rw [if_pos (by rw [hc]; unfold okK; simp; omega)]) | (rw [if_neg (by rw [hc]; unfold okK; simp; omega)])
              · skip
                refine r_aload_n X dX11_as_65 rfl ?_
                refine r_iload_n X dX11_as_66 rfl ?_
                refine r_callV (ci := 10) X rfl (c_X11_warmOf _ E g n M u B T i hT (by omega) (hP i hi).1 (by have := (hP i hi).2; omega)) tw_792 tw_794 tp_30 tw_7 tw_795 rfl rfl (by first | exact m0 | exact m1 | exact m2 | exact m3 | exact m4 | exact m5 | exact m6 | exact m7 | exact m8 | exact m9 | assumption) rfl ⟨ok_X11_warmOf, ⟨Nat.le_of_ble_eq_true rfl, Nat.le_of_ble_eq_true rfl⟩, ⟨Nat.le_of_ble_eq_true rfl, Nat.le_of_ble_eq_true rfl⟩, Nat.le_of_ble_eq_true rfl⟩ dX11_as_67 (kk_r (Wf := Wg K E _ _ _ _) ?_)
                refine r_goto X 75 dX11_as_70 (by decide) ?_
                refine r_iret S dX11_as_75 ?_
                refine ⟨?_, rfl, rfl⟩
                unfold asR
                rw [if_pos c_5, if_pos c_17, hix, hkx]
                first | exact absurd c_62 (by decide) | (exfalso; omega) | (rw [if_pos (by rw [hc]; unfold okK; simp; omega)]) | (rw [if_neg (by rw [hc]; unfold okK; simp; omega)])
            · skip
              refine r_iload_n X dX11_as_48 rfl ?_
              refine r_iconst (v := nI 3) X dX11_as_49 (by decide) ?_
              refine r_icmp_geN X 57 dX11_as_50 (by decide) (by omega) (by omega) (fun c_50 => ?_) (fun c_50 => ?_)
              · skip
                refine r_iconst (v := nI 0) X dX11_as_57 (by decide) ?_
                refine r_istore X dX11_as_58 (Nat.le_of_ble_eq_true rfl) ?_
                try dsimp only [List.set]
                refine r_iload X dX11_as_60 rfl ?_
                refine r_if_eqN X 73 dX11_as_62 (by decide) (by omega) (fun c_62 => ?_) (fun c_62 => ?_)
                · skip
                  refine r_bipush (v := (-4)) X dX11_as_73 (by decide) ?_
                  refine r_iret S dX11_as_75 ?_
                  refine ⟨?_, rfl, rfl⟩
                  unfold asR
                  rw [if_pos c_5, if_pos c_17, hix, hkx]
                  first | exact absurd c_62 (by decide) | (exfalso; omega) | (rw [if_pos (by rw [hc]; unfold okK; simp; omega)]) | (rw [if_neg (by rw [hc]; unfold okK; simp; omega)])
                · skip
                  refine r_aload_n X dX11_as_65 rfl ?_
                  refine r_iload_n X dX11_as_66 rfl ?_
                  refine r_callV (ci := 10) X rfl (c_X11_warmOf _ E g n M u B T i hT (by omega) (hP i hi).1 (by have := (hP i hi).2; omega)) tw_792 tw_794 tp_30 tw_7 tw_795 rfl rfl (by first | exact m0 | exact m1 | exact m2 | exact m3 | exact m4 | exact m5 | exact m6 | exact m7 | exact m8 | exact m9 | assumption) rfl ⟨ok_X11_warmOf, ⟨Nat.le_of_ble_eq_true rfl, Nat.le_of_ble_eq_true rfl⟩, ⟨Nat.le_of_ble_eq_true rfl, Nat.le_of_ble_eq_true rfl⟩, Nat.le_of_ble_eq_true rfl⟩ dX11_as_67 (kk_r (Wf := Wg K E _ _ _ _) ?_)
                  refine r_goto X 75 dX11_as_70 (by decide) ?_
                  refine r_iret S dX11_as_75 ?_
                  refine ⟨?_, rfl, rfl⟩
                  unfold asR
                  rw [if_pos c_5, if_pos c_17, hix, hkx]
                  first | exact absurd c_62 (by decide) | (exfalso; omega) | (rw [if_pos (by rw [hc]; unfold okK; simp; omega)]) | (rw [if_neg (by rw [hc]; unfold okK; simp; omega)])
              · skip
                refine r_iconst (v := nI 1) X dX11_as_53 (by decide) ?_
                refine r_goto X 58 dX11_as_54 (by decide) ?_
                refine r_istore X dX11_as_58 (Nat.le_of_ble_eq_true rfl) ?_
                try dsimp only [List.set]
                refine r_iload X dX11_as_60 rfl ?_
                refine r_if_eqN X 73 dX11_as_62 (by decide) (by omega) (fun c_62 => ?_) (fun c_62 => ?_)
                · skip
                  refine r_bipush (v := (-4)) X dX11_as_73 (by decide) ?_
                  refine r_iret S dX11_as_75 ?_
                  refine ⟨?_, rfl, rfl⟩
                  unfold asR
                  rw [if_pos c_5, if_pos c_17, hix, hkx]
                  first | exact absurd c_62 (by decide) | (exfalso; omega) | (rw [if_pos (by rw [hc]; unfold okK; simp; omega)]) | (rw [if_neg (by rw [hc]; unfold okK; simp; omega)])
                · skip
                  refine r_aload_n X dX11_as_65 rfl ?_
                  refine r_iload_n X dX11_as_66 rfl ?_
                  refine r_callV (ci := 10) X rfl (c_X11_warmOf _ E g n M u B T i hT (by omega) (hP i hi).1 (by have := (hP i hi).2; omega)) tw_792 tw_794 tp_30 tw_7 tw_795 rfl rfl (by first | exact m0 | exact m1 | exact m2 | exact m3 | exact m4 | exact m5 | exact m6 | exact m7 | exact m8 | exact m9 | assumption) rfl ⟨ok_X11_warmOf, ⟨Nat.le_of_ble_eq_true rfl, Nat.le_of_ble_eq_true rfl⟩, ⟨Nat.le_of_ble_eq_true rfl, Nat.le_of_ble_eq_true rfl⟩, Nat.le_of_ble_eq_true rfl⟩ dX11_as_67 (kk_r (Wf := Wg K E _ _ _ _) ?_)
                  refine r_goto X 75 dX11_as_70 (by decide) ?_
                  refine r_iret S dX11_as_75 ?_
                  refine ⟨?_, rfl, rfl⟩
                  unfold asR
                  rw [if_pos c_5, if_pos c_17, hix, hkx]
                  first | exact absurd c_62 (by decide) | (exfalso; omega) | (rw [if_pos (by rw [hc]; unfold okK; simp; omega)]) | (rw [if_neg (by rw [hc]; unfold okK; simp; omega)])
    · skip
      refine r_bipush (v := (-3)) X dX11_as_20 (by decide) ?_
      refine r_iret S dX11_as_22 ?_
      exact ⟨by simp [asR, c_5, c_17], rfl, rfl⟩
  · skip
    refine r_bipush (v := (-2)) X dX11_as_8 (by decide) ?_
    refine r_iret S dX11_as_10 ?_
    exact ⟨by simp [asR, c_5], rfl, rfl⟩

set_option maxHeartbeats 4000000 in
set_option maxRecDepth 100000 in
/-- BanisterWordModel.firms  -/
theorem c_X11_firms (l : Launch) (E : xE) (g : hG) (n : Nat) (M : Nat) (u : Nat → Nat) (B : Nat → Nat → Nat) (N : Mo) (k t : Nat) (x : Int32) (hS : B 4 = flat N) (hk : k < 24) (hx2 : ix x ≤ 1000) : Ct l yX11_firms cX11_firms 4 none 0 0 0 0 E [.ref M, .int (nI k), .int (nI t), .int x] (mG E g M u B) n (zr (none) (mG E g M u (va_up B 4 (flat (fmN N k t (ix x))))) (n)) := by
  refine Ct.of (by decide +kernel) (Nat.le_of_ble_eq_true rfl) (fun v hv => by simp only [List.mem_cons, List.not_mem_nil, or_false] at hv; (try rcases hv with rfl | rfl | rfl | rfl) <;> first | rfl | (subst hv; rfl) | exact hv.elim) ?_
  intro K hKl S
  subst hKl
  have X := S.1
  by_cases hx : x ≤ 0
  · skip
    have hx0 := ix_le0 hx
    refine r_aload_n X dX11_firms_0 rfl ?_
    refine r_get (ci := 10) X 4 _ ti_RX11 rfl (by decide) tw_662 (fun _ h => h) dX11_firms_1 (by first | exact m0 | exact m1 | exact m2 | exact m3 | exact m4 | exact m5 | exact m6 | exact m7 | exact m8 | exact m9 | assumption) rfl ?_
    refine r_iload_n X dX11_firms_4 rfl ?_
    refine r_iload_n X dX11_firms_5 rfl ?_
    refine r_if_le X 13 dX11_firms_6 (by decide) (fun c_6 => ?_) (fun c_6 => ?_)
    rotate_left
    · exact absurd hx c_6
    refine r_iconst (v := nI 0) X dX11_firms_13 (by decide) ?_
    refine r_nast X _ dX11_firms_14 (by first | exact m0 | exact m1 | exact m2 | exact m3 | exact m4 | exact m5 | exact m6 | exact m7 | exact m8 | exact m9 | assumption) (rfl) (by omega) (by decide) ?_
    refine r_heap um4 ?_
    refine r_aload_n X dX11_firms_15 rfl ?_
    refine r_get (ci := 10) X 4 _ ti_RX11 rfl (by decide) tw_662 (fun _ h => h) dX11_firms_16 (by first | exact m0 | exact m1 | exact m2 | exact m3 | exact m4 | exact m5 | exact m6 | exact m7 | exact m8 | exact m9 | assumption) rfl ?_
    refine r_bipush (v := nI 24) X dX11_firms_19 (by decide) ?_
    refine r_iload_n X dX11_firms_21 rfl ?_
    first | refine r_iaddN X dX11_firms_22 ?_ | refine r_iadd X _ dX11_firms_22 rfl ?_
    refine r_iload_n X dX11_firms_23 rfl ?_
    refine r_bipush (v := nI 99) X dX11_firms_24 (by decide) ?_
    refine r_icmp_le X 34 dX11_firms_26 (by decide) (fun c_26 => ?_) (fun c_26 => ?_)
    rotate_left
    · exact absurd (Int32.le_trans hx (by decide)) c_26
    refine r_iload_n X dX11_firms_34 rfl ?_
    refine r_if_le X 42 dX11_firms_35 (by decide) (fun c_35 => ?_) (fun c_35 => ?_)
    rotate_left
    · exact absurd hx c_35
    refine r_iconst (v := nI 0) X dX11_firms_42 (by decide) ?_
    refine r_nast X _ dX11_firms_43 (show _ = some (nc E 55 (va_up (B 4) k _)) from m4) (rfl) (by omega) (by decide) ?_
    refine r_heap um4 ?_
    refine r_vret S dX11_firms_44 ?_
    refine ⟨rfl, ?_, rfl⟩
    rw [vu_vu, hS, flat_up hk]
    unfold fmN
    first | (rw [hx0]; rfl) | (rw [ha, if_neg (by omega), Nat.min_eq_left (by omega)]) | (rw [ha, if_neg (by omega), Nat.min_eq_right (by omega)])
  · skip
    obtain ⟨hpos, he⟩ := ix_gt0 hx
    obtain ⟨a, ha⟩ : ∃ a, ix x = a := ⟨_, rfl⟩
    rw [ha] at hpos he hx2
    subst he
    replace ha : ix (nI a) = a := ix_nI (by omega)
    refine r_aload_n X dX11_firms_0 rfl ?_
    refine r_get (ci := 10) X 4 _ ti_RX11 rfl (by decide) tw_662 (fun _ h => h) dX11_firms_1 (by first | exact m0 | exact m1 | exact m2 | exact m3 | exact m4 | exact m5 | exact m6 | exact m7 | exact m8 | exact m9 | assumption) rfl ?_
    refine r_iload_n X dX11_firms_4 rfl ?_
    refine r_iload_n X dX11_firms_5 rfl ?_
    refine r_if_leN X 13 dX11_firms_6 (by decide) (by omega) (fun c_6 => ?_) (fun c_6 => ?_)
    · exact absurd c_6 (by omega)
    refine r_iload_n X dX11_firms_9 rfl ?_
    refine r_goto X 14 dX11_firms_10 (by decide) ?_
    refine r_nast X _ dX11_firms_14 (by first | exact m0 | exact m1 | exact m2 | exact m3 | exact m4 | exact m5 | exact m6 | exact m7 | exact m8 | exact m9 | assumption) (rfl) (by omega) (by decide) ?_
    refine r_heap um4 ?_
    refine r_aload_n X dX11_firms_15 rfl ?_
    refine r_get (ci := 10) X 4 _ ti_RX11 rfl (by decide) tw_662 (fun _ h => h) dX11_firms_16 (by first | exact m0 | exact m1 | exact m2 | exact m3 | exact m4 | exact m5 | exact m6 | exact m7 | exact m8 | exact m9 | assumption) rfl ?_
    refine r_bipush (v := nI 24) X dX11_firms_19 (by decide) ?_
    refine r_iload_n X dX11_firms_21 rfl ?_
    first | refine r_iaddN X dX11_firms_22 ?_ | refine r_iadd X _ dX11_firms_22 rfl ?_
    refine r_iload_n X dX11_firms_23 rfl ?_
    refine r_bipush (v := nI 99) X dX11_firms_24 (by decide) ?_
    refine r_icmp_leN X 34 dX11_firms_26 (by decide) (by omega) (by omega) (fun c_26 => ?_) (fun c_26 => ?_)
    · skip
      refine r_iload_n X dX11_firms_34 rfl ?_
      refine r_if_leN X 42 dX11_firms_35 (by decide) (by omega) (fun c_35 => ?_) (fun c_35 => ?_)
      · exact absurd c_35 (by omega)
      refine r_iload_n X dX11_firms_38 rfl ?_
      refine r_goto X 43 dX11_firms_39 (by decide) ?_
      refine r_nast X _ dX11_firms_43 (show _ = some (nc E 55 (va_up (B 4) k _)) from m4) (rfl) (by omega) (by decide) ?_
      refine r_heap um4 ?_
      refine r_vret S dX11_firms_44 ?_
      refine ⟨rfl, ?_, rfl⟩
      rw [vu_vu, hS, flat_up hk]
      unfold fmN
      first | (rw [hx0]; rfl) | (rw [ha, if_neg (by omega), Nat.min_eq_left (by omega)]) | (rw [ha, if_neg (by omega), Nat.min_eq_right (by omega)])
    · skip
      refine r_bipush (v := nI 99) X dX11_firms_29 (by decide) ?_
      refine r_goto X 43 dX11_firms_31 (by decide) ?_
      refine r_nast X _ dX11_firms_43 (show _ = some (nc E 55 (va_up (B 4) k _)) from m4) (rfl) (by omega) (by decide) ?_
      refine r_heap um4 ?_
      refine r_vret S dX11_firms_44 ?_
      refine ⟨rfl, ?_, rfl⟩
      rw [vu_vu, hS, flat_up hk]
      unfold fmN
      first | (rw [hx0]; rfl) | (rw [ha, if_neg (by omega), Nat.min_eq_left (by omega)]) | (rw [ha, if_neg (by omega), Nat.min_eq_right (by omega)])

set_option maxHeartbeats 4000000 in
set_option maxRecDepth 100000 in
/-- BanisterWordModel.says  -/
theorem c_X11_says (l : Launch) (E : xE) (g : hG) (n : Nat) (M : Nat) (u : Nat → Nat) (B : Nat → Nat → Nat) (T : hsT) (N : Mo) (i s t : Nat) (hT : B 2 = tfl T) (hS : B 4 = flat N) (h0 : T.1 ≤ 12) (h1 : T.2.1 ≤ 6) (hP : ∀ i, i < T.2.1 → T.2.2.1 i < 4 ∧ T.2.2.2.1 i ≤ 9) (hN : ∀ j, N.1 j ≤ 7) (hN9 : ∀ j, N.2.1 j ≤ 99) (hi : i < T.2.1) (hs : s < 12) (ht : t ≤ 7) : Ct l yX11_says cX11_says 7 none 1 23 0 0 E [.ref M, .int (nI i), .int (nI s), .int (nI t)] (mG E g M u B) n (zr (none) (mG E g M u (va_up B 4 (flat (dnN N (T.2.2.1 i) (T.2.2.2.1 i) s t)))) (n)) := by
  refine Ct.of (by decide +kernel) (Nat.le_of_ble_eq_true rfl) (fun v hv => by simp only [List.mem_cons, List.not_mem_nil, or_false] at hv; (try rcases hv with rfl | rfl | rfl | rfl) <;> first | rfl | (subst hv; rfl) | exact hv.elim) ?_
  intro K hKl S
  subst hKl
  have X := S.1
  have hhd := handN_le (T.2.2.1 i)
  have hfm := firmN_le (T.2.2.1 i) (T.2.2.2.1 i)
  have hw9 := (hP i hi).2
  have h7 := hN (2 * s + handN (T.2.2.1 i))
  have h99 := hN9 (2 * s + handN (T.2.2.1 i))
  have hdn : dnN N (T.2.2.1 i) (T.2.2.2.1 i) s t = (takeF N.1 N.2.1 (2 * s + handN (T.2.2.1 i)) (firmN (T.2.2.1 i) (T.2.2.2.1 i)) t, takeH N.1 N.2.1 (2 * s + handN (T.2.2.1 i)) (firmN (T.2.2.1 i) (T.2.2.2.1 i)) t, N.2.2.1, N.2.2.2) := by unfold dnN; rw [Nat.mul_comm s 2]
  refine r_iconst (v := nI 2) X dX11_says_0 (by decide) ?_
  refine r_iload_n X dX11_says_1 rfl ?_
  first | refine r_imulN X dX11_says_2 ?_ | refine r_imul X _ dX11_says_2 rfl ?_
  refine r_aload_n X dX11_says_3 rfl ?_
  refine r_iload_n X dX11_says_4 rfl ?_
  refine r_callV (ci := 10) X rfl (c_X11_handOf _ E _ n M u B T i hT (by omega)) tw_811 tw_813 tp_33 tw_7 tw_814 rfl rfl (by first | exact m0 | exact m1 | exact m2 | exact m3 | exact m4 | exact m5 | exact m6 | exact m7 | exact m8 | exact m9 | assumption) rfl ⟨ok_X11_handOf, ⟨Nat.le_of_ble_eq_true rfl, Nat.le_of_ble_eq_true rfl⟩, ⟨Nat.le_of_ble_eq_true rfl, Nat.le_of_ble_eq_true rfl⟩, Nat.le_of_ble_eq_true rfl⟩ dX11_says_5 (kk_r (Wf := Wg K E _ _ _ _) ?_)
  first | refine r_iaddN X dX11_says_8 ?_ | refine r_iadd X _ dX11_says_8 rfl ?_
  refine r_istore X dX11_says_9 (Nat.le_of_ble_eq_true rfl) ?_
  try dsimp only [List.set]
  refine r_aload_n X dX11_says_11 rfl ?_
  refine r_iload_n X dX11_says_12 rfl ?_
  refine r_callV (ci := 10) X rfl (c_X11_warmOf _ E g n M u B T i hT (by omega) (hP i hi).1 (by have := (hP i hi).2; omega)) tw_792 tw_794 tp_30 tw_7 tw_795 rfl rfl (by first | exact m0 | exact m1 | exact m2 | exact m3 | exact m4 | exact m5 | exact m6 | exact m7 | exact m8 | exact m9 | assumption) rfl ⟨ok_X11_warmOf, ⟨Nat.le_of_ble_eq_true rfl, Nat.le_of_ble_eq_true rfl⟩, ⟨Nat.le_of_ble_eq_true rfl, Nat.le_of_ble_eq_true rfl⟩, Nat.le_of_ble_eq_true rfl⟩ dX11_says_13 (kk_r (Wf := Wg K E _ _ _ _) ?_)
  refine r_istore X dX11_says_16 (Nat.le_of_ble_eq_true rfl) ?_
  try dsimp only [List.set]
  refine r_aload_n X dX11_says_18 rfl ?_
  refine r_get (ci := 10) X 4 _ ti_RX11 rfl (by decide) tw_662 (fun _ h => h) dX11_says_19 (by first | exact m0 | exact m1 | exact m2 | exact m3 | exact m4 | exact m5 | exact m6 | exact m7 | exact m8 | exact m9 | assumption) rfl ?_
  refine r_bipush (v := nI 24) X dX11_says_22 (by decide) ?_
  refine r_iload X dX11_says_24 rfl ?_
  first | refine r_iaddN X dX11_says_26 ?_ | refine r_iadd X _ dX11_says_26 rfl ?_
  refine r_nald X _ dX11_says_27 (by first | exact m0 | exact m1 | exact m2 | exact m3 | exact m4 | exact m5 | exact m6 | exact m7 | exact m8 | exact m9 | assumption) (rfl) (by omega) (by decide) ?_
  refine r_top _ _ (congrArg nI (show B 4 (24 + (2 * s + handN (T.2.2.1 i))) = N.2.1 (2 * s + handN (T.2.2.1 i)) by rw [hS]; exact flat_h (by omega))) ?_
  refine r_istore X dX11_says_28 (Nat.le_of_ble_eq_true rfl) ?_
  try dsimp only [List.set]
  refine r_aload_n X dX11_says_30 rfl ?_
  refine r_get (ci := 10) X 4 _ ti_RX11 rfl (by decide) tw_662 (fun _ h => h) dX11_says_31 (by first | exact m0 | exact m1 | exact m2 | exact m3 | exact m4 | exact m5 | exact m6 | exact m7 | exact m8 | exact m9 | assumption) rfl ?_
  refine r_iload X dX11_says_34 rfl ?_
  refine r_nald X _ dX11_says_36 (by first | exact m0 | exact m1 | exact m2 | exact m3 | exact m4 | exact m5 | exact m6 | exact m7 | exact m8 | exact m9 | assumption) (rfl) (by omega) (by decide) ?_
  refine r_top _ _ (congrArg nI (show B 4 (2 * s + handN (T.2.2.1 i)) = N.1 (2 * s + handN (T.2.2.1 i)) by rw [hS]; exact flat_f (by omega))) ?_
  refine r_if_eqN X 51 dX11_says_37 (by decide) (by omega) (fun c_37 => ?_) (fun c_37 => ?_)
  · skip
    refine r_aload_n X dX11_says_51 rfl ?_
    refine r_iload X dX11_says_52 rfl ?_
    refine r_iload_n X dX11_says_54 rfl ?_
    refine r_iload X dX11_says_55 rfl ?_
    refine r_iload X dX11_says_57 rfl ?_
    first | refine r_iaddN X dX11_says_59 ?_ | refine r_iadd X _ dX11_says_59 rfl ?_
    refine r_callV (ci := 10) X rfl (c_X11_firms _ E g n M u B N (2 * s + handN (T.2.2.1 i)) t _ hS (by omega) (by rw [ix_nI (by omega)]; omega)) tw_815 tw_817 tp_34 tw_7 tw_818 rfl rfl (by first | exact m0 | exact m1 | exact m2 | exact m3 | exact m4 | exact m5 | exact m6 | exact m7 | exact m8 | exact m9 | assumption) rfl ⟨ok_X11_firms, ⟨Nat.le_of_ble_eq_true rfl, Nat.le_of_ble_eq_true rfl⟩, ⟨Nat.le_of_ble_eq_true rfl, Nat.le_of_ble_eq_true rfl⟩, Nat.le_of_ble_eq_true rfl⟩ dX11_says_60 (kk_v (Wf := Wg K E _ _ _ _) ?_)
    refine r_goto X 106 dX11_says_63 (by decide) ?_
    refine r_vret S dX11_says_106 ?_
    refine ⟨rfl, ?_, rfl⟩
    rw [hdn, ix_nI (by omega)]
    first | rw [say_a (by omega)] | rw [say_b (t := t) (by omega) (by omega) h99] | rw [say_c (t := t) (by omega) (by omega) (by omega)]
  · skip
    refine r_aload_n X dX11_says_40 rfl ?_
    refine r_get (ci := 10) X 4 _ ti_RX11 rfl (by decide) tw_662 (fun _ h => h) dX11_says_41 (by first | exact m0 | exact m1 | exact m2 | exact m3 | exact m4 | exact m5 | exact m6 | exact m7 | exact m8 | exact m9 | assumption) rfl ?_
    refine r_iload X dX11_says_44 rfl ?_
    refine r_nald X _ dX11_says_46 (by first | exact m0 | exact m1 | exact m2 | exact m3 | exact m4 | exact m5 | exact m6 | exact m7 | exact m8 | exact m9 | assumption) (rfl) (by omega) (by decide) ?_
    refine r_top _ _ (congrArg nI (show B 4 (2 * s + handN (T.2.2.1 i)) = N.1 (2 * s + handN (T.2.2.1 i)) by rw [hS]; exact flat_f (by omega))) ?_
    refine r_iload_n X dX11_says_47 rfl ?_
    refine r_icmp_neN X 66 dX11_says_48 (by decide) (by omega) (by omega) (fun c_48 => ?_) (fun c_48 => ?_)
    · skip
      refine r_iload X dX11_says_66 rfl ?_
      refine r_iload X dX11_says_68 rfl ?_
      refine r_icmp_ltN X 94 dX11_says_70 (by decide) (by omega) (by omega) (fun c_70 => ?_) (fun c_70 => ?_)
      · skip
        refine r_aload_n X dX11_says_94 rfl ?_
        refine r_iload X dX11_says_95 rfl ?_
        refine r_iload_n X dX11_says_97 rfl ?_
        refine r_iload X dX11_says_98 rfl ?_
        refine r_iload X dX11_says_100 rfl ?_
        first | refine r_isubN X dX11_says_102 (by omega) ?_ | refine r_isub X _ dX11_says_102 rfl ?_
        refine r_callV (ci := 10) X rfl (c_X11_firms _ E g n M u B N (2 * s + handN (T.2.2.1 i)) t _ hS (by omega) (by rw [ix_nI (by omega)]; omega)) tw_815 tw_817 tp_34 tw_7 tw_818 rfl rfl (by first | exact m0 | exact m1 | exact m2 | exact m3 | exact m4 | exact m5 | exact m6 | exact m7 | exact m8 | exact m9 | assumption) rfl ⟨ok_X11_firms, ⟨Nat.le_of_ble_eq_true rfl, Nat.le_of_ble_eq_true rfl⟩, ⟨Nat.le_of_ble_eq_true rfl, Nat.le_of_ble_eq_true rfl⟩, Nat.le_of_ble_eq_true rfl⟩ dX11_says_103 (kk_v (Wf := Wg K E _ _ _ _) ?_)
        refine r_vret S dX11_says_106 ?_
        refine ⟨rfl, ?_, rfl⟩
        rw [hdn, ix_nI (by omega)]
        first | rw [say_a (by omega)] | rw [say_b (t := t) (by omega) (by omega) h99] | rw [say_c (t := t) (by omega) (by omega) (by omega)]
      · skip
        refine r_aload_n X dX11_says_73 rfl ?_
        refine r_iload X dX11_says_74 rfl ?_
        refine r_aload_n X dX11_says_76 rfl ?_
        refine r_get (ci := 10) X 4 _ ti_RX11 rfl (by decide) tw_662 (fun _ h => h) dX11_says_77 (by first | exact m0 | exact m1 | exact m2 | exact m3 | exact m4 | exact m5 | exact m6 | exact m7 | exact m8 | exact m9 | assumption) rfl ?_
        refine r_iload X dX11_says_80 rfl ?_
        refine r_nald X _ dX11_says_82 (by first | exact m0 | exact m1 | exact m2 | exact m3 | exact m4 | exact m5 | exact m6 | exact m7 | exact m8 | exact m9 | assumption) (rfl) (by omega) (by decide) ?_
        refine r_top _ _ (congrArg nI (show B 4 (2 * s + handN (T.2.2.1 i)) = N.1 (2 * s + handN (T.2.2.1 i)) by rw [hS]; exact flat_f (by omega))) ?_
        refine r_iload X dX11_says_83 rfl ?_
        refine r_iload X dX11_says_85 rfl ?_
        first | refine r_isubN X dX11_says_87 (by omega) ?_ | refine r_isub X _ dX11_says_87 rfl ?_
        refine r_callV (ci := 10) X rfl (c_X11_firms _ E g n M u B N (2 * s + handN (T.2.2.1 i)) _ _ hS (by omega) (by rw [ix_nI (by omega)]; omega)) tw_815 tw_817 tp_34 tw_7 tw_818 rfl rfl (by first | exact m0 | exact m1 | exact m2 | exact m3 | exact m4 | exact m5 | exact m6 | exact m7 | exact m8 | exact m9 | assumption) rfl ⟨ok_X11_firms, ⟨Nat.le_of_ble_eq_true rfl, Nat.le_of_ble_eq_true rfl⟩, ⟨Nat.le_of_ble_eq_true rfl, Nat.le_of_ble_eq_true rfl⟩, Nat.le_of_ble_eq_true rfl⟩ dX11_says_88 (kk_v (Wf := Wg K E _ _ _ _) ?_)
        refine r_goto X 106 dX11_says_91 (by decide) ?_
        refine r_vret S dX11_says_106 ?_
        refine ⟨rfl, ?_, rfl⟩
        rw [hdn, ix_nI (by omega)]
        first | rw [say_a (by omega)] | rw [say_b (t := t) (by omega) (by omega) h99] | rw [say_c (t := t) (by omega) (by omega) (by omega)]
    · skip
      refine r_aload_n X dX11_says_51 rfl ?_
      refine r_iload X dX11_says_52 rfl ?_
      refine r_iload_n X dX11_says_54 rfl ?_
      refine r_iload X dX11_says_55 rfl ?_
      refine r_iload X dX11_says_57 rfl ?_
      first | refine r_iaddN X dX11_says_59 ?_ | refine r_iadd X _ dX11_says_59 rfl ?_
      refine r_callV (ci := 10) X rfl (c_X11_firms _ E g n M u B N (2 * s + handN (T.2.2.1 i)) t _ hS (by omega) (by rw [ix_nI (by omega)]; omega)) tw_815 tw_817 tp_34 tw_7 tw_818 rfl rfl (by first | exact m0 | exact m1 | exact m2 | exact m3 | exact m4 | exact m5 | exact m6 | exact m7 | exact m8 | exact m9 | assumption) rfl ⟨ok_X11_firms, ⟨Nat.le_of_ble_eq_true rfl, Nat.le_of_ble_eq_true rfl⟩, ⟨Nat.le_of_ble_eq_true rfl, Nat.le_of_ble_eq_true rfl⟩, Nat.le_of_ble_eq_true rfl⟩ dX11_says_60 (kk_v (Wf := Wg K E _ _ _ _) ?_)
      refine r_goto X 106 dX11_says_63 (by decide) ?_
      refine r_vret S dX11_says_106 ?_
      refine ⟨rfl, ?_, rfl⟩
      rw [hdn, ix_nI (by omega)]
      first | rw [say_a (by omega)] | rw [say_b (t := t) (by omega) (by omega) h99] | rw [say_c (t := t) (by omega) (by omega) (by omega)]

set_option maxHeartbeats 4000000 in
set_option maxRecDepth 100000 in
/-- BanisterWordModel.heard  -/
theorem c_X11_heard (l : Launch) (E : xE) (g : hG) (n : Nat) (M : Nat) (u : Nat → Nat) (B : Nat → Nat → Nat) (T : hsT) (N : Mo) (i s : Nat) (hT : B 2 = tfl T) (hS : B 4 = flat N) (h0 : T.1 ≤ 12) (h1 : T.2.1 ≤ 6) (hP : ∀ i, i < T.2.1 → T.2.2.1 i < 4 ∧ T.2.2.2.1 i ≤ 9) (hN : ∀ j, N.1 j ≤ 7) (hi : i < T.2.1) (hs : s < 12) : Ct l yX11_heard cX11_heard 6 (some .int) 1 21 0 0 E [.ref M, .int (nI i), .int (nI s)] (mG E g M u B) n (zr (some (.int (nI (hearN (T.2.2.1 i) N.1 (s + 1))))) (mG E g M u B) (n)) := by
  refine Ct.of (by decide +kernel) (Nat.le_of_ble_eq_true rfl) (fun v hv => by simp only [List.mem_cons, List.not_mem_nil, or_false] at hv; (try rcases hv with rfl | rfl | rfl) <;> first | rfl | (subst hv; rfl) | exact hv.elim) ?_
  intro K hKl S
  subst hKl
  have X := S.1
  have hhd := handN_le (T.2.2.1 i)
  refine r_iconst (v := nI 0) X dX11_heard_0 (by decide) ?_
  refine r_top _ (nI (hearN (T.2.2.1 i) N.1 0)) (by unfold hearN; split <;> rfl) ?_
  refine r_istore_n X dX11_heard_1 (Nat.le_of_ble_eq_true rfl) ?_
  try dsimp only [List.set]
  refine r_iconst (v := nI 0) X dX11_heard_2 (by decide) ?_
  refine r_istore X dX11_heard_3 (Nat.le_of_ble_eq_true rfl) ?_
  try dsimp only [List.set]
  have hloop : ∀ (k : Nat), k ≤ s + 1 → ∀ u_ : Option Value, Wg K E (0) (0) 5 [some (.ref M), some (.int (nI i)), some (.int (nI s)), some (.int (nI (hearN (T.2.2.1 i) N.1 k))), some (.int (nI k)), u_] [] (mG E g M u B) (n) := by
    refine ind_up _ (s + 1) (fun k hk ih u_ => ?_)
    have h7 := hN (2 * k + handN (T.2.2.1 i))
    refine r_iload X dX11_heard_5 rfl ?_
    refine r_iload_n X dX11_heard_7 rfl ?_
    refine r_icmp_gtN X 58 dX11_heard_8 (by decide) (by omega) (by omega) (fun c_8 => ?_) (fun c_8 => ?_)
    · skip
      refine r_iload_n X dX11_heard_58 rfl ?_
      refine r_iret S dX11_heard_59 ?_
      refine ⟨?_, rfl, rfl⟩
      first | (simp [hearN, c_16]; done) | (rw [show k = s + 1 by omega])
    · skip
      refine r_aload_n X dX11_heard_11 rfl ?_
      refine r_iload_n X dX11_heard_12 rfl ?_
      refine r_callV (ci := 10) X rfl (c_X11_feels _ E g n M u B T i hT (by omega) (hP i hi).1) tw_831 tw_833 tp_37 tw_7 tw_834 rfl rfl (by first | exact m0 | exact m1 | exact m2 | exact m3 | exact m4 | exact m5 | exact m6 | exact m7 | exact m8 | exact m9 | assumption) rfl ⟨ok_X11_feels, ⟨Nat.le_of_ble_eq_true rfl, Nat.le_of_ble_eq_true rfl⟩, ⟨Nat.le_of_ble_eq_true rfl, Nat.le_of_ble_eq_true rfl⟩, Nat.le_of_ble_eq_true rfl⟩ dX11_heard_13 (kk_r (Wf := Wg K E _ _ _ _) ?_)
      refine r_if_eqB X 58 dX11_heard_16 (by decide) (fun c_16 => ?_) (fun c_16 => ?_)
      · skip
        refine r_iload_n X dX11_heard_58 rfl ?_
        refine r_iret S dX11_heard_59 ?_
        refine ⟨?_, rfl, rfl⟩
        first | (simp [hearN, c_16]; done) | (rw [show k = s + 1 by omega])
      · skip
        refine r_aload_n X dX11_heard_19 rfl ?_
        refine r_get (ci := 10) X 4 _ ti_RX11 rfl (by decide) tw_662 (fun _ h => h) dX11_heard_20 (by first | exact m0 | exact m1 | exact m2 | exact m3 | exact m4 | exact m5 | exact m6 | exact m7 | exact m8 | exact m9 | assumption) rfl ?_
        refine r_iconst (v := nI 2) X dX11_heard_23 (by decide) ?_
        refine r_iload X dX11_heard_24 rfl ?_
        first | refine r_imulN X dX11_heard_26 ?_ | refine r_imul X _ dX11_heard_26 rfl ?_
        refine r_aload_n X dX11_heard_27 rfl ?_
        refine r_iload_n X dX11_heard_28 rfl ?_
        refine r_callV (ci := 10) X rfl (c_X11_handOf _ E _ n M u B T i hT (by omega)) tw_811 tw_813 tp_33 tw_7 tw_814 rfl rfl (by first | exact m0 | exact m1 | exact m2 | exact m3 | exact m4 | exact m5 | exact m6 | exact m7 | exact m8 | exact m9 | assumption) rfl ⟨ok_X11_handOf, ⟨Nat.le_of_ble_eq_true rfl, Nat.le_of_ble_eq_true rfl⟩, ⟨Nat.le_of_ble_eq_true rfl, Nat.le_of_ble_eq_true rfl⟩, Nat.le_of_ble_eq_true rfl⟩ dX11_heard_29 (kk_r (Wf := Wg K E _ _ _ _) ?_)
        first | refine r_iaddN X dX11_heard_32 ?_ | refine r_iadd X _ dX11_heard_32 rfl ?_
        refine r_nald X _ dX11_heard_33 (by first | exact m0 | exact m1 | exact m2 | exact m3 | exact m4 | exact m5 | exact m6 | exact m7 | exact m8 | exact m9 | assumption) (rfl) (by omega) (by decide) ?_
        refine r_top _ _ (congrArg nI (show B 4 (2 * k + handN (T.2.2.1 i)) = N.1 (2 * k + handN (T.2.2.1 i)) by rw [hS]; exact flat_f (by omega))) ?_
        refine r_istore X dX11_heard_34 (Nat.le_of_ble_eq_true rfl) ?_
        try dsimp only [List.set]
        refine r_iload_n X dX11_heard_36 rfl ?_
        refine r_iload X dX11_heard_37 rfl ?_
        refine r_if_leN X 49 dX11_heard_39 (by decide) (by omega) (fun c_39 => ?_) (fun c_39 => ?_)
        · skip
          refine r_iconst (v := nI 0) X dX11_heard_49 (by decide) ?_
          refine r_iorN X dX11_heard_50 ?_
          refine r_top _ (nI (hearN (T.2.2.1 i) N.1 (k + 1))) (by unfold hearN; rw [if_pos c_16, if_pos c_16]; show nI (hbF N.1 (handN (T.2.2.1 i)) k ||| _) = nI (hbF N.1 (handN (T.2.2.1 i)) k ||| bt (N.1 (k * 2 + handN (T.2.2.1 i)))); rw [Nat.mul_comm k 2]; unfold bt; first | rw [if_pos c_39] | rw [if_neg (by omega)]) ?_
          refine r_istore_n X dX11_heard_51 (Nat.le_of_ble_eq_true rfl) ?_
          try dsimp only [List.set]
          first | refine r_iincN X dX11_heard_52 rfl ?_ | refine r_iinc X _ dX11_heard_52 rfl rfl ?_
          try dsimp only [List.set]
          refine r_goto X 5 dX11_heard_55 (by decide) ?_
          exact ih (by omega) _
        · skip
          refine r_iconst (v := nI 1) X dX11_heard_42 (by decide) ?_
          refine r_iload X dX11_heard_43 rfl ?_
          refine r_ishl1N X dX11_heard_45 (by omega) ?_
          refine r_goto X 50 dX11_heard_46 (by decide) ?_
          refine r_iorN X dX11_heard_50 ?_
          refine r_top _ (nI (hearN (T.2.2.1 i) N.1 (k + 1))) (by unfold hearN; rw [if_pos c_16, if_pos c_16]; show nI (hbF N.1 (handN (T.2.2.1 i)) k ||| _) = nI (hbF N.1 (handN (T.2.2.1 i)) k ||| bt (N.1 (k * 2 + handN (T.2.2.1 i)))); rw [Nat.mul_comm k 2]; unfold bt; first | rw [if_pos c_39] | rw [if_neg (by omega)]) ?_
          refine r_istore_n X dX11_heard_51 (Nat.le_of_ble_eq_true rfl) ?_
          try dsimp only [List.set]
          first | refine r_iincN X dX11_heard_52 rfl ?_ | refine r_iinc X _ dX11_heard_52 rfl rfl ?_
          try dsimp only [List.set]
          refine r_goto X 5 dX11_heard_55 (by decide) ?_
          exact ih (by omega) _
  exact hloop 0 (Nat.zero_le _) _

