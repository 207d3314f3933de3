set_option maxHeartbeats 4000000 in
set_option maxRecDepth 100000 in
/-- BanisterWord.Text.readWord  -/
theorem c_X9_readWord (l : Launch) (E : xE) (g : hG) (n : Nat) (a : Nat) (L Pt : Nat → Nat) (at_ st pp ln cl : Nat) (ht : ta E g a L Pt at_ st pp ln cl) (hL : ∀ j, L j ≤ 255) (hln : ln ≤ 160) (hat : at_ ≤ ln) : Ct l yX9_readWord cX9_readWord 3 (some .int) 6 130 0 0 E [.ref a] (g) n (zr (some (.int (oI (findW L at_ (sc (okL L) ln at_))))) (hu g a (tO a (sc (okL L) ln at_) st pp ln cl)) (n)) := by
  refine Ct.of (by decide +kernel) (Nat.le_of_ble_eq_true rfl) (fun v hv => by simp only [List.mem_cons, List.not_mem_nil, or_false] at hv; (try rcases hv with rfl) <;> first | rfl | (subst hv; rfl) | exact hv.elim) ?_
  intro K hKl S
  subst hKl
  have X := S.1
  obtain ⟨ht0, ht1, ht2⟩ := id ht
  have hlo : at_ ≤ (sc (okL L) ln at_) := sc_lo
  have hhi : (sc (okL L) ln at_) ≤ ln := sc_hi hat
  refine r_aload_n X dX9_readWord_0 rfl ?_
  refine r_get (ci := 8) X 2 _ ti_RX9 rfl (by decide) tw_35 (fun _ h => h) dX9_readWord_1 (by first | assumption | (repeat rw [hu_ne _ _ (by omega)]); first | assumption | exact hu_eq _ _ _) rfl ?_
  refine r_istore_n X dX9_readWord_4 (Nat.le_of_ble_eq_true rfl) ?_
  try dsimp only [List.set]
  have hloop : ∀ (k : Nat), k ≤ ln → (sc (okL L) ln at_ = sc (okL L) ln k) → ∀ u_ : Option Value, Wg K E (0) (0) 5 [some (.ref a), some (.int (nI at_)), u_] [] (hu g a (tO a k st pp ln cl)) (n) := by
    refine ind_up _ (ln) (fun k hk ih hq u_ => ?_)
    have hLk := hL k
    refine r_aload_n X dX9_readWord_5 rfl ?_
    refine r_get (ci := 8) X 2 _ ti_RX9 rfl (by decide) tw_35 (fun _ h => h) dX9_readWord_6 (by first | assumption | (repeat rw [hu_ne _ _ (by omega)]); first | assumption | exact hu_eq _ _ _) rfl ?_
    refine r_aload_n X dX9_readWord_9 rfl ?_
    refine r_get (ci := 8) X 5 _ ti_RX9 rfl (by decide) tw_38 (fun _ h => h) dX9_readWord_10 (by first | assumption | (repeat rw [hu_ne _ _ (by omega)]); first | assumption | exact hu_eq _ _ _) rfl ?_
    refine r_icmp_geN X 57 dX9_readWord_13 (by decide) (by omega) (by omega) (fun c_13 => ?_) (fun c_13 => ?_)
    · skip
      refine r_iconst (v := nI 0) X dX9_readWord_57 (by decide) ?_
      refine r_istore_n X dX9_readWord_58 (Nat.le_of_ble_eq_true rfl) ?_
      try dsimp only [List.set]
      have hloop2 : ∀ (w : Nat), w ≤ 7 → (findW L at_ (sc (okL L) ln at_) = fwF L at_ (sc (okL L) ln at_) (7 - w) w) → Wg K E (0) (0) 59 [some (.ref a), some (.int (nI at_)), some (.int (nI w))] [] (hu g a (tO a (sc (okL L) ln at_) st pp ln cl)) (n) := by
        refine ind_up _ (7) (fun w hw ih hq => ?_)
        have ht2_ : ta E (hu g a (tO a (sc (okL L) ln at_) st pp ln cl)) a L Pt (sc (okL L) ln at_) st pp ln cl := ht.mv
        refine r_iload_n X dX9_readWord_59 rfl ?_
        refine r_bipush (v := nI 7) X dX9_readWord_60 (by decide) ?_
        refine r_icmp_geN X 89 dX9_readWord_62 (by decide) (by omega) (by omega) (fun c_62 => ?_) (fun c_62 => ?_)
        · skip
          refine r_iconst (v := (-1)) X dX9_readWord_89 (by decide) ?_
          refine r_iret S dX9_readWord_90 ?_
          obtain rfl : w = 7 := by omega
          exact ⟨by rw [hq]; rfl, rfl, rfl⟩
        · skip
          refine r_aload_n X dX9_readWord_65 rfl ?_
          refine r_iload_n X dX9_readWord_66 rfl ?_
          refine r_aload_n X dX9_readWord_67 rfl ?_
          refine r_get (ci := 8) X 2 _ ti_RX9 rfl (by decide) tw_35 (fun _ h => h) dX9_readWord_68 (by first | assumption | (repeat rw [hu_ne _ _ (by omega)]); first | assumption | exact hu_eq _ _ _) rfl ?_
          refine r_iload_n X dX9_readWord_71 rfl ?_
          refine r_callS X rfl (c_X9_nameOf _ E _ n w (by omega)) tw_205 tw_206 tw_2 tw_207 rfl ⟨ok_X9_nameOf, ⟨Nat.le_of_ble_eq_true rfl, Nat.le_of_ble_eq_true rfl⟩, ⟨Nat.le_of_ble_eq_true rfl, Nat.le_of_ble_eq_true rfl⟩, Nat.le_of_ble_eq_true rfl⟩ dX9_readWord_72 (kk_r (Wf := Wg K E _ _ _ _) ?_)
          refine r_callV (ci := 8) X rfl (c_X9_spells _ E _ n a L Pt (sc (okL L) ln at_) st pp ln cl at_ (sc (okL L) ln at_) w ht2_ hL hlo (by omega) (by omega)) tw_215 tw_217 tp_3 tw_2 tw_218 rfl rfl (by first | assumption | (repeat rw [hu_ne _ _ (by omega)]); first | assumption | exact hu_eq _ _ _) rfl ⟨ok_X9_spells, ⟨Nat.le_of_ble_eq_true rfl, Nat.le_of_ble_eq_true rfl⟩, ⟨Nat.le_of_ble_eq_true rfl, Nat.le_of_ble_eq_true rfl⟩, Nat.le_of_ble_eq_true rfl⟩ dX9_readWord_75 (kk_r (Wf := Wg K E _ _ _ _) ?_)
          refine r_if_eqB X 83 dX9_readWord_78 (by decide) (fun c_78 => ?_) (fun c_78 => ?_)
          · skip
            first | refine r_iincN X dX9_readWord_83 rfl ?_ | refine r_iinc X _ dX9_readWord_83 rfl rfl ?_
            try dsimp only [List.set]
            refine r_goto X 59 dX9_readWord_86 (by decide) ?_
            refine ih (by omega) (hq.trans ?_)
            rw [show 7 - w = (7 - (w + 1)) + 1 by omega]
            show (if spB L at_ (sc (okL L) ln at_) w = true then some w else fwF L at_ (sc (okL L) ln at_) (7 - (w + 1)) (w + 1)) = _
            rw [if_neg (by rw [c_78]; decide)]
          · skip
            refine r_iload_n X dX9_readWord_81 rfl ?_
            refine r_iret S dX9_readWord_82 ?_
            refine ⟨?_, rfl, rfl⟩
            rw [hq, show 7 - w = (7 - (w + 1)) + 1 by omega]
            show some (Value.int (nI w)) = some (.int (oI (if spB L at_ (sc (okL L) ln at_) w = true then some w else _)))
            rw [if_pos c_78]; rfl
      first | refine r_heap (by rw [show k = (sc (okL L) ln at_) from (hq.trans (sc_ge c_13)).symm]) (hloop2 0 (Nat.zero_le _) rfl) | refine r_heap (by rw [show k = (sc (okL L) ln at_) from (hq.trans (sc_f (decide_eq_false (by omega)))).symm]) (hloop2 0 (Nat.zero_le _) rfl)
    · skip
      refine r_aload_n X dX9_readWord_16 rfl ?_
      refine r_get (ci := 8) X 0 _ ti_RX9 rfl (by decide) tw_33 (fun _ h => h) dX9_readWord_17 (by first | assumption | (repeat rw [hu_ne _ _ (by omega)]); first | assumption | exact hu_eq _ _ _) rfl ?_
      refine r_aload_n X dX9_readWord_20 rfl ?_
      refine r_get (ci := 8) X 2 _ ti_RX9 rfl (by decide) tw_35 (fun _ h => h) dX9_readWord_21 (by first | assumption | (repeat rw [hu_ne _ _ (by omega)]); first | assumption | exact hu_eq _ _ _) rfl ?_
      refine r_nald X _ dX9_readWord_24 (by first | assumption | (repeat rw [hu_ne _ _ (by omega)]); first | assumption | exact hu_eq _ _ _) (rfl) (by omega) (by decide) ?_
      refine r_bipush (v := nI 97) X dX9_readWord_25 (by decide) ?_
      refine r_icmp_ltN X 57 dX9_readWord_27 (by decide) (by omega) (by omega) (fun c_27 => ?_) (fun c_27 => ?_)
      · skip
        refine r_iconst (v := nI 0) X dX9_readWord_57 (by decide) ?_
        refine r_istore_n X dX9_readWord_58 (Nat.le_of_ble_eq_true rfl) ?_
        try dsimp only [List.set]
        have hloop2 : ∀ (w : Nat), w ≤ 7 → (findW L at_ (sc (okL L) ln at_) = fwF L at_ (sc (okL L) ln at_) (7 - w) w) → Wg K E (0) (0) 59 [some (.ref a), some (.int (nI at_)), some (.int (nI w))] [] (hu g a (tO a (sc (okL L) ln at_) st pp ln cl)) (n) := by
          refine ind_up _ (7) (fun w hw ih hq => ?_)
          have ht2_ : ta E (hu g a (tO a (sc (okL L) ln at_) st pp ln cl)) a L Pt (sc (okL L) ln at_) st pp ln cl := ht.mv
          refine r_iload_n X dX9_readWord_59 rfl ?_
          refine r_bipush (v := nI 7) X dX9_readWord_60 (by decide) ?_
          refine r_icmp_geN X 89 dX9_readWord_62 (by decide) (by omega) (by omega) (fun c_62 => ?_) (fun c_62 => ?_)
          · skip
            refine r_iconst (v := (-1)) X dX9_readWord_89 (by decide) ?_
            refine r_iret S dX9_readWord_90 ?_
            obtain rfl : w = 7 := by omega
            exact ⟨by rw [hq]; rfl, rfl, rfl⟩
          · skip
            refine r_aload_n X dX9_readWord_65 rfl ?_
            refine r_iload_n X dX9_readWord_66 rfl ?_
            refine r_aload_n X dX9_readWord_67 rfl ?_
            refine r_get (ci := 8) X 2 _ ti_RX9 rfl (by decide) tw_35 (fun _ h => h) dX9_readWord_68 (by first | assumption | (repeat rw [hu_ne _ _ (by omega)]); first | assumption | exact hu_eq _ _ _) rfl ?_
            refine r_iload_n X dX9_readWord_71 rfl ?_
            refine r_callS X rfl (c_X9_nameOf _ E _ n w (by omega)) tw_205 tw_206 tw_2 tw_207 rfl ⟨ok_X9_nameOf, ⟨Nat.le_of_ble_eq_true rfl, Nat.le_of_ble_eq_true rfl⟩, ⟨Nat.le_of_ble_eq_true rfl, Nat.le_of_ble_eq_true rfl⟩, Nat.le_of_ble_eq_true rfl⟩ dX9_readWord_72 (kk_r (Wf := Wg K E _ _ _ _) ?_)
            refine r_callV (ci := 8) X rfl (c_X9_spells _ E _ n a L Pt (sc (okL L) ln at_) st pp ln cl at_ (sc (okL L) ln at_) w ht2_ hL hlo (by omega) (by omega)) tw_215 tw_217 tp_3 tw_2 tw_218 rfl rfl (by first | assumption | (repeat rw [hu_ne _ _ (by omega)]); first | assumption | exact hu_eq _ _ _) rfl ⟨ok_X9_spells, ⟨Nat.le_of_ble_eq_true rfl, Nat.le_of_ble_eq_true rfl⟩, ⟨Nat.le_of_ble_eq_true rfl, Nat.le_of_ble_eq_true rfl⟩, Nat.le_of_ble_eq_true rfl⟩ dX9_readWord_75 (kk_r (Wf := Wg K E _ _ _ _) ?_)
            refine r_if_eqB X 83 dX9_readWord_78 (by decide) (fun c_78 => ?_) (fun c_78 => ?_)
            · skip
              first | refine r_iincN X dX9_readWord_83 rfl ?_ | refine r_iinc X _ dX9_readWord_83 rfl rfl ?_
              try dsimp only [List.set]
              refine r_goto X 59 dX9_readWord_86 (by decide) ?_
              refine ih (by omega) (hq.trans ?_)
              rw [show 7 - w = (7 - (w + 1)) + 1 by omega]
              show (if spB L at_ (sc (okL L) ln at_) w = true then some w else fwF L at_ (sc (okL L) ln at_) (7 - (w + 1)) (w + 1)) = _
              rw [if_neg (by rw [c_78]; decide)]
            · skip
              refine r_iload_n X dX9_readWord_81 rfl ?_
              refine r_iret S dX9_readWord_82 ?_
              refine ⟨?_, rfl, rfl⟩
              rw [hq, show 7 - w = (7 - (w + 1)) + 1 by omega]
              show some (Value.int (nI w)) = some (.int (oI (if spB L at_ (sc (okL L) ln at_) w = true then some w else _)))
              rw [if_pos c_78]; rfl
        first | refine r_heap (by rw [show k = (sc (okL L) ln at_) from (hq.trans (sc_ge c_13)).symm]) (hloop2 0 (Nat.zero_le _) rfl) | refine r_heap (by rw [show k = (sc (okL L) ln at_) from (hq.trans (sc_f (decide_eq_false (by omega)))).symm]) (hloop2 0 (Nat.zero_le _) rfl)
      · skip
        refine r_aload_n X dX9_readWord_30 rfl ?_
        refine r_get (ci := 8) X 0 _ ti_RX9 rfl (by decide) tw_33 (fun _ h => h) dX9_readWord_31 (by first | assumption | (repeat rw [hu_ne _ _ (by omega)]); first | assumption | exact hu_eq _ _ _) rfl ?_
        refine r_aload_n X dX9_readWord_34 rfl ?_
        refine r_get (ci := 8) X 2 _ ti_RX9 rfl (by decide) tw_35 (fun _ h => h) dX9_readWord_35 (by first | assumption | (repeat rw [hu_ne _ _ (by omega)]); first | assumption | exact hu_eq _ _ _) rfl ?_
        refine r_nald X _ dX9_readWord_38 (by first | assumption | (repeat rw [hu_ne _ _ (by omega)]); first | assumption | exact hu_eq _ _ _) (rfl) (by omega) (by decide) ?_
        refine r_bipush (v := nI 122) X dX9_readWord_39 (by decide) ?_
        refine r_icmp_gtN X 57 dX9_readWord_41 (by decide) (by omega) (by omega) (fun c_41 => ?_) (fun c_41 => ?_)
        · skip
          refine r_iconst (v := nI 0) X dX9_readWord_57 (by decide) ?_
          refine r_istore_n X dX9_readWord_58 (Nat.le_of_ble_eq_true rfl) ?_
          try dsimp only [List.set]
          have hloop2 : ∀ (w : Nat), w ≤ 7 → (findW L at_ (sc (okL L) ln at_) = fwF L at_ (sc (okL L) ln at_) (7 - w) w) → Wg K E (0) (0) 59 [some (.ref a), some (.int (nI at_)), some (.int (nI w))] [] (hu g a (tO a (sc (okL L) ln at_) st pp ln cl)) (n) := by
            refine ind_up _ (7) (fun w hw ih hq => ?_)
            have ht2_ : ta E (hu g a (tO a (sc (okL L) ln at_) st pp ln cl)) a L Pt (sc (okL L) ln at_) st pp ln cl := ht.mv
            refine r_iload_n X dX9_readWord_59 rfl ?_
            refine r_bipush (v := nI 7) X dX9_readWord_60 (by decide) ?_
            refine r_icmp_geN X 89 dX9_readWord_62 (by decide) (by omega) (by omega) (fun c_62 => ?_) (fun c_62 => ?_)
            · skip
              refine r_iconst (v := (-1)) X dX9_readWord_89 (by decide) ?_
              refine r_iret S dX9_readWord_90 ?_
              obtain rfl : w = 7 := by omega
              exact ⟨by rw [hq]; rfl, rfl, rfl⟩
            · skip
              refine r_aload_n X dX9_readWord_65 rfl ?_
              refine r_iload_n X dX9_readWord_66 rfl ?_
              refine r_aload_n X dX9_readWord_67 rfl ?_
              refine r_get (ci := 8) X 2 _ ti_RX9 rfl (by decide) tw_35 (fun _ h => h) dX9_readWord_68 (by first | assumption | (repeat rw [hu_ne _ _ (by omega)]); first | assumption | exact hu_eq _ _ _) rfl ?_
              refine r_iload_n X dX9_readWord_71 rfl ?_
              refine r_callS X rfl (c_X9_nameOf _ E _ n w (by omega)) tw_205 tw_206 tw_2 tw_207 rfl ⟨ok_X9_nameOf, ⟨Nat.le_of_ble_eq_true rfl, Nat.le_of_ble_eq_true rfl⟩, ⟨Nat.le_of_ble_eq_true rfl, Nat.le_of_ble_eq_true rfl⟩, Nat.le_of_ble_eq_true rfl⟩ dX9_readWord_72 (kk_r (Wf := Wg K E _ _ _ _) ?_)
              refine r_callV (ci := 8) X rfl (c_X9_spells _ E _ n a L Pt (sc (okL L) ln at_) st pp ln cl at_ (sc (okL L) ln at_) w ht2_ hL hlo (by omega) (by omega)) tw_215 tw_217 tp_3 tw_2 tw_218 rfl rfl (by first | assumption | (repeat rw [hu_ne _ _ (by omega)]); first | assumption | exact hu_eq _ _ _) rfl ⟨ok_X9_spells, ⟨Nat.le_of_ble_eq_true rfl, Nat.le_of_ble_eq_true rfl⟩, ⟨Nat.le_of_ble_eq_true rfl, Nat.le_of_ble_eq_true rfl⟩, Nat.le_of_ble_eq_true rfl⟩ dX9_readWord_75 (kk_r (Wf := Wg K E _ _ _ _) ?_)
              refine r_if_eqB X 83 dX9_readWord_78 (by decide) (fun c_78 => ?_) (fun c_78 => ?_)
              · skip
                first | refine r_iincN X dX9_readWord_83 rfl ?_ | refine r_iinc X _ dX9_readWord_83 rfl rfl ?_
                try dsimp only [List.set]
                refine r_goto X 59 dX9_readWord_86 (by decide) ?_
                refine ih (by omega) (hq.trans ?_)
                rw [show 7 - w = (7 - (w + 1)) + 1 by omega]
                show (if spB L at_ (sc (okL L) ln at_) w = true then some w else fwF L at_ (sc (okL L) ln at_) (7 - (w + 1)) (w + 1)) = _
                rw [if_neg (by rw [c_78]; decide)]
              · skip
                refine r_iload_n X dX9_readWord_81 rfl ?_
                refine r_iret S dX9_readWord_82 ?_
                refine ⟨?_, rfl, rfl⟩
                rw [hq, show 7 - w = (7 - (w + 1)) + 1 by omega]
                show some (Value.int (nI w)) = some (.int (oI (if spB L at_ (sc (okL L) ln at_) w = true then some w else _)))
                rw [if_pos c_78]; rfl
          first | refine r_heap (by rw [show k = (sc (okL L) ln at_) from (hq.trans (sc_ge c_13)).symm]) (hloop2 0 (Nat.zero_le _) rfl) | refine r_heap (by rw [show k = (sc (okL L) ln at_) from (hq.trans (sc_f (decide_eq_false (by omega)))).symm]) (hloop2 0 (Nat.zero_le _) rfl)
        · skip
          refine r_aload_n X dX9_readWord_44 rfl ?_
          refine r_dup X dX9_readWord_45 rfl ?_
          refine r_get (ci := 8) X 2 _ ti_RX9 rfl (by decide) tw_35 (fun _ h => h) dX9_readWord_46 (by first | assumption | (repeat rw [hu_ne _ _ (by omega)]); first | assumption | exact hu_eq _ _ _) rfl ?_
          refine r_iconst (v := nI 1) X dX9_readWord_49 (by decide) ?_
          first | refine r_iaddN X dX9_readWord_50 ?_ | refine r_iadd X _ dX9_readWord_50 rfl ?_
          refine r_put (ci := 8) (ty := .int) X 2 ti_RX9 tyX9 tyX9_ok nmX9 rfl (by decide) tw_35 (fun _ h => h) rfl (by decide +kernel) dX9_readWord_51 (by first | assumption | (repeat rw [hu_ne _ _ (by omega)]); first | assumption | exact hu_eq _ _ _) rfl rfl (Nat.le_of_ble_eq_true rfl) ?_
          try dsimp only [List.set]
          refine r_goto X 5 dX9_readWord_54 (by decide) ?_
          refine r_heap hu_hu (ih (by omega) (hq.trans (sc_t (by omega) (decide_eq_true ⟨c_27, c_41⟩))) _)
  refine r_heap (hu_self ht0).symm (hloop at_ hat rfl _)

theorem nuF_0 (L : Nat → Nat) (s : Nat) : nuF L s 0 = 0 := rfl
theorem nuF_1 (L : Nat → Nat) (s : Nat) : nuF L s 1 = L s - 48 := rfl
theorem nuF_2 {L : Nat → Nat} {s j : Nat} (h : 2 ≤ j) : nuF L s j = (L s - 48) * 10 + L (s + 1) - 48 := by unfold nuF; rw [if_neg (by omega), if_neg (by omega)]
theorem nuF_s {L : Nat → Nat} {s j : Nat} (h : j < 2) : nuF L s (j + 1) = nuF L s j * 10 + L (s + j) - 48 := by
  rcases (show j = 0 ∨ j = 1 by omega) with rfl | rfl
  · show L s - 48 = 0 * 10 + L (s + 0) - 48; rw [Nat.zero_mul, Nat.zero_add]; rfl
  · rfl

set_option maxHeartbeats 4000000 in
set_option maxRecDepth 100000 in
/-- BanisterWord.Text.readNumber  -/
theorem c_X9_readNumber (l : Launch) (E : xE) (g : hG) (n : Nat) (a : Nat) (L Pt : Nat → Nat) (at_ st pp ln cl : Nat) (ht : ta E g a L Pt at_ st pp ln cl) (hL : ∀ j, L j ≤ 255) (hln : ln ≤ 160) (hat : at_ ≤ ln) : Ct l yX9_readNumber cX9_readNumber 3 (some .int) 0 0 0 0 E [.ref a] (g) n (zr (some (.int (oI (rdN L ln at_)))) (hu g a (tO a (sc (okD L) ln at_) st pp ln cl)) (n)) := by
  refine Ct.of (by decide +kernel) (Nat.le_of_ble_eq_true rfl) (fun v hv => by simp only [List.mem_cons, List.not_mem_nil, or_false] at hv; (try rcases hv with rfl) <;> first | rfl | (subst hv; rfl) | exact hv.elim) ?_
  intro K hKl S
  subst hKl
  have X := S.1
  obtain ⟨ht0, ht1, ht2⟩ := id ht
  refine r_aload_n X dX9_readNumber_0 rfl ?_
  refine r_get (ci := 8) X 2 _ ti_RX9 rfl (by decide) tw_35 (fun _ h => h) dX9_readNumber_1 (by first | assumption | (repeat rw [hu_ne _ _ (by omega)]); first | assumption | exact hu_eq _ _ _) rfl ?_
  refine r_istore_n X dX9_readNumber_4 (Nat.le_of_ble_eq_true rfl) ?_
  try dsimp only [List.set]
  refine r_iconst (v := nI 0) X dX9_readNumber_5 (by decide) ?_
  refine r_istore_n X dX9_readNumber_6 (Nat.le_of_ble_eq_true rfl) ?_
  try dsimp only [List.set]
  have hloop : ∀ (k : Nat), k ≤ ln → ((sc (okD L) ln at_) = sc (okD L) ln k ∧ at_ ≤ k) → Wg K E (0) (0) 7 [some (.ref a), some (.int (nI at_)), some (.int (nI (nuF L at_ (k - at_))))] [] (hu g a (tO a k st pp ln cl)) (n) := by
    refine ind_up _ (ln) (fun k hk ih hq => ?_)
    have hLk := hL k
    refine r_aload_n X dX9_readNumber_7 rfl ?_
    refine r_get (ci := 8) X 2 _ ti_RX9 rfl (by decide) tw_35 (fun _ h => h) dX9_readNumber_8 (by first | assumption | (repeat rw [hu_ne _ _ (by omega)]); first | assumption | exact hu_eq _ _ _) rfl ?_
    refine r_aload_n X dX9_readNumber_11 rfl ?_
    refine r_get (ci := 8) X 5 _ ti_RX9 rfl (by decide) tw_38 (fun _ h => h) dX9_readNumber_12 (by first | assumption | (repeat rw [hu_ne _ _ (by omega)]); first | assumption | exact hu_eq _ _ _) rfl ?_
    refine r_icmp_geN X 87 dX9_readNumber_15 (by decide) (by omega) (by omega) (fun c_15 => ?_) (fun c_15 => ?_)
    · skip
      have he : (sc (okD L) ln at_) = k := hq.1.trans (by first | exact sc_ge c_15 | exact sc_f (decide_eq_false (by omega)))
      refine r_aload_n X dX9_readNumber_87 rfl ?_
      refine r_get (ci := 8) X 2 _ ti_RX9 rfl (by decide) tw_35 (fun _ h => h) dX9_readNumber_88 (by first | assumption | (repeat rw [hu_ne _ _ (by omega)]); first | assumption | exact hu_eq _ _ _) rfl ?_
      refine r_iload_n X dX9_readNumber_91 rfl ?_
      refine r_icmp_eqN X 105 dX9_readNumber_92 (by decide) (by omega) (by omega) (fun c_92 => ?_) (fun c_92 => ?_)
      · skip
        refine r_iconst (v := (-1)) X dX9_readNumber_105 (by decide) ?_
        refine r_goto X 110 dX9_readNumber_106 (by decide) ?_
        refine r_iret S dX9_readNumber_110 ?_
        refine ⟨?_, by rw [he], rfl⟩
        unfold rdN
        rw [he]
        first | (rw [if_pos (Or.inl c_92)]; rfl) | (rw [if_pos (Or.inr (by omega))]; rfl) | (rw [if_neg (by omega)]; rfl)
      · skip
        refine r_aload_n X dX9_readNumber_95 rfl ?_
        refine r_get (ci := 8) X 2 _ ti_RX9 rfl (by decide) tw_35 (fun _ h => h) dX9_readNumber_96 (by first | assumption | (repeat rw [hu_ne _ _ (by omega)]); first | assumption | exact hu_eq _ _ _) rfl ?_
        refine r_iload_n X dX9_readNumber_99 rfl ?_
        first | refine r_isubN X dX9_readNumber_100 (by omega) ?_ | refine r_isub X _ dX9_readNumber_100 rfl ?_
        refine r_iconst (v := nI 2) X dX9_readNumber_101 (by decide) ?_
        refine r_icmp_leN X 109 dX9_readNumber_102 (by decide) (by omega) (by omega) (fun c_102 => ?_) (fun c_102 => ?_)
        · skip
          refine r_iload_n X dX9_readNumber_109 rfl ?_
          refine r_iret S dX9_readNumber_110 ?_
          refine ⟨?_, by rw [he], rfl⟩
          unfold rdN
          rw [he]
          first | (rw [if_pos (Or.inl c_92)]; rfl) | (rw [if_pos (Or.inr (by omega))]; rfl) | (rw [if_neg (by omega)]; rfl)
        · skip
          refine r_iconst (v := (-1)) X dX9_readNumber_105 (by decide) ?_
          refine r_goto X 110 dX9_readNumber_106 (by decide) ?_
          refine r_iret S dX9_readNumber_110 ?_
          refine ⟨?_, by rw [he], rfl⟩
          unfold rdN
          rw [he]
          first | (rw [if_pos (Or.inl c_92)]; rfl) | (rw [if_pos (Or.inr (by omega))]; rfl) | (rw [if_neg (by omega)]; rfl)
    · skip
      refine r_aload_n X dX9_readNumber_18 rfl ?_
      refine r_get (ci := 8) X 0 _ ti_RX9 rfl (by decide) tw_33 (fun _ h => h) dX9_readNumber_19 (by first | assumption | (repeat rw [hu_ne _ _ (by omega)]); first | assumption | exact hu_eq _ _ _) rfl ?_
      refine r_aload_n X dX9_readNumber_22 rfl ?_
      refine r_get (ci := 8) X 2 _ ti_RX9 rfl (by decide) tw_35 (fun _ h => h) dX9_readNumber_23 (by first | assumption | (repeat rw [hu_ne _ _ (by omega)]); first | assumption | exact hu_eq _ _ _) rfl ?_
      refine r_nald X _ dX9_readNumber_26 (by first | assumption | (repeat rw [hu_ne _ _ (by omega)]); first | assumption | exact hu_eq _ _ _) (rfl) (by omega) (by decide) ?_
      refine r_bipush (v := nI 48) X dX9_readNumber_27 (by decide) ?_
      refine r_icmp_ltN X 87 dX9_readNumber_29 (by decide) (by omega) (by omega) (fun c_29 => ?_) (fun c_29 => ?_)
      · skip
        have he : (sc (okD L) ln at_) = k := hq.1.trans (by first | exact sc_ge c_15 | exact sc_f (decide_eq_false (by omega)))
        refine r_aload_n X dX9_readNumber_87 rfl ?_
        refine r_get (ci := 8) X 2 _ ti_RX9 rfl (by decide) tw_35 (fun _ h => h) dX9_readNumber_88 (by first | assumption | (repeat rw [hu_ne _ _ (by omega)]); first | assumption | exact hu_eq _ _ _) rfl ?_
        refine r_iload_n X dX9_readNumber_91 rfl ?_
        refine r_icmp_eqN X 105 dX9_readNumber_92 (by decide) (by omega) (by omega) (fun c_92 => ?_) (fun c_92 => ?_)
        · skip
          refine r_iconst (v := (-1)) X dX9_readNumber_105 (by decide) ?_
          refine r_goto X 110 dX9_readNumber_106 (by decide) ?_
          refine r_iret S dX9_readNumber_110 ?_
          refine ⟨?_, by rw [he], rfl⟩
          unfold rdN
          rw [he]
          first | (rw [if_pos (Or.inl c_92)]; rfl) | (rw [if_pos (Or.inr (by omega))]; rfl) | (rw [if_neg (by omega)]; rfl)
        · skip
          refine r_aload_n X dX9_readNumber_95 rfl ?_
          refine r_get (ci := 8) X 2 _ ti_RX9 rfl (by decide) tw_35 (fun _ h => h) dX9_readNumber_96 (by first | assumption | (repeat rw [hu_ne _ _ (by omega)]); first | assumption | exact hu_eq _ _ _) rfl ?_
          refine r_iload_n X dX9_readNumber_99 rfl ?_
          first | refine r_isubN X dX9_readNumber_100 (by omega) ?_ | refine r_isub X _ dX9_readNumber_100 rfl ?_
          refine r_iconst (v := nI 2) X dX9_readNumber_101 (by decide) ?_
          refine r_icmp_leN X 109 dX9_readNumber_102 (by decide) (by omega) (by omega) (fun c_102 => ?_) (fun c_102 => ?_)
          · skip
            refine r_iload_n X dX9_readNumber_109 rfl ?_
            refine r_iret S dX9_readNumber_110 ?_
            refine ⟨?_, by rw [he], rfl⟩
            unfold rdN
            rw [he]
            first | (rw [if_pos (Or.inl c_92)]; rfl) | (rw [if_pos (Or.inr (by omega))]; rfl) | (rw [if_neg (by omega)]; rfl)
          · skip
            refine r_iconst (v := (-1)) X dX9_readNumber_105 (by decide) ?_
            refine r_goto X 110 dX9_readNumber_106 (by decide) ?_
            refine r_iret S dX9_readNumber_110 ?_
            refine ⟨?_, by rw [he], rfl⟩
            unfold rdN
            rw [he]
            first | (rw [if_pos (Or.inl c_92)]; rfl) | (rw [if_pos (Or.inr (by omega))]; rfl) | (rw [if_neg (by omega)]; rfl)
      · skip
        refine r_aload_n X dX9_readNumber_32 rfl ?_
        refine r_get (ci := 8) X 0 _ ti_RX9 rfl (by decide) tw_33 (fun _ h => h) dX9_readNumber_33 (by first | assumption | (repeat rw [hu_ne _ _ (by omega)]); first | assumption | exact hu_eq _ _ _) rfl ?_
        refine r_aload_n X dX9_readNumber_36 rfl ?_
        refine r_get (ci := 8) X 2 _ ti_RX9 rfl (by decide) tw_35 (fun _ h => h) dX9_readNumber_37 (by first | assumption | (repeat rw [hu_ne _ _ (by omega)]); first | assumption | exact hu_eq _ _ _) rfl ?_
        refine r_nald X _ dX9_readNumber_40 (by first | assumption | (repeat rw [hu_ne _ _ (by omega)]); first | assumption | exact hu_eq _ _ _) (rfl) (by omega) (by decide) ?_
        refine r_bipush (v := nI 57) X dX9_readNumber_41 (by decide) ?_
        refine r_icmp_gtN X 87 dX9_readNumber_43 (by decide) (by omega) (by omega) (fun c_43 => ?_) (fun c_43 => ?_)
        · skip
          have he : (sc (okD L) ln at_) = k := hq.1.trans (by first | exact sc_ge c_15 | exact sc_f (decide_eq_false (by omega)))
          refine r_aload_n X dX9_readNumber_87 rfl ?_
          refine r_get (ci := 8) X 2 _ ti_RX9 rfl (by decide) tw_35 (fun _ h => h) dX9_readNumber_88 (by first | assumption | (repeat rw [hu_ne _ _ (by omega)]); first | assumption | exact hu_eq _ _ _) rfl ?_
          refine r_iload_n X dX9_readNumber_91 rfl ?_
          refine r_icmp_eqN X 105 dX9_readNumber_92 (by decide) (by omega) (by omega) (fun c_92 => ?_) (fun c_92 => ?_)
          · skip
            refine r_iconst (v := (-1)) X dX9_readNumber_105 (by decide) ?_
            refine r_goto X 110 dX9_readNumber_106 (by decide) ?_
            refine r_iret S dX9_readNumber_110 ?_
            refine ⟨?_, by rw [he], rfl⟩
            unfold rdN
            rw [he]
            first | (rw [if_pos (Or.inl c_92)]; rfl) | (rw [if_pos (Or.inr (by omega))]; rfl) | (rw [if_neg (by omega)]; rfl)
          · skip
            refine r_aload_n X dX9_readNumber_95 rfl ?_
            refine r_get (ci := 8) X 2 _ ti_RX9 rfl (by decide) tw_35 (fun _ h => h) dX9_readNumber_96 (by first | assumption | (repeat rw [hu_ne _ _ (by omega)]); first | assumption | exact hu_eq _ _ _) rfl ?_
            refine r_iload_n X dX9_readNumber_99 rfl ?_
            first | refine r_isubN X dX9_readNumber_100 (by omega) ?_ | refine r_isub X _ dX9_readNumber_100 rfl ?_
            refine r_iconst (v := nI 2) X dX9_readNumber_101 (by decide) ?_
            refine r_icmp_leN X 109 dX9_readNumber_102 (by decide) (by omega) (by omega) (fun c_102 => ?_) (fun c_102 => ?_)
            · skip
              refine r_iload_n X dX9_readNumber_109 rfl ?_
              refine r_iret S dX9_readNumber_110 ?_
              refine ⟨?_, by rw [he], rfl⟩
              unfold rdN
              rw [he]
              first | (rw [if_pos (Or.inl c_92)]; rfl) | (rw [if_pos (Or.inr (by omega))]; rfl) | (rw [if_neg (by omega)]; rfl)
            · skip
              refine r_iconst (v := (-1)) X dX9_readNumber_105 (by decide) ?_
              refine r_goto X 110 dX9_readNumber_106 (by decide) ?_
              refine r_iret S dX9_readNumber_110 ?_
              refine ⟨?_, by rw [he], rfl⟩
              unfold rdN
              rw [he]
              first | (rw [if_pos (Or.inl c_92)]; rfl) | (rw [if_pos (Or.inr (by omega))]; rfl) | (rw [if_neg (by omega)]; rfl)
        · skip
          refine r_aload_n X dX9_readNumber_46 rfl ?_
          refine r_get (ci := 8) X 2 _ ti_RX9 rfl (by decide) tw_35 (fun _ h => h) dX9_readNumber_47 (by first | assumption | (repeat rw [hu_ne _ _ (by omega)]); first | assumption | exact hu_eq _ _ _) rfl ?_
          refine r_iload_n X dX9_readNumber_50 rfl ?_
          first | refine r_isubN X dX9_readNumber_51 (by omega) ?_ | refine r_isub X _ dX9_readNumber_51 rfl ?_
          refine r_iconst (v := nI 2) X dX9_readNumber_52 (by decide) ?_
          refine r_icmp_geN X 74 dX9_readNumber_53 (by decide) (by omega) (by omega) (fun c_53 => ?_) (fun c_53 => ?_)
          · skip
            refine r_aload_n X dX9_readNumber_74 rfl ?_
            refine r_dup X dX9_readNumber_75 rfl ?_
            refine r_get (ci := 8) X 2 _ ti_RX9 rfl (by decide) tw_35 (fun _ h => h) dX9_readNumber_76 (by first | assumption | (repeat rw [hu_ne _ _ (by omega)]); first | assumption | exact hu_eq _ _ _) rfl ?_
            refine r_iconst (v := nI 1) X dX9_readNumber_79 (by decide) ?_
            first | refine r_iaddN X dX9_readNumber_80 ?_ | refine r_iadd X _ dX9_readNumber_80 rfl ?_
            refine r_put (ci := 8) (ty := .int) X 2 ti_RX9 tyX9 tyX9_ok nmX9 rfl (by decide) tw_35 (fun _ h => h) rfl (by decide +kernel) dX9_readNumber_81 (by first | assumption | (repeat rw [hu_ne _ _ (by omega)]); first | assumption | exact hu_eq _ _ _) rfl rfl (Nat.le_of_ble_eq_true rfl) ?_
            try dsimp only [List.set]
            refine r_goto X 7 dX9_readNumber_84 (by decide) ?_
            refine r_heap hu_hu ?_
            have e9 : nuF L at_ (k + 1 - at_) = (if k - at_ < 2 then nuF L at_ (k - at_) * 10 + L k - 48 else nuF L at_ (k - at_)) := by
              by_cases h9 : k - at_ < 2
              · rw [if_pos h9, show k + 1 - at_ = (k - at_) + 1 by omega, nuF_s h9, show at_ + (k - at_) = k by omega]
              · rw [if_neg h9, nuF_2 (by omega), nuF_2 (by omega)]
            have ih9 := ih (by omega) ⟨hq.1.trans (sc_t (by omega) (decide_eq_true ⟨c_29, c_43⟩)), by omega⟩
            rw [e9] at ih9
            first | (rw [if_pos (by omega)] at ih9; exact ih9) | (rw [if_neg (by omega)] at ih9; exact ih9)
          · skip
            refine r_iload_n X dX9_readNumber_56 rfl ?_
            refine r_bipush (v := nI 10) X dX9_readNumber_57 (by decide) ?_
            first | refine r_imulN X dX9_readNumber_59 ?_ | refine r_imul X _ dX9_readNumber_59 rfl ?_
            refine r_aload_n X dX9_readNumber_60 rfl ?_
            refine r_get (ci := 8) X 0 _ ti_RX9 rfl (by decide) tw_33 (fun _ h => h) dX9_readNumber_61 (by first | assumption | (repeat rw [hu_ne _ _ (by omega)]); first | assumption | exact hu_eq _ _ _) rfl ?_
            refine r_aload_n X dX9_readNumber_64 rfl ?_
            refine r_get (ci := 8) X 2 _ ti_RX9 rfl (by decide) tw_35 (fun _ h => h) dX9_readNumber_65 (by first | assumption | (repeat rw [hu_ne _ _ (by omega)]); first | assumption | exact hu_eq _ _ _) rfl ?_
            refine r_nald X _ dX9_readNumber_68 (by first | assumption | (repeat rw [hu_ne _ _ (by omega)]); first | assumption | exact hu_eq _ _ _) (rfl) (by omega) (by decide) ?_
            first | refine r_iaddN X dX9_readNumber_69 ?_ | refine r_iadd X _ dX9_readNumber_69 rfl ?_
            refine r_bipush (v := nI 48) X dX9_readNumber_70 (by decide) ?_
            first | refine r_isubN X dX9_readNumber_72 (by omega) ?_ | refine r_isub X _ dX9_readNumber_72 rfl ?_
            refine r_istore_n X dX9_readNumber_73 (Nat.le_of_ble_eq_true rfl) ?_
            try dsimp only [List.set]
            refine r_aload_n X dX9_readNumber_74 rfl ?_
            refine r_dup X dX9_readNumber_75 rfl ?_
            refine r_get (ci := 8) X 2 _ ti_RX9 rfl (by decide) tw_35 (fun _ h => h) dX9_readNumber_76 (by first | assumption | (repeat rw [hu_ne _ _ (by omega)]); first | assumption | exact hu_eq _ _ _) rfl ?_
            refine r_iconst (v := nI 1) X dX9_readNumber_79 (by decide) ?_
            first | refine r_iaddN X dX9_readNumber_80 ?_ | refine r_iadd X _ dX9_readNumber_80 rfl ?_
            refine r_put (ci := 8) (ty := .int) X 2 ti_RX9 tyX9 tyX9_ok nmX9 rfl (by decide) tw_35 (fun _ h => h) rfl (by decide +kernel) dX9_readNumber_81 (by first | assumption | (repeat rw [hu_ne _ _ (by omega)]); first | assumption | exact hu_eq _ _ _) rfl rfl (Nat.le_of_ble_eq_true rfl) ?_
            try dsimp only [List.set]
            refine r_goto X 7 dX9_readNumber_84 (by decide) ?_
            refine r_heap hu_hu ?_
            have e9 : nuF L at_ (k + 1 - at_) = (if k - at_ < 2 then nuF L at_ (k - at_) * 10 + L k - 48 else nuF L at_ (k - at_)) := by
              by_cases h9 : k - at_ < 2
              · rw [if_pos h9, show k + 1 - at_ = (k - at_) + 1 by omega, nuF_s h9, show at_ + (k - at_) = k by omega]
              · rw [if_neg h9, nuF_2 (by omega), nuF_2 (by omega)]
            have ih9 := ih (by omega) ⟨hq.1.trans (sc_t (by omega) (decide_eq_true ⟨c_29, c_43⟩)), by omega⟩
            rw [e9] at ih9
            first | (rw [if_pos (by omega)] at ih9; exact ih9) | (rw [if_neg (by omega)] at ih9; exact ih9)
  refine r_heap (hu_self ht0).symm ?_
  have h9 := hloop at_ hat ⟨rfl, Nat.le_refl _⟩
  rw [Nat.sub_self] at h9
  exact h9

