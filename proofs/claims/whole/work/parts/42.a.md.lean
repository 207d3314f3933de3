/-- the model under way: its object o -/
def mi (E : xE) (M : Nat) (o : va_E) (k : Nat) : va_E := if k = 0 then o else mdCell E M (fun _ => 0) (fun _ _ => 0) k
theorem mi_put {E : xE} {g : hG} {M len : Nat} {o o' : va_E} (h : 0 < len) : hu (blk g M len (mi E M o)) M o' = blk g M len (mi E M o') := by
  refine (blk_hu (o := 0) h).trans (blk_congr (fun k hk => ?_))
  by_cases e : k = 0
  · subst e; rfl
  · rw [vu_ne e]; unfold mi; rw [if_neg e, if_neg e]
def T0 : hsT := (8, 0, fun _ => 2, fun _ => 0, fun _ => 0, fun _ => 0)
theorem T0_fl : va_up (fun _ => 0) 0 8 = tfl T0 := by
  funext j
  simp only [va_up, tfl, T0]
  (repeat' split) <;> rfl
def fr1 (x : Int32) : Nat := ix x
theorem ix_m1 {a : Nat} (h : a < 2 ^ 31) : ix (nI a - nI 1) = a - 1 := by
  by_cases e : a = 0
  · subst e; rfl
  · rw [pk_sub (show 1 ≤ a by omega)]; exact ix_nI (by omega)
theorem ix_le0 {x : Int32} (h : x ≤ 0) : ix x = 0 := by
  have h1 := Int32.le_iff_toInt_le.mp h
  have h2 : (0 : Int32).toInt = 0 := rfl
  show x.toNatClampNeg = 0
  have h3 : x.toNatClampNeg = x.toInt.toNat := rfl
  omega
theorem ix_gt0 {x : Int32} (h : ¬ x ≤ 0) : 0 < ix x ∧ x = nI (ix x) := by
  have h1 := Int32.lt_iff_toInt_lt.mp (Int32.not_le.mp h)
  have h2 : (0 : Int32).toInt = 0 := rfl
  have h4 : inR x (2 ^ 31 - 1 + 1) = true ∨ True := Or.inr trivial
  have h5 : x.toInt < 2 ^ 31 := Int32.toInt_lt x
  have h3 : ix x = x.toInt.toNat := rfl
  refine ⟨by omega, Int32.toInt_inj.mp ?_⟩
  rw [nI_toInt (by omega)]
  omega

set_option maxHeartbeats 4000000 in
set_option maxRecDepth 100000 in
/-- BanisterWordModel.<init>  -/
theorem c_X11_init (l : Launch) (E : xE) (g : hG) (n : Nat) (M : Nat) (hn : n = M + 1) (ha : g M = some (oc 10 [.null, .int 0, .null, .null, .null, .null, .int 0, .null, .null, .null, .int 0, .int 0, .int 0, .int 0, .int 0, .null])) : Ct l yX11_init cX11_init 1 none 1 48 9 952 E [.ref M] (g) n (zr (none) (mG E g M (fun _ => 0) (va_up (va_up (va_up (fun _ _ => 0) 2 (tfl T0)) 4 (flat mo0)) 7 (fun _ => 0))) (M + 10)) := by
  refine Ct.of (by decide +kernel) (Nat.le_of_ble_eq_true rfl) (fun v hv => by simp only [List.mem_cons, List.not_mem_nil, or_false] at hv; (try rcases hv with rfl) <;> first | rfl | (subst hv; rfl) | exact hv.elim) ?_
  intro K hKl S
  subst hKl
  have X := S.1
  subst hn
  refine r_heap (show g = blk g M 1 (mi E M (oc 10 [.null, .int 0, .null, .null, .null, .null, .int 0, .null, .null, .null, .int 0, .int 0, .int 0, .int 0, .int 0, .null])) from (blk_self (fun k hk => by obtain rfl : k = 0 := (by omega); exact ha)).symm) ?_
  refine r_aload_n X dX11_init_0 rfl ?_
  refine r_objInit X rfl tw_653 tw_25 tw_26 (Nat.le_of_ble_eq_true rfl) (Nat.le_of_ble_eq_true rfl) dX11_init_1 ?_
  refine r_aload_n X dX11_init_4 rfl ?_
  refine r_sipush (v := nI 160) X dX11_init_5 (by decide) ?_
  refine r_newi X tw_57 160 rfl (by decide) (Nat.le_of_ble_eq_true rfl) (Nat.le_of_ble_eq_true rfl) dX11_init_8 ?_
  refine r_heap (hu_blk.trans (blk_grow (len := 1) (fun k hk => by obtain rfl : k = 0 := (by omega); rfl))) ?_
  refine r_cs (n2 := M + 2) rfl rfl (by omega) ?_
  refine r_putF (ci := 10) (ty := .array .int) X 0 ti_RX11 tyX11 tyX11_ok nmX11 rfl (by decide) tw_658 (fun _ h => h) rfl S.2.2.2.2 rfl (by decide +kernel) dX11_init_10 (blk_0 (by decide)) rfl rfl (Nat.le_of_ble_eq_true rfl) ?_
  try dsimp only [List.set]
  refine r_heap (mi_put (by decide)) ?_
  refine r_aload_n X dX11_init_13 rfl ?_
  refine r_bipush (v := nI 62) X dX11_init_14 (by decide) ?_
  refine r_newi X tw_57 62 rfl (by decide) (Nat.le_of_ble_eq_true rfl) (Nat.le_of_ble_eq_true rfl) dX11_init_16 ?_
  refine r_heap (hu_blk.trans (blk_grow (len := 2) (fun k hk => by obtain rfl : k = 0 := (by omega); rfl))) ?_
  refine r_cs (n2 := M + 3) rfl rfl (by omega) ?_
  refine r_putF (ci := 10) (ty := .array .int) X 2 ti_RX11 tyX11 tyX11_ok nmX11 rfl (by decide) tw_660 (fun _ h => h) rfl S.2.2.2.2 rfl (by decide +kernel) dX11_init_18 (blk_0 (by decide)) rfl rfl (Nat.le_of_ble_eq_true rfl) ?_
  try dsimp only [List.set]
  refine r_heap (mi_put (by decide)) ?_
  refine r_aload_n X dX11_init_21 rfl ?_
  refine r_bipush (v := nI 62) X dX11_init_22 (by decide) ?_
  refine r_newi X tw_57 62 rfl (by decide) (Nat.le_of_ble_eq_true rfl) (Nat.le_of_ble_eq_true rfl) dX11_init_24 ?_
  refine r_heap (hu_blk.trans (blk_grow (len := 3) (fun k hk => by obtain rfl : k = 0 := (by omega); rfl))) ?_
  refine r_cs (n2 := M + 4) rfl rfl (by omega) ?_
  refine r_putF (ci := 10) (ty := .array .int) X 3 ti_RX11 tyX11 tyX11_ok nmX11 rfl (by decide) tw_661 (fun _ h => h) rfl S.2.2.2.2 rfl (by decide +kernel) dX11_init_26 (blk_0 (by decide)) rfl rfl (Nat.le_of_ble_eq_true rfl) ?_
  try dsimp only [List.set]
  refine r_heap (mi_put (by decide)) ?_
  refine r_aload_n X dX11_init_29 rfl ?_
  refine r_bipush (v := nI 55) X dX11_init_30 (by decide) ?_
  refine r_newi X tw_57 55 rfl (by decide) (Nat.le_of_ble_eq_true rfl) (Nat.le_of_ble_eq_true rfl) dX11_init_32 ?_
  refine r_heap (hu_blk.trans (blk_grow (len := 4) (fun k hk => by obtain rfl : k = 0 := (by omega); rfl))) ?_
  refine r_cs (n2 := M + 5) rfl rfl (by omega) ?_
  refine r_putF (ci := 10) (ty := .array .int) X 4 ti_RX11 tyX11 tyX11_ok nmX11 rfl (by decide) tw_662 (fun _ h => h) rfl S.2.2.2.2 rfl (by decide +kernel) dX11_init_34 (blk_0 (by decide)) rfl rfl (Nat.le_of_ble_eq_true rfl) ?_
  try dsimp only [List.set]
  refine r_heap (mi_put (by decide)) ?_
  refine r_aload_n X dX11_init_37 rfl ?_
  refine r_sipush (v := nI 440) X dX11_init_38 (by decide) ?_
  refine r_newi X tw_57 440 rfl (by decide) (Nat.le_of_ble_eq_true rfl) (Nat.le_of_ble_eq_true rfl) dX11_init_41 ?_
  refine r_heap (hu_blk.trans (blk_grow (len := 5) (fun k hk => by obtain rfl : k = 0 := (by omega); rfl))) ?_
  refine r_cs (n2 := M + 6) rfl rfl (by omega) ?_
  refine r_putF (ci := 10) (ty := .array .int) X 5 ti_RX11 tyX11 tyX11_ok nmX11 rfl (by decide) tw_663 (fun _ h => h) rfl S.2.2.2.2 rfl (by decide +kernel) dX11_init_43 (blk_0 (by decide)) rfl rfl (Nat.le_of_ble_eq_true rfl) ?_
  try dsimp only [List.set]
  refine r_heap (mi_put (by decide)) ?_
  refine r_aload_n X dX11_init_46 rfl ?_
  refine r_bipush (v := nI 110) X dX11_init_47 (by decide) ?_
  refine r_newi X tw_57 110 rfl (by decide) (Nat.le_of_ble_eq_true rfl) (Nat.le_of_ble_eq_true rfl) dX11_init_49 ?_
  refine r_heap (hu_blk.trans (blk_grow (len := 6) (fun k hk => by obtain rfl : k = 0 := (by omega); rfl))) ?_
  refine r_cs (n2 := M + 7) rfl rfl (by omega) ?_
  refine r_putF (ci := 10) (ty := .array .int) X 7 ti_RX11 tyX11 tyX11_ok nmX11 rfl (by decide) tw_665 (fun _ h => h) rfl S.2.2.2.2 rfl (by decide +kernel) dX11_init_51 (blk_0 (by decide)) rfl rfl (Nat.le_of_ble_eq_true rfl) ?_
  try dsimp only [List.set]
  refine r_heap (mi_put (by decide)) ?_
  refine r_aload_n X dX11_init_54 rfl ?_
  refine r_iconst (v := nI 2) X dX11_init_55 (by decide) ?_
  refine r_newz X tw_138 2 rfl (by decide) (Nat.le_of_ble_eq_true rfl) (Nat.le_of_ble_eq_true rfl) dX11_init_56 ?_
  refine r_heap (hu_blk.trans (blk_grow (len := 7) (fun k hk => by obtain rfl : k = 0 := (by omega); rfl))) ?_
  refine r_cs (n2 := M + 8) rfl rfl (by omega) ?_
  refine r_putF (ci := 10) (ty := .array .boolean) X 8 ti_RX11 tyX11 tyX11_ok nmX11 rfl (by decide) tw_666 (fun _ h => h) rfl S.2.2.2.2 rfl (by decide +kernel) dX11_init_58 (blk_0 (by decide)) rfl rfl (Nat.le_of_ble_eq_true rfl) ?_
  try dsimp only [List.set]
  refine r_heap (mi_put (by decide)) ?_
  refine r_aload_n X dX11_init_61 rfl ?_
  refine r_bipush (v := nI 6) X dX11_init_62 (by decide) ?_
  refine r_newi X tw_57 6 rfl (by decide) (Nat.le_of_ble_eq_true rfl) (Nat.le_of_ble_eq_true rfl) dX11_init_64 ?_
  refine r_heap (hu_blk.trans (blk_grow (len := 8) (fun k hk => by obtain rfl : k = 0 := (by omega); rfl))) ?_
  refine r_cs (n2 := M + 9) rfl rfl (by omega) ?_
  refine r_putF (ci := 10) (ty := .array .int) X 9 ti_RX11 tyX11 tyX11_ok nmX11 rfl (by decide) tw_667 (fun _ h => h) rfl S.2.2.2.2 rfl (by decide +kernel) dX11_init_66 (blk_0 (by decide)) rfl rfl (Nat.le_of_ble_eq_true rfl) ?_
  try dsimp only [List.set]
  refine r_heap (mi_put (by decide)) ?_
  refine r_aload_n X dX11_init_69 rfl ?_
  refine r_bipush (v := nI 55) X dX11_init_70 (by decide) ?_
  refine r_newi X tw_57 55 rfl (by decide) (Nat.le_of_ble_eq_true rfl) (Nat.le_of_ble_eq_true rfl) dX11_init_72 ?_
  refine r_heap (hu_blk.trans (blk_grow (len := 9) (fun k hk => by obtain rfl : k = 0 := (by omega); rfl))) ?_
  refine r_cs (n2 := M + 10) rfl rfl (by omega) ?_
  refine r_putF (ci := 10) (ty := .array .int) X 15 ti_RX11 tyX11 tyX11_ok nmX11 rfl (by decide) tw_673 (fun _ h => h) rfl S.2.2.2.2 rfl (by decide +kernel) dX11_init_74 (blk_0 (by decide)) rfl rfl (Nat.le_of_ble_eq_true rfl) ?_
  try dsimp only [List.set]
  refine r_heap (mi_put (by decide)) ?_
  refine r_heap (show blk g M 10 (mi E M (oc 10 [.ref (M + 1), .int 0, .ref (M + 2), .ref (M + 3), .ref (M + 4), .ref (M + 5), .int 0, .ref (M + 6), .ref (M + 7), .ref (M + 8), .int 0, .int 0, .int 0, .int 0, .int 0, .ref (M + 9)])) = mG E g M (fun _ => 0) (fun _ _ => 0) from blk_congr (fun k hk => by by_cases e : k = 0; (subst e; rfl); (unfold mi; rw [if_neg e]))) ?_
  refine r_aload_n X dX11_init_77 rfl ?_
  refine r_get (ci := 10) X 2 _ ti_RX11 rfl (by decide) tw_660 (fun _ h => h) dX11_init_78 (by first | exact (blk_0 (by decide)) | exact m0 | exact m1 | exact m2 | exact m3 | exact m4 | exact m5 | exact m6 | exact m7 | exact m8 | exact m9 | assumption) rfl ?_
  refine r_iconst (v := nI 0) X dX11_init_81 (by decide) ?_
  refine r_bipush (v := nI 8) X dX11_init_82 (by decide) ?_
  refine r_nast X _ dX11_init_84 (show _ = some (nc E 62 (fun _ => 0)) from m2) (rfl) (by omega) (by decide) ?_
  refine r_heap um2 ?_
  refine r_aload_n X dX11_init_85 rfl ?_
  refine r_callV (ci := 10) X rfl (c_X11_lays _ E _ _ M _ _ T0 T0_fl) tw_654 tw_656 tp_17 tw_7 tw_657 rfl rfl (by first | exact (blk_0 (by decide)) | exact m0 | exact m1 | exact m2 | exact m3 | exact m4 | exact m5 | exact m6 | exact m7 | exact m8 | exact m9 | assumption) rfl ⟨ok_X11_lays, ⟨Nat.le_of_ble_eq_true rfl, Nat.le_of_ble_eq_true rfl⟩, ⟨Nat.le_of_ble_eq_true rfl, Nat.le_of_ble_eq_true rfl⟩, Nat.le_of_ble_eq_true rfl⟩ dX11_init_86 (kk_v (Wf := Wg K E _ _ _ _) ?_)
  refine r_vret S dX11_init_89 ?_
  refine ⟨rfl, ?_, rfl⟩
  rw [← T0_fl]
  congr 1
  funext j; simp only [va_up]; (repeat' split) <;> rfl

set_option maxHeartbeats 4000000 in
set_option maxRecDepth 100000 in
/-- BanisterWordModel.person  -/
theorem c_X11_person (l : Launch) (E : xE) (g : hG) (n : Nat) (M : Nat) (u : Nat → Nat) (B : Nat → Nat → Nat) (T : hsT) (N : Mo) (x y : Int32) (hT : B 2 = tfl T) (hS : B 4 = flat N) (h0 : T.1 ≤ 12) (h1 : T.2.1 ≤ 6) : Ct l yX11_person cX11_person 3 (some .int) 2 43 0 0 E [.ref M, .int x, .int y] (mG E g M u B) n (zr (some (.int (personR T.2.1 (fun i => kindN (T.2.2.1 i)) T.2.2.2.1 N.2.2.1 x y))) (mG E g M u B) (n)) := by
  refine Ct.of (by decide +kernel) (Nat.le_of_ble_eq_true rfl) (fun v hv => by simp only [List.mem_cons, List.not_mem_nil, or_false] at hv; (try rcases hv with rfl | rfl | rfl) <;> first | rfl | (subst hv; rfl) | exact hv.elim) ?_
  intro K hKl S
  subst hKl
  have X := S.1
  refine r_aload_n X dX11_person_0 rfl ?_
  refine r_iload_n X dX11_person_1 rfl ?_
  refine r_callV (ci := 10) X rfl (c_X11_isPerson _ E g n M u B x (by rw [(show B 2 1 = T.2.1 by rw [hT]; rfl)]; omega)) tw_776 tw_778 tp_28 tw_7 tw_779 rfl rfl (by first | exact m0 | exact m1 | exact m2 | exact m3 | exact m4 | exact m5 | exact m6 | exact m7 | exact m8 | exact m9 | assumption) rfl ⟨ok_X11_isPerson, ⟨Nat.le_of_ble_eq_true rfl, Nat.le_of_ble_eq_true rfl⟩, ⟨Nat.le_of_ble_eq_true rfl, Nat.le_of_ble_eq_true rfl⟩, Nat.le_of_ble_eq_true rfl⟩ dX11_person_2 (kk_r (Wf := Wg K E _ _ _ _) ?_)
  refine r_top _ _ (congrArg (fun q => bI (inR x q)) (show B 2 1 = T.2.1 by rw [hT]; rfl)) ?_
  refine r_if_neB X 11 dX11_person_5 (by decide) (fun c_5 => ?_) (fun c_5 => ?_)
  · skip
    obtain ⟨i, hi, rfl⟩ := inR_ex (by omega) c_5
    have hix : ix (nI i) = i := ix_nI (by omega)
    refine r_iload_n X dX11_person_11 rfl ?_
    cases hsw_12 : inR y 3
    · skip
      refine r_tableOut X 69 dX11_person_12 (sw_out hsw_12) (by decide) ?_
      refine r_bipush (v := (-3)) X dX11_person_69 (by decide) ?_
      refine r_iret S dX11_person_71 ?_
      exact ⟨by simp [personR, c_5, hsw_12], rfl, rfl⟩
    · skip
      obtain ⟨j_12, hj_12, rfl⟩ := inR_ex (by decide) hsw_12
      rcases (show j_12 = 0 ∨ j_12 = 1 ∨ j_12 = 2 by omega) with rfl | rfl | rfl
      · skip
        refine r_tableIn (off := 28) X 40 dX11_person_12 (by decide) (by decide) rfl (by decide) ?_
        refine r_aload_n X dX11_person_40 rfl ?_
        refine r_get (ci := 10) X 2 _ ti_RX11 rfl (by decide) tw_660 (fun _ h => h) dX11_person_41 (by first | exact m0 | exact m1 | exact m2 | exact m3 | exact m4 | exact m5 | exact m6 | exact m7 | exact m8 | exact m9 | assumption) rfl ?_
        refine r_iconst (v := nI 2) X dX11_person_44 (by decide) ?_
        refine r_iload_n X dX11_person_45 rfl ?_
        first | refine r_iaddN X dX11_person_46 ?_ | refine r_iadd X _ dX11_person_46 rfl ?_
        refine r_nald X _ dX11_person_47 (by first | exact m0 | exact m1 | exact m2 | exact m3 | exact m4 | exact m5 | exact m6 | exact m7 | exact m8 | exact m9 | assumption) (rfl) (by omega) (by decide) ?_
        refine r_top _ _ (congrArg nI (show B 2 (2 + i) = kindN (T.2.2.1 i) by rw [hT]; exact tfl_k (by omega))) ?_
        refine r_iret S dX11_person_48 ?_
        exact ⟨by simp [personR, c_5, hix, hsw_12, ix_0], rfl, rfl⟩
      · skip
        refine r_tableIn (off := 37) X 49 dX11_person_12 (by decide) (by decide) rfl (by decide) ?_
        refine r_aload_n X dX11_person_49 rfl ?_
        refine r_get (ci := 10) X 2 _ ti_RX11 rfl (by decide) tw_660 (fun _ h => h) dX11_person_50 (by first | exact m0 | exact m1 | exact m2 | exact m3 | exact m4 | exact m5 | exact m6 | exact m7 | exact m8 | exact m9 | assumption) rfl ?_
        refine r_bipush (v := nI 8) X dX11_person_53 (by decide) ?_
        refine r_iload_n X dX11_person_55 rfl ?_
        first | refine r_iaddN X dX11_person_56 ?_ | refine r_iadd X _ dX11_person_56 rfl ?_
        refine r_nald X _ dX11_person_57 (by first | exact m0 | exact m1 | exact m2 | exact m3 | exact m4 | exact m5 | exact m6 | exact m7 | exact m8 | exact m9 | assumption) (rfl) (by omega) (by decide) ?_
        refine r_top _ _ (congrArg nI (show B 2 (8 + i) = T.2.2.2.1 i by rw [hT]; exact tfl_w (by omega))) ?_
        refine r_iret S dX11_person_58 ?_
        exact ⟨by simp [personR, c_5, hix, hsw_12, ix_1], rfl, rfl⟩
      · skip
        refine r_tableIn (off := 47) X 59 dX11_person_12 (by decide) (by decide) rfl (by decide) ?_
        refine r_aload_n X dX11_person_59 rfl ?_
        refine r_get (ci := 10) X 4 _ ti_RX11 rfl (by decide) tw_662 (fun _ h => h) dX11_person_60 (by first | exact m0 | exact m1 | exact m2 | exact m3 | exact m4 | exact m5 | exact m6 | exact m7 | exact m8 | exact m9 | assumption) rfl ?_
        refine r_bipush (v := nI 48) X dX11_person_63 (by decide) ?_
        refine r_iload_n X dX11_person_65 rfl ?_
        first | refine r_iaddN X dX11_person_66 ?_ | refine r_iadd X _ dX11_person_66 rfl ?_
        refine r_nald X _ dX11_person_67 (by first | exact m0 | exact m1 | exact m2 | exact m3 | exact m4 | exact m5 | exact m6 | exact m7 | exact m8 | exact m9 | assumption) (rfl) (by omega) (by decide) ?_
        refine r_top _ _ (congrArg nI (show B 4 (48 + i) = N.2.2.1 i by rw [hS]; exact flat_k (by omega))) ?_
        refine r_iret S dX11_person_68 ?_
        exact ⟨by simp [personR, c_5, hix, hsw_12, ix_2], rfl, rfl⟩
  · skip
    refine r_bipush (v := (-2)) X dX11_person_8 (by decide) ?_
    refine r_iret S dX11_person_10 ?_
    exact ⟨by simp [personR, c_5], rfl, rfl⟩

set_option maxHeartbeats 4000000 in
set_option maxRecDepth 100000 in
/-- BanisterWordModel.rail  -/
theorem c_X11_rail (l : Launch) (E : xE) (g : hG) (n : Nat) (M : Nat) (u : Nat → Nat) (B : Nat → Nat → Nat) (T : hsT) (N : Mo) (x y z : Int32) (hT : B 2 = tfl T) (hS : B 4 = flat N) (h0 : T.1 ≤ 12) (h1 : T.2.1 ≤ 6) (hN : ∀ j, N.1 j ≤ 7) (hN9 : ∀ j, N.2.1 j ≤ 99) : Ct l yX11_rail cX11_rail 5 (some .int) 2 43 0 0 E [.ref M, .int x, .int y, .int z] (mG E g M u B) n (zr (some (.int (railR T.1 N.1 N.2.1 x y z))) (mG E g M u B) (n)) := by
  refine Ct.of (by decide +kernel) (Nat.le_of_ble_eq_true rfl) (fun v hv => by simp only [List.mem_cons, List.not_mem_nil, or_false] at hv; (try rcases hv with rfl | rfl | rfl | rfl) <;> first | rfl | (subst hv; rfl) | exact hv.elim) ?_
  intro K hKl S
  subst hKl
  have X := S.1
  refine r_aload_n X dX11_rail_0 rfl ?_
  refine r_iload_n X dX11_rail_1 rfl ?_
  refine r_callV (ci := 10) X rfl (c_X11_isStep _ E g n M u B x (by rw [(show B 2 0 = T.1 by rw [hT]; rfl)]; omega)) tw_784 tw_786 tp_29 tw_7 tw_787 rfl rfl (by first | exact m0 | exact m1 | exact m2 | exact m3 | exact m4 | exact m5 | exact m6 | exact m7 | exact m8 | exact m9 | assumption) rfl ⟨ok_X11_isStep, ⟨Nat.le_of_ble_eq_true rfl, Nat.le_of_ble_eq_true rfl⟩, ⟨Nat.le_of_ble_eq_true rfl, Nat.le_of_ble_eq_true rfl⟩, Nat.le_of_ble_eq_true rfl⟩ dX11_rail_2 (kk_r (Wf := Wg K E _ _ _ _) ?_)
  refine r_top _ _ (congrArg (fun q => bI (inR x q)) (show B 2 0 = T.1 by rw [hT]; rfl)) ?_
  refine r_if_eqB X 17 dX11_rail_5 (by decide) (fun c_5 => ?_) (fun c_5 => ?_)
  · skip
    refine r_bipush (v := (-2)) X dX11_rail_17 (by decide) ?_
    refine r_iret S dX11_rail_19 ?_
    exact ⟨by unfold railR; rw [if_neg (by simp [*])], rfl, rfl⟩
  · skip
    refine r_iload_n X dX11_rail_8 rfl ?_
    refine r_iconst (v := nI 0) X dX11_rail_9 (by decide) ?_
    refine r_iconst (v := nI 1) X dX11_rail_10 (by decide) ?_
    refine r_callS X rfl (c_X11_in _ E _ n _ _ _) tw_711 tw_712 tw_7 tw_713 rfl ⟨ok_X11_in, ⟨Nat.le_of_ble_eq_true rfl, Nat.le_of_ble_eq_true rfl⟩, ⟨Nat.le_of_ble_eq_true rfl, Nat.le_of_ble_eq_true rfl⟩, Nat.le_of_ble_eq_true rfl⟩ dX11_rail_11 (kk_r (Wf := Wg K E _ _ _ _) ?_)
    refine r_top _ _ (congrArg bI (inQ_c 1 (by decide))) ?_
    refine r_if_neB X 20 dX11_rail_14 (by decide) (fun c_14 => ?_) (fun c_14 => ?_)
    · skip
      obtain ⟨s, hs, rfl⟩ := inR_ex (by omega) c_5
      have hsx : ix (nI s) = s := ix_nI (by omega)
      obtain ⟨t, ht, rfl⟩ := inR_ex (by omega) c_14
      have htx : ix (nI t) = t := ix_nI (by omega)
      have h7s := hN (2 * s + t)
      have hst : s * 2 + t = 2 * s + t := by omega
      refine r_iconst (v := nI 2) X dX11_rail_20 (by decide) ?_
      refine r_iload_n X dX11_rail_21 rfl ?_
      first | refine r_imulN X dX11_rail_22 ?_ | refine r_imul X _ dX11_rail_22 rfl ?_
      refine r_iload_n X dX11_rail_23 rfl ?_
      first | refine r_iaddN X dX11_rail_24 ?_ | refine r_iadd X _ dX11_rail_24 rfl ?_
      refine r_istore X dX11_rail_25 (Nat.le_of_ble_eq_true rfl) ?_
      try dsimp only [List.set]
      refine r_iload_n X dX11_rail_27 rfl ?_
      refine r_if_ne X 55 dX11_rail_28 (by decide) (fun c_28 => ?_) (fun c_28 => ?_)
      · skip
        refine r_iload_n X dX11_rail_55 rfl ?_
        refine r_iconst (v := nI 1) X dX11_rail_56 (by decide) ?_
        refine r_icmp_ne X 73 dX11_rail_57 (by decide) (fun c_57 => ?_) (fun c_57 => ?_)
        · skip
          refine r_bipush (v := (-3)) X dX11_rail_73 (by decide) ?_
          refine r_iret S dX11_rail_75 ?_
          refine ⟨?_, rfl, rfl⟩
          unfold railR
          rw [if_pos ⟨c_5, c_14⟩, hsx, htx, hst]
          first | (obtain rfl : z = nI 0 := c_28; rw [if_pos (by decide), if_pos ix_0]; unfold noneI; first | rw [if_pos c_38] | rw [if_neg (by omega)]) | (obtain rfl : z = nI 1 := c_57; rw [if_pos (by decide), if_neg (by decide)]) | (rw [if_neg]; rw [inR2_f c_28 c_57]; decide)
        · skip
          refine r_aload_n X dX11_rail_60 rfl ?_
          refine r_get (ci := 10) X 4 _ ti_RX11 rfl (by decide) tw_662 (fun _ h => h) dX11_rail_61 (by first | exact m0 | exact m1 | exact m2 | exact m3 | exact m4 | exact m5 | exact m6 | exact m7 | exact m8 | exact m9 | assumption) rfl ?_
          refine r_bipush (v := nI 24) X dX11_rail_64 (by decide) ?_
          refine r_iload X dX11_rail_66 rfl ?_
          first | refine r_iaddN X dX11_rail_68 ?_ | refine r_iadd X _ dX11_rail_68 rfl ?_
          refine r_nald X _ dX11_rail_69 (by first | exact m0 | exact m1 | exact m2 | exact m3 | exact m4 | exact m5 | exact m6 | exact m7 | exact m8 | exact m9 | assumption) (rfl) (by omega) (by decide) ?_
          refine r_top _ _ (congrArg nI (show B 4 (24 + (2 * s + t)) = N.2.1 (2 * s + t) by rw [hS]; exact flat_h (by omega))) ?_
          refine r_goto X 75 dX11_rail_70 (by decide) ?_
          refine r_iret S dX11_rail_75 ?_
          refine ⟨?_, rfl, rfl⟩
          unfold railR
          rw [if_pos ⟨c_5, c_14⟩, hsx, htx, hst]
          first | (obtain rfl : z = nI 0 := c_28; rw [if_pos (by decide), if_pos ix_0]; unfold noneI; first | rw [if_pos c_38] | rw [if_neg (by omega)]) | (obtain rfl : z = nI 1 := c_57; rw [if_pos (by decide), if_neg (by decide)]) | (rw [if_neg]; rw [inR2_f c_28 c_57]; decide)
      · skip
        refine r_aload_n X dX11_rail_31 rfl ?_
        refine r_get (ci := 10) X 4 _ ti_RX11 rfl (by decide) tw_662 (fun _ h => h) dX11_rail_32 (by first | exact m0 | exact m1 | exact m2 | exact m3 | exact m4 | exact m5 | exact m6 | exact m7 | exact m8 | exact m9 | assumption) rfl ?_
        refine r_iload X dX11_rail_35 rfl ?_
        refine r_nald X _ dX11_rail_37 (by first | exact m0 | exact m1 | exact m2 | exact m3 | exact m4 | exact m5 | exact m6 | exact m7 | exact m8 | exact m9 | assumption) (rfl) (by omega) (by decide) ?_
        refine r_top _ _ (congrArg nI (show B 4 (2 * s + t) = N.1 (2 * s + t) by rw [hS]; exact flat_f (by omega))) ?_
        refine r_if_neN X 45 dX11_rail_38 (by decide) (by omega) (fun c_38 => ?_) (fun c_38 => ?_)
        · skip
          refine r_aload_n X dX11_rail_45 rfl ?_
          refine r_get (ci := 10) X 4 _ ti_RX11 rfl (by decide) tw_662 (fun _ h => h) dX11_rail_46 (by first | exact m0 | exact m1 | exact m2 | exact m3 | exact m4 | exact m5 | exact m6 | exact m7 | exact m8 | exact m9 | assumption) rfl ?_
          refine r_iload X dX11_rail_49 rfl ?_
          refine r_nald X _ dX11_rail_51 (by first | exact m0 | exact m1 | exact m2 | exact m3 | exact m4 | exact m5 | exact m6 | exact m7 | exact m8 | exact m9 | assumption) (rfl) (by omega) (by decide) ?_
          refine r_top _ _ (congrArg nI (show B 4 (2 * s + t) = N.1 (2 * s + t) by rw [hS]; exact flat_f (by omega))) ?_
          refine r_goto X 75 dX11_rail_52 (by decide) ?_
          refine r_iret S dX11_rail_75 ?_
          refine ⟨?_, rfl, rfl⟩
          unfold railR
          rw [if_pos ⟨c_5, c_14⟩, hsx, htx, hst]
          first | (obtain rfl : z = nI 0 := c_28; rw [if_pos (by decide), if_pos ix_0]; unfold noneI; first | rw [if_pos c_38] | rw [if_neg (by omega)]) | (obtain rfl : z = nI 1 := c_57; rw [if_pos (by decide), if_neg (by decide)]) | (rw [if_neg]; rw [inR2_f c_28 c_57]; decide)
        · skip
          refine r_iconst (v := (-1)) X dX11_rail_41 (by decide) ?_
          refine r_goto X 75 dX11_rail_42 (by decide) ?_
          refine r_iret S dX11_rail_75 ?_
          refine ⟨?_, rfl, rfl⟩
          unfold railR
          rw [if_pos ⟨c_5, c_14⟩, hsx, htx, hst]
          first | (obtain rfl : z = nI 0 := c_28; rw [if_pos (by decide), if_pos ix_0]; unfold noneI; first | rw [if_pos c_38] | rw [if_neg (by omega)]) | (obtain rfl : z = nI 1 := c_57; rw [if_pos (by decide), if_neg (by decide)]) | (rw [if_neg]; rw [inR2_f c_28 c_57]; decide)
    · skip
      refine r_bipush (v := (-2)) X dX11_rail_17 (by decide) ?_
      refine r_iret S dX11_rail_19 ?_
      exact ⟨by unfold railR; rw [if_neg (by simp [*])], rfl, rfl⟩

