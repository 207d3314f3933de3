theorem r_ls {K : xC} {E : xE} {cells slots pc : Nat} {ls ls2 : List (Option Value)} {st : List Value} {g : hG} {n : Nat} (h : ls = ls2) (kk : Wg K E cells slots pc ls2 st g n) : Wg K E cells slots pc ls st g n := by subst h; exact kk
def mO1 (o : Option Nat) : Int32 := match o with
  | none => -1
  | some a => nI a
def lessO : Option Nat → Nat → Bool
  | none, _ => true
  | some f, a => decide (onF a 12 < onF f 12)
/-- the search: sets below a without p -/
def srF (ok : Nat → Bool) (p : Nat) : Nat → Option Nat
  | 0 => none
  | a + 1 => if a / 2 ^ p % 2 = 0 ∧ lessO (srF ok p a) a = true ∧ ok a = true then some a else srF ok p a
theorem srF_lt {ok : Nat → Bool} {p : Nat} : ∀ a f, srF ok p a = some f → f < a
  | 0, _, h => by cases h
  | a + 1, f, h => by
    have h9 : (if a / 2 ^ p % 2 = 0 ∧ lessO (srF ok p a) a = true ∧ ok a = true then some a else srF ok p a) = some f := h
    split at h9
    · cases h9; omega
    · have := srF_lt a f h9; omega
theorem srF_congr {ok ok2 : Nat → Bool} {p : Nat} : ∀ a, (∀ j, j < a → ok j = ok2 j) → srF ok p a = srF ok2 p a
  | 0, _ => rfl
  | a + 1, h => by
    show (if _ then _ else _) = (if _ then _ else _)
    rw [srF_congr a (fun j hj => h j (by omega)), h a (by omega)]
theorem onF_le (a : Nat) : ∀ k, onF a k ≤ k
  | 0 => Nat.le_refl _
  | k + 1 => by have := onF_le a k; have h2 := Nat.mod_lt (a / 2 ^ k) (show 0 < 2 by decide); show onF a k + a / 2 ^ k % 2 ≤ k + 1; omega
/-- after the first k of the people of a set went up -/
def runF (cl : Nat → Nat) (top a : Nat) (N : Mo) : Nat → Mo
  | 0 => N
  | k + 1 => if a / 2 ^ k % 2 = 1 then upN (runF cl top a N k) (cl k) k top else runF cl top a N k
theorem rub_bd {p : Nat → Bool} {f h : Nat → Nat} (h7 : ∀ j, f j ≤ 7) (h9 : ∀ j, h j ≤ 99) : (∀ j, rubF p f h j ≤ 7) ∧ ∀ j, rubH p h j ≤ 99 := ⟨fun j => by have := h7 j; unfold rubF; (repeat' split) <;> omega, fun j => by have := h9 j; unfold rubH; split <;> omega⟩
theorem run_bd {cl : Nat → Nat} {top a : Nat} {N : Mo} (h7 : ∀ j, N.1 j ≤ 7) (h9 : ∀ j, N.2.1 j ≤ 99) : ∀ k, (∀ j, (runF cl top a N k).1 j ≤ 7) ∧ ∀ j, (runF cl top a N k).2.1 j ≤ 99
  | 0 => ⟨h7, h9⟩
  | k + 1 => by
    have ih := run_bd (cl := cl) (top := top) (a := a) h7 h9 k
    unfold runF
    split
    · exact rub_bd ih.1 ih.2
    · exact ih
def clrB (cl : Nat → Nat) (top pn p t : Nat) (N : Mo) (a : Nat) : Bool := decide (hearN (cl p) (runF cl top a N pn).1 (top + 1) / 2 ^ t % 2 = 0)

set_option maxHeartbeats 4000000 in
set_option maxRecDepth 100000 in
/-- BanisterWordModel.send  -/
theorem c_X11_send (l : Launch) (E : xE) (g : hG) (n : Nat) (M : Nat) (u : Nat → Nat) (B : Nat → Nat → Nat) (T : hsT) (N : Mo) (x y : Int32) (hT : B 2 = tfl T) (hS : B 4 = flat N) (h0 : T.1 ≤ 12) (h1 : T.2.1 ≤ 6) (hP : ∀ i, i < T.2.1 → T.2.2.1 i < 4 ∧ T.2.2.2.1 i ≤ 9) (hN : ∀ j, N.1 j ≤ 7) (hN9 : ∀ j, N.2.1 j ≤ 99) (h02 : 1 ≤ T.1) : Ct l yX11_send cX11_send 7 (some .int) 3 70 0 0 E [.ref M, .int x, .int y] (mG E g M u B) n (zr (some (.int (if inR x T.2.1 = true ∧ sayB y = true then mO1 (srF (clrB T.2.2.1 (T.1 - 1) T.2.1 (ix x) (ix y) N) (ix x) (2 ^ T.2.1)) else -2))) (if inR x T.2.1 = true ∧ sayB y = true then mG E g M u (va_up B 9 (B 4)) else mG E g M u B) (n)) := by
  refine Ct.of (by decide +kernel) (Nat.le_of_ble_eq_true rfl) (fun v hv => by simp only [List.mem_cons, List.not_mem_nil, or_false] at hv; (try rcases hv with rfl | rfl | rfl) <;> first | rfl | (subst hv; rfl) | exact hv.elim) ?_
  intro K hKl S
  subst hKl
  have X := S.1
  refine r_aload_n X dX11_send_0 rfl ?_
  refine r_iload_n X dX11_send_1 rfl ?_
  refine r_callV (ci := 10) X rfl (c_X11_isPerson _ E g n M u B x (by rw [(show B 2 1 = T.2.1 by rw [hT]; rfl)]; omega)) tw_776 tw_778 tp_28 tw_7 tw_779 rfl rfl (by first | exact m0 | exact m1 | exact m2 | exact m3 | exact m4 | exact m5 | exact m6 | exact m7 | exact m8 | exact m9 | assumption) rfl ⟨ok_X11_isPerson, ⟨Nat.le_of_ble_eq_true rfl, Nat.le_of_ble_eq_true rfl⟩, ⟨Nat.le_of_ble_eq_true rfl, Nat.le_of_ble_eq_true rfl⟩, Nat.le_of_ble_eq_true rfl⟩ dX11_send_2 (kk_r (Wf := Wg K E _ _ _ _) ?_)
  refine r_top _ _ (congrArg (fun q => bI (inR x q)) (show B 2 1 = T.2.1 by rw [hT]; rfl)) ?_
  refine r_if_eqB X 15 dX11_send_5 (by decide) (fun c_5 => ?_) (fun c_5 => ?_)
  · skip
    refine r_bipush (v := (-2)) X dX11_send_15 (by decide) ?_
    refine r_iret S dX11_send_17 ?_
    exact ⟨by rw [if_neg (by simp [*])], by rw [if_neg (by simp [*])], rfl⟩
  · skip
    refine r_iload_n X dX11_send_8 rfl ?_
    refine r_callS X rfl (c_X11_isSaying _ E _ n y) tw_800 tw_801 tw_7 tw_802 rfl ⟨ok_X11_isSaying, ⟨Nat.le_of_ble_eq_true rfl, Nat.le_of_ble_eq_true rfl⟩, ⟨Nat.le_of_ble_eq_true rfl, Nat.le_of_ble_eq_true rfl⟩, Nat.le_of_ble_eq_true rfl⟩ dX11_send_9 (kk_r (Wf := Wg K E _ _ _ _) ?_)
    refine r_if_neB X 18 dX11_send_12 (by decide) (fun c_12 => ?_) (fun c_12 => ?_)
    · skip
      obtain ⟨i, hi, rfl⟩ := inR_ex (by omega) c_5
      have hix : ix (nI i) = i := ix_nI (by omega)
      obtain ⟨t, ht0, ht, rfl⟩ := sayB_ex c_12
      have htx : ix (nI t) = t := ix_nI (by omega)
      have hp2 := p2_le (m := T.2.1) h1
      refine r_aload_n X dX11_send_18 rfl ?_
      refine r_callV (ci := 10) X rfl (c_X11_holds _ E g n M u B) tw_871 tw_873 tp_39 tw_7 tw_874 rfl rfl (by first | exact m0 | exact m1 | exact m2 | exact m3 | exact m4 | exact m5 | exact m6 | exact m7 | exact m8 | exact m9 | assumption) rfl ⟨ok_X11_holds, ⟨Nat.le_of_ble_eq_true rfl, Nat.le_of_ble_eq_true rfl⟩, ⟨Nat.le_of_ble_eq_true rfl, Nat.le_of_ble_eq_true rfl⟩, Nat.le_of_ble_eq_true rfl⟩ dX11_send_19 (kk_v (Wf := Wg K E _ _ _ _) ?_)
      refine r_iconst (v := (-1)) X dX11_send_22 (by decide) ?_
      refine r_top _ (mO1 (srF (clrB T.2.2.1 (T.1 - 1) T.2.1 i t N) i (0))) (rfl) ?_
      refine r_istore_n X dX11_send_23 (Nat.le_of_ble_eq_true rfl) ?_
      try dsimp only [List.set]
      refine r_aload_n X dX11_send_24 rfl ?_
      refine r_get (ci := 10) X 2 _ ti_RX11 rfl (by decide) tw_660 (fun _ h => h) dX11_send_25 (by first | exact m0 | exact m1 | exact m2 | exact m3 | exact m4 | exact m5 | exact m6 | exact m7 | exact m8 | exact m9 | assumption) rfl ?_
      refine r_iconst (v := nI 0) X dX11_send_28 (by decide) ?_
      refine r_nald X _ dX11_send_29 (by first | exact m0 | exact m1 | exact m2 | exact m3 | exact m4 | exact m5 | exact m6 | exact m7 | exact m8 | exact m9 | assumption) (rfl) (by omega) (by decide) ?_
      refine r_top _ _ (congrArg nI (show _ = T.1 from (show B 2 0 = T.1 by rw [hT]; rfl))) ?_
      refine r_iconst (v := nI 1) X dX11_send_30 (by decide) ?_
      first | refine r_isubN X dX11_send_31 (by omega) ?_ | refine r_isub X _ dX11_send_31 rfl ?_
      refine r_istore X dX11_send_32 (Nat.le_of_ble_eq_true rfl) ?_
      try dsimp only [List.set]
      refine r_iconst (v := nI 0) X dX11_send_34 (by decide) ?_
      refine r_istore X dX11_send_35 (Nat.le_of_ble_eq_true rfl) ?_
      try dsimp only [List.set]
      have hloop1 : ∀ (a : Nat), a ≤ 2 ^ T.2.1 → ∀ u_ : Option Value, Wg K E (0) (0) 37 [some (.ref M), some (.int (nI i)), some (.int (nI t)), some (.int (mO1 (srF (clrB T.2.2.1 (T.1 - 1) T.2.1 i t N) i (a)))), some (.int (nI (T.1 - 1))), some (.int (nI a)), u_] [] (mG E g M u (va_up B 9 (B 4))) (n) := by
        refine ind_up _ (2 ^ T.2.1) (fun a ha ih u_ => ?_)
        have ihO := ih
        refine r_iload X dX11_send_37 rfl ?_
        refine r_iconst (v := nI 1) X dX11_send_39 (by decide) ?_
        refine r_aload_n X dX11_send_40 rfl ?_
        refine r_get (ci := 10) X 2 _ ti_RX11 rfl (by decide) tw_660 (fun _ h => h) dX11_send_41 (by first | exact m0 | exact m1 | exact m2 | exact m3 | exact m4 | exact m5 | exact m6 | exact m7 | exact m8 | exact m9 | assumption) rfl ?_
        refine r_iconst (v := nI 1) X dX11_send_44 (by decide) ?_
        refine r_nald X _ dX11_send_45 (by first | exact m0 | exact m1 | exact m2 | exact m3 | exact m4 | exact m5 | exact m6 | exact m7 | exact m8 | exact m9 | assumption) (rfl) (by omega) (by decide) ?_
        refine r_top _ _ (congrArg nI (show _ = T.2.1 from (show B 2 1 = T.2.1 by rw [hT]; rfl))) ?_
        refine r_ishl1N X dX11_send_46 (by omega) ?_
        refine r_icmp_geN X 146 dX11_send_47 (by decide) (by omega) (by omega) (fun c_47 => ?_) (fun c_47 => ?_)
        · skip
          refine r_iload_n X dX11_send_146 rfl ?_
          refine r_iret S dX11_send_147 ?_
          refine ⟨?_, by rw [if_pos ⟨c_5, c_12⟩], rfl⟩
          rw [if_pos ⟨c_5, c_12⟩, hix, htx, show a = 2 ^ T.2.1 by omega]
        · skip
          have hm2 : a / 2 ^ i % 2 < 2 := Nat.mod_lt _ (by decide)
          have hon := onF_le a 12
          refine r_iload X dX11_send_50 rfl ?_
          refine r_iload_n X dX11_send_52 rfl ?_
          refine r_ishrN X dX11_send_53 (by omega) (by omega) ?_
          refine r_iconst (v := nI 1) X dX11_send_54 (by decide) ?_
          refine r_iand1N X dX11_send_55 (Nat.lt_of_le_of_lt (Nat.div_le_self _ _) (by omega)) ?_
          refine r_if_neN X 140 dX11_send_56 (by decide) (by omega) (fun c_56 => ?_) (fun c_56 => ?_)
          · skip
            have hst : mO1 (srF (clrB T.2.2.1 (T.1 - 1) T.2.1 i t N) i (a + 1)) = mO1 (srF (clrB T.2.2.1 (T.1 - 1) T.2.1 i t N) i (a)) := by show mO1 (if _ then _ else _) = _; rw [if_neg (fun h => absurd h.1 (by omega))]
            first | refine r_iincN X dX11_send_140 rfl ?_ | refine r_iinc X _ dX11_send_140 rfl rfl ?_
            try dsimp only [List.set]
            refine r_goto X 37 dX11_send_143 (by decide) ?_
            try rw [← hst]
            exact ihO (by omega) _
          · skip
            rcases hfd : srF (clrB T.2.2.1 (T.1 - 1) T.2.1 i t N) i (a) with _ | f
            · skip
              have hls : lessO none a = true := rfl
              refine r_iload_n X dX11_send_59 rfl ?_
              refine r_iconst (v := (-1)) X dX11_send_60 (by decide) ?_
              refine r_icmp_eq X 76 dX11_send_61 (by decide) (fun c_61 => ?_) (fun c_61 => ?_)
              rotate_left
              · exact absurd rfl c_61
              refine r_iconst (v := nI 0) X dX11_send_76 (by decide) ?_
              refine r_istore X dX11_send_77 (Nat.le_of_ble_eq_true rfl) ?_
              try dsimp only [List.set]
              have hloop2 : ∀ (k : Nat), k ≤ T.2.1 → Wg K E (0) (0) 79 [some (.ref M), some (.int (nI i)), some (.int (nI t)), some (.int (mO1 none)), some (.int (nI (T.1 - 1))), some (.int (nI a)), some (.int (nI k))] [] (mG E g M u (va_up (va_up B 9 (B 4)) 4 (flat (runF T.2.2.1 (T.1 - 1) a N k)))) (n) := by
                refine ind_up _ (T.2.1) (fun k hk ih => ?_)
                refine r_iload X dX11_send_79 rfl ?_
                refine r_aload_n X dX11_send_81 rfl ?_
                refine r_get (ci := 10) X 2 _ ti_RX11 rfl (by decide) tw_660 (fun _ h => h) dX11_send_82 (by first | exact m0 | exact m1 | exact m2 | exact m3 | exact m4 | exact m5 | exact m6 | exact m7 | exact m8 | exact m9 | assumption) rfl ?_
                refine r_iconst (v := nI 1) X dX11_send_85 (by decide) ?_
                refine r_nald X _ dX11_send_86 (by first | exact m0 | exact m1 | exact m2 | exact m3 | exact m4 | exact m5 | exact m6 | exact m7 | exact m8 | exact m9 | assumption) (rfl) (by omega) (by decide) ?_
                refine r_top _ _ (congrArg nI (show _ = T.2.1 from (show B 2 1 = T.2.1 by rw [hT]; rfl))) ?_
                refine r_icmp_geN X 115 dX11_send_87 (by decide) (by omega) (by omega) (fun c_87 => ?_) (fun c_87 => ?_)
                · skip
                  rw [show k = T.2.1 by omega]
                  have hlt := hearN_lt (c := T.2.2.1 i) (run_bd (cl := T.2.2.1) (top := T.1 - 1) (a := a) hN hN9 T.2.1).1 (T.1 - 1 + 1)
                  have hm3 : hearN (T.2.2.1 i) (runF T.2.2.1 (T.1 - 1) a N T.2.1).1 (T.1 - 1 + 1) / 2 ^ t % 2 < 2 := Nat.mod_lt _ (by decide)
                  refine r_aload_n X dX11_send_115 rfl ?_
                  refine r_iload_n X dX11_send_116 rfl ?_
                  refine r_iload X dX11_send_117 rfl ?_
                  refine r_callV (ci := 10) X rfl (c_X11_heard _ E g n M u (va_up (va_up B 9 (B 4)) 4 (flat (runF T.2.2.1 (T.1 - 1) a N T.2.1))) T (runF T.2.2.1 (T.1 - 1) a N T.2.1) i (T.1 - 1) (show (va_up (va_up B 9 (B 4)) 4 (flat (runF T.2.2.1 (T.1 - 1) a N T.2.1))) 2 = tfl T from hT) rfl h0 h1 hP (run_bd hN hN9 T.2.1).1 hi (by omega)) tw_827 tw_829 tp_36 tw_7 tw_830 rfl rfl (by first | exact m0 | exact m1 | exact m2 | exact m3 | exact m4 | exact m5 | exact m6 | exact m7 | exact m8 | exact m9 | assumption) rfl ⟨ok_X11_heard, ⟨Nat.le_of_ble_eq_true rfl, Nat.le_of_ble_eq_true rfl⟩, ⟨Nat.le_of_ble_eq_true rfl, Nat.le_of_ble_eq_true rfl⟩, Nat.le_of_ble_eq_true rfl⟩ dX11_send_119 (kk_r (Wf := Wg K E _ _ _ _) ?_)
                  refine r_iload_n X dX11_send_122 rfl ?_
                  refine r_ishrN X dX11_send_123 (by omega) (by omega) ?_
                  refine r_iconst (v := nI 1) X dX11_send_124 (by decide) ?_
                  refine r_iand1N X dX11_send_125 (Nat.lt_of_le_of_lt (Nat.div_le_self _ _) (by omega)) ?_
                  refine r_if_neN X 134 dX11_send_126 (by decide) (by omega) (fun c_126 => ?_) (fun c_126 => ?_)
                  · skip
                    refine r_iload_n X dX11_send_134 rfl ?_
                    refine r_top _ (mO1 (srF (clrB T.2.2.1 (T.1 - 1) T.2.1 i t N) i (a + 1))) (by show _ = mO1 (if a / 2 ^ i % 2 = 0 ∧ lessO (srF (clrB T.2.2.1 (T.1 - 1) T.2.1 i t N) i (a)) a = true ∧ (clrB T.2.2.1 (T.1 - 1) T.2.1 i t N) a = true then some a else srF (clrB T.2.2.1 (T.1 - 1) T.2.1 i t N) i (a)); rw [hfd]; first | (rw [if_pos ⟨by omega, hls, decide_eq_true c_126⟩]; rfl) | (rw [if_neg (fun h => absurd (of_decide_eq_true h.2.2) (by omega))])) ?_
                    refine r_istore_n X dX11_send_135 (Nat.le_of_ble_eq_true rfl) ?_
                    try dsimp only [List.set]
                    refine r_aload_n X dX11_send_136 rfl ?_
                    refine r_callV (ci := 10) X rfl (c_X11_lets _ E g n M u (va_up (va_up B 9 (B 4)) 4 (flat (runF T.2.2.1 (T.1 - 1) a N T.2.1)))) tw_878 tw_880 tp_40 tw_7 tw_881 rfl rfl (by first | exact m0 | exact m1 | exact m2 | exact m3 | exact m4 | exact m5 | exact m6 | exact m7 | exact m8 | exact m9 | assumption) rfl ⟨ok_X11_lets, ⟨Nat.le_of_ble_eq_true rfl, Nat.le_of_ble_eq_true rfl⟩, ⟨Nat.le_of_ble_eq_true rfl, Nat.le_of_ble_eq_true rfl⟩, Nat.le_of_ble_eq_true rfl⟩ dX11_send_137 (kk_v (Wf := Wg K E _ _ _ _) ?_)
                    refine r_heap (show mG E g M u (va_up (va_up (va_up B 9 (B 4)) 4 (flat (runF T.2.2.1 (T.1 - 1) a N T.2.1))) 4 (B 4)) = mG E g M u (va_up B 9 (B 4)) by rw [vu_vu]; exact congrArg (mG E g M u) (vu_self rfl)) ?_
                    first | refine r_iincN X dX11_send_140 rfl ?_ | refine r_iinc X _ dX11_send_140 rfl rfl ?_
                    try dsimp only [List.set]
                    refine r_goto X 37 dX11_send_143 (by decide) ?_
                    try rw [← hst]
                    exact ihO (by omega) _
                  · skip
                    refine r_iload X dX11_send_129 rfl ?_
                    refine r_goto X 135 dX11_send_131 (by decide) ?_
                    refine r_top _ (mO1 (srF (clrB T.2.2.1 (T.1 - 1) T.2.1 i t N) i (a + 1))) (by show _ = mO1 (if a / 2 ^ i % 2 = 0 ∧ lessO (srF (clrB T.2.2.1 (T.1 - 1) T.2.1 i t N) i (a)) a = true ∧ (clrB T.2.2.1 (T.1 - 1) T.2.1 i t N) a = true then some a else srF (clrB T.2.2.1 (T.1 - 1) T.2.1 i t N) i (a)); rw [hfd]; first | (rw [if_pos ⟨by omega, hls, decide_eq_true c_126⟩]; rfl) | (rw [if_neg (fun h => absurd (of_decide_eq_true h.2.2) (by omega))])) ?_
                    refine r_istore_n X dX11_send_135 (Nat.le_of_ble_eq_true rfl) ?_
                    try dsimp only [List.set]
                    refine r_aload_n X dX11_send_136 rfl ?_
                    refine r_callV (ci := 10) X rfl (c_X11_lets _ E g n M u (va_up (va_up B 9 (B 4)) 4 (flat (runF T.2.2.1 (T.1 - 1) a N T.2.1)))) tw_878 tw_880 tp_40 tw_7 tw_881 rfl rfl (by first | exact m0 | exact m1 | exact m2 | exact m3 | exact m4 | exact m5 | exact m6 | exact m7 | exact m8 | exact m9 | assumption) rfl ⟨ok_X11_lets, ⟨Nat.le_of_ble_eq_true rfl, Nat.le_of_ble_eq_true rfl⟩, ⟨Nat.le_of_ble_eq_true rfl, Nat.le_of_ble_eq_true rfl⟩, Nat.le_of_ble_eq_true rfl⟩ dX11_send_137 (kk_v (Wf := Wg K E _ _ _ _) ?_)
                    refine r_heap (show mG E g M u (va_up (va_up (va_up B 9 (B 4)) 4 (flat (runF T.2.2.1 (T.1 - 1) a N T.2.1))) 4 (B 4)) = mG E g M u (va_up B 9 (B 4)) by rw [vu_vu]; exact congrArg (mG E g M u) (vu_self rfl)) ?_
                    first | refine r_iincN X dX11_send_140 rfl ?_ | refine r_iinc X _ dX11_send_140 rfl rfl ?_
                    try dsimp only [List.set]
                    refine r_goto X 37 dX11_send_143 (by decide) ?_
                    try rw [← hst]
                    exact ihO (by omega) _
                · skip
                  have hbd := run_bd (cl := T.2.2.1) (top := T.1 - 1) (a := a) hN hN9 k
                  have hm4 : a / 2 ^ k % 2 < 2 := Nat.mod_lt _ (by decide)
                  refine r_iload X dX11_send_90 rfl ?_
                  refine r_iload X dX11_send_92 rfl ?_
                  refine r_ishrN X dX11_send_94 (by omega) (by omega) ?_
                  refine r_iconst (v := nI 1) X dX11_send_95 (by decide) ?_
                  refine r_iand1N X dX11_send_96 (Nat.lt_of_le_of_lt (Nat.div_le_self _ _) (by omega)) ?_
                  refine r_iconst (v := nI 1) X dX11_send_97 (by decide) ?_
                  refine r_icmp_neN X 109 dX11_send_98 (by decide) (by omega) (by omega) (fun c_98 => ?_) (fun c_98 => ?_)
                  · skip
                    first | refine r_iincN X dX11_send_109 rfl ?_ | refine r_iinc X _ dX11_send_109 rfl rfl ?_
                    try dsimp only [List.set]
                    refine r_goto X 79 dX11_send_112 (by decide) ?_
                    refine r_heap ?_ (ih (by omega))
                    first | (rw [vu_vu, show runF T.2.2.1 (T.1 - 1) a N (k + 1) = upN (runF T.2.2.1 (T.1 - 1) a N k) (T.2.2.1 k) k (T.1 - 1) from if_pos c_98]; done) | (rw [show runF T.2.2.1 (T.1 - 1) a N (k + 1) = runF T.2.2.1 (T.1 - 1) a N k from if_neg c_98])
                  · skip
                    refine r_aload_n X dX11_send_101 rfl ?_
                    refine r_iload X dX11_send_102 rfl ?_
                    refine r_iload X dX11_send_104 rfl ?_
                    refine r_callV (ci := 10) X rfl (c_X11_goes _ E g n M u (va_up (va_up B 9 (B 4)) 4 (flat (runF T.2.2.1 (T.1 - 1) a N k))) T (runF T.2.2.1 (T.1 - 1) a N k) k (T.1 - 1) (show (va_up (va_up B 9 (B 4)) 4 (flat (runF T.2.2.1 (T.1 - 1) a N k))) 2 = tfl T from hT) rfl h0 h1 hP hbd.1 hbd.2 (by omega) (by omega)) tw_823 tw_825 tp_35 tw_7 tw_826 rfl rfl (by first | exact m0 | exact m1 | exact m2 | exact m3 | exact m4 | exact m5 | exact m6 | exact m7 | exact m8 | exact m9 | assumption) rfl ⟨ok_X11_goes, ⟨Nat.le_of_ble_eq_true rfl, Nat.le_of_ble_eq_true rfl⟩, ⟨Nat.le_of_ble_eq_true rfl, Nat.le_of_ble_eq_true rfl⟩, Nat.le_of_ble_eq_true rfl⟩ dX11_send_106 (kk_v (Wf := Wg K E _ _ _ _) ?_)
                    first | refine r_iincN X dX11_send_109 rfl ?_ | refine r_iinc X _ dX11_send_109 rfl rfl ?_
                    try dsimp only [List.set]
                    refine r_goto X 79 dX11_send_112 (by decide) ?_
                    refine r_heap ?_ (ih (by omega))
                    first | (rw [vu_vu, show runF T.2.2.1 (T.1 - 1) a N (k + 1) = upN (runF T.2.2.1 (T.1 - 1) a N k) (T.2.2.1 k) k (T.1 - 1) from if_pos c_98]; done) | (rw [show runF T.2.2.1 (T.1 - 1) a N (k + 1) = runF T.2.2.1 (T.1 - 1) a N k from if_neg c_98])
              refine r_heap ?_ (hloop2 0 (Nat.zero_le _))
              exact (congrArg (mG E g M u) (show va_up (va_up B 9 (B 4)) 4 (flat (runF T.2.2.1 (T.1 - 1) a N 0)) = (va_up B 9 (B 4)) from vu_self hS)).symm
            · skip
              have hfl := srF_lt _ _ hfd
              have hof := onF_le f 12
              refine r_iload_n X dX11_send_59 rfl ?_
              refine r_iconst (v := (-1)) X dX11_send_60 (by decide) ?_
              refine r_icmp_eq X 76 dX11_send_61 (by decide) (fun c_61 => ?_) (fun c_61 => ?_)
              · exact absurd (congrArg Int32.toInt (show nI f = -1 from c_61)) (by rw [nI_toInt (by omega)]; have : ((-1 : Int32)).toInt = -1 := rfl; omega)
              refine r_iload X dX11_send_64 rfl ?_
              refine r_callS X rfl (c_X11_ones _ E _ n a (by omega)) tw_875 tw_876 tw_7 tw_877 rfl ⟨ok_X11_ones, ⟨Nat.le_of_ble_eq_true rfl, Nat.le_of_ble_eq_true rfl⟩, ⟨Nat.le_of_ble_eq_true rfl, Nat.le_of_ble_eq_true rfl⟩, Nat.le_of_ble_eq_true rfl⟩ dX11_send_66 (kk_r (Wf := Wg K E _ _ _ _) ?_)
              refine r_iload_n X dX11_send_69 rfl ?_
              refine r_callS X rfl (c_X11_ones _ E _ n f (by omega)) tw_875 tw_876 tw_7 tw_877 rfl ⟨ok_X11_ones, ⟨Nat.le_of_ble_eq_true rfl, Nat.le_of_ble_eq_true rfl⟩, ⟨Nat.le_of_ble_eq_true rfl, Nat.le_of_ble_eq_true rfl⟩, Nat.le_of_ble_eq_true rfl⟩ dX11_send_70 (kk_r (Wf := Wg K E _ _ _ _) ?_)
              refine r_icmp_geN X 140 dX11_send_73 (by decide) (by omega) (by omega) (fun c_73 => ?_) (fun c_73 => ?_)
              · skip
                have hst : mO1 (srF (clrB T.2.2.1 (T.1 - 1) T.2.1 i t N) i (a + 1)) = mO1 (some f) := by show mO1 (if _ then _ else _) = _; rw [hfd, if_neg (fun h => absurd (of_decide_eq_true h.2.1) (by omega))]
                first | refine r_iincN X dX11_send_140 rfl ?_ | refine r_iinc X _ dX11_send_140 rfl rfl ?_
                try dsimp only [List.set]
                refine r_goto X 37 dX11_send_143 (by decide) ?_
                try rw [← hst]
                exact ihO (by omega) _
              · skip
                have hls : lessO (some f) a = true := decide_eq_true c_73
                refine r_iconst (v := nI 0) X dX11_send_76 (by decide) ?_
                refine r_istore X dX11_send_77 (Nat.le_of_ble_eq_true rfl) ?_
                try dsimp only [List.set]
                have hloop2 : ∀ (k : Nat), k ≤ T.2.1 → Wg K E (0) (0) 79 [some (.ref M), some (.int (nI i)), some (.int (nI t)), some (.int (mO1 (some f))), some (.int (nI (T.1 - 1))), some (.int (nI a)), some (.int (nI k))] [] (mG E g M u (va_up (va_up B 9 (B 4)) 4 (flat (runF T.2.2.1 (T.1 - 1) a N k)))) (n) := by
                  refine ind_up _ (T.2.1) (fun k hk ih => ?_)
                  refine r_iload X dX11_send_79 rfl ?_
                  refine r_aload_n X dX11_send_81 rfl ?_
                  refine r_get (ci := 10) X 2 _ ti_RX11 rfl (by decide) tw_660 (fun _ h => h) dX11_send_82 (by first | exact m0 | exact m1 | exact m2 | exact m3 | exact m4 | exact m5 | exact m6 | exact m7 | exact m8 | exact m9 | assumption) rfl ?_
                  refine r_iconst (v := nI 1) X dX11_send_85 (by decide) ?_
                  refine r_nald X _ dX11_send_86 (by first | exact m0 | exact m1 | exact m2 | exact m3 | exact m4 | exact m5 | exact m6 | exact m7 | exact m8 | exact m9 | assumption) (rfl) (by omega) (by decide) ?_
                  refine r_top _ _ (congrArg nI (show _ = T.2.1 from (show B 2 1 = T.2.1 by rw [hT]; rfl))) ?_
                  refine r_icmp_geN X 115 dX11_send_87 (by decide) (by omega) (by omega) (fun c_87 => ?_) (fun c_87 => ?_)
                  · skip
                    rw [show k = T.2.1 by omega]
                    have hlt := hearN_lt (c := T.2.2.1 i) (run_bd (cl := T.2.2.1) (top := T.1 - 1) (a := a) hN hN9 T.2.1).1 (T.1 - 1 + 1)
                    have hm3 : hearN (T.2.2.1 i) (runF T.2.2.1 (T.1 - 1) a N T.2.1).1 (T.1 - 1 + 1) / 2 ^ t % 2 < 2 := Nat.mod_lt _ (by decide)
                    refine r_aload_n X dX11_send_115 rfl ?_
                    refine r_iload_n X dX11_send_116 rfl ?_
                    refine r_iload X dX11_send_117 rfl ?_
                    refine r_callV (ci := 10) X rfl (c_X11_heard _ E g n M u (va_up (va_up B 9 (B 4)) 4 (flat (runF T.2.2.1 (T.1 - 1) a N T.2.1))) T (runF T.2.2.1 (T.1 - 1) a N T.2.1) i (T.1 - 1) (show (va_up (va_up B 9 (B 4)) 4 (flat (runF T.2.2.1 (T.1 - 1) a N T.2.1))) 2 = tfl T from hT) rfl h0 h1 hP (run_bd hN hN9 T.2.1).1 hi (by omega)) tw_827 tw_829 tp_36 tw_7 tw_830 rfl rfl (by first | exact m0 | exact m1 | exact m2 | exact m3 | exact m4 | exact m5 | exact m6 | exact m7 | exact m8 | exact m9 | assumption) rfl ⟨ok_X11_heard, ⟨Nat.le_of_ble_eq_true rfl, Nat.le_of_ble_eq_true rfl⟩, ⟨Nat.le_of_ble_eq_true rfl, Nat.le_of_ble_eq_true rfl⟩, Nat.le_of_ble_eq_true rfl⟩ dX11_send_119 (kk_r (Wf := Wg K E _ _ _ _) ?_)
                    refine r_iload_n X dX11_send_122 rfl ?_
                    refine r_ishrN X dX11_send_123 (by omega) (by omega) ?_
                    refine r_iconst (v := nI 1) X dX11_send_124 (by decide) ?_
                    refine r_iand1N X dX11_send_125 (Nat.lt_of_le_of_lt (Nat.div_le_self _ _) (by omega)) ?_
                    refine r_if_neN X 134 dX11_send_126 (by decide) (by omega) (fun c_126 => ?_) (fun c_126 => ?_)
                    · skip
                      refine r_iload_n X dX11_send_134 rfl ?_
                      refine r_top _ (mO1 (srF (clrB T.2.2.1 (T.1 - 1) T.2.1 i t N) i (a + 1))) (by show _ = mO1 (if a / 2 ^ i % 2 = 0 ∧ lessO (srF (clrB T.2.2.1 (T.1 - 1) T.2.1 i t N) i (a)) a = true ∧ (clrB T.2.2.1 (T.1 - 1) T.2.1 i t N) a = true then some a else srF (clrB T.2.2.1 (T.1 - 1) T.2.1 i t N) i (a)); rw [hfd]; first | (rw [if_pos ⟨by omega, hls, decide_eq_true c_126⟩]; rfl) | (rw [if_neg (fun h => absurd (of_decide_eq_true h.2.2) (by omega))])) ?_
                      refine r_istore_n X dX11_send_135 (Nat.le_of_ble_eq_true rfl) ?_
                      try dsimp only [List.set]
                      refine r_aload_n X dX11_send_136 rfl ?_
                      refine r_callV (ci := 10) X rfl (c_X11_lets _ E g n M u (va_up (va_up B 9 (B 4)) 4 (flat (runF T.2.2.1 (T.1 - 1) a N T.2.1)))) tw_878 tw_880 tp_40 tw_7 tw_881 rfl rfl (by first | exact m0 | exact m1 | exact m2 | exact m3 | exact m4 | exact m5 | exact m6 | exact m7 | exact m8 | exact m9 | assumption) rfl ⟨ok_X11_lets, ⟨Nat.le_of_ble_eq_true rfl, Nat.le_of_ble_eq_true rfl⟩, ⟨Nat.le_of_ble_eq_true rfl, Nat.le_of_ble_eq_true rfl⟩, Nat.le_of_ble_eq_true rfl⟩ dX11_send_137 (kk_v (Wf := Wg K E _ _ _ _) ?_)
                      refine r_heap (show mG E g M u (va_up (va_up (va_up B 9 (B 4)) 4 (flat (runF T.2.2.1 (T.1 - 1) a N T.2.1))) 4 (B 4)) = mG E g M u (va_up B 9 (B 4)) by rw [vu_vu]; exact congrArg (mG E g M u) (vu_self rfl)) ?_
                      first | refine r_iincN X dX11_send_140 rfl ?_ | refine r_iinc X _ dX11_send_140 rfl rfl ?_
                      try dsimp only [List.set]
                      refine r_goto X 37 dX11_send_143 (by decide) ?_
                      try rw [← hst]
                      exact ihO (by omega) _
                    · skip
                      refine r_iload X dX11_send_129 rfl ?_
                      refine r_goto X 135 dX11_send_131 (by decide) ?_
                      refine r_top _ (mO1 (srF (clrB T.2.2.1 (T.1 - 1) T.2.1 i t N) i (a + 1))) (by show _ = mO1 (if a / 2 ^ i % 2 = 0 ∧ lessO (srF (clrB T.2.2.1 (T.1 - 1) T.2.1 i t N) i (a)) a = true ∧ (clrB T.2.2.1 (T.1 - 1) T.2.1 i t N) a = true then some a else srF (clrB T.2.2.1 (T.1 - 1) T.2.1 i t N) i (a)); rw [hfd]; first | (rw [if_pos ⟨by omega, hls, decide_eq_true c_126⟩]; rfl) | (rw [if_neg (fun h => absurd (of_decide_eq_true h.2.2) (by omega))])) ?_
                      refine r_istore_n X dX11_send_135 (Nat.le_of_ble_eq_true rfl) ?_
                      try dsimp only [List.set]
                      refine r_aload_n X dX11_send_136 rfl ?_
                      refine r_callV (ci := 10) X rfl (c_X11_lets _ E g n M u (va_up (va_up B 9 (B 4)) 4 (flat (runF T.2.2.1 (T.1 - 1) a N T.2.1)))) tw_878 tw_880 tp_40 tw_7 tw_881 rfl rfl (by first | exact m0 | exact m1 | exact m2 | exact m3 | exact m4 | exact m5 | exact m6 | exact m7 | exact m8 | exact m9 | assumption) rfl ⟨ok_X11_lets, ⟨Nat.le_of_ble_eq_true rfl, Nat.le_of_ble_eq_true rfl⟩, ⟨Nat.le_of_ble_eq_true rfl, Nat.le_of_ble_eq_true rfl⟩, Nat.le_of_ble_eq_true rfl⟩ dX11_send_137 (kk_v (Wf := Wg K E _ _ _ _) ?_)
                      refine r_heap (show mG E g M u (va_up (va_up (va_up B 9 (B 4)) 4 (flat (runF T.2.2.1 (T.1 - 1) a N T.2.1))) 4 (B 4)) = mG E g M u (va_up B 9 (B 4)) by rw [vu_vu]; exact congrArg (mG E g M u) (vu_self rfl)) ?_
                      first | refine r_iincN X dX11_send_140 rfl ?_ | refine r_iinc X _ dX11_send_140 rfl rfl ?_
                      try dsimp only [List.set]
                      refine r_goto X 37 dX11_send_143 (by decide) ?_
                      try rw [← hst]
                      exact ihO (by omega) _
                  · skip
                    have hbd := run_bd (cl := T.2.2.1) (top := T.1 - 1) (a := a) hN hN9 k
                    have hm4 : a / 2 ^ k % 2 < 2 := Nat.mod_lt _ (by decide)
                    refine r_iload X dX11_send_90 rfl ?_
                    refine r_iload X dX11_send_92 rfl ?_
                    refine r_ishrN X dX11_send_94 (by omega) (by omega) ?_
                    refine r_iconst (v := nI 1) X dX11_send_95 (by decide) ?_
                    refine r_iand1N X dX11_send_96 (Nat.lt_of_le_of_lt (Nat.div_le_self _ _) (by omega)) ?_
                    refine r_iconst (v := nI 1) X dX11_send_97 (by decide) ?_
                    refine r_icmp_neN X 109 dX11_send_98 (by decide) (by omega) (by omega) (fun c_98 => ?_) (fun c_98 => ?_)
                    · skip
                      first | refine r_iincN X dX11_send_109 rfl ?_ | refine r_iinc X _ dX11_send_109 rfl rfl ?_
                      try dsimp only [List.set]
                      refine r_goto X 79 dX11_send_112 (by decide) ?_
                      refine r_heap ?_ (ih (by omega))
                      first | (rw [vu_vu, show runF T.2.2.1 (T.1 - 1) a N (k + 1) = upN (runF T.2.2.1 (T.1 - 1) a N k) (T.2.2.1 k) k (T.1 - 1) from if_pos c_98]; done) | (rw [show runF T.2.2.1 (T.1 - 1) a N (k + 1) = runF T.2.2.1 (T.1 - 1) a N k from if_neg c_98])
                    · skip
                      refine r_aload_n X dX11_send_101 rfl ?_
                      refine r_iload X dX11_send_102 rfl ?_
                      refine r_iload X dX11_send_104 rfl ?_
                      refine r_callV (ci := 10) X rfl (c_X11_goes _ E g n M u (va_up (va_up B 9 (B 4)) 4 (flat (runF T.2.2.1 (T.1 - 1) a N k))) T (runF T.2.2.1 (T.1 - 1) a N k) k (T.1 - 1) (show (va_up (va_up B 9 (B 4)) 4 (flat (runF T.2.2.1 (T.1 - 1) a N k))) 2 = tfl T from hT) rfl h0 h1 hP hbd.1 hbd.2 (by omega) (by omega)) tw_823 tw_825 tp_35 tw_7 tw_826 rfl rfl (by first | exact m0 | exact m1 | exact m2 | exact m3 | exact m4 | exact m5 | exact m6 | exact m7 | exact m8 | exact m9 | assumption) rfl ⟨ok_X11_goes, ⟨Nat.le_of_ble_eq_true rfl, Nat.le_of_ble_eq_true rfl⟩, ⟨Nat.le_of_ble_eq_true rfl, Nat.le_of_ble_eq_true rfl⟩, Nat.le_of_ble_eq_true rfl⟩ dX11_send_106 (kk_v (Wf := Wg K E _ _ _ _) ?_)
                      first | refine r_iincN X dX11_send_109 rfl ?_ | refine r_iinc X _ dX11_send_109 rfl rfl ?_
                      try dsimp only [List.set]
                      refine r_goto X 79 dX11_send_112 (by decide) ?_
                      refine r_heap ?_ (ih (by omega))
                      first | (rw [vu_vu, show runF T.2.2.1 (T.1 - 1) a N (k + 1) = upN (runF T.2.2.1 (T.1 - 1) a N k) (T.2.2.1 k) k (T.1 - 1) from if_pos c_98]; done) | (rw [show runF T.2.2.1 (T.1 - 1) a N (k + 1) = runF T.2.2.1 (T.1 - 1) a N k from if_neg c_98])
                refine r_heap ?_ (hloop2 0 (Nat.zero_le _))
                exact (congrArg (mG E g M u) (show va_up (va_up B 9 (B 4)) 4 (flat (runF T.2.2.1 (T.1 - 1) a N 0)) = (va_up B 9 (B 4)) from vu_self hS)).symm
      exact hloop1 0 (Nat.zero_le _) _
    · skip
      refine r_bipush (v := (-2)) X dX11_send_15 (by decide) ?_
      refine r_iret S dX11_send_17 ?_
      exact ⟨by rw [if_neg (by simp [*])], by rw [if_neg (by simp [*])], rfl⟩

