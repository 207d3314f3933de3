/-- the weight of one set of palms -/
def itF (q a : Nat) : Nat → Nat
  | 0 => 1
  | k + 1 => itF q a k * (if a / 2 ^ k % 2 = 1 then q else 10 - q)
def abT (q m t : Nat) : Nat → Nat
  | 0 => 0
  | j + 1 => abT q m t j + (if onF j 12 < t then itF q j m else 0)
def abF (q m fm : Nat) : Nat → Nat
  | 0 => 0
  | j + 1 => abF q m fm j + (if m + onF j 12 < fm then itF q j m else 0)
theorem on_le : ∀ m, m ≤ 6 → ∀ j, j < 2 ^ m → onF j 12 ≤ m := by decide +kernel
theorem abT_wy : ∀ m, m ≤ 6 → ∀ q, q ≤ 10 → ∀ t, t ≤ m + 1 → abT q m t (2 ^ m) = wyF m q t := by decide +kernel
theorem abF_T {q m fm : Nat} (hm : m ≤ 6) : ∀ j, j ≤ 2 ^ m → abF q m fm j = abT q m (min (m + 1) (fm - m)) j
  | 0, _ => rfl
  | j + 1, h => by
    have ih := abF_T (q := q) (fm := fm) hm j (by omega)
    have h1 := on_le m hm j (by omega)
    show abF q m fm j + _ = abT q m _ j + _
    rw [ih]
    by_cases e : m + onF j 12 < fm
    · rw [if_pos e, if_pos (by omega)]
    · rw [if_neg e, if_neg (by omega)]
theorem abF_wy {q m fm : Nat} (hm : m ≤ 6) (hq : q ≤ 10) : abF q m fm (2 ^ m) = wyF m q (min (m + 1) (fm - m)) := (abF_T hm _ (Nat.le_refl _)).trans (abT_wy m hm q hq _ (by omega))
theorem p2_le {m : Nat} (h : m ≤ 6) : 2 ^ m ≤ 64 := Nat.pow_le_pow_right (n := 2) (by decide) h

set_option maxHeartbeats 4000000 in
set_option maxRecDepth 100000 in
/-- BanisterWordModel.palms  -/
theorem c_X11_palms (l : Launch) (E : xE) (g : hG) (n : Nat) (M : Nat) (u : Nat → Nat) (B : Nat → Nat → Nat) (T : hsT) (N : Mo) (x y z w o : Int32) (hT : B 2 = tfl T) (hS : B 4 = flat N) (h0 : T.1 ≤ 12) (h1 : T.2.1 ≤ 6) (hN9 : ∀ j, N.2.1 j ≤ 99) : Ct l yX11_palms cX11_palms 12 (some .int) 2 43 0 0 E [.ref M, .int x, .int y, .int z, .int w, .int o] (mG E g M u B) n (zr (some (.int (palmsR T.1 N.2.1 x y z w o))) (mG E g M u B) (n)) := by
  refine Ct.of (by decide +kernel) (Nat.le_of_ble_eq_true rfl) (fun v hv => by simp only [List.mem_cons, List.not_mem_nil, or_false] at hv; (try rcases hv with rfl | rfl | rfl | rfl | rfl | rfl) <;> first | rfl | (subst hv; rfl) | exact hv.elim) ?_
  intro K hKl S
  subst hKl
  have X := S.1
  refine r_aload_n X dX11_palms_0 rfl ?_
  refine r_iload_n X dX11_palms_1 rfl ?_
  refine r_callV (ci := 10) X rfl (c_X11_isStep _ E g n M u B x (by rw [(show B 2 0 = T.1 by rw [hT]; rfl)]; omega)) tw_784 tw_786 tp_29 tw_7 tw_787 rfl rfl (by first | exact m0 | exact m1 | exact m2 | exact m3 | exact m4 | exact m5 | exact m6 | exact m7 | exact m8 | exact m9 | assumption) rfl ⟨ok_X11_isStep, ⟨Nat.le_of_ble_eq_true rfl, Nat.le_of_ble_eq_true rfl⟩, ⟨Nat.le_of_ble_eq_true rfl, Nat.le_of_ble_eq_true rfl⟩, Nat.le_of_ble_eq_true rfl⟩ dX11_palms_2 (kk_r (Wf := Wg K E _ _ _ _) ?_)
  refine r_top _ _ (congrArg (fun q => bI (inR x q)) (show B 2 0 = T.1 by rw [hT]; rfl)) ?_
  refine r_if_eqB X 17 dX11_palms_5 (by decide) (fun c_5 => ?_) (fun c_5 => ?_)
  · skip
    refine r_bipush (v := (-2)) X dX11_palms_17 (by decide) ?_
    refine r_iret S dX11_palms_19 ?_
    exact ⟨by unfold palmsR; rw [if_neg (by simp [*])], rfl, rfl⟩
  · skip
    refine r_iload_n X dX11_palms_8 rfl ?_
    refine r_iconst (v := nI 0) X dX11_palms_9 (by decide) ?_
    refine r_iconst (v := nI 1) X dX11_palms_10 (by decide) ?_
    refine r_callS X rfl (c_X11_in _ E _ n _ _ _) tw_711 tw_712 tw_7 tw_713 rfl ⟨ok_X11_in, ⟨Nat.le_of_ble_eq_true rfl, Nat.le_of_ble_eq_true rfl⟩, ⟨Nat.le_of_ble_eq_true rfl, Nat.le_of_ble_eq_true rfl⟩, Nat.le_of_ble_eq_true rfl⟩ dX11_palms_11 (kk_r (Wf := Wg K E _ _ _ _) ?_)
    refine r_top _ _ (congrArg bI (inQ_c 1 (by decide))) ?_
    refine r_if_neB X 20 dX11_palms_14 (by decide) (fun c_14 => ?_) (fun c_14 => ?_)
    · skip
      refine r_iload_n X dX11_palms_20 rfl ?_
      refine r_iconst (v := nI 0) X dX11_palms_21 (by decide) ?_
      refine r_bipush (v := nI 6) X dX11_palms_22 (by decide) ?_
      refine r_callS X rfl (c_X11_in _ E _ n _ _ _) tw_711 tw_712 tw_7 tw_713 rfl ⟨ok_X11_in, ⟨Nat.le_of_ble_eq_true rfl, Nat.le_of_ble_eq_true rfl⟩, ⟨Nat.le_of_ble_eq_true rfl, Nat.le_of_ble_eq_true rfl⟩, Nat.le_of_ble_eq_true rfl⟩ dX11_palms_24 (kk_r (Wf := Wg K E _ _ _ _) ?_)
      refine r_top _ _ (congrArg bI (inQ_c 6 (by decide))) ?_
      refine r_if_eqB X 51 dX11_palms_27 (by decide) (fun c_27 => ?_) (fun c_27 => ?_)
      · skip
        refine r_bipush (v := (-3)) X dX11_palms_51 (by decide) ?_
        refine r_iret S dX11_palms_53 ?_
        exact ⟨by unfold palmsR; rw [if_pos ⟨c_5, c_14⟩, if_neg (by simp [*])], rfl, rfl⟩
      · skip
        refine r_iload X dX11_palms_30 rfl ?_
        refine r_iconst (v := nI 0) X dX11_palms_32 (by decide) ?_
        refine r_bipush (v := nI 10) X dX11_palms_33 (by decide) ?_
        refine r_callS X rfl (c_X11_in _ E _ n _ _ _) tw_711 tw_712 tw_7 tw_713 rfl ⟨ok_X11_in, ⟨Nat.le_of_ble_eq_true rfl, Nat.le_of_ble_eq_true rfl⟩, ⟨Nat.le_of_ble_eq_true rfl, Nat.le_of_ble_eq_true rfl⟩, Nat.le_of_ble_eq_true rfl⟩ dX11_palms_35 (kk_r (Wf := Wg K E _ _ _ _) ?_)
        refine r_top _ _ (congrArg bI (inQ_c 10 (by decide))) ?_
        refine r_if_eqB X 51 dX11_palms_38 (by decide) (fun c_38 => ?_) (fun c_38 => ?_)
        · skip
          refine r_bipush (v := (-3)) X dX11_palms_51 (by decide) ?_
          refine r_iret S dX11_palms_53 ?_
          exact ⟨by unfold palmsR; rw [if_pos ⟨c_5, c_14⟩, if_neg (by simp [*])], rfl, rfl⟩
        · skip
          refine r_iload X dX11_palms_41 rfl ?_
          refine r_iconst (v := nI 0) X dX11_palms_43 (by decide) ?_
          refine r_iconst (v := nI 1) X dX11_palms_44 (by decide) ?_
          refine r_callS X rfl (c_X11_in _ E _ n _ _ _) tw_711 tw_712 tw_7 tw_713 rfl ⟨ok_X11_in, ⟨Nat.le_of_ble_eq_true rfl, Nat.le_of_ble_eq_true rfl⟩, ⟨Nat.le_of_ble_eq_true rfl, Nat.le_of_ble_eq_true rfl⟩, Nat.le_of_ble_eq_true rfl⟩ dX11_palms_45 (kk_r (Wf := Wg K E _ _ _ _) ?_)
          refine r_top _ _ (congrArg bI (inQ_c 1 (by decide))) ?_
          refine r_if_neB X 54 dX11_palms_48 (by decide) (fun c_48 => ?_) (fun c_48 => ?_)
          · skip
            obtain ⟨s, hs, rfl⟩ := inR_ex (by omega) c_5
            have hsx : ix (nI s) = s := ix_nI (by omega)
            obtain ⟨t, ht, rfl⟩ := inR_ex (by omega) c_14
            have htx : ix (nI t) = t := ix_nI (by omega)
            obtain ⟨m, hm, rfl⟩ := inR_ex (by omega) c_27
            have hmx : ix (nI m) = m := ix_nI (by omega)
            obtain ⟨q, hq, rfl⟩ := inR_ex (by omega) c_38
            have hqx : ix (nI q) = q := ix_nI (by omega)
            obtain ⟨b, hb, rfl⟩ := inR_ex (by omega) c_48
            have hbx : ix (nI b) = b := ix_nI (by omega)
            have h99 := hN9 (2 * s + t)
            have hp2 := p2_le (m := m) (by omega)
            have hp10 := p10_le (n := m) (by omega)
            have hp0 := p10_pos m
            have hst : s * 2 + t = 2 * s + t := by omega
            refine r_aload_n X dX11_palms_54 rfl ?_
            refine r_get (ci := 10) X 4 _ ti_RX11 rfl (by decide) tw_662 (fun _ h => h) dX11_palms_55 (by first | exact m0 | exact m1 | exact m2 | exact m3 | exact m4 | exact m5 | exact m6 | exact m7 | exact m8 | exact m9 | assumption) rfl ?_
            refine r_bipush (v := nI 24) X dX11_palms_58 (by decide) ?_
            refine r_iconst (v := nI 2) X dX11_palms_60 (by decide) ?_
            refine r_iload_n X dX11_palms_61 rfl ?_
            first | refine r_imulN X dX11_palms_62 ?_ | refine r_imul X _ dX11_palms_62 rfl ?_
            first | refine r_iaddN X dX11_palms_63 ?_ | refine r_iadd X _ dX11_palms_63 rfl ?_
            refine r_iload_n X dX11_palms_64 rfl ?_
            first | refine r_iaddN X dX11_palms_65 ?_ | refine r_iadd X _ dX11_palms_65 rfl ?_
            refine r_nald X _ dX11_palms_66 (by first | exact m0 | exact m1 | exact m2 | exact m3 | exact m4 | exact m5 | exact m6 | exact m7 | exact m8 | exact m9 | assumption) (rfl) (by omega) (by decide) ?_
            refine r_top _ (nI (N.2.1 (2 * s + t))) (congrArg nI (show B 4 (24 + 2 * s + t) = _ by rw [hS, Nat.add_assoc]; exact flat_h (by omega))) ?_
            refine r_istore X dX11_palms_67 (Nat.le_of_ble_eq_true rfl) ?_
            try dsimp only [List.set]
            refine r_iconst (v := nI 0) X dX11_palms_69 (by decide) ?_
            refine r_istore X dX11_palms_70 (Nat.le_of_ble_eq_true rfl) ?_
            try dsimp only [List.set]
            refine r_iconst (v := nI 1) X dX11_palms_72 (by decide) ?_
            refine r_top _ (nI (10 ^ 0)) (rfl) ?_
            refine r_istore X dX11_palms_73 (Nat.le_of_ble_eq_true rfl) ?_
            try dsimp only [List.set]
            refine r_iconst (v := nI 0) X dX11_palms_75 (by decide) ?_
            refine r_istore X dX11_palms_76 (Nat.le_of_ble_eq_true rfl) ?_
            try dsimp only [List.set]
            have hloop : ∀ (k : Nat), k ≤ m → Wg K E (0) (0) 78 [some (.ref M), some (.int (nI s)), some (.int (nI t)), some (.int (nI m)), some (.int (nI q)), some (.int (nI b)), some (.int (nI (N.2.1 (2 * s + t)))), some (.int (nI 0)), some (.int (nI (10 ^ k))), some (.int (nI k)), none, none] [] (mG E g M u B) (n) := by
              refine ind_up _ (m) (fun k hk ih => ?_)
              refine r_iload X dX11_palms_78 rfl ?_
              refine r_iload_n X dX11_palms_80 rfl ?_
              refine r_icmp_geN X 97 dX11_palms_81 (by decide) (by omega) (by omega) (fun c_81 => ?_) (fun c_81 => ?_)
              · skip
                rw [show k = m by omega]
                refine r_iconst (v := nI 0) X dX11_palms_97 (by decide) ?_
                refine r_istore X dX11_palms_98 (Nat.le_of_ble_eq_true rfl) ?_
                try dsimp only [List.set]
                have hloop2 : ∀ (j : Nat), j ≤ 2 ^ m → ∀ (u_ w_ : Option Value), Wg K E (0) (0) 100 [some (.ref M), some (.int (nI s)), some (.int (nI t)), some (.int (nI m)), some (.int (nI q)), some (.int (nI b)), some (.int (nI (N.2.1 (2 * s + t)))), some (.int (nI (abF q m (N.2.1 (2 * s + t)) (j)))), some (.int (nI (10 ^ m))), some (.int (nI j)), u_, w_] [] (mG E g M u B) (n) := by
                  refine ind_up _ (2 ^ m) (fun j hj ih u_ w_ => ?_)
                  have ihO := ih
                  refine r_iload X dX11_palms_100 rfl ?_
                  refine r_iconst (v := nI 1) X dX11_palms_102 (by decide) ?_
                  refine r_iload_n X dX11_palms_103 rfl ?_
                  refine r_ishl1N X dX11_palms_104 (by omega) ?_
                  refine r_icmp_geN X 181 dX11_palms_105 (by decide) (by omega) (by omega) (fun c_105 => ?_) (fun c_105 => ?_)
                  · skip
                    rw [show j = 2 ^ m by omega]
                    have hA := abF_wy (q := q) (m := m) (fm := (N.2.1 (2 * s + t))) (by omega) (by omega)
                    have hA9 := wyF_le m (by omega) q (by omega) (min (m + 1) ((N.2.1 (2 * s + t)) - m)) (by omega)
                    rw [← hA] at hA9
                    refine r_iload X dX11_palms_181 rfl ?_
                    refine r_istore X dX11_palms_183 (Nat.le_of_ble_eq_true rfl) ?_
                    try dsimp only [List.set]
                    refine r_iload X dX11_palms_185 rfl ?_
                    refine r_istore X dX11_palms_187 (Nat.le_of_ble_eq_true rfl) ?_
                    try dsimp only [List.set]
                    have hloop4 : ∀ (f9 : Nat), f9 ≤ 1000000 → ∀ (a c : Nat) (u_ : Option Value), (Nat.gcd a c = Nat.gcd (abF q m (N.2.1 (2 * s + t)) (2 ^ m)) (10 ^ m) ∧ a ≤ 1000000 ∧ c ≤ 1000000 - f9 ∧ 0 < a + c) → Wg K E (0) (0) 189 [some (.ref M), some (.int (nI s)), some (.int (nI t)), some (.int (nI m)), some (.int (nI q)), some (.int (nI b)), some (.int (nI (N.2.1 (2 * s + t)))), some (.int (nI (abF q m (N.2.1 (2 * s + t)) (2 ^ m)))), some (.int (nI (10 ^ m))), some (.int (nI a)), some (.int (nI c)), u_] [] (mG E g M u B) (n) := by
                      refine ind_up _ (1000000) (fun f9 hf9 ih a c u_ hq => ?_)
                      obtain ⟨g1, g2, g3, g4⟩ := hq
                      refine r_iload X dX11_palms_189 rfl ?_
                      refine r_if_leN X 212 dX11_palms_191 (by decide) (by omega) (fun c_191 => ?_) (fun c_191 => ?_)
                      · skip
                        refine r_iload X dX11_palms_212 rfl ?_
                        refine r_if_neN X 225 dX11_palms_214 (by decide) (by omega) (fun c_214 => ?_) (fun c_214 => ?_)
                        · skip
                          refine r_iload X dX11_palms_225 rfl ?_
                          refine r_iload X dX11_palms_227 rfl ?_
                          refine r_idivN X dX11_palms_229 (by omega) (by omega) (by omega) ?_
                          refine r_iret S dX11_palms_230 ?_
                          refine ⟨?_, rfl, rfl⟩
                          unfold palmsR
                          rw [if_pos (show inR (nI s) T.1 = true ∧ inR (nI t) 2 = true from ⟨c_5, c_14⟩), if_pos (show inR (nI m) 7 = true ∧ inR (nI q) 11 = true ∧ inR (nI b) 2 = true from ⟨c_27, c_38, c_48⟩), hsx, htx, hmx, hqx, hbx, hst, ← hA]
                          rw [c_191, Nat.gcd_zero_right] at g1
                          rw [g1, Nat.gcd_comm (10 ^ m)]
                          first | (rw [if_pos c_214]; done) | (rw [if_neg (by omega)])
                        · skip
                          refine r_iload X dX11_palms_217 rfl ?_
                          refine r_iload X dX11_palms_219 rfl ?_
                          refine r_idivN X dX11_palms_221 (by omega) (by omega) (by omega) ?_
                          refine r_goto X 230 dX11_palms_222 (by decide) ?_
                          refine r_iret S dX11_palms_230 ?_
                          refine ⟨?_, rfl, rfl⟩
                          unfold palmsR
                          rw [if_pos (show inR (nI s) T.1 = true ∧ inR (nI t) 2 = true from ⟨c_5, c_14⟩), if_pos (show inR (nI m) 7 = true ∧ inR (nI q) 11 = true ∧ inR (nI b) 2 = true from ⟨c_27, c_38, c_48⟩), hsx, htx, hmx, hqx, hbx, hst, ← hA]
                          rw [c_191, Nat.gcd_zero_right] at g1
                          rw [g1, Nat.gcd_comm (10 ^ m)]
                          first | (rw [if_pos c_214]; done) | (rw [if_neg (by omega)])
                      · skip
                        refine r_iload X dX11_palms_194 rfl ?_
                        refine r_iload X dX11_palms_196 rfl ?_
                        refine r_iremN X dX11_palms_198 (by omega) (by omega) (by omega) ?_
                        refine r_istore X dX11_palms_199 (Nat.le_of_ble_eq_true rfl) ?_
                        try dsimp only [List.set]
                        refine r_iload X dX11_palms_201 rfl ?_
                        refine r_istore X dX11_palms_203 (Nat.le_of_ble_eq_true rfl) ?_
                        try dsimp only [List.set]
                        refine r_iload X dX11_palms_205 rfl ?_
                        refine r_istore X dX11_palms_207 (Nat.le_of_ble_eq_true rfl) ?_
                        try dsimp only [List.set]
                        refine r_goto X 189 dX11_palms_209 (by decide) ?_
                        have hm9 := Nat.mod_lt a c_191
                        refine ih (by omega) c (a % c) _ ⟨?_, by omega, by omega, by omega⟩
                        rw [← g1, Nat.gcd_comm a c, Nat.gcd_rec c a, Nat.gcd_comm]
                    exact hloop4 0 (by decide) _ _ _ ⟨rfl, by omega, by omega, by omega⟩
                  · skip
                    refine r_iconst (v := nI 1) X dX11_palms_108 (by decide) ?_
                    refine r_top _ (nI (itF q j 0)) (rfl) ?_
                    refine r_istore X dX11_palms_109 (Nat.le_of_ble_eq_true rfl) ?_
                    try dsimp only [List.set]
                    refine r_iconst (v := nI 0) X dX11_palms_111 (by decide) ?_
                    refine r_istore X dX11_palms_112 (Nat.le_of_ble_eq_true rfl) ?_
                    try dsimp only [List.set]
                    have hloop3 : ∀ (i9 : Nat), i9 ≤ m → Wg K E (0) (0) 114 [some (.ref M), some (.int (nI s)), some (.int (nI t)), some (.int (nI m)), some (.int (nI q)), some (.int (nI b)), some (.int (nI (N.2.1 (2 * s + t)))), some (.int (nI (abF q m (N.2.1 (2 * s + t)) (j)))), some (.int (nI (10 ^ m))), some (.int (nI j)), some (.int (nI (itF q j i9))), some (.int (nI i9))] [] (mG E g M u B) (n) := by
                      refine ind_up _ (m) (fun i9 hi9 ih => ?_)
                      refine r_iload X dX11_palms_114 rfl ?_
                      refine r_iload_n X dX11_palms_116 rfl ?_
                      refine r_icmp_geN X 152 dX11_palms_117 (by decide) (by omega) (by omega) (fun c_117 => ?_) (fun c_117 => ?_)
                      · skip
                        rw [show i9 = m by omega]
                        have hon := on_le m (by omega) j (by omega)
                        refine r_iload X dX11_palms_152 rfl ?_
                        refine r_iload X dX11_palms_154 rfl ?_
                        refine r_iload_n X dX11_palms_156 rfl ?_
                        refine r_iload X dX11_palms_157 rfl ?_
                        refine r_callS X rfl (c_X11_ones _ E _ n j (by omega)) tw_875 tw_876 tw_7 tw_877 rfl ⟨ok_X11_ones, ⟨Nat.le_of_ble_eq_true rfl, Nat.le_of_ble_eq_true rfl⟩, ⟨Nat.le_of_ble_eq_true rfl, Nat.le_of_ble_eq_true rfl⟩, Nat.le_of_ble_eq_true rfl⟩ dX11_palms_159 (kk_r (Wf := Wg K E _ _ _ _) ?_)
                        first | refine r_iaddN X dX11_palms_162 ?_ | refine r_iadd X _ dX11_palms_162 rfl ?_
                        refine r_icmp_leN X 171 dX11_palms_163 (by decide) (by omega) (by omega) (fun c_163 => ?_) (fun c_163 => ?_)
                        · skip
                          refine r_iconst (v := nI 0) X dX11_palms_171 (by decide) ?_
                          first | refine r_iaddN X dX11_palms_172 ?_ | refine r_iadd X _ dX11_palms_172 rfl ?_
                          refine r_top _ (nI (abF q m (N.2.1 (2 * s + t)) (j + 1))) (by show _ = nI (abF q m (N.2.1 (2 * s + t)) (j) + (if m + onF j 12 < (N.2.1 (2 * s + t)) then itF q j m else 0)); first | (rw [if_neg (by omega)]; done) | (rw [if_pos (by omega)])) ?_
                          refine r_istore X dX11_palms_173 (Nat.le_of_ble_eq_true rfl) ?_
                          try dsimp only [List.set]
                          first | refine r_iincN X dX11_palms_175 rfl ?_ | refine r_iinc X _ dX11_palms_175 rfl rfl ?_
                          try dsimp only [List.set]
                          refine r_goto X 100 dX11_palms_178 (by decide) ?_
                          exact ihO (by omega) _ _
                        · skip
                          refine r_iload X dX11_palms_166 rfl ?_
                          refine r_goto X 172 dX11_palms_168 (by decide) ?_
                          first | refine r_iaddN X dX11_palms_172 ?_ | refine r_iadd X _ dX11_palms_172 rfl ?_
                          refine r_top _ (nI (abF q m (N.2.1 (2 * s + t)) (j + 1))) (by show _ = nI (abF q m (N.2.1 (2 * s + t)) (j) + (if m + onF j 12 < (N.2.1 (2 * s + t)) then itF q j m else 0)); first | (rw [if_neg (by omega)]; done) | (rw [if_pos (by omega)])) ?_
                          refine r_istore X dX11_palms_173 (Nat.le_of_ble_eq_true rfl) ?_
                          try dsimp only [List.set]
                          first | refine r_iincN X dX11_palms_175 rfl ?_ | refine r_iinc X _ dX11_palms_175 rfl rfl ?_
                          try dsimp only [List.set]
                          refine r_goto X 100 dX11_palms_178 (by decide) ?_
                          exact ihO (by omega) _ _
                      · skip
                        refine r_iload X dX11_palms_120 rfl ?_
                        refine r_iload X dX11_palms_122 rfl ?_
                        refine r_iload X dX11_palms_124 rfl ?_
                        refine r_ishrN X dX11_palms_126 (by omega) (by omega) ?_
                        refine r_iconst (v := nI 1) X dX11_palms_127 (by decide) ?_
                        refine r_iand1N X dX11_palms_128 (Nat.lt_of_le_of_lt (Nat.div_le_self _ _) (by omega)) ?_
                        refine r_iconst (v := nI 1) X dX11_palms_129 (by decide) ?_
                        refine r_icmp_neN X 138 dX11_palms_130 (by decide) (by omega) (by omega) (fun c_130 => ?_) (fun c_130 => ?_)
                        · skip
                          refine r_bipush (v := nI 10) X dX11_palms_138 (by decide) ?_
                          refine r_iload X dX11_palms_140 rfl ?_
                          first | refine r_isubN X dX11_palms_142 (by omega) ?_ | refine r_isub X _ dX11_palms_142 rfl ?_
                          first | refine r_imulN X dX11_palms_143 ?_ | refine r_imul X _ dX11_palms_143 rfl ?_
                          refine r_top _ (nI (itF q j (i9 + 1))) (by show _ = nI (itF q j i9 * (if j / 2 ^ i9 % 2 = 1 then q else 10 - q)); first | (rw [if_pos c_130]; done) | (rw [if_neg c_130])) ?_
                          refine r_istore X dX11_palms_144 (Nat.le_of_ble_eq_true rfl) ?_
                          try dsimp only [List.set]
                          first | refine r_iincN X dX11_palms_146 rfl ?_ | refine r_iinc X _ dX11_palms_146 rfl rfl ?_
                          try dsimp only [List.set]
                          refine r_goto X 114 dX11_palms_149 (by decide) ?_
                          exact ih (by omega)
                        · skip
                          refine r_iload X dX11_palms_133 rfl ?_
                          refine r_goto X 143 dX11_palms_135 (by decide) ?_
                          first | refine r_imulN X dX11_palms_143 ?_ | refine r_imul X _ dX11_palms_143 rfl ?_
                          refine r_top _ (nI (itF q j (i9 + 1))) (by show _ = nI (itF q j i9 * (if j / 2 ^ i9 % 2 = 1 then q else 10 - q)); first | (rw [if_pos c_130]; done) | (rw [if_neg c_130])) ?_
                          refine r_istore X dX11_palms_144 (Nat.le_of_ble_eq_true rfl) ?_
                          try dsimp only [List.set]
                          first | refine r_iincN X dX11_palms_146 rfl ?_ | refine r_iinc X _ dX11_palms_146 rfl rfl ?_
                          try dsimp only [List.set]
                          refine r_goto X 114 dX11_palms_149 (by decide) ?_
                          exact ih (by omega)
                    exact hloop3 0 (Nat.zero_le _)
                exact hloop2 0 (Nat.zero_le _) _ _
              · skip
                refine r_iload X dX11_palms_84 rfl ?_
                refine r_bipush (v := nI 10) X dX11_palms_86 (by decide) ?_
                first | refine r_imulN X dX11_palms_88 ?_ | refine r_imul X _ dX11_palms_88 rfl ?_
                refine r_top _ (nI (10 ^ (k + 1))) (rfl) ?_
                refine r_istore X dX11_palms_89 (Nat.le_of_ble_eq_true rfl) ?_
                try dsimp only [List.set]
                first | refine r_iincN X dX11_palms_91 rfl ?_ | refine r_iinc X _ dX11_palms_91 rfl rfl ?_
                try dsimp only [List.set]
                refine r_goto X 78 dX11_palms_94 (by decide) ?_
                exact ih (by omega)
            exact hloop 0 (Nat.zero_le _)
          · skip
            refine r_bipush (v := (-3)) X dX11_palms_51 (by decide) ?_
            refine r_iret S dX11_palms_53 ?_
            exact ⟨by unfold palmsR; rw [if_pos ⟨c_5, c_14⟩, if_neg (by simp [*])], rfl, rfl⟩
    · skip
      refine r_bipush (v := (-2)) X dX11_palms_17 (by decide) ?_
      refine r_iret S dX11_palms_19 ?_
      exact ⟨by unfold palmsR; rw [if_neg (by simp [*])], rfl, rfl⟩

