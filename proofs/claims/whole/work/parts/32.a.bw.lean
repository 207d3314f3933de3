/-- x is one of 0 .. n less 1 -/
def inR (x : Int32) (n : Nat) : Bool := decide (0 ≤ x.toInt ∧ x.toInt < (n : Int))
def ix (x : Int32) : Nat := x.toNatClampNeg
theorem ix_nI {j : Nat} (h : j < 2 ^ 31) : ix (nI j) = j := nI_clamp h
theorem inR_ex {x : Int32} {n : Nat} (hn : n < 2 ^ 31) (h : inR x n = true) : ∃ j : Nat, j < n ∧ x = nI j := by
  have h1 := of_decide_eq_true h
  exact vp_in_of (vp_in_iff.mpr h1) hn
theorem inR_nI {j n : Nat} (h : j < n) (hn : n < 2 ^ 31) : inR (nI j) n = true := decide_eq_true (by rw [nI_toInt (by omega)]; omega)
theorem inR_lt {x : Int32} {n : Nat} (h : x < 0) : inR x n = false := decide_eq_false (by have := Int32.lt_iff_toInt_lt.mp h; simp at this; omega)
theorem inR_ge {x : Int32} {n : Nat} (hn : n < 2 ^ 31) (h : nI n ≤ x) : inR x n = false := decide_eq_false (by have := Int32.le_iff_toInt_le.mp h; rw [nI_toInt hn] at this; omega)
theorem inR_in {x : Int32} {n : Nat} (hn : n < 2 ^ 31) (h : ¬ x < 0) (h2 : ¬ nI n ≤ x) : inR x n = true := decide_eq_true (by
  have a : ¬ x.toInt < (0 : Int32).toInt := fun q => h (Int32.lt_iff_toInt_lt.mpr q)
  have b : ¬ (nI n).toInt ≤ x.toInt := fun q => h2 (Int32.le_iff_toInt_le.mpr q)
  rw [nI_toInt hn] at b
  rw [show (0 : Int32).toInt = 0 from rfl] at a
  omega)
theorem inR2_f {x : Int32} (h0 : ¬ x = 0) (h1 : ¬ x = nI 1) : inR x 2 = false := by
  cases hx : inR x 2 with
  | false => rfl
  | true =>
    obtain ⟨j, hj, rfl⟩ := inR_ex (by decide) hx
    rcases (show j = 0 ∨ j = 1 by omega) with rfl | rfl
    · exact absurd rfl h0
    · exact absurd rfl h1
def sayB (x : Int32) : Bool := inR x 8 && decide (¬ x = 0)
theorem sayB_ex {x : Int32} (h : sayB x = true) : ∃ j : Nat, 1 ≤ j ∧ j ≤ 7 ∧ x = nI j := by
  unfold sayB at h
  rw [Bool.and_eq_true] at h
  obtain ⟨j, hj, rfl⟩ := inR_ex (by decide) h.1
  have h2 := of_decide_eq_true h.2
  refine ⟨j, ?_, by omega, rfl⟩
  rcases Nat.eq_zero_or_pos j with e | e
  · subst e; exact absurd rfl h2
  · exact e
theorem sayB_nI {j : Nat} (h1 : 1 ≤ j) (h : j ≤ 7) : sayB (nI j) = true := by
  unfold sayB
  rw [inR_nI (by omega) (by decide), decide_eq_true (nI_ne0 (by omega) (by omega))]
  rfl
theorem sayB_lo {x : Int32} (h : x < nI 1) : sayB x = false := by
  unfold sayB
  by_cases e : x = 0
  · rw [decide_eq_false (by simp [e]), Bool.and_false]
  · rw [inR_lt]
    · rfl
    · have h1 := Int32.lt_iff_toInt_lt.mp h
      rw [show (nI 1).toInt = 1 from by decide] at h1
      have h2 : ¬ x.toInt = 0 := fun q => e (Int32.toInt_inj.mp (by rw [q]; rfl))
      exact Int32.lt_iff_toInt_lt.mpr (by show x.toInt < 0; omega)
theorem sayB_hi {x : Int32} (h : nI 7 < x) : sayB x = false := by
  unfold sayB
  rw [inR_ge (by decide)]
  · rfl
  · have h1 := Int32.lt_iff_toInt_lt.mp h
    rw [show (nI 7).toInt = 7 from by decide] at h1
    exact Int32.le_iff_toInt_le.mpr (by rw [show (nI 8).toInt = 8 from by decide]; omega)
theorem sayB_in {x : Int32} (h : ¬ x < nI 1) (h2 : ¬ nI 7 < x) : sayB x = true := by
  have a : ¬ x.toInt < (nI 1).toInt := fun q => h (Int32.lt_iff_toInt_lt.mpr q)
  have b : ¬ (nI 7).toInt < x.toInt := fun q => h2 (Int32.lt_iff_toInt_lt.mpr q)
  rw [show (nI 1).toInt = 1 from by decide] at a
  rw [show (nI 7).toInt = 7 from by decide] at b
  obtain ⟨j, hj, rfl⟩ : ∃ j : Nat, j < 8 ∧ x = nI j := vp_in_of (vp_in_iff.mpr ⟨by omega, by omega⟩) (by decide)
  rw [nI_toInt (by omega)] at a b
  exact sayB_nI (by omega) (by omega)
/-- people: where they lie, of which class, how warm -/
def pOk (g : hG) (X : Nat) (P : Nat → Option Nat) (pn : Nat) (pad cl wm : Nat → Nat) : Prop := ∀ i, i < pn → P i = some (pad i) ∧ cl i < 4 ∧ wm i < 1000 ∧ g (pad i) = some (oc (cl i) [.int (nI (wm i))]) ∧ X + 85 ≤ pad i
theorem pOk.c {g : hG} {X pn : Nat} {P : Nat → Option Nat} {pad cl wm : Nat → Nat} (h : pOk g X P pn pad cl wm) {i : Nat} (hi : i < pn) : cl i < 4 := (h i hi).2.1
theorem pOk.w {g : hG} {X pn : Nat} {P : Nat → Option Nat} {pad cl wm : Nat → Nat} (h : pOk g X P pn pad cl wm) {i : Nat} (hi : i < pn) : wm i < 1000 := (h i hi).2.2.1
theorem pOk.r {g : hG} {X pn : Nat} {P : Nat → Option Nat} {pad cl wm : Nat → Nat} (h : pOk g X P pn pad cl wm) {i : Nat} (hi : i < pn) : va_rf (P i) = .ref (pad i) := by rw [(h i hi).1]; rfl
theorem pOk.b {E : xE} {g : hG} {X pn : Nat} {P : Nat → Option Nat} {pad cl wm : Nat → Nat} (h : pOk g X P pn pad cl wm) {i : Nat} (hi : i < pn) {v : Nat → Nat} {F : Nat → Nat → Nat} {Q SP : Nat → Option Nat} {N : Mo} {Mp Kp : Nat → Mo} : bG E g X v F Q SP N Mp Kp (pad i) = some (oc (cl i) [.int (nI (wm i))]) := by rw [bout (by have := (h i hi).2.2.2.2; omega)]; exact (h i hi).2.2.2.1
def okK (c k : Nat) : Bool := k == 0 || (k == 1 && decide (c ≤ 2)) || (k == 2 && c == 0) || (k == 3 && c == 1) || (k == 4 && c == 3)

set_option maxHeartbeats 4000000 in
set_option maxRecDepth 100000 in
/-- BanisterWord.isStep  -/
theorem c_X10_isStep (l : Launch) (E : xE) (g : hG) (n : Nat) (Y : Nat) (v : Nat → Nat) (F : Nat → Nat → Nat) (P SP : Nat → Option Nat) (N : Mo) (Mp Kp : Nat → Mo) (x : Int32) (h0 : v 0 ≤ 12) : Ct l yX10_isStep cX10_isStep 2 (some .boolean) 0 0 0 0 E [.ref Y, .int x] (bG E g Y v F P SP N Mp Kp) n (zr (some (.int (bI (inR x (v 0))))) (bG E g Y v F P SP N Mp Kp) (n)) := by
  refine Ct.of (by decide +kernel) (Nat.le_of_ble_eq_true rfl) (fun v hv => by simp only [List.mem_cons, List.not_mem_nil, or_false] at hv; (try rcases hv with rfl | rfl) <;> first | rfl | (subst hv; rfl) | exact hv.elim) ?_
  intro K hKl S
  subst hKl
  have X := S.1
  refine r_iload_n X dX10_isStep_0 rfl ?_
  refine r_if_lt X 16 dX10_isStep_1 (by decide) (fun c_1 => ?_) (fun c_1 => ?_)
  · skip
    refine r_iconst (v := nI 0) X dX10_isStep_16 (by decide) ?_
    refine r_zret S dX10_isStep_17 (by first | rfl | exact bI_nar _) ?_
    exact ⟨by first | rw [inR_lt c_1]; rfl | rw [inR_ge (by omega) c_9]; rfl | rw [inR_in (by omega) c_1 c_9]; rfl, rfl, rfl⟩
  · skip
    refine r_iload_n X dX10_isStep_4 rfl ?_
    refine r_aload_n X dX10_isStep_5 rfl ?_
    refine r_get (ci := 9) X 9 _ ti_RX10 rfl (by decide) tw_148 (fun _ h => h) dX10_isStep_6 (by first | exact b0 | exact bnow.c0 | exact bnow.rl.1 | exact bnow.c4 | exact bta.1 | exact b4 | exact btold.1 | exact btrial.1 | exact bpast.c0 | exact bk | exact bz | exact bsi.c0 | assumption) rfl ?_
    refine r_icmp_ge X 16 dX10_isStep_9 (by decide) (fun c_9 => ?_) (fun c_9 => ?_)
    · skip
      refine r_iconst (v := nI 0) X dX10_isStep_16 (by decide) ?_
      refine r_zret S dX10_isStep_17 (by first | rfl | exact bI_nar _) ?_
      exact ⟨by first | rw [inR_lt c_1]; rfl | rw [inR_ge (by omega) c_9]; rfl | rw [inR_in (by omega) c_1 c_9]; rfl, rfl, rfl⟩
    · skip
      refine r_iconst (v := nI 1) X dX10_isStep_12 (by decide) ?_
      refine r_goto X 17 dX10_isStep_13 (by decide) ?_
      refine r_zret S dX10_isStep_17 (by first | rfl | exact bI_nar _) ?_
      exact ⟨by first | rw [inR_lt c_1]; rfl | rw [inR_ge (by omega) c_9]; rfl | rw [inR_in (by omega) c_1 c_9]; rfl, rfl, rfl⟩

set_option maxHeartbeats 4000000 in
set_option maxRecDepth 100000 in
/-- BanisterWord.isHeight  -/
theorem c_X10_isHeight (l : Launch) (E : xE) (g : hG) (n : Nat) (x : Int32)  : Ct l yX10_isHeight cX10_isHeight 1 (some .boolean) 0 0 0 0 E [.int x] (g) n (zr (some (.int (bI (inR x 2)))) (g) (n)) := by
  refine Ct.of (by decide +kernel) (Nat.le_of_ble_eq_true rfl) (fun v hv => by simp only [List.mem_cons, List.not_mem_nil, or_false] at hv; (try rcases hv with rfl) <;> first | rfl | (subst hv; rfl) | exact hv.elim) ?_
  intro K hKl S
  subst hKl
  have X := S.1
  refine r_iload_n X dX10_isHeight_0 rfl ?_
  refine r_if_eq X 9 dX10_isHeight_1 (by decide) (fun c_1 => ?_) (fun c_1 => ?_)
  · skip
    refine r_iconst (v := nI 1) X dX10_isHeight_9 (by decide) ?_
    refine r_goto X 14 dX10_isHeight_10 (by decide) ?_
    refine r_zret S dX10_isHeight_14 (by first | rfl | exact bI_nar _) ?_
    exact ⟨by first | (rw [c_1]; rfl) | (rw [c_6]; rfl) | (rw [inR2_f c_1 c_6]; rfl), rfl, rfl⟩
  · skip
    refine r_iload_n X dX10_isHeight_4 rfl ?_
    refine r_iconst (v := nI 1) X dX10_isHeight_5 (by decide) ?_
    refine r_icmp_ne X 13 dX10_isHeight_6 (by decide) (fun c_6 => ?_) (fun c_6 => ?_)
    · skip
      refine r_iconst (v := nI 0) X dX10_isHeight_13 (by decide) ?_
      refine r_zret S dX10_isHeight_14 (by first | rfl | exact bI_nar _) ?_
      exact ⟨by first | (rw [c_1]; rfl) | (rw [c_6]; rfl) | (rw [inR2_f c_1 c_6]; rfl), rfl, rfl⟩
    · skip
      refine r_iconst (v := nI 1) X dX10_isHeight_9 (by decide) ?_
      refine r_goto X 14 dX10_isHeight_10 (by decide) ?_
      refine r_zret S dX10_isHeight_14 (by first | rfl | exact bI_nar _) ?_
      exact ⟨by first | (rw [c_1]; rfl) | (rw [c_6]; rfl) | (rw [inR2_f c_1 c_6]; rfl), rfl, rfl⟩

set_option maxHeartbeats 4000000 in
set_option maxRecDepth 100000 in
/-- BanisterWord.isSaying  -/
theorem c_X10_isSaying (l : Launch) (E : xE) (g : hG) (n : Nat) (x : Int32)  : Ct l yX10_isSaying cX10_isSaying 1 (some .boolean) 0 0 0 0 E [.int x] (g) n (zr (some (.int (bI (sayB x)))) (g) (n)) := by
  refine Ct.of (by decide +kernel) (Nat.le_of_ble_eq_true rfl) (fun v hv => by simp only [List.mem_cons, List.not_mem_nil, or_false] at hv; (try rcases hv with rfl) <;> first | rfl | (subst hv; rfl) | exact hv.elim) ?_
  intro K hKl S
  subst hKl
  have X := S.1
  refine r_iload_n X dX10_isSaying_0 rfl ?_
  refine r_iconst (v := nI 1) X dX10_isSaying_1 (by decide) ?_
  refine r_icmp_lt X 15 dX10_isSaying_2 (by decide) (fun c_2 => ?_) (fun c_2 => ?_)
  · skip
    refine r_iconst (v := nI 0) X dX10_isSaying_15 (by decide) ?_
    refine r_zret S dX10_isSaying_16 (by first | rfl | exact bI_nar _) ?_
    exact ⟨by first | rw [sayB_lo c_2]; rfl | rw [sayB_hi c_8]; rfl | rw [sayB_in c_2 c_8]; rfl, rfl, rfl⟩
  · skip
    refine r_iload_n X dX10_isSaying_5 rfl ?_
    refine r_bipush (v := nI 7) X dX10_isSaying_6 (by decide) ?_
    refine r_icmp_gt X 15 dX10_isSaying_8 (by decide) (fun c_8 => ?_) (fun c_8 => ?_)
    · skip
      refine r_iconst (v := nI 0) X dX10_isSaying_15 (by decide) ?_
      refine r_zret S dX10_isSaying_16 (by first | rfl | exact bI_nar _) ?_
      exact ⟨by first | rw [sayB_lo c_2]; rfl | rw [sayB_hi c_8]; rfl | rw [sayB_in c_2 c_8]; rfl, rfl, rfl⟩
    · skip
      refine r_iconst (v := nI 1) X dX10_isSaying_11 (by decide) ?_
      refine r_goto X 16 dX10_isSaying_12 (by decide) ?_
      refine r_zret S dX10_isSaying_16 (by first | rfl | exact bI_nar _) ?_
      exact ⟨by first | rw [sayB_lo c_2]; rfl | rw [sayB_hi c_8]; rfl | rw [sayB_in c_2 c_8]; rfl, rfl, rfl⟩

set_option maxHeartbeats 4000000 in
set_option maxRecDepth 100000 in
/-- BanisterWord.isKeepingPlace  -/
theorem c_X10_isKeepingPlace (l : Launch) (E : xE) (g : hG) (n : Nat) (x : Int32)  : Ct l yX10_isKeepingPlace cX10_isKeepingPlace 1 (some .boolean) 0 0 0 0 E [.int x] (g) n (zr (some (.int (bI (inR x 2)))) (g) (n)) := by
  refine Ct.of (by decide +kernel) (Nat.le_of_ble_eq_true rfl) (fun v hv => by simp only [List.mem_cons, List.not_mem_nil, or_false] at hv; (try rcases hv with rfl) <;> first | rfl | (subst hv; rfl) | exact hv.elim) ?_
  intro K hKl S
  subst hKl
  have X := S.1
  refine r_iload_n X dX10_isKeepingPlace_0 rfl ?_
  refine r_if_lt X 13 dX10_isKeepingPlace_1 (by decide) (fun c_1 => ?_) (fun c_1 => ?_)
  · skip
    refine r_iconst (v := nI 0) X dX10_isKeepingPlace_13 (by decide) ?_
    refine r_zret S dX10_isKeepingPlace_14 (by first | rfl | exact bI_nar _) ?_
    exact ⟨by first | rw [inR_lt c_1]; rfl | rw [inR_ge (by decide) c_6]; rfl | rw [inR_in (by decide) c_1 c_6]; rfl, rfl, rfl⟩
  · skip
    refine r_iload_n X dX10_isKeepingPlace_4 rfl ?_
    refine r_iconst (v := nI 2) X dX10_isKeepingPlace_5 (by decide) ?_
    refine r_icmp_ge X 13 dX10_isKeepingPlace_6 (by decide) (fun c_6 => ?_) (fun c_6 => ?_)
    · skip
      refine r_iconst (v := nI 0) X dX10_isKeepingPlace_13 (by decide) ?_
      refine r_zret S dX10_isKeepingPlace_14 (by first | rfl | exact bI_nar _) ?_
      exact ⟨by first | rw [inR_lt c_1]; rfl | rw [inR_ge (by decide) c_6]; rfl | rw [inR_in (by decide) c_1 c_6]; rfl, rfl, rfl⟩
    · skip
      refine r_iconst (v := nI 1) X dX10_isKeepingPlace_9 (by decide) ?_
      refine r_goto X 14 dX10_isKeepingPlace_10 (by decide) ?_
      refine r_zret S dX10_isKeepingPlace_14 (by first | rfl | exact bI_nar _) ?_
      exact ⟨by first | rw [inR_lt c_1]; rfl | rw [inR_ge (by decide) c_6]; rfl | rw [inR_in (by decide) c_1 c_6]; rfl, rfl, rfl⟩

set_option maxHeartbeats 4000000 in
set_option maxRecDepth 100000 in
/-- BanisterWord.personAt  -/
theorem c_X10_personAt_f (l : Launch) (E : xE) (g : hG) (n : Nat) (Y : Nat) (v : Nat → Nat) (F : Nat → Nat → Nat) (P SP : Nat → Option Nat) (N : Mo) (Mp Kp : Nat → Mo) (x : Int32) (hx : inR x (v 1) = false) (h1 : v 1 ≤ 6) : Ct l yX10_personAt cX10_personAt 2 (some (.object "BanisterWord$Person")) 0 0 0 0 E [.ref Y, .int x] (bG E g Y v F P SP N Mp Kp) n (zr (some .null) (bG E g Y v F P SP N Mp Kp) (n)) := by
  refine Ct.of (by decide +kernel) (Nat.le_of_ble_eq_true rfl) (fun v hv => by simp only [List.mem_cons, List.not_mem_nil, or_false] at hv; (try rcases hv with rfl | rfl) <;> first | rfl | (subst hv; rfl) | exact hv.elim) ?_
  intro K hKl S
  subst hKl
  have X := S.1
  refine r_iload_n X dX10_personAt_0 rfl ?_
  refine r_if_lt X 21 dX10_personAt_1 (by decide) (fun c_1 => ?_) (fun c_1 => ?_)
  · skip
    refine r_null X dX10_personAt_21 ?_
    refine r_aret S dX10_personAt_22 (Or.inl rfl) ?_
    exact ⟨rfl, rfl, rfl⟩
  · skip
    refine r_iload_n X dX10_personAt_4 rfl ?_
    refine r_aload_n X dX10_personAt_5 rfl ?_
    refine r_get (ci := 9) X 10 _ ti_RX10 rfl (by decide) tw_149 (fun _ h => h) dX10_personAt_6 (by first | exact b0 | exact bnow.c0 | exact bnow.rl.1 | exact bnow.c4 | exact bta.1 | exact b4 | exact btold.1 | exact btrial.1 | exact bpast.c0 | exact bk | exact bz | exact bsi.c0 | assumption) rfl ?_
    refine r_icmp_ge X 21 dX10_personAt_9 (by decide) (fun c_9 => ?_) (fun c_9 => ?_)
    rotate_left
    · exact absurd (inR_in (by omega) c_1 c_9) (by rw [hx]; decide)
    refine r_null X dX10_personAt_21 ?_
    refine r_aret S dX10_personAt_22 (Or.inl rfl) ?_
    exact ⟨rfl, rfl, rfl⟩

set_option maxHeartbeats 4000000 in
set_option maxRecDepth 100000 in
/-- BanisterWord.personAt  -/
theorem c_X10_personAt_t (l : Launch) (E : xE) (g : hG) (n : Nat) (Y : Nat) (v : Nat → Nat) (F : Nat → Nat → Nat) (P SP : Nat → Option Nat) (N : Mo) (Mp Kp : Nat → Mo) (pad cl wm : Nat → Nat) (i : Nat) (hP : pOk g Y P (v 1) pad cl wm) (hi : i < v 1) (h1 : v 1 ≤ 6) : Ct l yX10_personAt cX10_personAt 2 (some (.object "BanisterWord$Person")) 0 0 0 0 E [.ref Y, .int (nI i)] (bG E g Y v F P SP N Mp Kp) n (zr (some (.ref (pad i))) (bG E g Y v F P SP N Mp Kp) (n)) := by
  refine Ct.of (by decide +kernel) (Nat.le_of_ble_eq_true rfl) (fun v hv => by simp only [List.mem_cons, List.not_mem_nil, or_false] at hv; (try rcases hv with rfl | rfl) <;> first | rfl | (subst hv; rfl) | exact hv.elim) ?_
  intro K hKl S
  subst hKl
  have X := S.1
  refine r_iload_n X dX10_personAt_0 rfl ?_
  refine r_if_ltN X 21 dX10_personAt_1 (by decide) (by omega) ?_
  refine r_iload_n X dX10_personAt_4 rfl ?_
  refine r_aload_n X dX10_personAt_5 rfl ?_
  refine r_get (ci := 9) X 10 _ ti_RX10 rfl (by decide) tw_149 (fun _ h => h) dX10_personAt_6 (by first | exact b0 | exact bnow.c0 | exact bnow.rl.1 | exact bnow.c4 | exact bta.1 | exact b4 | exact btold.1 | exact btrial.1 | exact bpast.c0 | exact bk | exact bz | exact bsi.c0 | assumption) rfl ?_
  refine r_icmp_geN X 21 dX10_personAt_9 (by decide) (by omega) (by omega) (fun c_9 => ?_) (fun c_9 => ?_)
  · exact absurd c_9 (by omega)
  refine r_aload_n X dX10_personAt_12 rfl ?_
  refine r_get (ci := 9) X 1 _ ti_RX10 rfl (by decide) tw_140 (fun _ h => h) dX10_personAt_13 (by first | exact b0 | exact bnow.c0 | exact bnow.rl.1 | exact bnow.c4 | exact bta.1 | exact b4 | exact btold.1 | exact btrial.1 | exact bpast.c0 | exact bk | exact bz | exact bsi.c0 | assumption) rfl ?_
  refine r_iload_n X dX10_personAt_16 rfl ?_
  refine r_aald (k := 3) X _ (.ref (pad i)) dX10_personAt_17 rfl (by first | exact b0 | exact bnow.c0 | exact bnow.rl.1 | exact bnow.c4 | exact bta.1 | exact b4 | exact btold.1 | exact btrial.1 | exact bpast.c0 | exact bk | exact bz | exact bsi.c0 | assumption) (rfl) (by omega) (by decide) (hP.r hi) ?_
  refine r_goto X 22 dX10_personAt_18 (by decide) ?_
  refine r_aret S dX10_personAt_22 (Or.inr ⟨_, rfl⟩) ?_
  exact ⟨rfl, rfl, rfl⟩

set_option maxHeartbeats 4000000 in
set_option maxRecDepth 100000 in
/-- BanisterWord.sayingOrNone  -/
theorem c_X10_sayingOrNone (l : Launch) (E : xE) (g : hG) (n : Nat) (Y : Nat) (v : Nat → Nat) (F : Nat → Nat → Nat) (P SP : Nat → Option Nat) (N : Mo) (Mp Kp : Nat → Mo) (s t : Nat) (hs : s * 2 + t < 24) (hN : ∀ j, N.1 j ≤ 7) : Ct l yX10_sayingOrNone cX10_sayingOrNone 4 (some .int) 2 43 0 0 E [.ref Y, .int (nI s), .int (nI t)] (bG E g Y v F P SP N Mp Kp) n (zr (some (.int (if N.1 (s * 2 + t) = 0 then -1 else nI (N.1 (s * 2 + t))))) (bG E g Y v F P SP N Mp Kp) (n)) := by
  refine Ct.of (by decide +kernel) (Nat.le_of_ble_eq_true rfl) (fun v hv => by simp only [List.mem_cons, List.not_mem_nil, or_false] at hv; (try rcases hv with rfl | rfl | rfl) <;> first | rfl | (subst hv; rfl) | exact hv.elim) ?_
  intro K hKl S
  subst hKl
  have X := S.1
  have hNj := hN (s * 2 + t)
  refine r_aload_n X dX10_sayingOrNone_0 rfl ?_
  refine r_get (ci := 9) X 4 _ ti_RX10 rfl (by decide) tw_143 (fun _ h => h) dX10_sayingOrNone_1 (by first | exact b0 | exact bnow.c0 | exact bnow.rl.1 | exact bnow.c4 | exact bta.1 | exact b4 | exact btold.1 | exact btrial.1 | exact bpast.c0 | exact bk | exact bz | exact bsi.c0 | assumption) rfl ?_
  refine r_get (ci := 4) X 0 _ ti_RX4 rfl (by decide) tw_82 (fun _ h => h) dX10_sayingOrNone_4 (by first | exact b0 | exact bnow.c0 | exact bnow.rl.1 | exact bnow.c4 | exact bta.1 | exact b4 | exact btold.1 | exact btrial.1 | exact bpast.c0 | exact bk | exact bz | exact bsi.c0 | assumption) rfl ?_
  refine r_iload_n X dX10_sayingOrNone_7 rfl ?_
  refine r_iload_n X dX10_sayingOrNone_8 rfl ?_
  refine r_callV (ci := 6) X rfl (c_X7_sayingAt _ E _ n (Y + 11 + 1) N.1 N.2.1 s t bnow.rl hs) tw_424 tw_425 tw_426 tw_3 tw_427 rfl rfl (by first | exact b0 | exact bnow.c0 | exact bnow.rl.1 | exact bnow.c4 | exact bta.1 | exact b4 | exact btold.1 | exact btrial.1 | exact bpast.c0 | exact bk | exact bz | exact bsi.c0 | assumption) rfl ⟨ok_X7_sayingAt, ⟨Nat.le_of_ble_eq_true rfl, Nat.le_of_ble_eq_true rfl⟩, ⟨Nat.le_of_ble_eq_true rfl, Nat.le_of_ble_eq_true rfl⟩, Nat.le_of_ble_eq_true rfl⟩ dX10_sayingOrNone_9 (kk_r (Wf := Wg K E _ _ _ _) ?_)
  refine r_istore_n X dX10_sayingOrNone_12 (Nat.le_of_ble_eq_true rfl) ?_
  try dsimp only [List.set]
  refine r_iload_n X dX10_sayingOrNone_13 rfl ?_
  refine r_if_neN X 21 dX10_sayingOrNone_14 (by decide) (by omega) (fun c_14 => ?_) (fun c_14 => ?_)
  · skip
    refine r_iload_n X dX10_sayingOrNone_21 rfl ?_
    refine r_iret S dX10_sayingOrNone_22 ?_
    exact ⟨by first | rw [if_pos c_14] | rw [if_neg (Nat.ne_of_gt c_14)], rfl, rfl⟩
  · skip
    refine r_iconst (v := (-1)) X dX10_sayingOrNone_17 (by decide) ?_
    refine r_goto X 22 dX10_sayingOrNone_18 (by decide) ?_
    refine r_iret S dX10_sayingOrNone_22 ?_
    exact ⟨by first | rw [if_pos c_14] | rw [if_neg (Nat.ne_of_gt c_14)], rfl, rfl⟩

set_option maxHeartbeats 4000000 in
set_option maxRecDepth 100000 in
/-- BanisterWord.isOfKind  -/
theorem c_X10_isOfKind (l : Launch) (E : xE) (g : hG) (n : Nat) (p c w k : Nat) (hc : c < 4) (hk : k < 5) (hp : g p = some (oc c [.int (nI w)])) : Ct l yX10_isOfKind cX10_isOfKind 2 (some .boolean) 0 0 0 0 E [.ref p, .int (nI k)] (g) n (zr (some (.int (bI (okK c k)))) (g) (n)) := by
  refine Ct.of (by decide +kernel) (Nat.le_of_ble_eq_true rfl) (fun v hv => by simp only [List.mem_cons, List.not_mem_nil, or_false] at hv; (try rcases hv with rfl | rfl) <;> first | rfl | (subst hv; rfl) | exact hv.elim) ?_
  intro K hKl S
  subst hKl
  have X := S.1
  refine r_iload_n X dX10_isOfKind_0 rfl ?_
  rcases (show k = 0 ∨ k = 1 ∨ k = 2 ∨ k = 3 ∨ k = 4 by omega) with rfl | rfl | rfl | rfl | rfl
  · refine r_tableIn (off := 31) X 32 dX10_isOfKind_1 (by decide) (by decide) rfl (by decide) ?_
    refine r_iconst (v := nI 1) X dX10_isOfKind_32 (by decide) ?_
    refine r_zret S dX10_isOfKind_33 (by decide) ?_
    exact ⟨rfl, rfl, rfl⟩
  · refine r_tableIn (off := 33) X 34 dX10_isOfKind_1 (by decide) (by decide) rfl (by decide) ?_
    refine r_aload_n X dX10_isOfKind_34 rfl ?_
    rcases (show c = 0 ∨ c = 1 ∨ c = 2 ∨ c = 3 by omega) with rfl | rfl | rfl | rfl
    · refine r_instY (ci := 0) X tw_327 X.2.1.2.1.CChildGuest rfl hp dX10_isOfKind_35 ?_
      refine r_zret S dX10_isOfKind_38 (by decide) ?_
      exact ⟨rfl, rfl, rfl⟩
    · refine r_instY (ci := 1) X tw_327 X.2.1.2.1.CGlovedGuest rfl hp dX10_isOfKind_35 ?_
      refine r_zret S dX10_isOfKind_38 (by decide) ?_
      exact ⟨rfl, rfl, rfl⟩
    · refine r_instS (ci := 2) X tw_327 rfl hp dX10_isOfKind_35 ?_
      refine r_zret S dX10_isOfKind_38 (by decide) ?_
      exact ⟨rfl, rfl, rfl⟩
    · refine r_instN (ci := 3) X tw_327 X.2.1.2.1.FMaidGuest rfl hp dX10_isOfKind_35 ?_
      refine r_zret S dX10_isOfKind_38 (by decide) ?_
      exact ⟨rfl, rfl, rfl⟩
  · refine r_tableIn (off := 38) X 39 dX10_isOfKind_1 (by decide) (by decide) rfl (by decide) ?_
    refine r_aload_n X dX10_isOfKind_39 rfl ?_
    rcases (show c = 0 ∨ c = 1 ∨ c = 2 ∨ c = 3 by omega) with rfl | rfl | rfl | rfl
    · refine r_instS (ci := 0) X tw_347 rfl hp dX10_isOfKind_40 ?_
      refine r_zret S dX10_isOfKind_43 (by decide) ?_
      exact ⟨rfl, rfl, rfl⟩
    · refine r_instN (ci := 1) X tw_347 X.2.1.2.1.FGlovedChild rfl hp dX10_isOfKind_40 ?_
      refine r_zret S dX10_isOfKind_43 (by decide) ?_
      exact ⟨rfl, rfl, rfl⟩
    · refine r_instN (ci := 2) X tw_347 X.2.1.2.1.FGuestChild rfl hp dX10_isOfKind_40 ?_
      refine r_zret S dX10_isOfKind_43 (by decide) ?_
      exact ⟨rfl, rfl, rfl⟩
    · refine r_instN (ci := 3) X tw_347 X.2.1.2.1.FMaidChild rfl hp dX10_isOfKind_40 ?_
      refine r_zret S dX10_isOfKind_43 (by decide) ?_
      exact ⟨rfl, rfl, rfl⟩
  · refine r_tableIn (off := 43) X 44 dX10_isOfKind_1 (by decide) (by decide) rfl (by decide) ?_
    refine r_aload_n X dX10_isOfKind_44 rfl ?_
    rcases (show c = 0 ∨ c = 1 ∨ c = 2 ∨ c = 3 by omega) with rfl | rfl | rfl | rfl
    · refine r_instN (ci := 0) X tw_355 X.2.1.2.1.FChildGloved rfl hp dX10_isOfKind_45 ?_
      refine r_zret S dX10_isOfKind_48 (by decide) ?_
      exact ⟨rfl, rfl, rfl⟩
    · refine r_instS (ci := 1) X tw_355 rfl hp dX10_isOfKind_45 ?_
      refine r_zret S dX10_isOfKind_48 (by decide) ?_
      exact ⟨rfl, rfl, rfl⟩
    · refine r_instN (ci := 2) X tw_355 X.2.1.2.1.FGuestGloved rfl hp dX10_isOfKind_45 ?_
      refine r_zret S dX10_isOfKind_48 (by decide) ?_
      exact ⟨rfl, rfl, rfl⟩
    · refine r_instN (ci := 3) X tw_355 X.2.1.2.1.FMaidGloved rfl hp dX10_isOfKind_45 ?_
      refine r_zret S dX10_isOfKind_48 (by decide) ?_
      exact ⟨rfl, rfl, rfl⟩
  · refine r_tableOut X 49 dX10_isOfKind_1 (by decide) (by decide) ?_
    refine r_aload_n X dX10_isOfKind_49 rfl ?_
    rcases (show c = 0 ∨ c = 1 ∨ c = 2 ∨ c = 3 by omega) with rfl | rfl | rfl | rfl
    · refine r_instN (ci := 0) X tw_363 X.2.1.2.1.FChildMaid rfl hp dX10_isOfKind_50 ?_
      refine r_zret S dX10_isOfKind_53 (by decide) ?_
      exact ⟨rfl, rfl, rfl⟩
    · refine r_instN (ci := 1) X tw_363 X.2.1.2.1.FGlovedMaid rfl hp dX10_isOfKind_50 ?_
      refine r_zret S dX10_isOfKind_53 (by decide) ?_
      exact ⟨rfl, rfl, rfl⟩
    · refine r_instN (ci := 2) X tw_363 X.2.1.2.1.FGuestMaid rfl hp dX10_isOfKind_50 ?_
      refine r_zret S dX10_isOfKind_53 (by decide) ?_
      exact ⟨rfl, rfl, rfl⟩
    · refine r_instS (ci := 3) X tw_363 rfl hp dX10_isOfKind_50 ?_
      refine r_zret S dX10_isOfKind_53 (by decide) ?_
      exact ⟨rfl, rfl, rfl⟩

