theorem take1 {f h : Nat → Nat} {j q t : Nat} (a : f j = 0 ∨ f j = t) : takeF f h j q t = va_up f j (if min 99 (h j + q) = 0 then 0 else t) ∧ takeH f h j q t = va_up h j (min 99 (h j + q)) := ⟨if_pos a, if_pos a⟩
theorem take2 {f h : Nat → Nat} {j q t : Nat} (a : ¬ (f j = 0 ∨ f j = t)) (b : h j < q) : takeF f h j q t = va_up f j (if q - h j = 0 then 0 else t) ∧ takeH f h j q t = va_up h j (q - h j) := ⟨(if_neg a).trans (if_pos b), (if_neg a).trans (if_pos b)⟩
theorem take3 {f h : Nat → Nat} {j q t : Nat} (a : ¬ (f j = 0 ∨ f j = t)) (b : ¬ h j < q) : takeF f h j q t = va_up f j (if h j - q = 0 then 0 else f j) ∧ takeH f h j q t = va_up h j (h j - q) := ⟨(if_neg a).trans (if_neg b), (if_neg a).trans (if_neg b)⟩
theorem ra.p1 {E : xE} {g : hG} {r : Nat} {f h : Nat → Nat} (a : ra E g r f h) {p c : Nat} {fs : List Value} (hp : g p = some (oc c fs)) : p ≠ r + 1 := fun e => by
  subst e
  have := a.2.1.symm.trans hp
  simp [nc, ic, oc] at this
theorem ra.p2 {E : xE} {g : hG} {r : Nat} {f h : Nat → Nat} (a : ra E g r f h) {p c : Nat} {fs : List Value} (hp : g p = some (oc c fs)) : p ≠ r + 2 := fun e => by
  subst e
  have := a.2.2.symm.trans hp
  simp [nc, ic, oc] at this
theorem handN_le (c : Nat) : handN c ≤ 1 := by unfold handN; split <;> omega
theorem firmN_le (c w : Nat) : firmN c w ≤ 2 * w := by
  unfold firmN
  repeat' split
  all_goals omega
/-- what one hears on the way to step k less 1 -/
def hearN (c : Nat) (f : Nat → Nat) (k : Nat) : Nat := if feelsB c = true then hbF f (handN c) k else 0
def upQ (c k : Nat) : Nat → Bool := fun j => feelsB c && decide (j % 2 = handN c ∧ j / 2 < k)
theorem upQ_0 (c : Nat) (j : Nat) : upQ c 0 j = false := by simp [upQ]
theorem upQ_f {c : Nat} (h : feelsB c = false) (k j : Nat) : upQ c k j = false := by simp [upQ, h]
theorem upQ_a {c : Nat} (k : Nat) : upQ c k (k * 2 + handN c) = false := by
  have := handN_le c
  simp only [upQ, Bool.and_eq_false_iff, decide_eq_false_iff_not]
  right; omega
theorem upQ_b {c : Nat} (h : feelsB c = true) (k : Nat) : upQ c (k + 1) (k * 2 + handN c) = true := by
  have := handN_le c
  simp only [upQ, h, Bool.true_and, decide_eq_true_eq]
  omega
theorem upQ_c {c : Nat} (k j : Nat) (hj : j ≠ k * 2 + handN c) : upQ c (k + 1) j = upQ c k j := by
  have := handN_le c
  simp only [upQ]
  congr 1
  rw [decide_eq_decide]
  constructor <;> intro h9 <;> omega
theorem rubH_le {p : Nat → Bool} {h : Nat → Nat} (hh : ∀ j, h j ≤ 99) (j : Nat) : rubH p h j ≤ 99 := by have := hh j; unfold rubH; split <;> omega
theorem rubF_le {p : Nat → Bool} {f h : Nat → Nat} (hf : ∀ j, f j ≤ 7) (j : Nat) : rubF p f h j ≤ 7 := by
  have := hf j
  unfold rubF
  repeat' split
  all_goals omega
theorem sumF_le {h : Nat → Nat} (hh : ∀ j, h j ≤ 99) : ∀ k, sumF h k ≤ 99 * k
  | 0 => by simp [sumF]
  | k + 1 => by have h1 := sumF_le hh k; have h2 := hh k; unfold sumF; omega

set_option maxHeartbeats 4000000 in
set_option maxRecDepth 100000 in
/-- BanisterWord.Rails.takeSaying  -/
theorem c_X7_takeSaying (l : Launch) (E : xE) (g : hG) (n : Nat) (r p c w s t : Nat) (f h : Nat → Nat) (hr : ra E g r f h) (hc : c < 4) (hw : w < 1000) (hp : g p = some (oc c [.int (nI w)])) (hf : ∀ j, f j ≤ 7) (hh : ∀ j, h j ≤ 99) (hs : s < 12) (ht : t < 1000) : Ct l yX7_takeSaying cX7_takeSaying 6 none 1 48 0 0 E [.ref r, .ref p, .int (nI s), .int (nI t)] (g) n (zr (none) (rR E g r (takeF f h (s * 2 + handN c) (firmN c w) t) (takeH f h (s * 2 + handN c) (firmN c w) t)) (n)) := by
  refine Ct.of (by decide +kernel) (Nat.le_of_ble_eq_true rfl) (fun v hv => by simp only [List.mem_cons, List.not_mem_nil, or_false] at hv; (try rcases hv with rfl | rfl | rfl | rfl) <;> first | rfl | (subst hv; rfl) | exact hv.elim) ?_
  intro K hKl S
  subst hKl
  have X := S.1
  obtain ⟨hr0, hr1, hr2⟩ := id hr
  have hhd := handN_le c
  have hfq := firmN_le c w
  have hfj := hf (s * 2 + handN c)
  have hhj := hh (s * 2 + handN c)
  refine r_iload_n X dX7_takeSaying_0 rfl ?_
  refine r_aload_n X dX7_takeSaying_1 rfl ?_
  refine vc_RX7_handHeight X rfl hc hw hp ⟨Nat.le_of_ble_eq_true rfl, Nat.le_of_ble_eq_true rfl⟩ ⟨⟨Nat.le_of_ble_eq_true rfl, Nat.le_of_ble_eq_true rfl⟩, Nat.le_of_ble_eq_true rfl⟩ dX7_takeSaying_2 ?_
  refine r_callS X rfl (c_X7_cell _ E g n s (handN c)) tw_317 tw_318 tw_3 tw_319 rfl ⟨ok_X7_cell, ⟨Nat.le_of_ble_eq_true rfl, Nat.le_of_ble_eq_true rfl⟩, ⟨Nat.le_of_ble_eq_true rfl, Nat.le_of_ble_eq_true rfl⟩, Nat.le_of_ble_eq_true rfl⟩ dX7_takeSaying_5 (kk_r (Wf := Wg K E _ _ _ _) ?_)
  refine r_istore X dX7_takeSaying_8 (Nat.le_of_ble_eq_true rfl) ?_
  try dsimp only [List.set]
  refine r_aload_n X dX7_takeSaying_10 rfl ?_
  refine vc_RX7_firmness X rfl hc hw hp ⟨Nat.le_of_ble_eq_true rfl, Nat.le_of_ble_eq_true rfl⟩ ⟨⟨Nat.le_of_ble_eq_true rfl, Nat.le_of_ble_eq_true rfl⟩, Nat.le_of_ble_eq_true rfl⟩ dX7_takeSaying_11 ?_
  refine r_istore X dX7_takeSaying_14 (Nat.le_of_ble_eq_true rfl) ?_
  try dsimp only [List.set]
  refine r_aload_n X dX7_takeSaying_16 rfl ?_
  refine r_get (ci := 6) X 0 _ ti_RX7 rfl (by decide) tw_66 (fun _ h => h) dX7_takeSaying_17 (by first | assumption | exact hu_eq _ _ _ | (rw [hu_ne _ _ (by omega)]; first | assumption | exact hu_eq _ _ _) | (rw [hu_ne _ _ (by omega), hu_ne _ _ (by omega)]; first | assumption | exact hu_eq _ _ _)) rfl ?_
  refine r_iload X dX7_takeSaying_20 rfl ?_
  refine r_nald X _ dX7_takeSaying_22 (by first | assumption | exact hu_eq _ _ _ | (rw [hu_ne _ _ (by omega)]; first | assumption | exact hu_eq _ _ _) | (rw [hu_ne _ _ (by omega), hu_ne _ _ (by omega)]; first | assumption | exact hu_eq _ _ _)) (rfl) (by omega) (by decide) ?_
  refine r_if_eqN X 37 dX7_takeSaying_23 (by decide) (by omega) (fun c_23 => ?_) (fun c_23 => ?_)
  · skip
    refine r_aload_n X dX7_takeSaying_37 rfl ?_
    refine r_iload X dX7_takeSaying_38 rfl ?_
    refine r_iload_n X dX7_takeSaying_40 rfl ?_
    refine r_bipush (v := nI 99) X dX7_takeSaying_41 (by decide) ?_
    refine r_aload_n X dX7_takeSaying_43 rfl ?_
    refine r_get (ci := 6) X 1 _ ti_RX7 rfl (by decide) tw_67 (fun _ h => h) dX7_takeSaying_44 (by first | assumption | exact hu_eq _ _ _ | (rw [hu_ne _ _ (by omega)]; first | assumption | exact hu_eq _ _ _) | (rw [hu_ne _ _ (by omega), hu_ne _ _ (by omega)]; first | assumption | exact hu_eq _ _ _)) rfl ?_
    refine r_iload X dX7_takeSaying_47 rfl ?_
    refine r_nald X _ dX7_takeSaying_49 (by first | assumption | exact hu_eq _ _ _ | (rw [hu_ne _ _ (by omega)]; first | assumption | exact hu_eq _ _ _) | (rw [hu_ne _ _ (by omega), hu_ne _ _ (by omega)]; first | assumption | exact hu_eq _ _ _)) (rfl) (by omega) (by decide) ?_
    refine r_iload X dX7_takeSaying_50 rfl ?_
    first | refine r_iaddN X dX7_takeSaying_52 ?_ | refine r_iadd X _ dX7_takeSaying_52 rfl ?_
    refine r_min X rfl tw_488 tw_471 tw_18 tw_472 (Nat.le_of_ble_eq_true rfl) (Nat.le_of_ble_eq_true rfl) (Nat.le_of_ble_eq_true rfl) (Nat.le_of_ble_eq_true rfl) dX7_takeSaying_53 ?_
    refine r_top _ _ (nI_min (by omega) (by omega)) ?_
    refine r_callV (ci := 6) X rfl (c_X7_set _ E g n r f h (s * 2 + handN c) t (min 99 (h (s * 2 + handN c) + (firmN c w))) hr (by omega) (by omega)) tw_309 tw_311 tp_8 tw_3 tw_312 rfl rfl (by first | assumption | exact hu_eq _ _ _ | (rw [hu_ne _ _ (by omega)]; first | assumption | exact hu_eq _ _ _) | (rw [hu_ne _ _ (by omega), hu_ne _ _ (by omega)]; first | assumption | exact hu_eq _ _ _)) rfl ⟨ok_X7_set, ⟨Nat.le_of_ble_eq_true rfl, Nat.le_of_ble_eq_true rfl⟩, ⟨Nat.le_of_ble_eq_true rfl, Nat.le_of_ble_eq_true rfl⟩, Nat.le_of_ble_eq_true rfl⟩ dX7_takeSaying_56 (kk_v (Wf := Wg K E _ _ _ _) ?_)
    refine r_goto X 117 dX7_takeSaying_59 (by decide) ?_
    refine r_vret S dX7_takeSaying_117 ?_
    refine ⟨rfl, ?_, rfl⟩
    first | rw [(take1 (Or.inl c_23)).1, (take1 (Or.inl c_23)).2] | rw [(take1 (Or.inr c_34)).1, (take1 (Or.inr c_34)).2] | rw [(take2 (by omega) c_71).1, (take2 (by omega) c_71).2] | rw [(take3 (by omega) (by omega)).1, (take3 (by omega) (by omega)).2]
  · skip
    refine r_aload_n X dX7_takeSaying_26 rfl ?_
    refine r_get (ci := 6) X 0 _ ti_RX7 rfl (by decide) tw_66 (fun _ h => h) dX7_takeSaying_27 (by first | assumption | exact hu_eq _ _ _ | (rw [hu_ne _ _ (by omega)]; first | assumption | exact hu_eq _ _ _) | (rw [hu_ne _ _ (by omega), hu_ne _ _ (by omega)]; first | assumption | exact hu_eq _ _ _)) rfl ?_
    refine r_iload X dX7_takeSaying_30 rfl ?_
    refine r_nald X _ dX7_takeSaying_32 (by first | assumption | exact hu_eq _ _ _ | (rw [hu_ne _ _ (by omega)]; first | assumption | exact hu_eq _ _ _) | (rw [hu_ne _ _ (by omega), hu_ne _ _ (by omega)]; first | assumption | exact hu_eq _ _ _)) (rfl) (by omega) (by decide) ?_
    refine r_iload_n X dX7_takeSaying_33 rfl ?_
    refine r_icmp_neN X 62 dX7_takeSaying_34 (by decide) (by omega) (by omega) (fun c_34 => ?_) (fun c_34 => ?_)
    · skip
      refine r_aload_n X dX7_takeSaying_62 rfl ?_
      refine r_get (ci := 6) X 1 _ ti_RX7 rfl (by decide) tw_67 (fun _ h => h) dX7_takeSaying_63 (by first | assumption | exact hu_eq _ _ _ | (rw [hu_ne _ _ (by omega)]; first | assumption | exact hu_eq _ _ _) | (rw [hu_ne _ _ (by omega), hu_ne _ _ (by omega)]; first | assumption | exact hu_eq _ _ _)) rfl ?_
      refine r_iload X dX7_takeSaying_66 rfl ?_
      refine r_nald X _ dX7_takeSaying_68 (by first | assumption | exact hu_eq _ _ _ | (rw [hu_ne _ _ (by omega)]; first | assumption | exact hu_eq _ _ _) | (rw [hu_ne _ _ (by omega), hu_ne _ _ (by omega)]; first | assumption | exact hu_eq _ _ _)) (rfl) (by omega) (by decide) ?_
      refine r_iload X dX7_takeSaying_69 rfl ?_
      refine r_icmp_ltN X 100 dX7_takeSaying_71 (by decide) (by omega) (by omega) (fun c_71 => ?_) (fun c_71 => ?_)
      · skip
        refine r_aload_n X dX7_takeSaying_100 rfl ?_
        refine r_iload X dX7_takeSaying_101 rfl ?_
        refine r_iload_n X dX7_takeSaying_103 rfl ?_
        refine r_iload X dX7_takeSaying_104 rfl ?_
        refine r_aload_n X dX7_takeSaying_106 rfl ?_
        refine r_get (ci := 6) X 1 _ ti_RX7 rfl (by decide) tw_67 (fun _ h => h) dX7_takeSaying_107 (by first | assumption | exact hu_eq _ _ _ | (rw [hu_ne _ _ (by omega)]; first | assumption | exact hu_eq _ _ _) | (rw [hu_ne _ _ (by omega), hu_ne _ _ (by omega)]; first | assumption | exact hu_eq _ _ _)) rfl ?_
        refine r_iload X dX7_takeSaying_110 rfl ?_
        refine r_nald X _ dX7_takeSaying_112 (by first | assumption | exact hu_eq _ _ _ | (rw [hu_ne _ _ (by omega)]; first | assumption | exact hu_eq _ _ _) | (rw [hu_ne _ _ (by omega), hu_ne _ _ (by omega)]; first | assumption | exact hu_eq _ _ _)) (rfl) (by omega) (by decide) ?_
        first | refine r_isubN X dX7_takeSaying_113 (by omega) ?_ | refine r_isub X _ dX7_takeSaying_113 rfl ?_
        refine r_callV (ci := 6) X rfl (c_X7_set _ E g n r f h (s * 2 + handN c) t ((firmN c w) - h (s * 2 + handN c)) hr (by omega) (by omega)) tw_309 tw_311 tp_8 tw_3 tw_312 rfl rfl (by first | assumption | exact hu_eq _ _ _ | (rw [hu_ne _ _ (by omega)]; first | assumption | exact hu_eq _ _ _) | (rw [hu_ne _ _ (by omega), hu_ne _ _ (by omega)]; first | assumption | exact hu_eq _ _ _)) rfl ⟨ok_X7_set, ⟨Nat.le_of_ble_eq_true rfl, Nat.le_of_ble_eq_true rfl⟩, ⟨Nat.le_of_ble_eq_true rfl, Nat.le_of_ble_eq_true rfl⟩, Nat.le_of_ble_eq_true rfl⟩ dX7_takeSaying_114 (kk_v (Wf := Wg K E _ _ _ _) ?_)
        refine r_vret S dX7_takeSaying_117 ?_
        refine ⟨rfl, ?_, rfl⟩
        first | rw [(take1 (Or.inl c_23)).1, (take1 (Or.inl c_23)).2] | rw [(take1 (Or.inr c_34)).1, (take1 (Or.inr c_34)).2] | rw [(take2 (by omega) c_71).1, (take2 (by omega) c_71).2] | rw [(take3 (by omega) (by omega)).1, (take3 (by omega) (by omega)).2]
      · skip
        refine r_aload_n X dX7_takeSaying_74 rfl ?_
        refine r_iload X dX7_takeSaying_75 rfl ?_
        refine r_aload_n X dX7_takeSaying_77 rfl ?_
        refine r_get (ci := 6) X 0 _ ti_RX7 rfl (by decide) tw_66 (fun _ h => h) dX7_takeSaying_78 (by first | assumption | exact hu_eq _ _ _ | (rw [hu_ne _ _ (by omega)]; first | assumption | exact hu_eq _ _ _) | (rw [hu_ne _ _ (by omega), hu_ne _ _ (by omega)]; first | assumption | exact hu_eq _ _ _)) rfl ?_
        refine r_iload X dX7_takeSaying_81 rfl ?_
        refine r_nald X _ dX7_takeSaying_83 (by first | assumption | exact hu_eq _ _ _ | (rw [hu_ne _ _ (by omega)]; first | assumption | exact hu_eq _ _ _) | (rw [hu_ne _ _ (by omega), hu_ne _ _ (by omega)]; first | assumption | exact hu_eq _ _ _)) (rfl) (by omega) (by decide) ?_
        refine r_aload_n X dX7_takeSaying_84 rfl ?_
        refine r_get (ci := 6) X 1 _ ti_RX7 rfl (by decide) tw_67 (fun _ h => h) dX7_takeSaying_85 (by first | assumption | exact hu_eq _ _ _ | (rw [hu_ne _ _ (by omega)]; first | assumption | exact hu_eq _ _ _) | (rw [hu_ne _ _ (by omega), hu_ne _ _ (by omega)]; first | assumption | exact hu_eq _ _ _)) rfl ?_
        refine r_iload X dX7_takeSaying_88 rfl ?_
        refine r_nald X _ dX7_takeSaying_90 (by first | assumption | exact hu_eq _ _ _ | (rw [hu_ne _ _ (by omega)]; first | assumption | exact hu_eq _ _ _) | (rw [hu_ne _ _ (by omega), hu_ne _ _ (by omega)]; first | assumption | exact hu_eq _ _ _)) (rfl) (by omega) (by decide) ?_
        refine r_iload X dX7_takeSaying_91 rfl ?_
        first | refine r_isubN X dX7_takeSaying_93 (by omega) ?_ | refine r_isub X _ dX7_takeSaying_93 rfl ?_
        refine r_callV (ci := 6) X rfl (c_X7_set _ E g n r f h (s * 2 + handN c) (f (s * 2 + handN c)) (h (s * 2 + handN c) - (firmN c w)) hr (by omega) (by omega)) tw_309 tw_311 tp_8 tw_3 tw_312 rfl rfl (by first | assumption | exact hu_eq _ _ _ | (rw [hu_ne _ _ (by omega)]; first | assumption | exact hu_eq _ _ _) | (rw [hu_ne _ _ (by omega), hu_ne _ _ (by omega)]; first | assumption | exact hu_eq _ _ _)) rfl ⟨ok_X7_set, ⟨Nat.le_of_ble_eq_true rfl, Nat.le_of_ble_eq_true rfl⟩, ⟨Nat.le_of_ble_eq_true rfl, Nat.le_of_ble_eq_true rfl⟩, Nat.le_of_ble_eq_true rfl⟩ dX7_takeSaying_94 (kk_v (Wf := Wg K E _ _ _ _) ?_)
        refine r_goto X 117 dX7_takeSaying_97 (by decide) ?_
        refine r_vret S dX7_takeSaying_117 ?_
        refine ⟨rfl, ?_, rfl⟩
        first | rw [(take1 (Or.inl c_23)).1, (take1 (Or.inl c_23)).2] | rw [(take1 (Or.inr c_34)).1, (take1 (Or.inr c_34)).2] | rw [(take2 (by omega) c_71).1, (take2 (by omega) c_71).2] | rw [(take3 (by omega) (by omega)).1, (take3 (by omega) (by omega)).2]
    · skip
      refine r_aload_n X dX7_takeSaying_37 rfl ?_
      refine r_iload X dX7_takeSaying_38 rfl ?_
      refine r_iload_n X dX7_takeSaying_40 rfl ?_
      refine r_bipush (v := nI 99) X dX7_takeSaying_41 (by decide) ?_
      refine r_aload_n X dX7_takeSaying_43 rfl ?_
      refine r_get (ci := 6) X 1 _ ti_RX7 rfl (by decide) tw_67 (fun _ h => h) dX7_takeSaying_44 (by first | assumption | exact hu_eq _ _ _ | (rw [hu_ne _ _ (by omega)]; first | assumption | exact hu_eq _ _ _) | (rw [hu_ne _ _ (by omega), hu_ne _ _ (by omega)]; first | assumption | exact hu_eq _ _ _)) rfl ?_
      refine r_iload X dX7_takeSaying_47 rfl ?_
      refine r_nald X _ dX7_takeSaying_49 (by first | assumption | exact hu_eq _ _ _ | (rw [hu_ne _ _ (by omega)]; first | assumption | exact hu_eq _ _ _) | (rw [hu_ne _ _ (by omega), hu_ne _ _ (by omega)]; first | assumption | exact hu_eq _ _ _)) (rfl) (by omega) (by decide) ?_
      refine r_iload X dX7_takeSaying_50 rfl ?_
      first | refine r_iaddN X dX7_takeSaying_52 ?_ | refine r_iadd X _ dX7_takeSaying_52 rfl ?_
      refine r_min X rfl tw_488 tw_471 tw_18 tw_472 (Nat.le_of_ble_eq_true rfl) (Nat.le_of_ble_eq_true rfl) (Nat.le_of_ble_eq_true rfl) (Nat.le_of_ble_eq_true rfl) dX7_takeSaying_53 ?_
      refine r_top _ _ (nI_min (by omega) (by omega)) ?_
      refine r_callV (ci := 6) X rfl (c_X7_set _ E g n r f h (s * 2 + handN c) t (min 99 (h (s * 2 + handN c) + (firmN c w))) hr (by omega) (by omega)) tw_309 tw_311 tp_8 tw_3 tw_312 rfl rfl (by first | assumption | exact hu_eq _ _ _ | (rw [hu_ne _ _ (by omega)]; first | assumption | exact hu_eq _ _ _) | (rw [hu_ne _ _ (by omega), hu_ne _ _ (by omega)]; first | assumption | exact hu_eq _ _ _)) rfl ⟨ok_X7_set, ⟨Nat.le_of_ble_eq_true rfl, Nat.le_of_ble_eq_true rfl⟩, ⟨Nat.le_of_ble_eq_true rfl, Nat.le_of_ble_eq_true rfl⟩, Nat.le_of_ble_eq_true rfl⟩ dX7_takeSaying_56 (kk_v (Wf := Wg K E _ _ _ _) ?_)
      refine r_goto X 117 dX7_takeSaying_59 (by decide) ?_
      refine r_vret S dX7_takeSaying_117 ?_
      refine ⟨rfl, ?_, rfl⟩
      first | rw [(take1 (Or.inl c_23)).1, (take1 (Or.inl c_23)).2] | rw [(take1 (Or.inr c_34)).1, (take1 (Or.inr c_34)).2] | rw [(take2 (by omega) c_71).1, (take2 (by omega) c_71).2] | rw [(take3 (by omega) (by omega)).1, (take3 (by omega) (by omega)).2]

set_option maxHeartbeats 4000000 in
set_option maxRecDepth 100000 in
/-- BanisterWord.Rails.heardBy  -/
theorem c_X7_heardBy (l : Launch) (E : xE) (g : hG) (n : Nat) (r p c w s : Nat) (f h : Nat → Nat) (hr : ra E g r f h) (hc : c < 4) (hw : w < 1000) (hp : g p = some (oc c [.int (nI w)])) (hf : ∀ j, f j ≤ 7) (hs : s < 12) : Ct l yX7_heardBy cX7_heardBy 5 (some .int) 1 21 0 0 E [.ref r, .ref p, .int (nI s)] (g) n (zr (some (.int (nI (hearN c f (s + 1))))) (g) (n)) := by
  refine Ct.of (by decide +kernel) (Nat.le_of_ble_eq_true rfl) (fun v hv => by simp only [List.mem_cons, List.not_mem_nil, or_false] at hv; (try rcases hv with rfl | rfl | rfl) <;> first | rfl | (subst hv; rfl) | exact hv.elim) ?_
  intro K hKl S
  subst hKl
  have X := S.1
  obtain ⟨hr0, hr1, hr2⟩ := id hr
  have hhd := handN_le c
  refine r_iconst (v := nI 0) X dX7_heardBy_0 (by decide) ?_
  refine r_istore_n X dX7_heardBy_1 (Nat.le_of_ble_eq_true rfl) ?_
  try dsimp only [List.set]
  refine r_iconst (v := nI 0) X dX7_heardBy_2 (by decide) ?_
  refine r_istore X dX7_heardBy_3 (Nat.le_of_ble_eq_true rfl) ?_
  try dsimp only [List.set]
  have hloop : ∀ (k : Nat), k ≤ s + 1 → (feelsB c = true ∨ k = 0) → Wg K E (0) (0) 5 [some (.ref r), some (.ref p), some (.int (nI s)), some (.int (nI (hbF f (handN c) k))), some (.int (nI k))] [] (g) (n) := by
    refine ind_up _ (s + 1) (fun k hk ih hq => ?_)
    refine r_iload X dX7_heardBy_5 rfl ?_
    refine r_iload_n X dX7_heardBy_7 rfl ?_
    refine r_icmp_gtN X 40 dX7_heardBy_8 (by decide) (by omega) (by omega) (fun c_8 => ?_) (fun c_8 => ?_)
    · skip
      refine r_iload_n X dX7_heardBy_40 rfl ?_
      refine r_iret S dX7_heardBy_41 ?_
      refine ⟨?_, rfl, rfl⟩
      unfold hearN
      first | (obtain rfl : k = 0 := hq.resolve_left (by rw [c_15]; decide); rw [if_neg (by rw [c_15]; decide)]; rfl) | (obtain rfl : k = s + 1 := (by omega); rw [if_pos (hq.resolve_right (by omega))])
    · skip
      refine r_aload_n X dX7_heardBy_11 rfl ?_
      refine vc_RX7_feels X rfl hc hw hp ⟨Nat.le_of_ble_eq_true rfl, Nat.le_of_ble_eq_true rfl⟩ ⟨⟨Nat.le_of_ble_eq_true rfl, Nat.le_of_ble_eq_true rfl⟩, Nat.le_of_ble_eq_true rfl⟩ dX7_heardBy_12 ?_
      refine r_if_eqB X 40 dX7_heardBy_15 (by decide) (fun c_15 => ?_) (fun c_15 => ?_)
      · skip
        refine r_iload_n X dX7_heardBy_40 rfl ?_
        refine r_iret S dX7_heardBy_41 ?_
        refine ⟨?_, rfl, rfl⟩
        unfold hearN
        first | (obtain rfl : k = 0 := hq.resolve_left (by rw [c_15]; decide); rw [if_neg (by rw [c_15]; decide)]; rfl) | (obtain rfl : k = s + 1 := (by omega); rw [if_pos (hq.resolve_right (by omega))])
      · skip
        refine r_iload_n X dX7_heardBy_18 rfl ?_
        refine r_aload_n X dX7_heardBy_19 rfl ?_
        refine r_iload X dX7_heardBy_20 rfl ?_
        refine r_aload_n X dX7_heardBy_22 rfl ?_
        refine vc_RX7_handHeight X rfl hc hw hp ⟨Nat.le_of_ble_eq_true rfl, Nat.le_of_ble_eq_true rfl⟩ ⟨⟨Nat.le_of_ble_eq_true rfl, Nat.le_of_ble_eq_true rfl⟩, Nat.le_of_ble_eq_true rfl⟩ dX7_heardBy_23 ?_
        refine r_callS X rfl (c_X7_cell _ E g n k (handN c)) tw_317 tw_318 tw_3 tw_319 rfl ⟨ok_X7_cell, ⟨Nat.le_of_ble_eq_true rfl, Nat.le_of_ble_eq_true rfl⟩, ⟨Nat.le_of_ble_eq_true rfl, Nat.le_of_ble_eq_true rfl⟩, Nat.le_of_ble_eq_true rfl⟩ dX7_heardBy_26 (kk_r (Wf := Wg K E _ _ _ _) ?_)
        refine r_callV (ci := 6) X rfl (c_X7_bitOf _ E g n r f h (k * 2 + handN c) hr (by omega) hf) tw_511 tw_513 tp_14 tw_3 tw_514 rfl rfl (by first | assumption | exact hu_eq _ _ _ | (rw [hu_ne _ _ (by omega)]; first | assumption | exact hu_eq _ _ _) | (rw [hu_ne _ _ (by omega), hu_ne _ _ (by omega)]; first | assumption | exact hu_eq _ _ _)) rfl ⟨ok_X7_bitOf, ⟨Nat.le_of_ble_eq_true rfl, Nat.le_of_ble_eq_true rfl⟩, ⟨Nat.le_of_ble_eq_true rfl, Nat.le_of_ble_eq_true rfl⟩, Nat.le_of_ble_eq_true rfl⟩ dX7_heardBy_29 (kk_r (Wf := Wg K E _ _ _ _) ?_)
        refine r_iorN X dX7_heardBy_32 ?_
        refine r_istore_n X dX7_heardBy_33 (Nat.le_of_ble_eq_true rfl) ?_
        try dsimp only [List.set]
        first | refine r_iincN X dX7_heardBy_34 rfl ?_ | refine r_iinc X _ dX7_heardBy_34 rfl rfl ?_
        try dsimp only [List.set]
        refine r_goto X 5 dX7_heardBy_37 (by decide) ?_
        exact ih (by omega) (Or.inl c_15)
  exact hloop 0 (Nat.zero_le _) (Or.inr rfl)

set_option maxHeartbeats 4000000 in
set_option maxRecDepth 100000 in
/-- BanisterWord.Rails.rubOff  -/
theorem c_X7_rubOff (l : Launch) (E : xE) (g : hG) (n : Nat) (r p c w s : Nat) (f h : Nat → Nat) (hr : ra E g r f h) (hc : c < 4) (hw : w < 1000) (hp : g p = some (oc c [.int (nI w)])) (hh : ∀ j, h j ≤ 99) (hs : s < 12) : Ct l yX7_rubOff cX7_rubOff 4 none 2 69 0 0 E [.ref r, .ref p, .int (nI s)] (g) n (zr (none) (rR E g r (rubF (upQ c (s + 1)) f h) (rubH (upQ c (s + 1)) h)) (n)) := by
  refine Ct.of (by decide +kernel) (Nat.le_of_ble_eq_true rfl) (fun v hv => by simp only [List.mem_cons, List.not_mem_nil, or_false] at hv; (try rcases hv with rfl | rfl | rfl) <;> first | rfl | (subst hv; rfl) | exact hv.elim) ?_
  intro K hKl S
  subst hKl
  have X := S.1
  obtain ⟨hr0, hr1, hr2⟩ := id hr
  have hhd := handN_le c
  refine r_iconst (v := nI 0) X dX7_rubOff_0 (by decide) ?_
  refine r_istore_n X dX7_rubOff_1 (Nat.le_of_ble_eq_true rfl) ?_
  try dsimp only [List.set]
  have hloop : ∀ (k : Nat), k ≤ s + 1 → Wg K E (0) (0) 2 [some (.ref r), some (.ref p), some (.int (nI s)), some (.int (nI k))] [] (rR E g r (rubF (upQ c k) f h) (rubH (upQ c k) h)) (n) := by
    refine ind_up _ (s + 1) (fun k hk ih => ?_)
    have hp : (rR E g r (rubF (upQ c k) f h) (rubH (upQ c k) h)) p = some (oc c [.int (nI w)]) := by rw [rR_ne (hr.p1 hp) (hr.p2 hp)]; exact hp
    have hra : ra E (rR E g r (rubF (upQ c k) f h) (rubH (upQ c k) h)) r _ _ := hr.set
    refine r_iload_n X dX7_rubOff_2 rfl ?_
    refine r_iload_n X dX7_rubOff_3 rfl ?_
    refine r_icmp_gtN X 32 dX7_rubOff_4 (by decide) (by omega) (by omega) (fun c_4 => ?_) (fun c_4 => ?_)
    · skip
      refine r_vret S dX7_rubOff_32 ?_
      refine ⟨rfl, ?_, rfl⟩
      first | (rw [(rub_none (f := f) (h := h) (upQ_f c_11 k)).1, (rub_none (f := f) (h := h) (upQ_f c_11 k)).2, (rub_none (f := f) (h := h) (upQ_f c_11 (s + 1))).1, (rub_none (f := f) (h := h) (upQ_f c_11 (s + 1))).2]; done) | (obtain rfl : k = s + 1 := (by omega); rfl)
    · skip
      refine r_aload_n X dX7_rubOff_7 rfl ?_
      refine vc_RX7_feels X rfl hc hw hp ⟨Nat.le_of_ble_eq_true rfl, Nat.le_of_ble_eq_true rfl⟩ ⟨⟨Nat.le_of_ble_eq_true rfl, Nat.le_of_ble_eq_true rfl⟩, Nat.le_of_ble_eq_true rfl⟩ dX7_rubOff_8 ?_
      refine r_if_eqB X 32 dX7_rubOff_11 (by decide) (fun c_11 => ?_) (fun c_11 => ?_)
      · skip
        refine r_vret S dX7_rubOff_32 ?_
        refine ⟨rfl, ?_, rfl⟩
        first | (rw [(rub_none (f := f) (h := h) (upQ_f c_11 k)).1, (rub_none (f := f) (h := h) (upQ_f c_11 k)).2, (rub_none (f := f) (h := h) (upQ_f c_11 (s + 1))).1, (rub_none (f := f) (h := h) (upQ_f c_11 (s + 1))).2]; done) | (obtain rfl : k = s + 1 := (by omega); rfl)
      · skip
        refine r_aload_n X dX7_rubOff_14 rfl ?_
        refine r_iload_n X dX7_rubOff_15 rfl ?_
        refine r_aload_n X dX7_rubOff_16 rfl ?_
        refine vc_RX7_handHeight X rfl hc hw hp ⟨Nat.le_of_ble_eq_true rfl, Nat.le_of_ble_eq_true rfl⟩ ⟨⟨Nat.le_of_ble_eq_true rfl, Nat.le_of_ble_eq_true rfl⟩, Nat.le_of_ble_eq_true rfl⟩ dX7_rubOff_17 ?_
        refine r_callS X rfl (c_X7_cell _ E _ n k (handN c)) tw_317 tw_318 tw_3 tw_319 rfl ⟨ok_X7_cell, ⟨Nat.le_of_ble_eq_true rfl, Nat.le_of_ble_eq_true rfl⟩, ⟨Nat.le_of_ble_eq_true rfl, Nat.le_of_ble_eq_true rfl⟩, Nat.le_of_ble_eq_true rfl⟩ dX7_rubOff_20 (kk_r (Wf := Wg K E _ _ _ _) ?_)
        refine r_callV (ci := 6) X rfl (c_X7_lessen _ E _ n r _ _ (k * 2 + handN c) hra (by omega) (rubH_le hh)) tw_519 tw_521 tp_15 tw_3 tw_522 rfl rfl (by first | exact hra.1 | assumption) rfl ⟨ok_X7_lessen, ⟨Nat.le_of_ble_eq_true rfl, Nat.le_of_ble_eq_true rfl⟩, ⟨Nat.le_of_ble_eq_true rfl, Nat.le_of_ble_eq_true rfl⟩, Nat.le_of_ble_eq_true rfl⟩ dX7_rubOff_23 (kk_v (Wf := Wg K E _ _ _ _) ?_)
        first | refine r_iincN X dX7_rubOff_26 rfl ?_ | refine r_iinc X _ dX7_rubOff_26 rfl rfl ?_
        try dsimp only [List.set]
        refine r_goto X 2 dX7_rubOff_29 (by decide) ?_
        refine r_heap ?_ (ih (by omega))
        obtain ⟨e1, e2⟩ := rub_step (f := f) (h := h) (upQ_a (c := c) k) (upQ_b c_11 k) (fun j hj => upQ_c k j hj)
        rw [rR_rR, e1, e2]
  refine r_heap ?_ (hloop 0 (Nat.zero_le _))
  rw [(rub_none (f := f) (h := h) (upQ_0 c)).1, (rub_none (f := f) (h := h) (upQ_0 c)).2, hr.self]

set_option maxHeartbeats 4000000 in
set_option maxRecDepth 100000 in
/-- BanisterWord.Rails.cool  -/
theorem c_X7_cool (l : Launch) (E : xE) (g : hG) (n : Nat) (r : Nat) (f h : Nat → Nat) (hr : ra E g r f h) (hh : ∀ j, h j ≤ 99) : Ct l yX7_cool cX7_cool 2 none 2 69 0 0 E [.ref r] (g) n (zr (none) (rR E g r (rubF (ltP 24) f h) (rubH (ltP 24) h)) (n)) := by
  refine Ct.of (by decide +kernel) (Nat.le_of_ble_eq_true rfl) (fun v hv => by simp only [List.mem_cons, List.not_mem_nil, or_false] at hv; (try rcases hv with rfl) <;> first | rfl | (subst hv; rfl) | exact hv.elim) ?_
  intro K hKl S
  subst hKl
  have X := S.1
  obtain ⟨hr0, hr1, hr2⟩ := id hr
  refine r_iconst (v := nI 0) X dX7_cool_0 (by decide) ?_
  refine r_istore_n X dX7_cool_1 (Nat.le_of_ble_eq_true rfl) ?_
  try dsimp only [List.set]
  have hloop : ∀ (k : Nat), k ≤ 24 → Wg K E (0) (0) 2 [some (.ref r), some (.int (nI k))] [] (rR E g r (rubF (ltP k) f h) (rubH (ltP k) h)) (n) := by
    refine ind_up _ (24) (fun k hk ih => ?_)
    have hra : ra E (rR E g r (rubF (ltP k) f h) (rubH (ltP k) h)) r _ _ := hr.set
    refine r_iload_n X dX7_cool_2 rfl ?_
    refine r_bipush (v := nI 24) X dX7_cool_3 (by decide) ?_
    refine r_icmp_geN X 19 dX7_cool_5 (by decide) (by omega) (by omega) (fun c_5 => ?_) (fun c_5 => ?_)
    · skip
      refine r_vret S dX7_cool_19 ?_
      obtain rfl : k = 24 := by omega
      exact ⟨rfl, rfl, rfl⟩
    · skip
      refine r_aload_n X dX7_cool_8 rfl ?_
      refine r_iload_n X dX7_cool_9 rfl ?_
      refine r_callV (ci := 6) X rfl (c_X7_lessen _ E _ n r _ _ k hra (by omega) (rubH_le hh)) tw_519 tw_521 tp_15 tw_3 tw_522 rfl rfl (by first | exact hra.1 | assumption) rfl ⟨ok_X7_lessen, ⟨Nat.le_of_ble_eq_true rfl, Nat.le_of_ble_eq_true rfl⟩, ⟨Nat.le_of_ble_eq_true rfl, Nat.le_of_ble_eq_true rfl⟩, Nat.le_of_ble_eq_true rfl⟩ dX7_cool_10 (kk_v (Wf := Wg K E _ _ _ _) ?_)
      first | refine r_iincN X dX7_cool_13 rfl ?_ | refine r_iinc X _ dX7_cool_13 rfl rfl ?_
      try dsimp only [List.set]
      refine r_goto X 2 dX7_cool_16 (by decide) ?_
      refine r_heap ?_ (ih (by omega))
      obtain ⟨e1, e2⟩ := rub_step (f := f) (h := h) (p := ltP k) (p' := ltP (k + 1)) (j0 := k) (by simp [ltP]) (by simp [ltP]) (fun j hj => by simp only [ltP, decide_eq_decide]; omega)
      rw [rR_rR, e1, e2]
  refine r_heap ?_ (hloop 0 (Nat.zero_le _))
  rw [(rub_none (f := f) (h := h) (p := ltP 0) (fun j => by simp [ltP])).1, (rub_none (f := f) (h := h) (p := ltP 0) (fun j => by simp [ltP])).2, hr.self]

set_option maxHeartbeats 4000000 in
set_option maxRecDepth 100000 in
/-- BanisterWord.Rails.firmest  -/
theorem c_X7_firmest (l : Launch) (E : xE) (g : hG) (n : Nat) (r t u : Nat) (f h : Nat → Nat) (hr : ra E g r f h) (hf : ∀ j, f j ≤ 7) (hh : ∀ j, h j ≤ 99) (ht : t < 1000) (hu_ : u < 2) : Ct l yX7_firmest cX7_firmest 5 (some .int) 2 48 0 0 E [.ref r, .int (nI t), .int (nI u)] (g) n (zr (some (.int (nI (fmx f h t u 12)))) (g) (n)) := by
  refine Ct.of (by decide +kernel) (Nat.le_of_ble_eq_true rfl) (fun v hv => by simp only [List.mem_cons, List.not_mem_nil, or_false] at hv; (try rcases hv with rfl | rfl | rfl) <;> first | rfl | (subst hv; rfl) | exact hv.elim) ?_
  intro K hKl S
  subst hKl
  have X := S.1
  obtain ⟨hr0, hr1, hr2⟩ := id hr
  refine r_iconst (v := nI 0) X dX7_firmest_0 (by decide) ?_
  refine r_istore_n X dX7_firmest_1 (Nat.le_of_ble_eq_true rfl) ?_
  try dsimp only [List.set]
  refine r_iconst (v := nI 0) X dX7_firmest_2 (by decide) ?_
  refine r_istore X dX7_firmest_3 (Nat.le_of_ble_eq_true rfl) ?_
  try dsimp only [List.set]
  have hloop : ∀ (k : Nat), k ≤ 12 → Wg K E (0) (0) 5 [some (.ref r), some (.int (nI t)), some (.int (nI u)), some (.int (nI (fmx f h t u k))), some (.int (nI k))] [] (g) (n) := by
    refine ind_up _ (12) (fun k hk ih => ?_)
    have b1 := fmx_le (f := f) hh t u k
    have b2 := hh (k * 2 + u)
    have b3 := hf (k * 2 + u)
    refine r_iload X dX7_firmest_5 rfl ?_
    refine r_bipush (v := nI 12) X dX7_firmest_7 (by decide) ?_
    refine r_icmp_geN X 41 dX7_firmest_9 (by decide) (by omega) (by omega) (fun c_9 => ?_) (fun c_9 => ?_)
    · skip
      refine r_iload_n X dX7_firmest_41 rfl ?_
      refine r_iret S dX7_firmest_42 ?_
      obtain rfl : k = 12 := by omega
      exact ⟨rfl, rfl, rfl⟩
    · skip
      refine r_aload_n X dX7_firmest_12 rfl ?_
      refine r_iload X dX7_firmest_13 rfl ?_
      refine r_iload_n X dX7_firmest_15 rfl ?_
      refine r_callV (ci := 6) X rfl (c_X7_sayingAt _ E g n r f h k u hr (by omega)) tw_570 tw_425 tw_426 tw_3 tw_427 rfl rfl (by first | assumption | exact hu_eq _ _ _ | (rw [hu_ne _ _ (by omega)]; first | assumption | exact hu_eq _ _ _) | (rw [hu_ne _ _ (by omega), hu_ne _ _ (by omega)]; first | assumption | exact hu_eq _ _ _)) rfl ⟨ok_X7_sayingAt, ⟨Nat.le_of_ble_eq_true rfl, Nat.le_of_ble_eq_true rfl⟩, ⟨Nat.le_of_ble_eq_true rfl, Nat.le_of_ble_eq_true rfl⟩, Nat.le_of_ble_eq_true rfl⟩ dX7_firmest_16 (kk_r (Wf := Wg K E _ _ _ _) ?_)
      refine r_iload_n X dX7_firmest_19 rfl ?_
      refine r_icmp_neN X 35 dX7_firmest_20 (by decide) (by omega) (by omega) (fun c_20 => ?_) (fun c_20 => ?_)
      · skip
        first | refine r_iincN X dX7_firmest_35 rfl ?_ | refine r_iinc X _ dX7_firmest_35 rfl rfl ?_
        try dsimp only [List.set]
        refine r_goto X 5 dX7_firmest_38 (by decide) ?_
        have e : fmx f h t u (k + 1) = _ := rfl
        first | (rw [show fmx f h t u (k + 1) = max (fmx f h t u k) (h (k * 2 + u)) from by rw [fmx, if_pos c_20]] at ih; exact ih (by omega)) | (rw [show fmx f h t u (k + 1) = fmx f h t u k from by rw [fmx, if_neg c_20]] at ih; exact ih (by omega))
      · skip
        refine r_iload_n X dX7_firmest_23 rfl ?_
        refine r_aload_n X dX7_firmest_24 rfl ?_
        refine r_iload X dX7_firmest_25 rfl ?_
        refine r_iload_n X dX7_firmest_27 rfl ?_
        refine r_callV (ci := 6) X rfl (c_X7_firmAt _ E g n r f h k u hr (by omega)) tw_571 tw_429 tw_430 tw_3 tw_431 rfl rfl (by first | assumption | exact hu_eq _ _ _ | (rw [hu_ne _ _ (by omega)]; first | assumption | exact hu_eq _ _ _) | (rw [hu_ne _ _ (by omega), hu_ne _ _ (by omega)]; first | assumption | exact hu_eq _ _ _)) rfl ⟨ok_X7_firmAt, ⟨Nat.le_of_ble_eq_true rfl, Nat.le_of_ble_eq_true rfl⟩, ⟨Nat.le_of_ble_eq_true rfl, Nat.le_of_ble_eq_true rfl⟩, Nat.le_of_ble_eq_true rfl⟩ dX7_firmest_28 (kk_r (Wf := Wg K E _ _ _ _) ?_)
        refine r_max X rfl tw_523 tw_524 tw_18 tw_525 (Nat.le_of_ble_eq_true rfl) (Nat.le_of_ble_eq_true rfl) (Nat.le_of_ble_eq_true rfl) (Nat.le_of_ble_eq_true rfl) dX7_firmest_31 ?_
        refine r_top _ _ (nI_max (by omega) (by omega)) ?_
        refine r_istore_n X dX7_firmest_34 (Nat.le_of_ble_eq_true rfl) ?_
        try dsimp only [List.set]
        first | refine r_iincN X dX7_firmest_35 rfl ?_ | refine r_iinc X _ dX7_firmest_35 rfl rfl ?_
        try dsimp only [List.set]
        refine r_goto X 5 dX7_firmest_38 (by decide) ?_
        have e : fmx f h t u (k + 1) = _ := rfl
        first | (rw [show fmx f h t u (k + 1) = max (fmx f h t u k) (h (k * 2 + u)) from by rw [fmx, if_pos c_20]] at ih; exact ih (by omega)) | (rw [show fmx f h t u (k + 1) = fmx f h t u k from by rw [fmx, if_neg c_20]] at ih; exact ih (by omega))
  exact hloop 0 (Nat.zero_le _)

set_option maxHeartbeats 4000000 in
set_option maxRecDepth 100000 in
/-- BanisterWord.Rails.taken  -/
theorem c_X7_taken (l : Launch) (E : xE) (g : hG) (n : Nat) (r : Nat) (f h : Nat → Nat) (hr : ra E g r f h) (hf : ∀ j, f j ≤ 7) : Ct l yX7_taken cX7_taken 3 (some .int) 0 0 0 0 E [.ref r] (g) n (zr (some (.int (nI (cntF f 24)))) (g) (n)) := by
  refine Ct.of (by decide +kernel) (Nat.le_of_ble_eq_true rfl) (fun v hv => by simp only [List.mem_cons, List.not_mem_nil, or_false] at hv; (try rcases hv with rfl) <;> first | rfl | (subst hv; rfl) | exact hv.elim) ?_
  intro K hKl S
  subst hKl
  have X := S.1
  obtain ⟨hr0, hr1, hr2⟩ := id hr
  refine r_iconst (v := nI 0) X dX7_taken_0 (by decide) ?_
  refine r_istore_n X dX7_taken_1 (Nat.le_of_ble_eq_true rfl) ?_
  try dsimp only [List.set]
  refine r_iconst (v := nI 0) X dX7_taken_2 (by decide) ?_
  refine r_istore_n X dX7_taken_3 (Nat.le_of_ble_eq_true rfl) ?_
  try dsimp only [List.set]
  have hloop : ∀ (k : Nat), k ≤ 24 → Wg K E (0) (0) 4 [some (.ref r), some (.int (nI (cntF f k))), some (.int (nI k))] [] (g) (n) := by
    refine ind_up _ (24) (fun k hk ih => ?_)
    have b3 := hf k
    refine r_iload_n X dX7_taken_4 rfl ?_
    refine r_bipush (v := nI 24) X dX7_taken_5 (by decide) ?_
    refine r_icmp_geN X 28 dX7_taken_7 (by decide) (by omega) (by omega) (fun c_7 => ?_) (fun c_7 => ?_)
    · skip
      refine r_iload_n X dX7_taken_28 rfl ?_
      refine r_iret S dX7_taken_29 ?_
      obtain rfl : k = 24 := by omega
      exact ⟨rfl, rfl, rfl⟩
    · skip
      refine r_aload_n X dX7_taken_10 rfl ?_
      refine r_get (ci := 6) X 0 _ ti_RX7 rfl (by decide) tw_66 (fun _ h => h) dX7_taken_11 (by first | assumption | exact hu_eq _ _ _ | (rw [hu_ne _ _ (by omega)]; first | assumption | exact hu_eq _ _ _) | (rw [hu_ne _ _ (by omega), hu_ne _ _ (by omega)]; first | assumption | exact hu_eq _ _ _)) rfl ?_
      refine r_iload_n X dX7_taken_14 rfl ?_
      refine r_nald X _ dX7_taken_15 (by first | assumption | exact hu_eq _ _ _ | (rw [hu_ne _ _ (by omega)]; first | assumption | exact hu_eq _ _ _) | (rw [hu_ne _ _ (by omega), hu_ne _ _ (by omega)]; first | assumption | exact hu_eq _ _ _)) (rfl) (by omega) (by decide) ?_
      refine r_if_eqN X 22 dX7_taken_16 (by decide) (by omega) (fun c_16 => ?_) (fun c_16 => ?_)
      · skip
        first | refine r_iincN X dX7_taken_22 rfl ?_ | refine r_iinc X _ dX7_taken_22 rfl rfl ?_
        try dsimp only [List.set]
        refine r_goto X 4 dX7_taken_25 (by decide) ?_
        first | (rw [show cntF f (k + 1) = cntF f k from by rw [cntF, if_pos c_16]; rfl] at ih; exact ih (by omega)) | (rw [show cntF f (k + 1) = cntF f k + 1 from by rw [cntF, if_neg (Nat.ne_of_gt c_16)]] at ih; exact ih (by omega))
      · skip
        first | refine r_iincN X dX7_taken_19 rfl ?_ | refine r_iinc X _ dX7_taken_19 rfl rfl ?_
        try dsimp only [List.set]
        first | refine r_iincN X dX7_taken_22 rfl ?_ | refine r_iinc X _ dX7_taken_22 rfl rfl ?_
        try dsimp only [List.set]
        refine r_goto X 4 dX7_taken_25 (by decide) ?_
        first | (rw [show cntF f (k + 1) = cntF f k from by rw [cntF, if_pos c_16]; rfl] at ih; exact ih (by omega)) | (rw [show cntF f (k + 1) = cntF f k + 1 from by rw [cntF, if_neg (Nat.ne_of_gt c_16)]] at ih; exact ih (by omega))
  exact hloop 0 (Nat.zero_le _)

set_option maxHeartbeats 4000000 in
set_option maxRecDepth 100000 in
/-- BanisterWord.Rails.firmTogether  -/
theorem c_X7_firmTogether (l : Launch) (E : xE) (g : hG) (n : Nat) (r : Nat) (f h : Nat → Nat) (hr : ra E g r f h) : Ct l yX7_firmTogether cX7_firmTogether 3 (some .int) 0 0 0 0 E [.ref r] (g) n (zr (some (.int (nI (sumF h 24)))) (g) (n)) := by
  refine Ct.of (by decide +kernel) (Nat.le_of_ble_eq_true rfl) (fun v hv => by simp only [List.mem_cons, List.not_mem_nil, or_false] at hv; (try rcases hv with rfl) <;> first | rfl | (subst hv; rfl) | exact hv.elim) ?_
  intro K hKl S
  subst hKl
  have X := S.1
  obtain ⟨hr0, hr1, hr2⟩ := id hr
  refine r_iconst (v := nI 0) X dX7_firmTogether_0 (by decide) ?_
  refine r_istore_n X dX7_firmTogether_1 (Nat.le_of_ble_eq_true rfl) ?_
  try dsimp only [List.set]
  refine r_iconst (v := nI 0) X dX7_firmTogether_2 (by decide) ?_
  refine r_istore_n X dX7_firmTogether_3 (Nat.le_of_ble_eq_true rfl) ?_
  try dsimp only [List.set]
  have hloop : ∀ (k : Nat), k ≤ 24 → Wg K E (0) (0) 4 [some (.ref r), some (.int (nI (sumF h k))), some (.int (nI k))] [] (g) (n) := by
    refine ind_up _ (24) (fun k hk ih => ?_)
    refine r_iload_n X dX7_firmTogether_4 rfl ?_
    refine r_bipush (v := nI 24) X dX7_firmTogether_5 (by decide) ?_
    refine r_icmp_geN X 25 dX7_firmTogether_7 (by decide) (by omega) (by omega) (fun c_7 => ?_) (fun c_7 => ?_)
    · skip
      refine r_iload_n X dX7_firmTogether_25 rfl ?_
      refine r_iret S dX7_firmTogether_26 ?_
      obtain rfl : k = 24 := by omega
      exact ⟨rfl, rfl, rfl⟩
    · skip
      refine r_iload_n X dX7_firmTogether_10 rfl ?_
      refine r_aload_n X dX7_firmTogether_11 rfl ?_
      refine r_get (ci := 6) X 1 _ ti_RX7 rfl (by decide) tw_67 (fun _ h => h) dX7_firmTogether_12 (by first | assumption | exact hu_eq _ _ _ | (rw [hu_ne _ _ (by omega)]; first | assumption | exact hu_eq _ _ _) | (rw [hu_ne _ _ (by omega), hu_ne _ _ (by omega)]; first | assumption | exact hu_eq _ _ _)) rfl ?_
      refine r_iload_n X dX7_firmTogether_15 rfl ?_
      refine r_nald X _ dX7_firmTogether_16 (by first | assumption | exact hu_eq _ _ _ | (rw [hu_ne _ _ (by omega)]; first | assumption | exact hu_eq _ _ _) | (rw [hu_ne _ _ (by omega), hu_ne _ _ (by omega)]; first | assumption | exact hu_eq _ _ _)) (rfl) (by omega) (by decide) ?_
      first | refine r_iaddN X dX7_firmTogether_17 ?_ | refine r_iadd X _ dX7_firmTogether_17 rfl ?_
      refine r_istore_n X dX7_firmTogether_18 (Nat.le_of_ble_eq_true rfl) ?_
      try dsimp only [List.set]
      first | refine r_iincN X dX7_firmTogether_19 rfl ?_ | refine r_iinc X _ dX7_firmTogether_19 rfl rfl ?_
      try dsimp only [List.set]
      refine r_goto X 4 dX7_firmTogether_22 (by decide) ?_
      exact ih (by omega)
  exact hloop 0 (Nat.zero_le _)

set_option maxHeartbeats 4000000 in
set_option maxRecDepth 100000 in
/-- BanisterWord.Rails.sayingBits  -/
theorem c_X7_sayingBits (l : Launch) (E : xE) (g : hG) (n : Nat) (r : Nat) (f h : Nat → Nat) (hr : ra E g r f h) (hf : ∀ j, f j ≤ 7) : Ct l yX7_sayingBits cX7_sayingBits 3 (some .int) 1 21 0 0 E [.ref r] (g) n (zr (some (.int (nI (orF f 24)))) (g) (n)) := by
  refine Ct.of (by decide +kernel) (Nat.le_of_ble_eq_true rfl) (fun v hv => by simp only [List.mem_cons, List.not_mem_nil, or_false] at hv; (try rcases hv with rfl) <;> first | rfl | (subst hv; rfl) | exact hv.elim) ?_
  intro K hKl S
  subst hKl
  have X := S.1
  obtain ⟨hr0, hr1, hr2⟩ := id hr
  refine r_iconst (v := nI 0) X dX7_sayingBits_0 (by decide) ?_
  refine r_istore_n X dX7_sayingBits_1 (Nat.le_of_ble_eq_true rfl) ?_
  try dsimp only [List.set]
  refine r_iconst (v := nI 0) X dX7_sayingBits_2 (by decide) ?_
  refine r_istore_n X dX7_sayingBits_3 (Nat.le_of_ble_eq_true rfl) ?_
  try dsimp only [List.set]
  have hloop : ∀ (k : Nat), k ≤ 24 → Wg K E (0) (0) 4 [some (.ref r), some (.int (nI (orF f k))), some (.int (nI k))] [] (g) (n) := by
    refine ind_up _ (24) (fun k hk ih => ?_)
    refine r_iload_n X dX7_sayingBits_4 rfl ?_
    refine r_bipush (v := nI 24) X dX7_sayingBits_5 (by decide) ?_
    refine r_icmp_geN X 24 dX7_sayingBits_7 (by decide) (by omega) (by omega) (fun c_7 => ?_) (fun c_7 => ?_)
    · skip
      refine r_iload_n X dX7_sayingBits_24 rfl ?_
      refine r_iret S dX7_sayingBits_25 ?_
      obtain rfl : k = 24 := by omega
      exact ⟨rfl, rfl, rfl⟩
    · skip
      refine r_iload_n X dX7_sayingBits_10 rfl ?_
      refine r_aload_n X dX7_sayingBits_11 rfl ?_
      refine r_iload_n X dX7_sayingBits_12 rfl ?_
      refine r_callV (ci := 6) X rfl (c_X7_bitOf _ E g n r f h k hr (by omega) hf) tw_511 tw_513 tp_14 tw_3 tw_514 rfl rfl (by first | assumption | exact hu_eq _ _ _ | (rw [hu_ne _ _ (by omega)]; first | assumption | exact hu_eq _ _ _) | (rw [hu_ne _ _ (by omega), hu_ne _ _ (by omega)]; first | assumption | exact hu_eq _ _ _)) rfl ⟨ok_X7_bitOf, ⟨Nat.le_of_ble_eq_true rfl, Nat.le_of_ble_eq_true rfl⟩, ⟨Nat.le_of_ble_eq_true rfl, Nat.le_of_ble_eq_true rfl⟩, Nat.le_of_ble_eq_true rfl⟩ dX7_sayingBits_13 (kk_r (Wf := Wg K E _ _ _ _) ?_)
      refine r_iorN X dX7_sayingBits_16 ?_
      refine r_istore_n X dX7_sayingBits_17 (Nat.le_of_ble_eq_true rfl) ?_
      try dsimp only [List.set]
      first | refine r_iincN X dX7_sayingBits_18 rfl ?_ | refine r_iinc X _ dX7_sayingBits_18 rfl rfl ?_
      try dsimp only [List.set]
      refine r_goto X 4 dX7_sayingBits_21 (by decide) ?_
      exact ih (by omega)
  exact hloop 0 (Nat.zero_le _)

