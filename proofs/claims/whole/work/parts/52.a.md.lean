/-- the word i, with noughts behind it -/
def dw (i k : Nat) : Nat := if k < nlen i then nmC i k else 0
theorem dw_lt : ∀ i, i < 7 → ∀ k, k < 6 → dw i k < 256 := by decide +kernel
theorem nmC_n0 : ∀ i, i < 7 → ∀ k, k < 6 → k < nlen i → nmC i k ≠ 0 := by decide +kernel
theorem nlen_4 : ∀ i, i < 7 → 4 ≤ nlen i := by decide +kernel
theorem wd_one : ∀ i, i < 7 → ∀ j, j < 7 → nlen i = nlen j → nmC i 0 = nmC j 0 → nmC i 1 = nmC j 1 → i = j := by decide +kernel
def mw (L : Nat → Nat) (s e : Nat) (d : Nat → Nat) : Nat → Bool
  | 0 => true
  | k + 1 => mw L s e d k && (if s + k < e then decide (L (s + k) = d k) else decide (d k = 0))
theorem mw_t {L : Nat → Nat} {s e : Nat} {d : Nat → Nat} : ∀ k, mw L s e d k = true ↔ ∀ j, j < k → (if s + j < e then L (s + j) = d j else d j = 0)
  | 0 => ⟨fun _ j hj => absurd hj (Nat.not_lt_zero _), fun _ => rfl⟩
  | k + 1 => by
    show (mw L s e d k && _) = true ↔ _
    rw [Bool.and_eq_true, mw_t k]
    constructor
    · intro ⟨h1, h2⟩ j hj
      by_cases e9 : j = k
      · subst e9
        by_cases e8 : s + j < e
        · rw [if_pos e8] at h2; rw [if_pos e8]; exact of_decide_eq_true h2
        · rw [if_neg e8] at h2; rw [if_neg e8]; exact of_decide_eq_true h2
      · exact h1 j (by omega)
    · intro h
      refine ⟨fun j hj => h j (by omega), ?_⟩
      have h2 := h k (by omega)
      by_cases e8 : s + k < e
      · rw [if_pos e8] at h2; rw [if_pos e8]; exact decide_eq_true h2
      · rw [if_neg e8] at h2; rw [if_neg e8]; exact decide_eq_true h2
theorem mtch_t {L : Nat → Nat} {s i : Nat} : ∀ k, mtch L s i k = true ↔ ∀ j, j < k → L (s + j) = nmC i j
  | 0 => ⟨fun _ j hj => absurd hj (Nat.not_lt_zero _), fun _ => rfl⟩
  | k + 1 => by
    show (mtch L s i k && _) = true ↔ _
    rw [Bool.and_eq_true, mtch_t k]
    constructor
    · intro ⟨h1, h2⟩ j hj
      by_cases e9 : j = k
      · subst e9; exact of_decide_eq_true h2
      · exact h1 j (by omega)
    · intro h
      exact ⟨fun j hj => h j (by omega), decide_eq_true (h k (by omega))⟩
theorem spB_t {L : Nat → Nat} {s e i : Nat} : spB L s e i = true ↔ e - s = nlen i ∧ ∀ j, j < e - s → L (s + j) = nmC i j := by
  unfold spB
  rw [Bool.and_eq_true, mtch_t, decide_eq_true_eq]
theorem mw_mono {L : Nat → Nat} {s e k : Nat} {d : Nat → Nat} (h : mw L s e d k = false) : ∀ t, mw L s e d (k + t) = false
  | 0 => h
  | t + 1 => by
    have := mw_mono h t
    show (mw L s e d (k + t) && _) = false
    rw [this]
    rfl
def itB (L : Nat → Nat) (srt s e i k : Nat) : Bool := decide (srt = 1) && decide (e - s < 7) && mw L s e (dw i) k
def wdB (L : Nat → Nat) (srt s e i : Nat) : Bool := decide (srt = 1) && spB L s e i
theorem it_0 {L : Nat → Nat} {srt s e i : Nat} : itB L srt s e i 0 = (decide (srt = 1) && decide (e - s < 7)) := Bool.and_true _
theorem it_s {L : Nat → Nat} {srt s e i k : Nat} (h : itB L srt s e i k = true) : itB L srt s e i (k + 1) = (if s + k < e then decide (L (s + k) = dw i k) else decide (dw i k = 0)) := by
  have h9 : (decide (srt = 1) && decide (e - s < 7) && mw L s e (dw i) k) = true := h
  rw [Bool.and_eq_true, Bool.and_eq_true] at h9
  show (decide (srt = 1) && decide (e - s < 7) && (mw L s e (dw i) k && _)) = _
  rw [h9.1.1, h9.1.2, h9.2]
  rfl
theorem it_f {L : Nat → Nat} {srt s e i k : Nat} (h : itB L srt s e i k = false) (hk : k ≤ 6) : itB L srt s e i 6 = false := by
  have h9 : (decide (srt = 1) && decide (e - s < 7) && mw L s e (dw i) k) = false := h
  show (decide (srt = 1) && decide (e - s < 7) && mw L s e (dw i) 6) = false
  cases h8 : (decide (srt = 1) && decide (e - s < 7)) with
  | false => rfl
  | true =>
    rw [h8, Bool.true_and] at h9
    have := mw_mono h9 (6 - k)
    rw [show k + (6 - k) = 6 by omega] at this
    rw [this]; rfl
theorem it_6 {L : Nat → Nat} {srt s e i : Nat} (hi : i < 7) (hse : s ≤ e) (hl : srt = 1 → ∀ j, s ≤ j → j < e → L j ≠ 0) : itB L srt s e i 6 = wdB L srt s e i := by
  unfold itB wdB
  by_cases e1 : srt = 1
  · rw [decide_eq_true e1, Bool.true_and, Bool.true_and]
    apply Bool.eq_iff_iff.mpr
    rw [spB_t, Bool.and_eq_true, mw_t, decide_eq_true_eq]
    have hn := nlen_le i hi
    constructor
    · intro ⟨h1, h2⟩
      have he : e - s = nlen i := by
        rcases Nat.lt_trichotomy (e - s) (nlen i) with h | h | h
        · have h3 := h2 (e - s) (by omega)
          rw [if_neg (by omega)] at h3
          unfold dw at h3
          rw [if_pos h] at h3
          exact absurd h3 (nmC_n0 i hi _ (by omega) h)
        · exact h
        · have h3 := h2 (nlen i) (by omega)
          rw [if_pos (by omega)] at h3
          unfold dw at h3
          rw [if_neg (by omega)] at h3
          exact absurd h3 (hl e1 _ (by omega) (by omega))
      refine ⟨he, fun j hj => ?_⟩
      have h3 := h2 j (by omega)
      rw [if_pos (by omega)] at h3
      unfold dw at h3
      rw [if_pos (by omega)] at h3
      exact h3
    · intro ⟨h1, h2⟩
      refine ⟨by omega, fun j hj => ?_⟩
      by_cases e2 : s + j < e
      · rw [if_pos e2, h2 j (by omega)]; unfold dw; rw [if_pos (by omega)]
      · rw [if_neg e2]; unfold dw; rw [if_neg (by omega)]
  · rw [decide_eq_false e1]; rfl
theorem fw_at {L : Nat → Nat} {s e w : Nat} (hw : spB L s e w = true) : ∀ d i, (∀ j, i ≤ j → j < w → spB L s e j = false) → i ≤ w → w < i + d → fwF L s e d i = some w
  | 0, i, _, h1, h2 => absurd h2 (by omega)
  | d + 1, i, h, h1, h2 => by
    show (if spB L s e i = true then some i else fwF L s e d (i + 1)) = some w
    by_cases e1 : i = w
    · subst e1; rw [if_pos hw]
    · rw [if_neg (by rw [h i (Nat.le_refl _) (by omega)]; decide)]
      exact fw_at hw d (i + 1) (fun j h3 h4 => h j (by omega) h4) (by omega) (by omega)
theorem fw_no {L : Nat → Nat} {s e : Nat} : ∀ d i, (∀ j, i ≤ j → j < i + d → spB L s e j = false) → fwF L s e d i = none
  | 0, i, _ => rfl
  | d + 1, i, h => by
    show (if spB L s e i = true then some i else fwF L s e d (i + 1)) = none
    rw [if_neg (by rw [h i (Nat.le_refl _) (by omega)]; decide)]
    exact fw_no d (i + 1) (fun j h1 h2 => h j (by omega) (by omega))
theorem find_some {L : Nat → Nat} {s e w : Nat} (hw : w < 7) (h : spB L s e w = true) : findW L s e = some w := by
  refine fw_at h 7 0 (fun j _ hj => ?_) (Nat.zero_le _) (by omega)
  cases h2 : spB L s e j with
  | false => rfl
  | true =>
    obtain ⟨a1, a2⟩ := spB_t.mp h
    obtain ⟨b1, b2⟩ := spB_t.mp h2
    have h4 := nlen_4 w hw
    have := wd_one w hw j (by omega) (by omega) ((a2 0 (by omega)).symm.trans (b2 0 (by omega))) ((a2 1 (by omega)).symm.trans (b2 1 (by omega)))
    omega
theorem find_none {L : Nat → Nat} {s e : Nat} (h : ∀ j, j < 7 → spB L s e j = false) : findW L s e = none := fw_no 7 0 (fun j _ hj => h j (by omega))
theorem find_nil {L : Nat → Nat} {s e : Nat} (h : e ≤ s) : findW L s e = none := find_none (fun j hj => by
  cases h2 : spB L s e j with
  | false => rfl
  | true => have := (spB_t.mp h2).1; have := nlen_4 j hj; omega)

set_option maxHeartbeats 4000000 in
set_option maxRecDepth 100000 in
/-- BanisterWordModel.isWord  -/
theorem c_X11_isWord (l : Launch) (E : xE) (g : hG) (n : Nat) (M : Nat) (u : Nat → Nat) (B : Nat → Nat → Nat) (i : Nat) (hi : i < 7) (h3 : u 3 ≤ 160) (h53 : u 5 ≤ u 3) (h4 : u 4 ≤ 3) (hL : ∀ j, B 1 j ≤ 255) (hl : u 4 = 1 → ∀ j, u 5 ≤ j → j < u 3 → B 1 j ≠ 0) : Ct l yX11_isWord cX11_isWord 10 (some .boolean) 0 0 0 0 E [.ref M, .int (nI (dw i 0)), .int (nI (dw i 1)), .int (nI (dw i 2)), .int (nI (dw i 3)), .int (nI (dw i 4)), .int (nI (dw i 5))] (mG E g M u B) n (zr (some (.int (bI (wdB (B 1) (u 4) (u 5) (u 3) i)))) (mG E g M u B) (n)) := by
  refine Ct.of (by decide +kernel) (Nat.le_of_ble_eq_true rfl) (fun v hv => by simp only [List.mem_cons, List.not_mem_nil, or_false] at hv; (try rcases hv with rfl | rfl | rfl | rfl | rfl | rfl | rfl) <;> first | rfl | (subst hv; rfl) | exact hv.elim) ?_
  intro K hKl S
  subst hKl
  have X := S.1
  have hloop : ∀ (k : Nat), k ≤ 6 → ∀ u_ : Option Value, Wg K E (0) (0) 32 [some (.ref M), some (.int (nI (dw i 0))), some (.int (nI (dw i 1))), some (.int (nI (dw i 2))), some (.int (nI (dw i 3))), some (.int (nI (dw i 4))), some (.int (nI (dw i 5))), some (.int (bI (itB (B 1) (u 4) (u 5) (u 3) i k))), some (.int (nI k)), u_] [] (mG E g M u B) (n) := by
    refine ind_up _ (6) (fun k hk ih u_ => ?_)
    refine r_iload X dX11_isWord_32 rfl ?_
    refine r_bipush (v := nI 6) X dX11_isWord_34 (by decide) ?_
    refine r_icmp_geN X 156 dX11_isWord_36 (by decide) (by omega) (by omega) (fun c_36 => ?_) (fun c_36 => ?_)
    · skip
      have hfin : itB (B 1) (u 4) (u 5) (u 3) i k = wdB (B 1) (u 4) (u 5) (u 3) i := by
        have e7 : k = 6 := by omega
        rw [e7]; exact it_6 hi h53 hl
      refine r_iload X dX11_isWord_156 rfl ?_
      refine r_zret S dX11_isWord_158 (by first | rfl | exact bI_nar _) ?_
      refine ⟨?_, rfl, rfl⟩
      rw [hfin]
    · skip
      refine r_iload X dX11_isWord_39 rfl ?_
      refine r_if_eqB X 156 dX11_isWord_41 (by decide) (fun c_41 => ?_) (fun c_41 => ?_)
      · skip
        have hfin : itB (B 1) (u 4) (u 5) (u 3) i k = wdB (B 1) (u 4) (u 5) (u 3) i := by
          rw [c_41, ← it_6 hi h53 hl]; exact (it_f c_41 hk).symm
        refine r_iload X dX11_isWord_156 rfl ?_
        refine r_zret S dX11_isWord_158 (by first | rfl | exact bI_nar _) ?_
        refine ⟨?_, rfl, rfl⟩
        rw [hfin]
      · skip
        have hdk := dw_lt i hi k (by omega)
        refine r_iload X dX11_isWord_44 rfl ?_
        refine r_if_neN X 53 dX11_isWord_46 (by decide) (by omega) (fun c_46 => ?_) (fun c_46 => ?_)
        · skip
          refine r_iload X dX11_isWord_53 rfl ?_
          refine r_iconst (v := nI 1) X dX11_isWord_55 (by decide) ?_
          refine r_icmp_neN X 63 dX11_isWord_56 (by decide) (by omega) (by omega) (fun c_56 => ?_) (fun c_56 => ?_)
          · skip
            refine r_iload X dX11_isWord_63 rfl ?_
            refine r_iconst (v := nI 2) X dX11_isWord_65 (by decide) ?_
            refine r_icmp_neN X 73 dX11_isWord_66 (by decide) (by omega) (by omega) (fun c_66 => ?_) (fun c_66 => ?_)
            · skip
              refine r_iload X dX11_isWord_73 rfl ?_
              refine r_iconst (v := nI 3) X dX11_isWord_75 (by decide) ?_
              refine r_icmp_neN X 84 dX11_isWord_76 (by decide) (by omega) (by omega) (fun c_76 => ?_) (fun c_76 => ?_)
              · skip
                refine r_iload X dX11_isWord_84 rfl ?_
                refine r_iconst (v := nI 4) X dX11_isWord_86 (by decide) ?_
                refine r_icmp_neN X 95 dX11_isWord_87 (by decide) (by omega) (by omega) (fun c_87 => ?_) (fun c_87 => ?_)
                · skip
                  refine r_iload X dX11_isWord_95 rfl ?_
                  refine r_top _ (nI (dw i k)) (congrArg nI (by first | (obtain rfl : k = 0 := (by omega); rfl) | (obtain rfl : k = 1 := (by omega); rfl) | (obtain rfl : k = 2 := (by omega); rfl) | (obtain rfl : k = 3 := (by omega); rfl) | (obtain rfl : k = 4 := (by omega); rfl) | (obtain rfl : k = 5 := (by omega); rfl))) ?_
                  refine r_istore X dX11_isWord_97 (Nat.le_of_ble_eq_true rfl) ?_
                  try dsimp only [List.set]
                  refine r_aload_n X dX11_isWord_99 rfl ?_
                  refine r_get (ci := 10) X 13 _ ti_RX11 rfl (by decide) tw_671 (fun _ h => h) dX11_isWord_100 (by first | exact m0 | exact m1 | exact m2 | exact m3 | exact m4 | exact m5 | exact m6 | exact m7 | exact m8 | exact m9 | assumption) rfl ?_
                  refine r_iload X dX11_isWord_103 rfl ?_
                  first | refine r_iaddN X dX11_isWord_105 ?_ | refine r_iadd X _ dX11_isWord_105 rfl ?_
                  refine r_aload_n X dX11_isWord_106 rfl ?_
                  refine r_get (ci := 10) X 11 _ ti_RX11 rfl (by decide) tw_669 (fun _ h => h) dX11_isWord_107 (by first | exact m0 | exact m1 | exact m2 | exact m3 | exact m4 | exact m5 | exact m6 | exact m7 | exact m8 | exact m9 | assumption) rfl ?_
                  refine r_icmp_geN X 138 dX11_isWord_110 (by decide) (by omega) (by omega) (fun c_110 => ?_) (fun c_110 => ?_)
                  · skip
                    refine r_iload X dX11_isWord_138 rfl ?_
                    refine r_if_neN X 147 dX11_isWord_140 (by decide) (by omega) (fun c_140 => ?_) (fun c_140 => ?_)
                    · skip
                      refine r_iconst (v := nI 0) X dX11_isWord_147 (by decide) ?_
                      refine r_istore X dX11_isWord_148 (Nat.le_of_ble_eq_true rfl) ?_
                      try dsimp only [List.set]
                      first | refine r_iincN X dX11_isWord_150 rfl ?_ | refine r_iinc X _ dX11_isWord_150 rfl rfl ?_
                      try dsimp only [List.set]
                      refine r_goto X 32 dX11_isWord_153 (by decide) ?_
                      have e9 := it_s c_41
                      have ih9 := ih (by omega) (some (.int (nI (dw i k))))
                      rw [e9] at ih9
                      first | (rw [if_pos (by omega), decide_eq_true c_127] at ih9; exact ih9) | (rw [if_pos (by omega), decide_eq_false c_127] at ih9; exact ih9) | (rw [if_neg (by omega), decide_eq_true c_140] at ih9; exact ih9) | (rw [if_neg (by omega), decide_eq_false (show ¬ dw i k = 0 by omega)] at ih9; exact ih9)
                    · skip
                      refine r_iconst (v := nI 1) X dX11_isWord_143 (by decide) ?_
                      refine r_goto X 148 dX11_isWord_144 (by decide) ?_
                      refine r_istore X dX11_isWord_148 (Nat.le_of_ble_eq_true rfl) ?_
                      try dsimp only [List.set]
                      first | refine r_iincN X dX11_isWord_150 rfl ?_ | refine r_iinc X _ dX11_isWord_150 rfl rfl ?_
                      try dsimp only [List.set]
                      refine r_goto X 32 dX11_isWord_153 (by decide) ?_
                      have e9 := it_s c_41
                      have ih9 := ih (by omega) (some (.int (nI (dw i k))))
                      rw [e9] at ih9
                      first | (rw [if_pos (by omega), decide_eq_true c_127] at ih9; exact ih9) | (rw [if_pos (by omega), decide_eq_false c_127] at ih9; exact ih9) | (rw [if_neg (by omega), decide_eq_true c_140] at ih9; exact ih9) | (rw [if_neg (by omega), decide_eq_false (show ¬ dw i k = 0 by omega)] at ih9; exact ih9)
                  · skip
                    have hLk := hL (u 5 + k)
                    refine r_aload_n X dX11_isWord_113 rfl ?_
                    refine r_get (ci := 10) X 0 _ ti_RX11 rfl (by decide) tw_658 (fun _ h => h) dX11_isWord_114 (by first | exact m0 | exact m1 | exact m2 | exact m3 | exact m4 | exact m5 | exact m6 | exact m7 | exact m8 | exact m9 | assumption) rfl ?_
                    refine r_aload_n X dX11_isWord_117 rfl ?_
                    refine r_get (ci := 10) X 13 _ ti_RX11 rfl (by decide) tw_671 (fun _ h => h) dX11_isWord_118 (by first | exact m0 | exact m1 | exact m2 | exact m3 | exact m4 | exact m5 | exact m6 | exact m7 | exact m8 | exact m9 | assumption) rfl ?_
                    refine r_iload X dX11_isWord_121 rfl ?_
                    first | refine r_iaddN X dX11_isWord_123 ?_ | refine r_iadd X _ dX11_isWord_123 rfl ?_
                    refine r_nald X _ dX11_isWord_124 (by first | exact m0 | exact m1 | exact m2 | exact m3 | exact m4 | exact m5 | exact m6 | exact m7 | exact m8 | exact m9 | assumption) (rfl) (by omega) (by decide) ?_
                    refine r_iload X dX11_isWord_125 rfl ?_
                    refine r_icmp_neN X 134 dX11_isWord_127 (by decide) (by omega) (by omega) (fun c_127 => ?_) (fun c_127 => ?_)
                    · skip
                      refine r_iconst (v := nI 0) X dX11_isWord_134 (by decide) ?_
                      refine r_goto X 148 dX11_isWord_135 (by decide) ?_
                      refine r_istore X dX11_isWord_148 (Nat.le_of_ble_eq_true rfl) ?_
                      try dsimp only [List.set]
                      first | refine r_iincN X dX11_isWord_150 rfl ?_ | refine r_iinc X _ dX11_isWord_150 rfl rfl ?_
                      try dsimp only [List.set]
                      refine r_goto X 32 dX11_isWord_153 (by decide) ?_
                      have e9 := it_s c_41
                      have ih9 := ih (by omega) (some (.int (nI (dw i k))))
                      rw [e9] at ih9
                      first | (rw [if_pos (by omega), decide_eq_true c_127] at ih9; exact ih9) | (rw [if_pos (by omega), decide_eq_false c_127] at ih9; exact ih9) | (rw [if_neg (by omega), decide_eq_true c_140] at ih9; exact ih9) | (rw [if_neg (by omega), decide_eq_false (show ¬ dw i k = 0 by omega)] at ih9; exact ih9)
                    · skip
                      refine r_iconst (v := nI 1) X dX11_isWord_130 (by decide) ?_
                      refine r_goto X 148 dX11_isWord_131 (by decide) ?_
                      refine r_istore X dX11_isWord_148 (Nat.le_of_ble_eq_true rfl) ?_
                      try dsimp only [List.set]
                      first | refine r_iincN X dX11_isWord_150 rfl ?_ | refine r_iinc X _ dX11_isWord_150 rfl rfl ?_
                      try dsimp only [List.set]
                      refine r_goto X 32 dX11_isWord_153 (by decide) ?_
                      have e9 := it_s c_41
                      have ih9 := ih (by omega) (some (.int (nI (dw i k))))
                      rw [e9] at ih9
                      first | (rw [if_pos (by omega), decide_eq_true c_127] at ih9; exact ih9) | (rw [if_pos (by omega), decide_eq_false c_127] at ih9; exact ih9) | (rw [if_neg (by omega), decide_eq_true c_140] at ih9; exact ih9) | (rw [if_neg (by omega), decide_eq_false (show ¬ dw i k = 0 by omega)] at ih9; exact ih9)
                · skip
                  refine r_iload X dX11_isWord_90 rfl ?_
                  refine r_goto X 97 dX11_isWord_92 (by decide) ?_
                  refine r_top _ (nI (dw i k)) (congrArg nI (by first | (obtain rfl : k = 0 := (by omega); rfl) | (obtain rfl : k = 1 := (by omega); rfl) | (obtain rfl : k = 2 := (by omega); rfl) | (obtain rfl : k = 3 := (by omega); rfl) | (obtain rfl : k = 4 := (by omega); rfl) | (obtain rfl : k = 5 := (by omega); rfl))) ?_
                  refine r_istore X dX11_isWord_97 (Nat.le_of_ble_eq_true rfl) ?_
                  try dsimp only [List.set]
                  refine r_aload_n X dX11_isWord_99 rfl ?_
                  refine r_get (ci := 10) X 13 _ ti_RX11 rfl (by decide) tw_671 (fun _ h => h) dX11_isWord_100 (by first | exact m0 | exact m1 | exact m2 | exact m3 | exact m4 | exact m5 | exact m6 | exact m7 | exact m8 | exact m9 | assumption) rfl ?_
                  refine r_iload X dX11_isWord_103 rfl ?_
                  first | refine r_iaddN X dX11_isWord_105 ?_ | refine r_iadd X _ dX11_isWord_105 rfl ?_
                  refine r_aload_n X dX11_isWord_106 rfl ?_
                  refine r_get (ci := 10) X 11 _ ti_RX11 rfl (by decide) tw_669 (fun _ h => h) dX11_isWord_107 (by first | exact m0 | exact m1 | exact m2 | exact m3 | exact m4 | exact m5 | exact m6 | exact m7 | exact m8 | exact m9 | assumption) rfl ?_
                  refine r_icmp_geN X 138 dX11_isWord_110 (by decide) (by omega) (by omega) (fun c_110 => ?_) (fun c_110 => ?_)
                  · skip
                    refine r_iload X dX11_isWord_138 rfl ?_
                    refine r_if_neN X 147 dX11_isWord_140 (by decide) (by omega) (fun c_140 => ?_) (fun c_140 => ?_)
                    · skip
                      refine r_iconst (v := nI 0) X dX11_isWord_147 (by decide) ?_
                      refine r_istore X dX11_isWord_148 (Nat.le_of_ble_eq_true rfl) ?_
                      try dsimp only [List.set]
                      first | refine r_iincN X dX11_isWord_150 rfl ?_ | refine r_iinc X _ dX11_isWord_150 rfl rfl ?_
                      try dsimp only [List.set]
                      refine r_goto X 32 dX11_isWord_153 (by decide) ?_
                      have e9 := it_s c_41
                      have ih9 := ih (by omega) (some (.int (nI (dw i k))))
                      rw [e9] at ih9
                      first | (rw [if_pos (by omega), decide_eq_true c_127] at ih9; exact ih9) | (rw [if_pos (by omega), decide_eq_false c_127] at ih9; exact ih9) | (rw [if_neg (by omega), decide_eq_true c_140] at ih9; exact ih9) | (rw [if_neg (by omega), decide_eq_false (show ¬ dw i k = 0 by omega)] at ih9; exact ih9)
                    · skip
                      refine r_iconst (v := nI 1) X dX11_isWord_143 (by decide) ?_
                      refine r_goto X 148 dX11_isWord_144 (by decide) ?_
                      refine r_istore X dX11_isWord_148 (Nat.le_of_ble_eq_true rfl) ?_
                      try dsimp only [List.set]
                      first | refine r_iincN X dX11_isWord_150 rfl ?_ | refine r_iinc X _ dX11_isWord_150 rfl rfl ?_
                      try dsimp only [List.set]
                      refine r_goto X 32 dX11_isWord_153 (by decide) ?_
                      have e9 := it_s c_41
                      have ih9 := ih (by omega) (some (.int (nI (dw i k))))
                      rw [e9] at ih9
                      first | (rw [if_pos (by omega), decide_eq_true c_127] at ih9; exact ih9) | (rw [if_pos (by omega), decide_eq_false c_127] at ih9; exact ih9) | (rw [if_neg (by omega), decide_eq_true c_140] at ih9; exact ih9) | (rw [if_neg (by omega), decide_eq_false (show ¬ dw i k = 0 by omega)] at ih9; exact ih9)
                  · skip
                    have hLk := hL (u 5 + k)
                    refine r_aload_n X dX11_isWord_113 rfl ?_
                    refine r_get (ci := 10) X 0 _ ti_RX11 rfl (by decide) tw_658 (fun _ h => h) dX11_isWord_114 (by first | exact m0 | exact m1 | exact m2 | exact m3 | exact m4 | exact m5 | exact m6 | exact m7 | exact m8 | exact m9 | assumption) rfl ?_
                    refine r_aload_n X dX11_isWord_117 rfl ?_
                    refine r_get (ci := 10) X 13 _ ti_RX11 rfl (by decide) tw_671 (fun _ h => h) dX11_isWord_118 (by first | exact m0 | exact m1 | exact m2 | exact m3 | exact m4 | exact m5 | exact m6 | exact m7 | exact m8 | exact m9 | assumption) rfl ?_
                    refine r_iload X dX11_isWord_121 rfl ?_
                    first | refine r_iaddN X dX11_isWord_123 ?_ | refine r_iadd X _ dX11_isWord_123 rfl ?_
                    refine r_nald X _ dX11_isWord_124 (by first | exact m0 | exact m1 | exact m2 | exact m3 | exact m4 | exact m5 | exact m6 | exact m7 | exact m8 | exact m9 | assumption) (rfl) (by omega) (by decide) ?_
                    refine r_iload X dX11_isWord_125 rfl ?_
                    refine r_icmp_neN X 134 dX11_isWord_127 (by decide) (by omega) (by omega) (fun c_127 => ?_) (fun c_127 => ?_)
                    · skip
                      refine r_iconst (v := nI 0) X dX11_isWord_134 (by decide) ?_
                      refine r_goto X 148 dX11_isWord_135 (by decide) ?_
                      refine r_istore X dX11_isWord_148 (Nat.le_of_ble_eq_true rfl) ?_
                      try dsimp only [List.set]
                      first | refine r_iincN X dX11_isWord_150 rfl ?_ | refine r_iinc X _ dX11_isWord_150 rfl rfl ?_
                      try dsimp only [List.set]
                      refine r_goto X 32 dX11_isWord_153 (by decide) ?_
                      have e9 := it_s c_41
                      have ih9 := ih (by omega) (some (.int (nI (dw i k))))
                      rw [e9] at ih9
                      first | (rw [if_pos (by omega), decide_eq_true c_127] at ih9; exact ih9) | (rw [if_pos (by omega), decide_eq_false c_127] at ih9; exact ih9) | (rw [if_neg (by omega), decide_eq_true c_140] at ih9; exact ih9) | (rw [if_neg (by omega), decide_eq_false (show ¬ dw i k = 0 by omega)] at ih9; exact ih9)
                    · skip
                      refine r_iconst (v := nI 1) X dX11_isWord_130 (by decide) ?_
                      refine r_goto X 148 dX11_isWord_131 (by decide) ?_
                      refine r_istore X dX11_isWord_148 (Nat.le_of_ble_eq_true rfl) ?_
                      try dsimp only [List.set]
                      first | refine r_iincN X dX11_isWord_150 rfl ?_ | refine r_iinc X _ dX11_isWord_150 rfl rfl ?_
                      try dsimp only [List.set]
                      refine r_goto X 32 dX11_isWord_153 (by decide) ?_
                      have e9 := it_s c_41
                      have ih9 := ih (by omega) (some (.int (nI (dw i k))))
                      rw [e9] at ih9
                      first | (rw [if_pos (by omega), decide_eq_true c_127] at ih9; exact ih9) | (rw [if_pos (by omega), decide_eq_false c_127] at ih9; exact ih9) | (rw [if_neg (by omega), decide_eq_true c_140] at ih9; exact ih9) | (rw [if_neg (by omega), decide_eq_false (show ¬ dw i k = 0 by omega)] at ih9; exact ih9)
              · skip
                refine r_iload X dX11_isWord_79 rfl ?_
                refine r_goto X 97 dX11_isWord_81 (by decide) ?_
                refine r_top _ (nI (dw i k)) (congrArg nI (by first | (obtain rfl : k = 0 := (by omega); rfl) | (obtain rfl : k = 1 := (by omega); rfl) | (obtain rfl : k = 2 := (by omega); rfl) | (obtain rfl : k = 3 := (by omega); rfl) | (obtain rfl : k = 4 := (by omega); rfl) | (obtain rfl : k = 5 := (by omega); rfl))) ?_
                refine r_istore X dX11_isWord_97 (Nat.le_of_ble_eq_true rfl) ?_
                try dsimp only [List.set]
                refine r_aload_n X dX11_isWord_99 rfl ?_
                refine r_get (ci := 10) X 13 _ ti_RX11 rfl (by decide) tw_671 (fun _ h => h) dX11_isWord_100 (by first | exact m0 | exact m1 | exact m2 | exact m3 | exact m4 | exact m5 | exact m6 | exact m7 | exact m8 | exact m9 | assumption) rfl ?_
                refine r_iload X dX11_isWord_103 rfl ?_
                first | refine r_iaddN X dX11_isWord_105 ?_ | refine r_iadd X _ dX11_isWord_105 rfl ?_
                refine r_aload_n X dX11_isWord_106 rfl ?_
                refine r_get (ci := 10) X 11 _ ti_RX11 rfl (by decide) tw_669 (fun _ h => h) dX11_isWord_107 (by first | exact m0 | exact m1 | exact m2 | exact m3 | exact m4 | exact m5 | exact m6 | exact m7 | exact m8 | exact m9 | assumption) rfl ?_
                refine r_icmp_geN X 138 dX11_isWord_110 (by decide) (by omega) (by omega) (fun c_110 => ?_) (fun c_110 => ?_)
                · skip
                  refine r_iload X dX11_isWord_138 rfl ?_
                  refine r_if_neN X 147 dX11_isWord_140 (by decide) (by omega) (fun c_140 => ?_) (fun c_140 => ?_)
                  · skip
                    refine r_iconst (v := nI 0) X dX11_isWord_147 (by decide) ?_
                    refine r_istore X dX11_isWord_148 (Nat.le_of_ble_eq_true rfl) ?_
                    try dsimp only [List.set]
                    first | refine r_iincN X dX11_isWord_150 rfl ?_ | refine r_iinc X _ dX11_isWord_150 rfl rfl ?_
                    try dsimp only [List.set]
                    refine r_goto X 32 dX11_isWord_153 (by decide) ?_
                    have e9 := it_s c_41
                    have ih9 := ih (by omega) (some (.int (nI (dw i k))))
                    rw [e9] at ih9
                    first | (rw [if_pos (by omega), decide_eq_true c_127] at ih9; exact ih9) | (rw [if_pos (by omega), decide_eq_false c_127] at ih9; exact ih9) | (rw [if_neg (by omega), decide_eq_true c_140] at ih9; exact ih9) | (rw [if_neg (by omega), decide_eq_false (show ¬ dw i k = 0 by omega)] at ih9; exact ih9)
                  · skip
                    refine r_iconst (v := nI 1) X dX11_isWord_143 (by decide) ?_
                    refine r_goto X 148 dX11_isWord_144 (by decide) ?_
                    refine r_istore X dX11_isWord_148 (Nat.le_of_ble_eq_true rfl) ?_
                    try dsimp only [List.set]
                    first | refine r_iincN X dX11_isWord_150 rfl ?_ | refine r_iinc X _ dX11_isWord_150 rfl rfl ?_
                    try dsimp only [List.set]
                    refine r_goto X 32 dX11_isWord_153 (by decide) ?_
                    have e9 := it_s c_41
                    have ih9 := ih (by omega) (some (.int (nI (dw i k))))
                    rw [e9] at ih9
                    first | (rw [if_pos (by omega), decide_eq_true c_127] at ih9; exact ih9) | (rw [if_pos (by omega), decide_eq_false c_127] at ih9; exact ih9) | (rw [if_neg (by omega), decide_eq_true c_140] at ih9; exact ih9) | (rw [if_neg (by omega), decide_eq_false (show ¬ dw i k = 0 by omega)] at ih9; exact ih9)
                · skip
                  have hLk := hL (u 5 + k)
                  refine r_aload_n X dX11_isWord_113 rfl ?_
                  refine r_get (ci := 10) X 0 _ ti_RX11 rfl (by decide) tw_658 (fun _ h => h) dX11_isWord_114 (by first | exact m0 | exact m1 | exact m2 | exact m3 | exact m4 | exact m5 | exact m6 | exact m7 | exact m8 | exact m9 | assumption) rfl ?_
                  refine r_aload_n X dX11_isWord_117 rfl ?_
                  refine r_get (ci := 10) X 13 _ ti_RX11 rfl (by decide) tw_671 (fun _ h => h) dX11_isWord_118 (by first | exact m0 | exact m1 | exact m2 | exact m3 | exact m4 | exact m5 | exact m6 | exact m7 | exact m8 | exact m9 | assumption) rfl ?_
                  refine r_iload X dX11_isWord_121 rfl ?_
                  first | refine r_iaddN X dX11_isWord_123 ?_ | refine r_iadd X _ dX11_isWord_123 rfl ?_
                  refine r_nald X _ dX11_isWord_124 (by first | exact m0 | exact m1 | exact m2 | exact m3 | exact m4 | exact m5 | exact m6 | exact m7 | exact m8 | exact m9 | assumption) (rfl) (by omega) (by decide) ?_
                  refine r_iload X dX11_isWord_125 rfl ?_
                  refine r_icmp_neN X 134 dX11_isWord_127 (by decide) (by omega) (by omega) (fun c_127 => ?_) (fun c_127 => ?_)
                  · skip
                    refine r_iconst (v := nI 0) X dX11_isWord_134 (by decide) ?_
                    refine r_goto X 148 dX11_isWord_135 (by decide) ?_
                    refine r_istore X dX11_isWord_148 (Nat.le_of_ble_eq_true rfl) ?_
                    try dsimp only [List.set]
                    first | refine r_iincN X dX11_isWord_150 rfl ?_ | refine r_iinc X _ dX11_isWord_150 rfl rfl ?_
                    try dsimp only [List.set]
                    refine r_goto X 32 dX11_isWord_153 (by decide) ?_
                    have e9 := it_s c_41
                    have ih9 := ih (by omega) (some (.int (nI (dw i k))))
                    rw [e9] at ih9
                    first | (rw [if_pos (by omega), decide_eq_true c_127] at ih9; exact ih9) | (rw [if_pos (by omega), decide_eq_false c_127] at ih9; exact ih9) | (rw [if_neg (by omega), decide_eq_true c_140] at ih9; exact ih9) | (rw [if_neg (by omega), decide_eq_false (show ¬ dw i k = 0 by omega)] at ih9; exact ih9)
                  · skip
                    refine r_iconst (v := nI 1) X dX11_isWord_130 (by decide) ?_
                    refine r_goto X 148 dX11_isWord_131 (by decide) ?_
                    refine r_istore X dX11_isWord_148 (Nat.le_of_ble_eq_true rfl) ?_
                    try dsimp only [List.set]
                    first | refine r_iincN X dX11_isWord_150 rfl ?_ | refine r_iinc X _ dX11_isWord_150 rfl rfl ?_
                    try dsimp only [List.set]
                    refine r_goto X 32 dX11_isWord_153 (by decide) ?_
                    have e9 := it_s c_41
                    have ih9 := ih (by omega) (some (.int (nI (dw i k))))
                    rw [e9] at ih9
                    first | (rw [if_pos (by omega), decide_eq_true c_127] at ih9; exact ih9) | (rw [if_pos (by omega), decide_eq_false c_127] at ih9; exact ih9) | (rw [if_neg (by omega), decide_eq_true c_140] at ih9; exact ih9) | (rw [if_neg (by omega), decide_eq_false (show ¬ dw i k = 0 by omega)] at ih9; exact ih9)
            · skip
              refine r_iload_n X dX11_isWord_69 rfl ?_
              refine r_goto X 97 dX11_isWord_70 (by decide) ?_
              refine r_top _ (nI (dw i k)) (congrArg nI (by first | (obtain rfl : k = 0 := (by omega); rfl) | (obtain rfl : k = 1 := (by omega); rfl) | (obtain rfl : k = 2 := (by omega); rfl) | (obtain rfl : k = 3 := (by omega); rfl) | (obtain rfl : k = 4 := (by omega); rfl) | (obtain rfl : k = 5 := (by omega); rfl))) ?_
              refine r_istore X dX11_isWord_97 (Nat.le_of_ble_eq_true rfl) ?_
              try dsimp only [List.set]
              refine r_aload_n X dX11_isWord_99 rfl ?_
              refine r_get (ci := 10) X 13 _ ti_RX11 rfl (by decide) tw_671 (fun _ h => h) dX11_isWord_100 (by first | exact m0 | exact m1 | exact m2 | exact m3 | exact m4 | exact m5 | exact m6 | exact m7 | exact m8 | exact m9 | assumption) rfl ?_
              refine r_iload X dX11_isWord_103 rfl ?_
              first | refine r_iaddN X dX11_isWord_105 ?_ | refine r_iadd X _ dX11_isWord_105 rfl ?_
              refine r_aload_n X dX11_isWord_106 rfl ?_
              refine r_get (ci := 10) X 11 _ ti_RX11 rfl (by decide) tw_669 (fun _ h => h) dX11_isWord_107 (by first | exact m0 | exact m1 | exact m2 | exact m3 | exact m4 | exact m5 | exact m6 | exact m7 | exact m8 | exact m9 | assumption) rfl ?_
              refine r_icmp_geN X 138 dX11_isWord_110 (by decide) (by omega) (by omega) (fun c_110 => ?_) (fun c_110 => ?_)
              · skip
                refine r_iload X dX11_isWord_138 rfl ?_
                refine r_if_neN X 147 dX11_isWord_140 (by decide) (by omega) (fun c_140 => ?_) (fun c_140 => ?_)
                · skip
                  refine r_iconst (v := nI 0) X dX11_isWord_147 (by decide) ?_
                  refine r_istore X dX11_isWord_148 (Nat.le_of_ble_eq_true rfl) ?_
                  try dsimp only [List.set]
                  first | refine r_iincN X dX11_isWord_150 rfl ?_ | refine r_iinc X _ dX11_isWord_150 rfl rfl ?_
                  try dsimp only [List.set]
                  refine r_goto X 32 dX11_isWord_153 (by decide) ?_
                  have e9 := it_s c_41
                  have ih9 := ih (by omega) (some (.int (nI (dw i k))))
                  rw [e9] at ih9
                  first | (rw [if_pos (by omega), decide_eq_true c_127] at ih9; exact ih9) | (rw [if_pos (by omega), decide_eq_false c_127] at ih9; exact ih9) | (rw [if_neg (by omega), decide_eq_true c_140] at ih9; exact ih9) | (rw [if_neg (by omega), decide_eq_false (show ¬ dw i k = 0 by omega)] at ih9; exact ih9)
                · skip
                  refine r_iconst (v := nI 1) X dX11_isWord_143 (by decide) ?_
                  refine r_goto X 148 dX11_isWord_144 (by decide) ?_
                  refine r_istore X dX11_isWord_148 (Nat.le_of_ble_eq_true rfl) ?_
                  try dsimp only [List.set]
                  first | refine r_iincN X dX11_isWord_150 rfl ?_ | refine r_iinc X _ dX11_isWord_150 rfl rfl ?_
                  try dsimp only [List.set]
                  refine r_goto X 32 dX11_isWord_153 (by decide) ?_
                  have e9 := it_s c_41
                  have ih9 := ih (by omega) (some (.int (nI (dw i k))))
                  rw [e9] at ih9
                  first | (rw [if_pos (by omega), decide_eq_true c_127] at ih9; exact ih9) | (rw [if_pos (by omega), decide_eq_false c_127] at ih9; exact ih9) | (rw [if_neg (by omega), decide_eq_true c_140] at ih9; exact ih9) | (rw [if_neg (by omega), decide_eq_false (show ¬ dw i k = 0 by omega)] at ih9; exact ih9)
              · skip
                have hLk := hL (u 5 + k)
                refine r_aload_n X dX11_isWord_113 rfl ?_
                refine r_get (ci := 10) X 0 _ ti_RX11 rfl (by decide) tw_658 (fun _ h => h) dX11_isWord_114 (by first | exact m0 | exact m1 | exact m2 | exact m3 | exact m4 | exact m5 | exact m6 | exact m7 | exact m8 | exact m9 | assumption) rfl ?_
                refine r_aload_n X dX11_isWord_117 rfl ?_
                refine r_get (ci := 10) X 13 _ ti_RX11 rfl (by decide) tw_671 (fun _ h => h) dX11_isWord_118 (by first | exact m0 | exact m1 | exact m2 | exact m3 | exact m4 | exact m5 | exact m6 | exact m7 | exact m8 | exact m9 | assumption) rfl ?_
                refine r_iload X dX11_isWord_121 rfl ?_
                first | refine r_iaddN X dX11_isWord_123 ?_ | refine r_iadd X _ dX11_isWord_123 rfl ?_
                refine r_nald X _ dX11_isWord_124 (by first | exact m0 | exact m1 | exact m2 | exact m3 | exact m4 | exact m5 | exact m6 | exact m7 | exact m8 | exact m9 | assumption) (rfl) (by omega) (by decide) ?_
                refine r_iload X dX11_isWord_125 rfl ?_
                refine r_icmp_neN X 134 dX11_isWord_127 (by decide) (by omega) (by omega) (fun c_127 => ?_) (fun c_127 => ?_)
                · skip
                  refine r_iconst (v := nI 0) X dX11_isWord_134 (by decide) ?_
                  refine r_goto X 148 dX11_isWord_135 (by decide) ?_
                  refine r_istore X dX11_isWord_148 (Nat.le_of_ble_eq_true rfl) ?_
                  try dsimp only [List.set]
                  first | refine r_iincN X dX11_isWord_150 rfl ?_ | refine r_iinc X _ dX11_isWord_150 rfl rfl ?_
                  try dsimp only [List.set]
                  refine r_goto X 32 dX11_isWord_153 (by decide) ?_
                  have e9 := it_s c_41
                  have ih9 := ih (by omega) (some (.int (nI (dw i k))))
                  rw [e9] at ih9
                  first | (rw [if_pos (by omega), decide_eq_true c_127] at ih9; exact ih9) | (rw [if_pos (by omega), decide_eq_false c_127] at ih9; exact ih9) | (rw [if_neg (by omega), decide_eq_true c_140] at ih9; exact ih9) | (rw [if_neg (by omega), decide_eq_false (show ¬ dw i k = 0 by omega)] at ih9; exact ih9)
                · skip
                  refine r_iconst (v := nI 1) X dX11_isWord_130 (by decide) ?_
                  refine r_goto X 148 dX11_isWord_131 (by decide) ?_
                  refine r_istore X dX11_isWord_148 (Nat.le_of_ble_eq_true rfl) ?_
                  try dsimp only [List.set]
                  first | refine r_iincN X dX11_isWord_150 rfl ?_ | refine r_iinc X _ dX11_isWord_150 rfl rfl ?_
                  try dsimp only [List.set]
                  refine r_goto X 32 dX11_isWord_153 (by decide) ?_
                  have e9 := it_s c_41
                  have ih9 := ih (by omega) (some (.int (nI (dw i k))))
                  rw [e9] at ih9
                  first | (rw [if_pos (by omega), decide_eq_true c_127] at ih9; exact ih9) | (rw [if_pos (by omega), decide_eq_false c_127] at ih9; exact ih9) | (rw [if_neg (by omega), decide_eq_true c_140] at ih9; exact ih9) | (rw [if_neg (by omega), decide_eq_false (show ¬ dw i k = 0 by omega)] at ih9; exact ih9)
          · skip
            refine r_iload_n X dX11_isWord_59 rfl ?_
            refine r_goto X 97 dX11_isWord_60 (by decide) ?_
            refine r_top _ (nI (dw i k)) (congrArg nI (by first | (obtain rfl : k = 0 := (by omega); rfl) | (obtain rfl : k = 1 := (by omega); rfl) | (obtain rfl : k = 2 := (by omega); rfl) | (obtain rfl : k = 3 := (by omega); rfl) | (obtain rfl : k = 4 := (by omega); rfl) | (obtain rfl : k = 5 := (by omega); rfl))) ?_
            refine r_istore X dX11_isWord_97 (Nat.le_of_ble_eq_true rfl) ?_
            try dsimp only [List.set]
            refine r_aload_n X dX11_isWord_99 rfl ?_
            refine r_get (ci := 10) X 13 _ ti_RX11 rfl (by decide) tw_671 (fun _ h => h) dX11_isWord_100 (by first | exact m0 | exact m1 | exact m2 | exact m3 | exact m4 | exact m5 | exact m6 | exact m7 | exact m8 | exact m9 | assumption) rfl ?_
            refine r_iload X dX11_isWord_103 rfl ?_
            first | refine r_iaddN X dX11_isWord_105 ?_ | refine r_iadd X _ dX11_isWord_105 rfl ?_
            refine r_aload_n X dX11_isWord_106 rfl ?_
            refine r_get (ci := 10) X 11 _ ti_RX11 rfl (by decide) tw_669 (fun _ h => h) dX11_isWord_107 (by first | exact m0 | exact m1 | exact m2 | exact m3 | exact m4 | exact m5 | exact m6 | exact m7 | exact m8 | exact m9 | assumption) rfl ?_
            refine r_icmp_geN X 138 dX11_isWord_110 (by decide) (by omega) (by omega) (fun c_110 => ?_) (fun c_110 => ?_)
            · skip
              refine r_iload X dX11_isWord_138 rfl ?_
              refine r_if_neN X 147 dX11_isWord_140 (by decide) (by omega) (fun c_140 => ?_) (fun c_140 => ?_)
              · skip
                refine r_iconst (v := nI 0) X dX11_isWord_147 (by decide) ?_
                refine r_istore X dX11_isWord_148 (Nat.le_of_ble_eq_true rfl) ?_
                try dsimp only [List.set]
                first | refine r_iincN X dX11_isWord_150 rfl ?_ | refine r_iinc X _ dX11_isWord_150 rfl rfl ?_
                try dsimp only [List.set]
                refine r_goto X 32 dX11_isWord_153 (by decide) ?_
                have e9 := it_s c_41
                have ih9 := ih (by omega) (some (.int (nI (dw i k))))
                rw [e9] at ih9
                first | (rw [if_pos (by omega), decide_eq_true c_127] at ih9; exact ih9) | (rw [if_pos (by omega), decide_eq_false c_127] at ih9; exact ih9) | (rw [if_neg (by omega), decide_eq_true c_140] at ih9; exact ih9) | (rw [if_neg (by omega), decide_eq_false (show ¬ dw i k = 0 by omega)] at ih9; exact ih9)
              · skip
                refine r_iconst (v := nI 1) X dX11_isWord_143 (by decide) ?_
                refine r_goto X 148 dX11_isWord_144 (by decide) ?_
                refine r_istore X dX11_isWord_148 (Nat.le_of_ble_eq_true rfl) ?_
                try dsimp only [List.set]
                first | refine r_iincN X dX11_isWord_150 rfl ?_ | refine r_iinc X _ dX11_isWord_150 rfl rfl ?_
                try dsimp only [List.set]
                refine r_goto X 32 dX11_isWord_153 (by decide) ?_
                have e9 := it_s c_41
                have ih9 := ih (by omega) (some (.int (nI (dw i k))))
                rw [e9] at ih9
                first | (rw [if_pos (by omega), decide_eq_true c_127] at ih9; exact ih9) | (rw [if_pos (by omega), decide_eq_false c_127] at ih9; exact ih9) | (rw [if_neg (by omega), decide_eq_true c_140] at ih9; exact ih9) | (rw [if_neg (by omega), decide_eq_false (show ¬ dw i k = 0 by omega)] at ih9; exact ih9)
            · skip
              have hLk := hL (u 5 + k)
              refine r_aload_n X dX11_isWord_113 rfl ?_
              refine r_get (ci := 10) X 0 _ ti_RX11 rfl (by decide) tw_658 (fun _ h => h) dX11_isWord_114 (by first | exact m0 | exact m1 | exact m2 | exact m3 | exact m4 | exact m5 | exact m6 | exact m7 | exact m8 | exact m9 | assumption) rfl ?_
              refine r_aload_n X dX11_isWord_117 rfl ?_
              refine r_get (ci := 10) X 13 _ ti_RX11 rfl (by decide) tw_671 (fun _ h => h) dX11_isWord_118 (by first | exact m0 | exact m1 | exact m2 | exact m3 | exact m4 | exact m5 | exact m6 | exact m7 | exact m8 | exact m9 | assumption) rfl ?_
              refine r_iload X dX11_isWord_121 rfl ?_
              first | refine r_iaddN X dX11_isWord_123 ?_ | refine r_iadd X _ dX11_isWord_123 rfl ?_
              refine r_nald X _ dX11_isWord_124 (by first | exact m0 | exact m1 | exact m2 | exact m3 | exact m4 | exact m5 | exact m6 | exact m7 | exact m8 | exact m9 | assumption) (rfl) (by omega) (by decide) ?_
              refine r_iload X dX11_isWord_125 rfl ?_
              refine r_icmp_neN X 134 dX11_isWord_127 (by decide) (by omega) (by omega) (fun c_127 => ?_) (fun c_127 => ?_)
              · skip
                refine r_iconst (v := nI 0) X dX11_isWord_134 (by decide) ?_
                refine r_goto X 148 dX11_isWord_135 (by decide) ?_
                refine r_istore X dX11_isWord_148 (Nat.le_of_ble_eq_true rfl) ?_
                try dsimp only [List.set]
                first | refine r_iincN X dX11_isWord_150 rfl ?_ | refine r_iinc X _ dX11_isWord_150 rfl rfl ?_
                try dsimp only [List.set]
                refine r_goto X 32 dX11_isWord_153 (by decide) ?_
                have e9 := it_s c_41
                have ih9 := ih (by omega) (some (.int (nI (dw i k))))
                rw [e9] at ih9
                first | (rw [if_pos (by omega), decide_eq_true c_127] at ih9; exact ih9) | (rw [if_pos (by omega), decide_eq_false c_127] at ih9; exact ih9) | (rw [if_neg (by omega), decide_eq_true c_140] at ih9; exact ih9) | (rw [if_neg (by omega), decide_eq_false (show ¬ dw i k = 0 by omega)] at ih9; exact ih9)
              · skip
                refine r_iconst (v := nI 1) X dX11_isWord_130 (by decide) ?_
                refine r_goto X 148 dX11_isWord_131 (by decide) ?_
                refine r_istore X dX11_isWord_148 (Nat.le_of_ble_eq_true rfl) ?_
                try dsimp only [List.set]
                first | refine r_iincN X dX11_isWord_150 rfl ?_ | refine r_iinc X _ dX11_isWord_150 rfl rfl ?_
                try dsimp only [List.set]
                refine r_goto X 32 dX11_isWord_153 (by decide) ?_
                have e9 := it_s c_41
                have ih9 := ih (by omega) (some (.int (nI (dw i k))))
                rw [e9] at ih9
                first | (rw [if_pos (by omega), decide_eq_true c_127] at ih9; exact ih9) | (rw [if_pos (by omega), decide_eq_false c_127] at ih9; exact ih9) | (rw [if_neg (by omega), decide_eq_true c_140] at ih9; exact ih9) | (rw [if_neg (by omega), decide_eq_false (show ¬ dw i k = 0 by omega)] at ih9; exact ih9)
        · skip
          refine r_iload_n X dX11_isWord_49 rfl ?_
          refine r_goto X 97 dX11_isWord_50 (by decide) ?_
          refine r_top _ (nI (dw i k)) (congrArg nI (by first | (obtain rfl : k = 0 := (by omega); rfl) | (obtain rfl : k = 1 := (by omega); rfl) | (obtain rfl : k = 2 := (by omega); rfl) | (obtain rfl : k = 3 := (by omega); rfl) | (obtain rfl : k = 4 := (by omega); rfl) | (obtain rfl : k = 5 := (by omega); rfl))) ?_
          refine r_istore X dX11_isWord_97 (Nat.le_of_ble_eq_true rfl) ?_
          try dsimp only [List.set]
          refine r_aload_n X dX11_isWord_99 rfl ?_
          refine r_get (ci := 10) X 13 _ ti_RX11 rfl (by decide) tw_671 (fun _ h => h) dX11_isWord_100 (by first | exact m0 | exact m1 | exact m2 | exact m3 | exact m4 | exact m5 | exact m6 | exact m7 | exact m8 | exact m9 | assumption) rfl ?_
          refine r_iload X dX11_isWord_103 rfl ?_
          first | refine r_iaddN X dX11_isWord_105 ?_ | refine r_iadd X _ dX11_isWord_105 rfl ?_
          refine r_aload_n X dX11_isWord_106 rfl ?_
          refine r_get (ci := 10) X 11 _ ti_RX11 rfl (by decide) tw_669 (fun _ h => h) dX11_isWord_107 (by first | exact m0 | exact m1 | exact m2 | exact m3 | exact m4 | exact m5 | exact m6 | exact m7 | exact m8 | exact m9 | assumption) rfl ?_
          refine r_icmp_geN X 138 dX11_isWord_110 (by decide) (by omega) (by omega) (fun c_110 => ?_) (fun c_110 => ?_)
          · skip
            refine r_iload X dX11_isWord_138 rfl ?_
            refine r_if_neN X 147 dX11_isWord_140 (by decide) (by omega) (fun c_140 => ?_) (fun c_140 => ?_)
            · skip
              refine r_iconst (v := nI 0) X dX11_isWord_147 (by decide) ?_
              refine r_istore X dX11_isWord_148 (Nat.le_of_ble_eq_true rfl) ?_
              try dsimp only [List.set]
              first | refine r_iincN X dX11_isWord_150 rfl ?_ | refine r_iinc X _ dX11_isWord_150 rfl rfl ?_
              try dsimp only [List.set]
              refine r_goto X 32 dX11_isWord_153 (by decide) ?_
              have e9 := it_s c_41
              have ih9 := ih (by omega) (some (.int (nI (dw i k))))
              rw [e9] at ih9
              first | (rw [if_pos (by omega), decide_eq_true c_127] at ih9; exact ih9) | (rw [if_pos (by omega), decide_eq_false c_127] at ih9; exact ih9) | (rw [if_neg (by omega), decide_eq_true c_140] at ih9; exact ih9) | (rw [if_neg (by omega), decide_eq_false (show ¬ dw i k = 0 by omega)] at ih9; exact ih9)
            · skip
              refine r_iconst (v := nI 1) X dX11_isWord_143 (by decide) ?_
              refine r_goto X 148 dX11_isWord_144 (by decide) ?_
              refine r_istore X dX11_isWord_148 (Nat.le_of_ble_eq_true rfl) ?_
              try dsimp only [List.set]
              first | refine r_iincN X dX11_isWord_150 rfl ?_ | refine r_iinc X _ dX11_isWord_150 rfl rfl ?_
              try dsimp only [List.set]
              refine r_goto X 32 dX11_isWord_153 (by decide) ?_
              have e9 := it_s c_41
              have ih9 := ih (by omega) (some (.int (nI (dw i k))))
              rw [e9] at ih9
              first | (rw [if_pos (by omega), decide_eq_true c_127] at ih9; exact ih9) | (rw [if_pos (by omega), decide_eq_false c_127] at ih9; exact ih9) | (rw [if_neg (by omega), decide_eq_true c_140] at ih9; exact ih9) | (rw [if_neg (by omega), decide_eq_false (show ¬ dw i k = 0 by omega)] at ih9; exact ih9)
          · skip
            have hLk := hL (u 5 + k)
            refine r_aload_n X dX11_isWord_113 rfl ?_
            refine r_get (ci := 10) X 0 _ ti_RX11 rfl (by decide) tw_658 (fun _ h => h) dX11_isWord_114 (by first | exact m0 | exact m1 | exact m2 | exact m3 | exact m4 | exact m5 | exact m6 | exact m7 | exact m8 | exact m9 | assumption) rfl ?_
            refine r_aload_n X dX11_isWord_117 rfl ?_
            refine r_get (ci := 10) X 13 _ ti_RX11 rfl (by decide) tw_671 (fun _ h => h) dX11_isWord_118 (by first | exact m0 | exact m1 | exact m2 | exact m3 | exact m4 | exact m5 | exact m6 | exact m7 | exact m8 | exact m9 | assumption) rfl ?_
            refine r_iload X dX11_isWord_121 rfl ?_
            first | refine r_iaddN X dX11_isWord_123 ?_ | refine r_iadd X _ dX11_isWord_123 rfl ?_
            refine r_nald X _ dX11_isWord_124 (by first | exact m0 | exact m1 | exact m2 | exact m3 | exact m4 | exact m5 | exact m6 | exact m7 | exact m8 | exact m9 | assumption) (rfl) (by omega) (by decide) ?_
            refine r_iload X dX11_isWord_125 rfl ?_
            refine r_icmp_neN X 134 dX11_isWord_127 (by decide) (by omega) (by omega) (fun c_127 => ?_) (fun c_127 => ?_)
            · skip
              refine r_iconst (v := nI 0) X dX11_isWord_134 (by decide) ?_
              refine r_goto X 148 dX11_isWord_135 (by decide) ?_
              refine r_istore X dX11_isWord_148 (Nat.le_of_ble_eq_true rfl) ?_
              try dsimp only [List.set]
              first | refine r_iincN X dX11_isWord_150 rfl ?_ | refine r_iinc X _ dX11_isWord_150 rfl rfl ?_
              try dsimp only [List.set]
              refine r_goto X 32 dX11_isWord_153 (by decide) ?_
              have e9 := it_s c_41
              have ih9 := ih (by omega) (some (.int (nI (dw i k))))
              rw [e9] at ih9
              first | (rw [if_pos (by omega), decide_eq_true c_127] at ih9; exact ih9) | (rw [if_pos (by omega), decide_eq_false c_127] at ih9; exact ih9) | (rw [if_neg (by omega), decide_eq_true c_140] at ih9; exact ih9) | (rw [if_neg (by omega), decide_eq_false (show ¬ dw i k = 0 by omega)] at ih9; exact ih9)
            · skip
              refine r_iconst (v := nI 1) X dX11_isWord_130 (by decide) ?_
              refine r_goto X 148 dX11_isWord_131 (by decide) ?_
              refine r_istore X dX11_isWord_148 (Nat.le_of_ble_eq_true rfl) ?_
              try dsimp only [List.set]
              first | refine r_iincN X dX11_isWord_150 rfl ?_ | refine r_iinc X _ dX11_isWord_150 rfl rfl ?_
              try dsimp only [List.set]
              refine r_goto X 32 dX11_isWord_153 (by decide) ?_
              have e9 := it_s c_41
              have ih9 := ih (by omega) (some (.int (nI (dw i k))))
              rw [e9] at ih9
              first | (rw [if_pos (by omega), decide_eq_true c_127] at ih9; exact ih9) | (rw [if_pos (by omega), decide_eq_false c_127] at ih9; exact ih9) | (rw [if_neg (by omega), decide_eq_true c_140] at ih9; exact ih9) | (rw [if_neg (by omega), decide_eq_false (show ¬ dw i k = 0 by omega)] at ih9; exact ih9)
  refine r_aload_n X dX11_isWord_0 rfl ?_
  refine r_get (ci := 10) X 12 _ ti_RX11 rfl (by decide) tw_670 (fun _ h => h) dX11_isWord_1 (by first | exact m0 | exact m1 | exact m2 | exact m3 | exact m4 | exact m5 | exact m6 | exact m7 | exact m8 | exact m9 | assumption) rfl ?_
  refine r_iconst (v := nI 1) X dX11_isWord_4 (by decide) ?_
  refine r_icmp_neN X 26 dX11_isWord_5 (by decide) (by omega) (by omega) (fun c_5 => ?_) (fun c_5 => ?_)
  · skip
    refine r_iconst (v := nI 0) X dX11_isWord_26 (by decide) ?_
    refine r_istore X dX11_isWord_27 (Nat.le_of_ble_eq_true rfl) ?_
    try dsimp only [List.set]
    refine r_iconst (v := nI 0) X dX11_isWord_29 (by decide) ?_
    refine r_istore X dX11_isWord_30 (Nat.le_of_ble_eq_true rfl) ?_
    try dsimp only [List.set]
    have h9 := hloop 0 (Nat.zero_le _) none
    rw [it_0] at h9
    first | (rw [decide_eq_true c_5, decide_eq_true (show u 3 - u 5 < 7 by omega)] at h9; exact h9) | (rw [decide_eq_false (show ¬ u 3 - u 5 < 7 by omega), Bool.and_false] at h9; exact h9) | (rw [decide_eq_false c_5] at h9; exact h9)
  · skip
    refine r_aload_n X dX11_isWord_8 rfl ?_
    refine r_get (ci := 10) X 11 _ ti_RX11 rfl (by decide) tw_669 (fun _ h => h) dX11_isWord_9 (by first | exact m0 | exact m1 | exact m2 | exact m3 | exact m4 | exact m5 | exact m6 | exact m7 | exact m8 | exact m9 | assumption) rfl ?_
    refine r_aload_n X dX11_isWord_12 rfl ?_
    refine r_get (ci := 10) X 13 _ ti_RX11 rfl (by decide) tw_671 (fun _ h => h) dX11_isWord_13 (by first | exact m0 | exact m1 | exact m2 | exact m3 | exact m4 | exact m5 | exact m6 | exact m7 | exact m8 | exact m9 | assumption) rfl ?_
    first | refine r_isubN X dX11_isWord_16 (by omega) ?_ | refine r_isub X _ dX11_isWord_16 rfl ?_
    refine r_bipush (v := nI 7) X dX11_isWord_17 (by decide) ?_
    refine r_icmp_geN X 26 dX11_isWord_19 (by decide) (by omega) (by omega) (fun c_19 => ?_) (fun c_19 => ?_)
    · skip
      refine r_iconst (v := nI 0) X dX11_isWord_26 (by decide) ?_
      refine r_istore X dX11_isWord_27 (Nat.le_of_ble_eq_true rfl) ?_
      try dsimp only [List.set]
      refine r_iconst (v := nI 0) X dX11_isWord_29 (by decide) ?_
      refine r_istore X dX11_isWord_30 (Nat.le_of_ble_eq_true rfl) ?_
      try dsimp only [List.set]
      have h9 := hloop 0 (Nat.zero_le _) none
      rw [it_0] at h9
      first | (rw [decide_eq_true c_5, decide_eq_true (show u 3 - u 5 < 7 by omega)] at h9; exact h9) | (rw [decide_eq_false (show ¬ u 3 - u 5 < 7 by omega), Bool.and_false] at h9; exact h9) | (rw [decide_eq_false c_5] at h9; exact h9)
    · skip
      refine r_iconst (v := nI 1) X dX11_isWord_22 (by decide) ?_
      refine r_goto X 27 dX11_isWord_23 (by decide) ?_
      refine r_istore X dX11_isWord_27 (Nat.le_of_ble_eq_true rfl) ?_
      try dsimp only [List.set]
      refine r_iconst (v := nI 0) X dX11_isWord_29 (by decide) ?_
      refine r_istore X dX11_isWord_30 (Nat.le_of_ble_eq_true rfl) ?_
      try dsimp only [List.set]
      have h9 := hloop 0 (Nat.zero_le _) none
      rw [it_0] at h9
      first | (rw [decide_eq_true c_5, decide_eq_true (show u 3 - u 5 < 7 by omega)] at h9; exact h9) | (rw [decide_eq_false (show ¬ u 3 - u 5 < 7 by omega), Bool.and_false] at h9; exact h9) | (rw [decide_eq_false c_5] at h9; exact h9)

