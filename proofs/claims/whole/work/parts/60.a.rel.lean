/-- a moment that can be, on s steps -/
def gdM (s : Nat) (N : Mo) : Prop := (∀ j, N.1 j ≤ 7) ∧ (∀ j, N.2.1 j ≤ 99) ∧ (∀ j, N.2.2.1 j < 256) ∧ N.2.2.2 ≤ 999 ∧ (∀ j, N.1 j = 0 ∨ 0 < N.2.1 j) ∧ ∀ j, 2 * s ≤ j → N.1 j = 0
theorem firmN_99 {c w : Nat} (h : w ≤ 9) : firmN c w ≤ 99 := by unfold firmN; (repeat' split) <;> omega
theorem handN_1b (c : Nat) : handN c ≤ 1 := by unfold handN; split <;> omega
theorem gd_dn {s : Nat} {N : Mo} {c w y t : Nat} (h : gdM s N) (hw : w ≤ 9) (hy : y < s) (ht : t ≤ 7) : gdM s (dnN N c w y t) := by
  obtain ⟨h1, h2, h3, h4, h5, h6⟩ := h
  have hh := handN_1b c
  refine ⟨fun j => takeF_le h1 ht j, fun j => takeH_le h2 (firmN_99 hw) j, h3, h4, fun j => ?_, fun j hj => ?_⟩
  · show takeF N.1 N.2.1 (y * 2 + handN c) (firmN c w) t j = 0 ∨ 0 < takeH N.1 N.2.1 (y * 2 + handN c) (firmN c w) t j
    by_cases e : j = y * 2 + handN c
    · subst e
      unfold takeF takeH
      by_cases a : N.1 (y * 2 + handN c) = 0 ∨ N.1 (y * 2 + handN c) = t
      · rw [if_pos a, if_pos a, vu_eq, vu_eq]; split <;> omega
      · rw [if_neg a, if_neg a]
        by_cases b : N.2.1 (y * 2 + handN c) < firmN c w
        · rw [if_pos b, if_pos b, vu_eq, vu_eq]; split <;> omega
        · rw [if_neg b, if_neg b, vu_eq, vu_eq]; split <;> omega
    · have h9 := h5 j
      unfold takeF takeH
      by_cases a : N.1 (y * 2 + handN c) = 0 ∨ N.1 (y * 2 + handN c) = t
      · rw [if_pos a, if_pos a, vu_ne e, vu_ne e]; exact h9
      · rw [if_neg a, if_neg a]
        by_cases b : N.2.1 (y * 2 + handN c) < firmN c w
        · rw [if_pos b, if_pos b, vu_ne e, vu_ne e]; exact h9
        · rw [if_neg b, if_neg b, vu_ne e, vu_ne e]; exact h9
  · show takeF N.1 N.2.1 (y * 2 + handN c) (firmN c w) t j = 0
    have e : j ≠ y * 2 + handN c := by omega
    have h9 := h6 j hj
    unfold takeF
    by_cases a : N.1 (y * 2 + handN c) = 0 ∨ N.1 (y * 2 + handN c) = t
    · rw [if_pos a, vu_ne e]; exact h9
    · rw [if_neg a]
      by_cases b : N.2.1 (y * 2 + handN c) < firmN c w
      · rw [if_pos b, vu_ne e]; exact h9
      · rw [if_neg b, vu_ne e]; exact h9
theorem gd_rub {s : Nat} {N : Mo} {p : Nat → Bool} {k : Nat → Nat} {d : Nat} (h : gdM s N) (hk : ∀ j, k j < 256) (hd : d ≤ 999) : gdM s (rubF p N.1 N.2.1, rubH p N.2.1, k, d) := by
  obtain ⟨h1, h2, h3, h4, h5, h6⟩ := h
  refine ⟨fun j => rubF_le h1 j, fun j => rubH_le h2 j, hk, hd, fun j => ?_, fun j hj => ?_⟩
  · show rubF p N.1 N.2.1 j = 0 ∨ 0 < rubH p N.2.1 j
    have h9 := h5 j
    unfold rubF rubH
    by_cases e : p j = true
    · rw [if_pos e, if_pos e]; split <;> omega
    · rw [if_neg e, if_neg e]; exact h9
  · show rubF p N.1 N.2.1 j = 0
    have h9 := h6 j hj
    unfold rubF
    (repeat' split) <;> first | rfl | exact h9
theorem gd_up {s : Nat} {N : Mo} {c i y : Nat} (h : gdM s N) : gdM s (upN N c i y) := by
  refine gd_rub h (fun j => ?_) h.2.2.2.1
  have h3 := h.2.2.1
  simp only [va_up]
  split
  · exact Nat.or_lt_two_pow (n := 8) (h3 i) (hearN_lt h.1 _)
  · exact h3 j
theorem gd_pl {s : Nat} {N : Mo} {y : Nat} (h : gdM s N) : gdM s (plN N y) := by
  obtain ⟨h1, h2, h3, h4, h5, h6⟩ := h
  refine ⟨fun j => ?_, fun j => ?_, h3, h4, fun j => ?_, fun j hj => ?_⟩
  · show plF y 2 N.1 j ≤ 7
    have := h1 j
    unfold plF; split <;> omega
  · show plF y 2 N.2.1 j ≤ 99
    have := h2 j
    unfold plF; split <;> omega
  · show plF y 2 N.1 j = 0 ∨ 0 < plF y 2 N.2.1 j
    have := h5 j
    unfold plF
    by_cases e : y * 2 ≤ j ∧ j < y * 2 + 2
    · rw [if_pos e]; exact Or.inl rfl
    · rw [if_neg e, if_neg e]; exact this
  · show plF y 2 N.1 j = 0
    have := h6 j hj
    unfold plF; split <;> omega
theorem gd_ng {s : Nat} {N : Mo} (h : gdM s N) (hd : N.2.2.2 < 999) : gdM s (ngN N) := gd_rub h h.2.2.1 (by omega)
theorem gd_0 (s : Nat) : gdM s mo0 := ⟨fun _ => Nat.zero_le _, fun _ => Nat.zero_le _, fun _ => (by decide : 0 < 256), Nat.zero_le _, fun _ => Or.inl rfl, fun _ _ => rfl⟩
/-- class and model, group by group: house, text, now, past, kept, sights -/
def RT (n Y : Nat) (g : hG) (v : Nat → Nat) (F : Nat → Nat → Nat) (P : Nat → Option Nat) (cl wm pad : Nat → Nat) : Prop := pOk g Y P (v 1) pad cl wm ∧ (∀ i, i < v 1 → pad i < n ∧ cl i < 4 ∧ wm i ≤ 9) ∧ 2 ≤ v 0 ∧ v 0 ≤ 12 ∧ v 1 ≤ 6 ∧ gdM (v 0) (F 6, F 7, fun _ => 0, 0) ∧ Y + 85 ≤ n
def RX (v : Nat → Nat) (F : Nat → Nat → Nat) (u : Nat → Nat) (B : Nat → Nat → Nat) : Prop := u 0 = v 5 ∧ v 5 ≤ 160 ∧ B 1 = F 2 ∧ (∀ j, F 2 j ≤ 255) ∧ ∀ j, F 3 j < 3000
def RN (v : Nat → Nat) (F : Nat → Nat → Nat) (cl wm : Nat → Nat) (N : Mo) (B : Nat → Nat → Nat) : Prop := B 2 = tfl (v 0, v 1, cl, wm, F 6, F 7) ∧ B 4 = flat N ∧ gdM (v 0) N
def RP (v u : Nat → Nat) (B : Nat → Nat → Nat) (Mp Q : Nat → Mo) : Prop := u 1 = v 8 ∧ v 8 ≤ 8 ∧ v 7 < 8 ∧ B 5 = pfl Q ∧ ∀ k, k < v 8 → Q k = Mp ((v 7 + 8 - v 8 + k) % 8) ∧ gdM (v 0) (Q k)
def RK (v : Nat → Nat) (F B : Nat → Nat → Nat) (Kp I : Nat → Mo) : Prop := B 7 = F 59 ∧ (∀ j, F 59 j ≤ 1) ∧ B 6 = pfl I ∧ ∀ k, k < 2 → F 59 k ≠ 0 → I k = Kp k ∧ gdM (v 0) (Kp k)
def RS (v u : Nat → Nat) (F B : Nat → Nat → Nat) (SP : Nat → Option Nat) (pad si : Nat → Nat) : Prop := u 2 = v 9 ∧ v 9 ≤ 6 ∧ sOk SP F (v 9) (v 0) (v 1) pad si ∧ ∀ k, k < v 9 → B 8 k = 1000 * si k + 20 * (10 * F 64 k + F 63 k) + F 62 k
def Rl (n Y : Nat) (g : hG) (v : Nat → Nat) (F : Nat → Nat → Nat) (P SP : Nat → Option Nat) (N : Mo) (Mp Kp : Nat → Mo) (u : Nat → Nat) (B : Nat → Nat → Nat) : Prop := ∃ (cl wm pad si : Nat → Nat) (Q I : Nat → Mo), RT n Y g v F P cl wm pad ∧ RX v F u B ∧ RN v F cl wm N B ∧ RP v u B Mp Q ∧ RK v F B Kp I ∧ RS v u F B SP pad si
theorem bm {E : xE} {g : hG} {Y : Nat} {v : Nat → Nat} {F : Nat → Nat → Nat} {P SP : Nat → Option Nat} {N : Mo} {Mp Kp : Nat → Mo} {u : Nat → Nat} {B : Nat → Nat → Nat} : bG E (mG E g (Y + 75) u B) Y v F P SP N Mp Kp = mG E (bG E g Y v F P SP N Mp Kp) (Y + 75) u B := blk_comm (Or.inr (Nat.le_refl _))
theorem pOk_m {E : xE} {g : hG} {Y pn : Nat} {P : Nat → Option Nat} {pad cl wm u : Nat → Nat} {B : Nat → Nat → Nat} (h : pOk g Y P pn pad cl wm) : pOk (mG E g (Y + 75) u B) Y P pn pad cl wm := fun i hi => by
  obtain ⟨h1, h2, h3, h4, h5⟩ := h i hi
  exact ⟨h1, h2, h3, by rw [mout (Or.inr (by omega))]; exact h4, h5⟩
theorem RP_keep {v u : Nat → Nat} {B : Nat → Nat → Nat} {Mp Q : Nat → Mo} {N : Mo} {X : Nat → Nat} (h : RP v u B Mp Q) (hN : gdM (v 0) N) : RP (rmV v) (va_up u 1 (min 8 (u 1 + 1))) (va_up (va_up B 5 (pfl (kpQ (u 1) Q N))) 4 X) (va_up Mp (v 7) N) (kpQ (u 1) Q N) := by
  obtain ⟨h1, h2, h3, h4, h5⟩ := h
  refine ⟨?_, ?_, ?_, rfl, ?_⟩
  · show min 8 (u 1 + 1) = min 8 (v 8 + 1); rw [h1]
  · show min 8 (v 8 + 1) ≤ 8; omega
  · show (v 7 + 1) % 8 < 8; omega
  · intro k hk
    have hk : k < min 8 (v 8 + 1) := hk
    show kpQ (u 1) Q N k = va_up Mp (v 7) N (((v 7 + 1) % 8 + 8 - min 8 (v 8 + 1) + k) % 8) ∧ gdM (v 0) (kpQ (u 1) Q N k)
    rw [h1]
    unfold kpQ
    by_cases e : v 8 = 8
    · rw [if_pos e]
      by_cases e2 : k = 7
      · subst e2
        rw [vu_eq, show ((v 7 + 1) % 8 + 8 - min 8 (v 8 + 1) + 7) % 8 = v 7 by omega, vu_eq]
        exact ⟨rfl, hN⟩
      · rw [vu_ne e2, vu_ne (show ((v 7 + 1) % 8 + 8 - min 8 (v 8 + 1) + k) % 8 ≠ v 7 by omega)]
        have h9 := h5 (k + 1) (by omega)
        rw [show (v 7 + 8 - v 8 + (k + 1)) % 8 = ((v 7 + 1) % 8 + 8 - min 8 (v 8 + 1) + k) % 8 by omega] at h9
        exact h9
    · rw [if_neg e]
      by_cases e2 : k = v 8
      · subst e2
        rw [vu_eq, show ((v 7 + 1) % 8 + 8 - min 8 (v 8 + 1) + v 8) % 8 = v 7 by omega, vu_eq]
        exact ⟨rfl, hN⟩
      · rw [vu_ne e2, vu_ne (show ((v 7 + 1) % 8 + 8 - min 8 (v 8 + 1) + k) % 8 ≠ v 7 by omega)]
        have h9 := h5 k (by omega)
        rw [show (v 7 + 8 - v 8 + k) % 8 = ((v 7 + 1) % 8 + 8 - min 8 (v 8 + 1) + k) % 8 by omega] at h9
        exact h9
theorem RP_undo {v u : Nat → Nat} {B : Nat → Nat → Nat} {Mp Q : Nat → Mo} {X : Nat → Nat} (h : RP v u B Mp Q) (h0 : v 8 ≠ 0) : RP (va_up (va_up v 7 ((v 7 + 8 - 1) % 8)) 8 (v 8 - 1)) (va_up u 1 (u 1 - 1)) (va_up B 4 X) Mp Q ∧ Q (u 1 - 1) = Mp ((v 7 + 8 - 1) % 8) ∧ gdM (v 0) (Q (u 1 - 1)) := by
  obtain ⟨h1, h2, h3, h4, h5⟩ := h
  refine ⟨⟨?_, ?_, ?_, h4, ?_⟩, ?_⟩
  · show u 1 - 1 = v 8 - 1; rw [h1]
  · show v 8 - 1 ≤ 8; omega
  · show (v 7 + 8 - 1) % 8 < 8; omega
  · intro k hk
    have hk : k < v 8 - 1 := hk
    show Q k = Mp (((v 7 + 8 - 1) % 8 + 8 - (v 8 - 1) + k) % 8) ∧ gdM (v 0) (Q k)
    have h9 := h5 k (by omega)
    rw [show (v 7 + 8 - v 8 + k) % 8 = ((v 7 + 8 - 1) % 8 + 8 - (v 8 - 1) + k) % 8 by omega] at h9
    exact h9
  · have h9 := h5 (v 8 - 1) (by omega)
    rw [h1]
    rw [show (v 7 + 8 - v 8 + (v 8 - 1)) % 8 = (v 7 + 8 - 1) % 8 by omega] at h9
    exact h9
theorem ix_lt {x : Int32} {k : Nat} (hk : k < 2 ^ 31) (h : inR x k = true) : ix x < k := by
  obtain ⟨j, hj, rfl⟩ := inR_ex hk h
  rw [ix_nI (by omega)]; exact hj
theorem say_ix {x : Int32} (h : sayB x = true) : 1 ≤ ix x ∧ ix x ≤ 7 := by
  unfold sayB at h
  rw [Bool.and_eq_true] at h
  obtain ⟨j, hj, rfl⟩ := inR_ex (by decide) h.1
  have h2 := of_decide_eq_true h.2
  rw [ix_nI (by omega)]
  have : j ≠ 0 := fun e => h2 (by rw [e]; rfl)
  omega
/-- people and rails that are told stay such as can be -/
theorem fold_p {C : Nat → Nat × (Nat → Nat)} {x : hsT} {m : Nat} (h : ∀ j, j < m → gdc (C j).1 (C j).2 (cFold C x j).1 (cFold C x j).2.1) (hp : ∀ i, i < x.2.1 → x.2.2.1 i < 4 ∧ x.2.2.2.1 i ≤ 9) : ∀ j, j ≤ m → ∀ i, i < (cFold C x j).2.1 → (cFold C x j).2.2.1 i < 4 ∧ (cFold C x j).2.2.2.1 i ≤ 9
  | 0, _ => hp
  | j + 1, hj => by
    have ih := fold_p h hp j (by omega)
    have hg := h j (by omega)
    intro i hi
    have hi : i < (cStep (C j).1 (C j).2 (cFold C x j)).2.1 := hi
    show (cStep (C j).1 (C j).2 (cFold C x j)).2.2.1 i < 4 ∧ (cStep (C j).1 (C j).2 (cFold C x j)).2.2.2.1 i ≤ 9
    unfold cStep at hi ⊢
    by_cases e4 : (C j).1 = 4
    · rw [if_pos e4] at hi ⊢; exact absurd hi (Nat.not_lt_zero _)
    · rw [if_neg e4] at hi ⊢
      by_cases e5 : (C j).1 = 5
      · rw [if_pos e5] at hi ⊢; exact ih i hi
      · rw [if_neg e5] at hi ⊢
        by_cases e6 : (C j).1 = 6
        · rw [if_pos e6] at hi ⊢; exact ih i hi
        · rw [if_neg e6] at hi ⊢
          have hi : i < (cFold C x j).2.1 + 1 := hi
          show va_up (cFold C x j).2.2.1 (cFold C x j).2.1 (ckN (C j).1) i < 4 ∧ va_up (cFold C x j).2.2.2.1 (cFold C x j).2.1 ((C j).2 0) i ≤ 9
          by_cases e : i = (cFold C x j).2.1
          · subst e
            rw [vu_eq, vu_eq]
            have hb := hg.2.2 0 (by unfold nbN; rw [if_neg e5, if_neg e6]; decide)
            unfold hiN at hb
            rw [if_neg e4, if_neg e5] at hb
            exact ⟨ckN_lt _, hb.2⟩
          · rw [vu_ne e, vu_ne e]; exact ih i (by omega)
theorem fold_t {C : Nat → Nat × (Nat → Nat)} {x : hsT} {m : Nat} (h : ∀ j, j < m → gdc (C j).1 (C j).2 (cFold C x j).1 (cFold C x j).2.1) (h2 : 2 ≤ x.1) (h12 : x.1 ≤ 12) (h6 : x.2.1 ≤ 6) (hp : gdM x.1 (laid x)) : ∀ j, j ≤ m → gdM (cFold C x j).1 (laid (cFold C x j))
  | 0, _ => hp
  | j + 1, hj => by
    have ih := fold_t h h2 h12 h6 hp j (by omega)
    have hg := h j (by omega)
    have hb0 := fold_b h h2 h12 h6 j (by omega)
    show gdM (cStep (C j).1 (C j).2 (cFold C x j)).1 (laid (cStep (C j).1 (C j).2 (cFold C x j)))
    unfold cStep
    by_cases e4 : (C j).1 = 4
    · rw [if_pos e4]; exact gd_0 _
    · rw [if_neg e4]
      by_cases e5 : (C j).1 = 5
      · rw [if_pos e5]
        have b0 := hg.2.2 0 (by rw [e5]; decide)
        have b1 := hg.2.2 1 (by rw [e5]; decide)
        have b2 := hg.2.2 2 (by rw [e5]; decide)
        have b3 := hg.2.2 3 (by rw [e5]; decide)
        rw [e5] at b0 b1 b2 b3
        simp only [loN, hiN] at b0 b1 b2 b3
        simp at b0 b1 b2 b3
        obtain ⟨q1, q2, q3, q4, q5, q6⟩ := ih
        refine ⟨fun i => ?_, fun i => ?_, q3, q4, fun i => ?_, fun i hi => ?_⟩
        · show va_up (cFold C x j).2.2.2.2.1 _ _ i ≤ 7
          have := q1 i
          simp only [va_up]; split
          · omega
          · exact this
        · show va_up (cFold C x j).2.2.2.2.2 _ _ i ≤ 99
          have := q2 i
          simp only [va_up]; split
          · omega
          · exact this
        · show va_up (cFold C x j).2.2.2.2.1 _ _ i = 0 ∨ 0 < va_up (cFold C x j).2.2.2.2.2 _ _ i
          have := q5 i
          by_cases e : i = (C j).2 0 * 2 + (C j).2 1
          · subst e; rw [vu_eq, vu_eq]; omega
          · rw [vu_ne e, vu_ne e]; exact this
        · show va_up (cFold C x j).2.2.2.2.1 _ _ i = 0
          have hi : 2 * (cFold C x j).1 ≤ i := hi
          rw [vu_ne (by omega)]; exact q6 i hi
      · rw [if_neg e5]
        by_cases e6 : (C j).1 = 6
        · rw [if_pos e6]; exact gd_0 _
        · rw [if_neg e6]; exact ih
theorem hsO_eq {g : hG} {Y : Nat} {v : Nat → Nat} {F : Nat → Nat → Nat} {P : Nat → Option Nat} {pad : Nat → Nat} {x : hsT} (h : hsO g Y v F P pad x) : (v 0, v 1, x.2.2.1, x.2.2.2.1, F 6, F 7) = x := by
  obtain ⟨h1, h2, h3, h4, -⟩ := h
  rw [h1, h2, h3, h4]

