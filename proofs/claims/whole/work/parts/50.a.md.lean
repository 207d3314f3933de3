/-- how many of the set's first k people rub where p's hand goes -/
def rcF (cl : Nat → Nat) (p a : Nat) : Nat → Nat
  | 0 => 0
  | k + 1 => rcF cl p a k + (if a / 2 ^ k % 2 = 1 ∧ feelsB (cl k) = true ∧ handN (cl k) = handN (cl p) then 1 else 0)
theorem run_at {cl : Nat → Nat} {top p a : Nat} {N : Mo} (hf : ∀ j, N.1 j = 0 ∨ 0 < N.2.1 j) {j : Nat} (h1 : j % 2 = handN (cl p)) (h2 : j / 2 < top + 1) : ∀ k, (runF cl top a N k).1 j = (if N.2.1 j ≤ rcF cl p a k then 0 else N.1 j) ∧ (runF cl top a N k).2.1 j = N.2.1 j - rcF cl p a k
  | 0 => by
    have := hf j
    constructor
    · show N.1 j = if N.2.1 j ≤ 0 then 0 else N.1 j
      split <;> omega
    · rfl
  | k + 1 => by
    have ih := run_at hf h1 h2 k (cl := cl) (p := p) (a := a)
    have e : rcF cl p a (k + 1) = rcF cl p a k + (if a / 2 ^ k % 2 = 1 ∧ feelsB (cl k) = true ∧ handN (cl k) = handN (cl p) then 1 else 0) := rfl
    have e2 : runF cl top a N (k + 1) = if a / 2 ^ k % 2 = 1 then upN (runF cl top a N k) (cl k) k top else runF cl top a N k := rfl
    by_cases hb : a / 2 ^ k % 2 = 1
    · rw [e2, if_pos hb]
      have hq : upQ (cl k) (top + 1) j = decide (feelsB (cl k) = true ∧ handN (cl k) = handN (cl p)) := by
        unfold upQ
        cases hfe : feelsB (cl k) with
        | false => simp
        | true =>
          simp only [Bool.true_and, true_and]
          congr 1
          apply propext
          rw [h1]
          exact ⟨fun q => q.1.symm, fun q => ⟨q.symm, h2⟩⟩
      have r1 : (upN (runF cl top a N k) (cl k) k top).1 j = if upQ (cl k) (top + 1) j = true then (if (runF cl top a N k).2.1 j - 1 = 0 then 0 else (runF cl top a N k).1 j) else (runF cl top a N k).1 j := rfl
      have r2 : (upN (runF cl top a N k) (cl k) k top).2.1 j = if upQ (cl k) (top + 1) j = true then (runF cl top a N k).2.1 j - 1 else (runF cl top a N k).2.1 j := rfl
      by_cases hc : feelsB (cl k) = true ∧ handN (cl k) = handN (cl p)
      · have e9 : rcF cl p a (k + 1) = rcF cl p a k + 1 := by rw [e, if_pos ⟨hb, hc⟩]
        rw [r1, r2, e9, hq, ih.1, ih.2, if_pos (decide_eq_true hc), if_pos (decide_eq_true hc)]
        constructor
        · (repeat' split) <;> first | rfl | omega
        · omega
      · have e9 : rcF cl p a (k + 1) = rcF cl p a k := by rw [e, if_neg (fun q => hc q.2)]; rfl
        rw [r1, r2, e9, hq, ih.1, ih.2, if_neg (fun q => hc (of_decide_eq_true q)), if_neg (fun q => hc (of_decide_eq_true q))]
        exact ⟨rfl, rfl⟩
    · have e9 : rcF cl p a (k + 1) = rcF cl p a k := by rw [e, if_neg (fun q => hb q.1)]; rfl
      rw [e2, if_neg hb, e9]; exact ih
theorem bt_bit {x t : Nat} (ht : 1 ≤ t) : (bt x).testBit t = decide (x = t) := by
  unfold bt
  split
  · rename_i h; rw [Nat.zero_testBit]; exact (decide_eq_false (by omega)).symm
  · rw [Nat.testBit_two_pow]
theorem hbF_bit {f : Nat → Nat} {hd t : Nat} (ht : 1 ≤ t) : ∀ k, (hbF f hd k).testBit t = false ↔ ∀ i, i < k → ¬ f (i * 2 + hd) = t
  | 0 => ⟨fun _ i hi => by omega, fun _ => Nat.zero_testBit t⟩
  | k + 1 => by
    have ih := hbF_bit (f := f) (hd := hd) ht k
    show (hbF f hd k ||| bt (f (k * 2 + hd))).testBit t = false ↔ _
    rw [Nat.testBit_or, bt_bit ht, Bool.or_eq_false_iff, ih, decide_eq_false_iff_not]
    constructor
    · rintro ⟨q1, q2⟩ i hi
      by_cases e : i = k
      · subst e; exact q2
      · exact q1 i (by omega)
    · exact fun q => ⟨fun i hi => q i (by omega), q k (by omega)⟩
theorem fmx_iff {f h : Nat → Nat} {t hd r : Nat} : ∀ k, fmx f h t hd k ≤ r ↔ ∀ i, i < k → f (i * 2 + hd) = t → h (i * 2 + hd) ≤ r
  | 0 => ⟨fun _ i hi => by omega, fun _ => Nat.zero_le _⟩
  | k + 1 => by
    have ih := fmx_iff (f := f) (h := h) (t := t) (hd := hd) (r := r) k
    have e : fmx f h t hd (k + 1) = if f (k * 2 + hd) = t then max (fmx f h t hd k) (h (k * 2 + hd)) else fmx f h t hd k := rfl
    rw [e]
    constructor
    · intro q i hi hfi
      by_cases e2 : i = k
      · subst e2; rw [if_pos hfi] at q; omega
      · have q2 : fmx f h t hd k ≤ r := by split at q <;> omega
        exact ih.mp q2 i (by omega) hfi
    · intro q
      have q2 := ih.mpr (fun i hi => q i (by omega))
      split
      · rename_i hfk
        have := q k (by omega) hfk
        omega
      · exact q2
theorem bit0 {x t : Nat} : x / 2 ^ t % 2 = 0 ↔ x.testBit t = false := by
  rw [Nat.testBit_eq_decide_div_mod_eq, decide_eq_false_iff_not]
  omega
theorem clr_iff {cl : Nat → Nat} {s pn p t a : Nat} {N : Mo} (hf : ∀ j, N.1 j = 0 ∨ 0 < N.2.1 j) (hz : ∀ j, 2 * s ≤ j → N.1 j = 0) (hs1 : 1 ≤ s) (hs : s ≤ 12) (ht : 1 ≤ t) : clrB cl (s - 1) pn p t N a = decide (ndN cl N p t ≤ rcF cl p a pn) := by
  unfold clrB ndN hearN
  congr 1
  apply propext
  cases hp : feelsB (cl p) with
  | false => simp
  | true =>
    simp only [if_true, ↓reduceIte]
    rw [bit0, hbF_bit ht, fmx_iff, show s - 1 + 1 = s by omega]
    have hd2 := handN_le (cl p)
    have key : ∀ i, i < s → (runF cl (s - 1) a N pn).1 (i * 2 + handN (cl p)) = (if N.2.1 (i * 2 + handN (cl p)) ≤ rcF cl p a pn then 0 else N.1 (i * 2 + handN (cl p))) := fun i hi => (run_at hf (by omega) (by omega) pn).1
    constructor
    · intro q i hi hfi
      by_cases e : i < s
      · have h1 := q i e
        rw [key i e] at h1
        by_cases e2 : N.2.1 (i * 2 + handN (cl p)) ≤ rcF cl p a pn
        · exact e2
        · rw [if_neg e2] at h1; exact absurd hfi h1
      · have := hz (i * 2 + handN (cl p)) (by omega); omega
    · intro q i hi h1
      rw [key i hi] at h1
      by_cases e2 : N.2.1 (i * 2 + handN (cl p)) ≤ rcF cl p a pn
      · rw [if_pos e2] at h1; omega
      · rw [if_neg e2] at h1; exact e2 (q i (by omega) h1)
/-- a set of people as a number -/
def msk (el : Nat → Bool) : Nat → Nat
  | 0 => 0
  | k + 1 => msk el k + (if el k = true then 2 ^ k else 0)
theorem msk_lt (el : Nat → Bool) : ∀ k, msk el k < 2 ^ k
  | 0 => by show 0 < 1; decide
  | k + 1 => by have := msk_lt el k; show msk el k + _ < 2 ^ (k + 1); rw [Nat.pow_succ]; split <;> omega
theorem msk_bit (el : Nat → Bool) : ∀ k j, j < k → mB (msk el k) j = el j
  | 0, j, h => by omega
  | k + 1, j, h => by
    have hlt := msk_lt el k
    show decide ((msk el k + (if el k = true then 2 ^ k else 0)) / 2 ^ j % 2 = 1) = el j
    by_cases e : j = k
    · subst e
      cases hk : el j with
      | true => rw [if_pos rfl, Nat.add_div_right _ (Nat.pow_pos (by decide)), Nat.div_eq_of_lt hlt]; rfl
      | false => rw [if_neg (by decide), Nat.add_zero, Nat.div_eq_of_lt hlt]; rfl
    · have ih := msk_bit el k j (by omega)
      rw [← ih]
      unfold mB
      congr 1
      apply propext
      split
      · rw [show 2 ^ k = 2 ^ j * (2 * 2 ^ (k - j - 1)) by rw [← Nat.mul_assoc, ← Nat.pow_succ, ← Nat.pow_add]; congr 1; omega, Nat.add_mul_div_left _ _ (Nat.pow_pos (by decide)), Nat.add_mul_mod_self_left]
      · rw [Nat.add_zero]
theorem rc_eq {cl : Nat → Nat} {p a m : Nat} (hp : a / 2 ^ p % 2 = 0) : ∀ k, (∀ j, j < k → mB m j = elB cl p j) → rcF cl p a k = rcM a m k
  | 0, _ => rfl
  | k + 1, h => by
    show rcF cl p a k + _ = rcM a m k + _
    rw [rc_eq hp k (fun j hj => h j (by omega))]
    have hk := h k (by omega)
    congr 1
    by_cases e : k = p
    · subst e; rw [if_neg (fun q => by omega), if_neg (fun q => by omega)]
    · have h1 : (m / 2 ^ k % 2 = 1) ↔ (feelsB (cl k) = true ∧ handN (cl k) = handN (cl p)) := by
        unfold mB elB at hk
        rw [decide_eq_true e, Bool.true_and] at hk
        constructor
        · intro q; rw [decide_eq_true q] at hk; simpa using hk.symm
        · intro q; rw [q.1, decide_eq_true q.2] at hk; simpa using hk
      by_cases e2 : a / 2 ^ k % 2 = 1 ∧ m / 2 ^ k % 2 = 1
      · rw [if_pos e2, if_pos ⟨e2.1, h1.mp e2.2⟩]
      · rw [if_neg e2, if_neg (fun q => e2 ⟨q.1, h1.mpr q.2⟩)]
theorem srF_congr2 {ok ok2 : Nat → Bool} {p : Nat} : ∀ a, (∀ j, j < a → j / 2 ^ p % 2 = 0 → ok j = ok2 j) → srF ok p a = srF ok2 p a
  | 0, _ => rfl
  | a + 1, h => by
    have ih := srF_congr2 a (fun j hj => h j (by omega))
    have e1 : srF ok p (a + 1) = if a / 2 ^ p % 2 = 0 ∧ lessO (srF ok p a) a = true ∧ ok a = true then some a else srF ok p a := rfl
    have e2 : srF ok2 p (a + 1) = if a / 2 ^ p % 2 = 0 ∧ lessO (srF ok2 p a) a = true ∧ ok2 a = true then some a else srF ok2 p a := rfl
    rw [e1, e2, ih]
    by_cases hb : a / 2 ^ p % 2 = 0
    · rw [h a (by omega) hb]
    · rw [if_neg (fun q => hb q.1), if_neg (fun q => hb q.1)]
theorem send_eq {cl : Nat → Nat} {s pn p t : Nat} {N : Mo} (hf : ∀ j, N.1 j = 0 ∨ 0 < N.2.1 j) (hz : ∀ j, 2 * s ≤ j → N.1 j = 0) (hs1 : 1 ≤ s) (hs : s ≤ 12) (ht : 1 ≤ t) (hpn : pn ≤ 6) (hp : p < pn) : srF (clrB cl (s - 1) pn p t N) p (2 ^ pn) = if (sdP (elB cl p) (ndN cl N p t) pn).1 = 0 then some (sdP (elB cl p) (ndN cl N p t) pn).2 else none := by
  have hb := msk_bit (elB cl p) pn
  have hmp : msk (elB cl p) pn / 2 ^ p % 2 = 0 := by
    have h1 := hb p hp
    have h3 : elB cl p p = false := by unfold elB; simp
    have h2 := Nat.mod_lt (msk (elB cl p) pn / 2 ^ p) (show 0 < 2 by decide)
    rw [h3] at h1
    have h4 : ¬ msk (elB cl p) pn / 2 ^ p % 2 = 1 := of_decide_eq_false h1
    omega
  rw [← sdP_congr pn hb, ← sr_sd hpn hp (msk_lt _ _) hmp]
  exact srF_congr2 _ (fun a ha h0 => by rw [clr_iff hf hz hs1 hs ht, rc_eq h0 pn hb])

