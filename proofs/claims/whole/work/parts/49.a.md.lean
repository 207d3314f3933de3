theorem srF_ok {ok : Nat → Bool} {p : Nat} : ∀ a f, srF ok p a = some f → f / 2 ^ p % 2 = 0 ∧ ok f = true
  | 0, _, h => by cases h
  | a + 1, f, h => by
    have h9 : (if a / 2 ^ p % 2 = 0 ∧ lessO (srF ok p a) a = true ∧ ok a = true then some a else srF ok p a) = some f := h
    split at h9
    · rename_i hc
      cases h9; exact ⟨hc.1, hc.2.2⟩
    · exact srF_ok a f h9
theorem srF_inv {ok : Nat → Bool} {p : Nat} : ∀ a b, b < a → b / 2 ^ p % 2 = 0 → ok b = true → ∃ f, srF ok p a = some f ∧ (onF f 12 < onF b 12 ∨ (onF f 12 = onF b 12 ∧ f ≤ b))
  | 0, _, h, _, _ => by omega
  | a + 1, b, h, h1, h2 => by
    have e : srF ok p (a + 1) = if a / 2 ^ p % 2 = 0 ∧ lessO (srF ok p a) a = true ∧ ok a = true then some a else srF ok p a := rfl
    by_cases hb : b < a
    · obtain ⟨f, e1, e2⟩ := srF_inv a b hb h1 h2
      by_cases hc : a / 2 ^ p % 2 = 0 ∧ lessO (srF ok p a) a = true ∧ ok a = true
      · rw [e, if_pos hc]
        rw [e1] at hc
        have h3 := of_decide_eq_true hc.2.1
        exact ⟨a, rfl, Or.inl (by omega)⟩
      · rw [e, if_neg hc]; exact ⟨f, e1, e2⟩
    · obtain rfl : b = a := by omega
      by_cases hc : lessO (srF ok p b) b = true
      · rw [e, if_pos ⟨h1, hc, h2⟩]; exact ⟨b, rfl, Or.inr ⟨rfl, Nat.le_refl _⟩⟩
      · rw [e, if_neg (fun q => hc q.2.1)]
        rcases hf : srF ok p b with _ | f
        · rw [hf] at hc; exact absurd rfl hc
        · rw [hf] at hc
          have h3 : ¬ onF b 12 < onF f 12 := fun q => hc (decide_eq_true q)
          have h4 := srF_lt _ _ hf
          exact ⟨f, rfl, by omega⟩
theorem srF_best {ok : Nat → Bool} {p A G : Nat} (h1 : G < A) (h2 : G / 2 ^ p % 2 = 0) (h3 : ok G = true) (h4 : ∀ a, a < A → ok a = true → onF G 12 < onF a 12 ∨ (onF G 12 = onF a 12 ∧ G ≤ a)) : srF ok p A = some G := by
  obtain ⟨f, e1, e2⟩ := srF_inv A G h1 h2 h3
  have h5 := srF_lt _ _ e1
  have h6 := h4 f h5 (srF_ok _ _ e1).2
  rw [e1, show f = G by omega]
theorem srF_none {ok : Nat → Bool} {p A : Nat} (h : ∀ a, a < A → ok a = false) : srF ok p A = none := by
  rcases hf : srF ok p A with _ | f
  · rfl
  · have h1 := (srF_ok _ _ hf).2
    rw [h f (srF_lt _ _ hf)] at h1; cases h1
/-- how many of a are of m -/
def rcM (a m : Nat) : Nat → Nat
  | 0 => 0
  | k + 1 => rcM a m k + (if a / 2 ^ k % 2 = 1 ∧ m / 2 ^ k % 2 = 1 then 1 else 0)
def mB (m k : Nat) : Bool := decide (m / 2 ^ k % 2 = 1)
theorem dA1 : ∀ m, m < 64 → ∀ nd, nd ≤ 6 → (sdP (mB m) nd 6).1 = 0 → nd ≤ rcM (sdP (mB m) nd 6).2 m 6 := by decide +kernel
theorem dA2 : ∀ m, m < 64 → ∀ nd, nd ≤ 6 → (sdP (mB m) nd 6).2 ≤ m := by decide +kernel
theorem dA3 : ∀ m, m < 64 → ∀ nd, nd ≤ 6 → ∀ k, k < 6 → (sdP (mB m) nd 6).2 / 2 ^ k % 2 = 1 → m / 2 ^ k % 2 = 1 := by decide +kernel
def beB (G a : Nat) : Bool := decide (onF G 12 < onF a 12) || (decide (onF G 12 = onF a 12) && decide (G ≤ a))
theorem dA4 : ∀ m, m < 64 → ∀ nd, nd ≤ 6 → (sdP (mB m) nd 6).1 = 0 → ∀ a, a < 64 → nd ≤ rcM a m 6 → beB (sdP (mB m) nd 6).2 a = true := by decide +kernel
theorem dA (m : Nat) (hm : m < 64) (nd : Nat) (hn : nd ≤ 6) (h0 : (sdP (mB m) nd 6).1 = 0) : nd ≤ rcM (sdP (mB m) nd 6).2 m 6 ∧ (sdP (mB m) nd 6).2 ≤ m ∧ (∀ k, k < 6 → (sdP (mB m) nd 6).2 / 2 ^ k % 2 = 1 → m / 2 ^ k % 2 = 1) ∧ ∀ a, a < 64 → nd ≤ rcM a m 6 → onF (sdP (mB m) nd 6).2 12 < onF a 12 ∨ (onF (sdP (mB m) nd 6).2 12 = onF a 12 ∧ (sdP (mB m) nd 6).2 ≤ a) := ⟨dA1 m hm nd hn h0, dA2 m hm nd hn, dA3 m hm nd hn, fun a ha hr => by
  have := dA4 m hm nd hn h0 a ha hr
  unfold beB at this
  simpa using this⟩
theorem dB : ∀ m, m < 64 → ∀ nd, nd ≤ 6 → ¬ (sdP (mB m) nd 6).1 = 0 → ∀ a, a < 64 → ¬ nd ≤ rcM a m 6 := by decide +kernel
theorem rcM_le (a m : Nat) : ∀ k, rcM a m k ≤ k
  | 0 => Nat.le_refl _
  | k + 1 => by have := rcM_le a m k; show rcM a m k + _ ≤ k + 1; split <;> omega
theorem sdP_ge (el : Nat → Bool) (nd : Nat) : ∀ k, nd ≤ (sdP el nd k).1 + k
  | 0 => Nat.le_refl _
  | k + 1 => by
    have := sdP_ge el nd k
    simp only [sdP]
    (repeat' split) <;> simp <;> omega
theorem sdP_congr {el el2 : Nat → Bool} {nd : Nat} : ∀ k, (∀ j, j < k → el j = el2 j) → sdP el nd k = sdP el2 nd k
  | 0, _ => rfl
  | k + 1, h => by
    simp only [sdP]
    rw [sdP_congr k (fun j hj => h j (by omega)), h k (by omega)]
theorem sdP_ext {el : Nat → Bool} {nd k : Nat} : ∀ d, (∀ j, k ≤ j → j < k + d → el j = false) → sdP el nd (k + d) = sdP el nd k
  | 0, _ => rfl
  | d + 1, h => by
    show sdP el nd (k + d + 1) = _
    simp only [sdP]
    rw [sdP_ext d (fun j h1 h2 => h j h1 (by omega)), h (k + d) (by omega) (by omega)]
    simp
theorem rcM_ext {a m k : Nat} : ∀ d, (∀ j, k ≤ j → j < k + d → m / 2 ^ j % 2 = 0) → rcM a m (k + d) = rcM a m k
  | 0, _ => rfl
  | d + 1, h => by
    show rcM a m (k + d) + (if a / 2 ^ (k + d) % 2 = 1 ∧ m / 2 ^ (k + d) % 2 = 1 then 1 else 0) = _
    rw [rcM_ext d (fun j h1 h2 => h j h1 (by omega)), if_neg (show ¬ (a / 2 ^ (k + d) % 2 = 1 ∧ m / 2 ^ (k + d) % 2 = 1) from fun q => by have := h (k + d) (by omega) (by omega); omega)]; rfl
/-- the search finds the first people who can -/
theorem sr_sd {pn p m nd : Nat} (hpn : pn ≤ 6) (hp : p < pn) (hm : m < 2 ^ pn) (hmp : m / 2 ^ p % 2 = 0) : srF (fun a => decide (nd ≤ rcM a m pn)) p (2 ^ pn) = if (sdP (mB m) nd pn).1 = 0 then some (sdP (mB m) nd pn).2 else none := by
  have h64 := p2_le hpn
  have hz : ∀ j, pn ≤ j → j < pn + (6 - pn) → m / 2 ^ j % 2 = 0 := fun j h1 h2 => by
    rw [Nat.div_eq_of_lt (Nat.lt_of_lt_of_le hm (Nat.pow_le_pow_right (by decide) h1))]
  have e1 : sdP (mB m) nd 6 = sdP (mB m) nd pn := by
    have := sdP_ext (el := mB m) (nd := nd) (k := pn) (6 - pn) (fun j h1 h2 => decide_eq_false (by rw [hz j h1 h2]; decide))
    rwa [show pn + (6 - pn) = 6 by omega] at this
  have e2 : ∀ a, rcM a m 6 = rcM a m pn := fun a => by
    have := rcM_ext (a := a) (6 - pn) hz
    rwa [show pn + (6 - pn) = 6 by omega] at this
  by_cases hnd : nd ≤ 6
  · by_cases h0 : (sdP (mB m) nd pn).1 = 0
    · rw [if_pos h0]
      have hd := dA m (by omega) nd hnd (by rw [e1]; exact h0)
      rw [e1] at hd
      refine srF_best (by omega) ?_ (decide_eq_true (by rw [← e2]; exact hd.1)) (fun a ha hk => hd.2.2.2 a (by omega) (by rw [e2]; exact of_decide_eq_true hk))
      have h9 := hd.2.2.1 p (by omega)
      have h8 := Nat.mod_lt ((sdP (mB m) nd pn).2 / 2 ^ p) (show 0 < 2 by decide)
      omega
    · rw [if_neg h0]
      exact srF_none (fun a ha => decide_eq_false (by rw [← e2]; exact dB m (by omega) nd hnd (by rw [e1]; exact h0) a (by omega)))
  · rw [if_neg (by have := sdP_ge (mB m) nd pn; omega)]
    exact srF_none (fun a ha => decide_eq_false (by have := rcM_le a m pn; omega))

