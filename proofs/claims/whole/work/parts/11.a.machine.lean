def bI (b : Bool) : Int32 := if b = true then 1 else 0
theorem bI_t : bI true = 1 := rfl
theorem bI_f : bI false = 0 := rfl
theorem bI_0 {b : Bool} : bI b = 0 ↔ b = false := by cases b <;> decide
theorem bI_n0 {b : Bool} (h : ¬ bI b = 0) : b = true := by
  cases b with
  | true => rfl
  | false => exact absurd rfl h
theorem bI_nar (b : Bool) : narrow .boolean (.int (bI b)) = .int (bI b) := by cases b <;> decide
/-- the answer, the heap, its size -/
def zr (r : Option Value) (g0 : hG) (n0 : Nat) : Option Value → hG → Nat → Prop := fun v g' n' => v = r ∧ g' = g0 ∧ n' = n0
theorem zr_i {r : Option Value} {g0 : hG} {n0 : Nat} {v : Option Value} {g' : hG} {n' : Nat} (h1 : v = r) (h2 : g' = g0) (h3 : n' = n0) : zr r g0 n0 v g' n' := ⟨h1, h2, h3⟩
section R2
variable {K : xC} {E : xE} {cells slots pc nL : Nat} {ls : List (Option Value)} {st : List Value} {g : hG} {n : Nat} {cc : ByteArray} {own : String} {R : Room}
theorem r_iaddN (S : Sx K E cc nL own R) {x y : Nat} (hd : decode cc pc = .ok (.iadd, 1)) (kk : Wg K E cells slots (pc + 1) ls (.int (nI (x + y)) :: st) g n) : Wg K E cells slots pc ls (.int (nI y) :: .int (nI x) :: st) g n := r_iadd S _ hd (nI_add x y) kk
theorem r_imulN (S : Sx K E cc nL own R) {x y : Nat} (hd : decode cc pc = .ok (.imul, 1)) (kk : Wg K E cells slots (pc + 1) ls (.int (nI (x * y)) :: st) g n) : Wg K E cells slots pc ls (.int (nI y) :: .int (nI x) :: st) g n := r_imul S _ hd (pk_mul x y) kk
theorem r_isubN (S : Sx K E cc nL own R) {x y : Nat} (hd : decode cc pc = .ok (.isub, 1)) (h : y ≤ x) (kk : Wg K E cells slots (pc + 1) ls (.int (nI (x - y)) :: st) g n) : Wg K E cells slots pc ls (.int (nI y) :: .int (nI x) :: st) g n := r_isub S _ hd (pk_sub h) kk
theorem r_idivN (S : Sx K E cc nL own R) {x y : Nat} (hd : decode cc pc = .ok (.idiv, 1)) (hx : x < 2 ^ 31) (h0 : 0 < y) (hy : y < 2 ^ 31) (kk : Wg K E cells slots (pc + 1) ls (.int (nI (x / y)) :: st) g n) : Wg K E cells slots pc ls (.int (nI y) :: .int (nI x) :: st) g n := r_idiv S _ hd (nI_ne0 h0 hy) (pk_div hx h0 hy) kk
theorem r_iremN (S : Sx K E cc nL own R) {x y : Nat} (hd : decode cc pc = .ok (.irem, 1)) (hx : x < 2 ^ 31) (h0 : 0 < y) (hy : y < 2 ^ 31) (kk : Wg K E cells slots (pc + 1) ls (.int (nI (x % y)) :: st) g n) : Wg K E cells slots pc ls (.int (nI y) :: .int (nI x) :: st) g n := r_irem S _ hd (nI_ne0 h0 hy) (pk_rem hx h0 hy) kk
theorem r_iincN (S : Sx K E cc nL own R) {i x : Nat} (hd : decode cc pc = .ok (.iinc i 1, 3)) (hx : ls[i]? = some (some (.int (nI x)))) (kk : Wg K E cells slots (pc + 3) (ls.set i (some (.int (nI (x + 1))))) st g n) : Wg K E cells slots pc ls st g n := r_iinc S _ hd hx (nI_1 x) kk
theorem r_icmp_eqN (S : Sx K E cc nL own R) {x y : Nat} {off : Int} (tgt : Nat) (hd : decode cc pc = .ok (.if_icmp .eq off, 3)) (ht : (pc : Int) + off = (tgt : Int)) (hx : x < 2 ^ 31) (hy : y < 2 ^ 31) (kt : x = y → Wg K E cells slots tgt ls st g n) (kf : x ≠ y → Wg K E cells slots (pc + 3) ls st g n) : Wg K E cells slots pc ls (.int (nI y) :: .int (nI x) :: st) g n := r_icmp_eq S tgt hd ht (fun h => kt ((nI_eq hx hy).mp h)) (fun h => kf (fun q => h ((nI_eq hx hy).mpr q)))
theorem r_icmp_neN (S : Sx K E cc nL own R) {x y : Nat} {off : Int} (tgt : Nat) (hd : decode cc pc = .ok (.if_icmp .ne off, 3)) (ht : (pc : Int) + off = (tgt : Int)) (hx : x < 2 ^ 31) (hy : y < 2 ^ 31) (kt : x ≠ y → Wg K E cells slots tgt ls st g n) (kf : x = y → Wg K E cells slots (pc + 3) ls st g n) : Wg K E cells slots pc ls (.int (nI y) :: .int (nI x) :: st) g n := r_icmp_ne S tgt hd ht (fun h => kt (fun q => h ((nI_eq hx hy).mpr q))) (fun h => kf ((nI_eq hx hy).mp h))
theorem r_icmp_ltN (S : Sx K E cc nL own R) {x y : Nat} {off : Int} (tgt : Nat) (hd : decode cc pc = .ok (.if_icmp .lt off, 3)) (ht : (pc : Int) + off = (tgt : Int)) (hx : x < 2 ^ 31) (hy : y < 2 ^ 31) (kt : x < y → Wg K E cells slots tgt ls st g n) (kf : y ≤ x → Wg K E cells slots (pc + 3) ls st g n) : Wg K E cells slots pc ls (.int (nI y) :: .int (nI x) :: st) g n := r_icmp_lt S tgt hd ht (fun h => kt ((nI_ltI hx hy).mp h)) (fun h => kf (Nat.not_lt.mp (fun q => h ((nI_ltI hx hy).mpr q))))
theorem r_icmp_geN (S : Sx K E cc nL own R) {x y : Nat} {off : Int} (tgt : Nat) (hd : decode cc pc = .ok (.if_icmp .ge off, 3)) (ht : (pc : Int) + off = (tgt : Int)) (hx : x < 2 ^ 31) (hy : y < 2 ^ 31) (kt : y ≤ x → Wg K E cells slots tgt ls st g n) (kf : x < y → Wg K E cells slots (pc + 3) ls st g n) : Wg K E cells slots pc ls (.int (nI y) :: .int (nI x) :: st) g n := r_icmp_ge S tgt hd ht (fun h => kt ((nI_leI hy hx).mp h)) (fun h => kf (Nat.not_le.mp (fun q => h ((nI_leI hy hx).mpr q))))
theorem r_icmp_gtN (S : Sx K E cc nL own R) {x y : Nat} {off : Int} (tgt : Nat) (hd : decode cc pc = .ok (.if_icmp .gt off, 3)) (ht : (pc : Int) + off = (tgt : Int)) (hx : x < 2 ^ 31) (hy : y < 2 ^ 31) (kt : y < x → Wg K E cells slots tgt ls st g n) (kf : x ≤ y → Wg K E cells slots (pc + 3) ls st g n) : Wg K E cells slots pc ls (.int (nI y) :: .int (nI x) :: st) g n := r_icmp_gt S tgt hd ht (fun h => kt ((nI_ltI hy hx).mp h)) (fun h => kf (Nat.not_lt.mp (fun q => h ((nI_ltI hy hx).mpr q))))
theorem r_icmp_leN (S : Sx K E cc nL own R) {x y : Nat} {off : Int} (tgt : Nat) (hd : decode cc pc = .ok (.if_icmp .le off, 3)) (ht : (pc : Int) + off = (tgt : Int)) (hx : x < 2 ^ 31) (hy : y < 2 ^ 31) (kt : x ≤ y → Wg K E cells slots tgt ls st g n) (kf : y < x → Wg K E cells slots (pc + 3) ls st g n) : Wg K E cells slots pc ls (.int (nI y) :: .int (nI x) :: st) g n := r_icmp_le S tgt hd ht (fun h => kt ((nI_leI hx hy).mp h)) (fun h => kf (Nat.not_le.mp (fun q => h ((nI_leI hx hy).mpr q))))
theorem nI_is0 {x : Nat} (hx : x < 2 ^ 31) : nI x = 0 ↔ x = 0 := (show nI x = nI 0 ↔ x = 0 from nI_eq hx (by decide))
theorem nI_lt0 {x : Nat} (hx : x < 2 ^ 31) : ¬ nI x < 0 := nI_pos hx
theorem nI_le0 {x : Nat} (hx : x < 2 ^ 31) : nI x ≤ 0 ↔ x = 0 := (show nI x ≤ nI 0 ↔ x = 0 from (nI_leI hx (by decide)).trans (by omega))
theorem r_if_eqN (S : Sx K E cc nL own R) {x : Nat} {off : Int} (tgt : Nat) (hd : decode cc pc = .ok (.ifCond .eq off, 3)) (ht : (pc : Int) + off = (tgt : Int)) (hx : x < 2 ^ 31) (kt : x = 0 → Wg K E cells slots tgt ls st g n) (kf : 0 < x → Wg K E cells slots (pc + 3) ls st g n) : Wg K E cells slots pc ls (.int (nI x) :: st) g n := r_if_eq S tgt hd ht (fun h => kt ((nI_is0 hx).mp h)) (fun h => kf (Nat.pos_of_ne_zero (fun q => h ((nI_is0 hx).mpr q))))
theorem r_if_neN (S : Sx K E cc nL own R) {x : Nat} {off : Int} (tgt : Nat) (hd : decode cc pc = .ok (.ifCond .ne off, 3)) (ht : (pc : Int) + off = (tgt : Int)) (hx : x < 2 ^ 31) (kt : 0 < x → Wg K E cells slots tgt ls st g n) (kf : x = 0 → Wg K E cells slots (pc + 3) ls st g n) : Wg K E cells slots pc ls (.int (nI x) :: st) g n := r_if_ne S tgt hd ht (fun h => kt (Nat.pos_of_ne_zero (fun q => h ((nI_is0 hx).mpr q)))) (fun h => kf ((nI_is0 hx).mp h))
theorem r_if_leN (S : Sx K E cc nL own R) {x : Nat} {off : Int} (tgt : Nat) (hd : decode cc pc = .ok (.ifCond .le off, 3)) (ht : (pc : Int) + off = (tgt : Int)) (hx : x < 2 ^ 31) (kt : x = 0 → Wg K E cells slots tgt ls st g n) (kf : 0 < x → Wg K E cells slots (pc + 3) ls st g n) : Wg K E cells slots pc ls (.int (nI x) :: st) g n := r_if_le S tgt hd ht (fun h => kt ((nI_le0 hx).mp h)) (fun h => kf (Nat.pos_of_ne_zero (fun q => h ((nI_le0 hx).mpr q))))
theorem r_if_ltN (S : Sx K E cc nL own R) {x : Nat} {off : Int} (tgt : Nat) (hd : decode cc pc = .ok (.ifCond .lt off, 3)) (ht : (pc : Int) + off = (tgt : Int)) (hx : x < 2 ^ 31) (kf : Wg K E cells slots (pc + 3) ls st g n) : Wg K E cells slots pc ls (.int (nI x) :: st) g n := r_if_lt S tgt hd ht (fun h => absurd h (nI_lt0 hx)) (fun _ => kf)
theorem r_if_eqB (S : Sx K E cc nL own R) {b : Bool} {off : Int} (tgt : Nat) (hd : decode cc pc = .ok (.ifCond .eq off, 3)) (ht : (pc : Int) + off = (tgt : Int)) (kt : b = false → Wg K E cells slots tgt ls st g n) (kf : b = true → Wg K E cells slots (pc + 3) ls st g n) : Wg K E cells slots pc ls (.int (bI b) :: st) g n := r_if_eq S tgt hd ht (fun h => kt (bI_0.mp h)) (fun h => kf (bI_n0 h))
theorem r_if_neB (S : Sx K E cc nL own R) {b : Bool} {off : Int} (tgt : Nat) (hd : decode cc pc = .ok (.ifCond .ne off, 3)) (ht : (pc : Int) + off = (tgt : Int)) (kt : b = true → Wg K E cells slots tgt ls st g n) (kf : b = false → Wg K E cells slots (pc + 3) ls st g n) : Wg K E cells slots pc ls (.int (bI b) :: st) g n := r_if_ne S tgt hd ht (fun h => kt (bI_n0 h)) (fun h => kf (bI_0.mp h))
/-- the same world, told otherwise -/
theorem r_eq {ls2 : List (Option Value)} {st2 : List Value} {g2 : hG} (h1 : ls = ls2) (h2 : st = st2) (h3 : g = g2) (kk : Wg K E cells slots pc ls2 st2 g2 n) : Wg K E cells slots pc ls st g n := by subst h1; subst h2; subst h3; exact kk
theorem r_heap {g2 : hG} (h3 : g = g2) (kk : Wg K E cells slots pc ls st g2 n) : Wg K E cells slots pc ls st g n := by subst h3; exact kk
variable {y : MethodName} {bytes : ByteArray} {maxL fr lo_ mc ms b : Nat} {ret : Option FieldType} {As : List Value} {g1 : hG} {n1 : Nat} {v : Value}
theorem kk_r {Wf : List Value → hG → Nat → Prop} (kk : Wf (v :: st) g1 n1) : ∀ (u : Option Value) (g' : hG) (n' : Nat), zr (some v) g1 n1 u g' n' → Wf (u.toList ++ st) g' n' := fun u g' n' ⟨e1, e2, e3⟩ => by subst e1; subst e2; subst e3; exact kk
theorem kk_v {Wf : List Value → hG → Nat → Prop} (kk : Wf st g1 n1) : ∀ (u : Option Value) (g' : hG) (n' : Nat), zr none g1 n1 u g' n' → Wf (u.toList ++ st) g' n' := fun u g' n' ⟨e1, e2, e3⟩ => by subst e1; subst e2; subst e3; exact kk
end R2
/-- an int array that holds naturals -/
def nc (E : xE) (N : Nat) (f : Nat → Nat) : va_E := ic E N (fun k => nI (f k))
theorem nc_congr {E : xE} {n : Nat} {f f' : Nat → Nat} (h : ∀ k, k < n → f k = f' k) : nc E n f = nc E n f' := ic_congr (fun k hk => by rw [h k hk])
theorem nc_0 {E : xE} {n : Nat} : ic E n (fun _ => 0) = nc E n (fun _ => 0) := rfl
section R3
variable {K : xC} {E : xE} {cells slots pc nL : Nat} {ls : List (Option Value)} {st : List Value} {g : hG} {n : Nat} {cc : ByteArray} {own : String} {R : Room}
theorem r_nald (S : Sx K E cc nL own R) {a N : Nat} {f : Nat → Nat} {i : Int32} (j : Nat) (hd : decode cc pc = .ok (.iaload, 1)) (he : g a = some (nc E N f)) (hi : i = nI j) (hj : j < N) (hN : N < 2 ^ 31) (kk : Wg K E cells slots (pc + 1) ls (.int (nI (f j)) :: st) g n) : Wg K E cells slots pc ls (.int i :: .ref a :: st) g n := r_iald S j hd he hi hj hN kk
theorem r_nast (S : Sx K E cc nL own R) {a N x : Nat} {f : Nat → Nat} {i : Int32} (j : Nat) (hd : decode cc pc = .ok (.iastore, 1)) (he : g a = some (nc E N f)) (hi : i = nI j) (hj : j < N) (hN : N < 2 ^ 31) (kk : Wg K E cells slots (pc + 1) ls st (hu g a (nc E N (va_up f j x))) n) : Wg K E cells slots pc ls (.int (nI x) :: .int i :: .ref a :: st) g n := r_iast S j hd he hi hj hN (by
  have e : ic E N (upd (fun k => nI (f k)) j (nI x)) = nc E N (va_up f j x) := ic_congr (fun k _ => by
    by_cases e : k = j
    · simp [upd, va_up, e]
    · simp [upd, va_up, e])
  rw [e]
  exact kk)
end R3
theorem nI_or (a b : Nat) : nI a ||| nI b = nI (a ||| b) := by
  apply Int32.toBitVec_inj.mp
  show (nI a).toBitVec ||| (nI b).toBitVec = (nI (a ||| b)).toBitVec
  show BitVec.ofNat 32 a ||| BitVec.ofNat 32 b = BitVec.ofNat 32 (a ||| b)
  apply BitVec.eq_of_toNat_eq
  simp [Nat.or_mod_two_pow]
theorem s_sm : ∀ k, k < 32 → ((nI k &&& 31).toBitVec.smod 32).toNat = k := by decide +kernel
theorem nI_shl1 {k : Nat} (h : k < 31) : nI 1 <<< (nI k &&& 31) = nI (2 ^ k) := by
  have h9 : 1 * 2 ^ k < 2 ^ 32 := by
    have : 2 ^ k < 2 ^ 31 := Nat.pow_lt_pow_right (by decide) h
    omega
  rw [pk_shlN (n := 1) (nI k &&& 31) k (s_sm k (by omega)) h9, Nat.one_mul]
theorem nI_shr {a k : Nat} (ha : a < 2 ^ 31) (h : k < 32) : nI a >>> (nI k &&& 31) = nI (a / 2 ^ k) := pk_shrN ha (nI k &&& 31) k (s_sm k h)
theorem nI_and1 {a : Nat} (ha : a < 2 ^ 32) : nI a &&& nI 1 = nI (a % 2) := pk_andN ha (m := nI 1) 1 (by decide)
theorem nI_max1 {a : Nat} (ha : a < 2 ^ 30) : (if nI 0 < nI a - nI 1 then nI a - nI 1 else nI 0) = nI (a - 1) := by
  rcases Nat.eq_zero_or_pos a with h | h
  · subst h; decide
  · rw [pk_sub h]
    rcases Nat.eq_zero_or_pos (a - 1) with e | e
    · rw [e]; decide
    · rw [if_pos (nI_lt e (by omega))]
theorem nI_max {a b : Nat} (ha : a < 2 ^ 31) (hb : b < 2 ^ 31) : (if nI a < nI b then nI b else nI a) = nI (max a b) := by
  by_cases h : a < b
  · rw [if_pos (nI_lt h hb), Nat.max_eq_right (by omega)]
  · rw [if_neg (fun q => h ((nI_ltI ha hb).mp q)), Nat.max_eq_left (by omega)]
theorem nI_min {a b : Nat} (ha : a < 2 ^ 31) (hb : b < 2 ^ 31) : (if nI b < nI a then nI b else nI a) = nI (min a b) := by
  by_cases h : b < a
  · rw [if_pos (nI_lt h ha), Nat.min_eq_right (by omega)]
  · rw [if_neg (fun q => h ((nI_ltI hb ha).mp q)), Nat.min_eq_left (by omega)]
section R4
variable {K : xC} {E : xE} {cells slots pc nL : Nat} {ls : List (Option Value)} {st : List Value} {g : hG} {n : Nat} {cc : ByteArray} {own : String} {R : Room}
theorem r_iorN (S : Sx K E cc nL own R) {x y : Nat} (hd : decode cc pc = .ok (.ior, 1)) (kk : Wg K E cells slots (pc + 1) ls (.int (nI (x ||| y)) :: st) g n) : Wg K E cells slots pc ls (.int (nI y) :: .int (nI x) :: st) g n := r_ior S _ hd (nI_or x y) kk
theorem r_ishl1N (S : Sx K E cc nL own R) {y : Nat} (hd : decode cc pc = .ok (.ishl, 1)) (hy : y < 31) (kk : Wg K E cells slots (pc + 1) ls (.int (nI (2 ^ y)) :: st) g n) : Wg K E cells slots pc ls (.int (nI y) :: .int (nI 1) :: st) g n := r_ishl S _ hd (nI_shl1 hy) kk
theorem r_ishrN (S : Sx K E cc nL own R) {x y : Nat} (hd : decode cc pc = .ok (.ishr, 1)) (hx : x < 2 ^ 31) (hy : y < 32) (kk : Wg K E cells slots (pc + 1) ls (.int (nI (x / 2 ^ y)) :: st) g n) : Wg K E cells slots pc ls (.int (nI y) :: .int (nI x) :: st) g n := r_ishr S _ hd (nI_shr hx hy) kk
theorem r_iand1N (S : Sx K E cc nL own R) {x : Nat} (hd : decode cc pc = .ok (.iand, 1)) (hx : x < 2 ^ 32) (kk : Wg K E cells slots (pc + 1) ls (.int (nI (x % 2)) :: st) g n) : Wg K E cells slots pc ls (.int (nI 1) :: .int (nI x) :: st) g n := r_iand S _ hd (nI_and1 hx) kk
end R4
theorem ind_up (P : Nat → Prop) (N : Nat) (h : ∀ k, k ≤ N → (k < N → P (k + 1)) → P k) : ∀ k, k ≤ N → P k := by
  intro k hk
  obtain ⟨d, hd⟩ : ∃ d, k + d = N := ⟨N - k, by omega⟩
  induction d generalizing k with
  | zero => exact h k hk (fun q => by omega)
  | succ d ih => exact h k hk (fun q => ih (k + 1) (by omega) (by omega))
