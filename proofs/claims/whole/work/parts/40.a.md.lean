/-- the model's object: u: typed, known, noted, at, sort, start, value -/
def mO (M : Nat) (u : Nat → Nat) : va_E := oc 10 [.ref (M + 1), .int (nI (u 0)), .ref (M + 2), .ref (M + 3), .ref (M + 4), .ref (M + 5), .int (nI (u 1)), .ref (M + 6), .ref (M + 7), .ref (M + 8), .int (nI (u 2)), .int (nI (u 3)), .int (nI (u 4)), .int (nI (u 5)), .int (nI (u 6)), .ref (M + 9)]
/-- its cells; B: rows by their places: text, told, draft, s, past, images, kept, notes, held -/
def mdCell (E : xE) (M : Nat) (u : Nat → Nat) (B : Nat → Nat → Nat) (k : Nat) : va_E :=
  if k = 0 then mO M u else if k = 1 then nc E 160 (B 1) else if k = 2 then nc E 62 (B 2) else if k = 3 then nc E 62 (B 3) else if k = 4 then nc E 55 (B 4) else if k = 5 then nc E 440 (B 5) else if k = 6 then nc E 110 (B 6) else if k = 7 then zc E 2 (fun i => nI (B 7 i)) else if k = 8 then nc E 6 (B 8) else nc E 55 (B 9)
def mG (E : xE) (g : hG) (M : Nat) (u : Nat → Nat) (B : Nat → Nat → Nat) : hG := blk g M 10 (mdCell E M u B)
section MG
variable {E : xE} {g : hG} {M : Nat} {u : Nat → Nat} {B : Nat → Nat → Nat}
theorem m0 : mG E g M u B M = some (mO M u) := blk_0 (by decide)
theorem m1 : mG E g M u B (M + 1) = some (nc E 160 (B 1)) := blk_in (k := 1) (by decide)
theorem m2 : mG E g M u B (M + 2) = some (nc E 62 (B 2)) := blk_in (k := 2) (by decide)
theorem m3 : mG E g M u B (M + 3) = some (nc E 62 (B 3)) := blk_in (k := 3) (by decide)
theorem m4 : mG E g M u B (M + 4) = some (nc E 55 (B 4)) := blk_in (k := 4) (by decide)
theorem m5 : mG E g M u B (M + 5) = some (nc E 440 (B 5)) := blk_in (k := 5) (by decide)
theorem m6 : mG E g M u B (M + 6) = some (nc E 110 (B 6)) := blk_in (k := 6) (by decide)
theorem m7 : mG E g M u B (M + 7) = some (zc E 2 (fun i => nI (B 7 i))) := blk_in (k := 7) (by decide)
theorem m8 : mG E g M u B (M + 8) = some (nc E 6 (B 8)) := blk_in (k := 8) (by decide)
theorem m9 : mG E g M u B (M + 9) = some (nc E 55 (B 9)) := blk_in (k := 9) (by decide)
theorem mout {q : Nat} (h : q < M ∨ M + 10 ≤ q) : mG E g M u B q = g q := blk_out h
theorem um1 {f : Nat → Nat} : hu (mG E g M u B) (M + 1) (nc E 160 f) = mG E g M u (va_up B 1 f) := (blk_hu (o := 1) (by decide)).trans (blk_congr (fun k hk => by rcases (show k = 0 ∨ k = 1 ∨ k = 2 ∨ k = 3 ∨ k = 4 ∨ k = 5 ∨ k = 6 ∨ k = 7 ∨ k = 8 ∨ k = 9 by omega) with rfl | rfl | rfl | rfl | rfl | rfl | rfl | rfl | rfl | rfl <;> rfl))
theorem mc1 {f f2 : Nat → Nat} (h : ∀ j, j < 160 → f j = f2 j) : mG E g M u (va_up B 1 f) = mG E g M u (va_up B 1 f2) := by rw [← um1, ← um1, nc_congr h]
theorem um2 {f : Nat → Nat} : hu (mG E g M u B) (M + 2) (nc E 62 f) = mG E g M u (va_up B 2 f) := (blk_hu (o := 2) (by decide)).trans (blk_congr (fun k hk => by rcases (show k = 0 ∨ k = 1 ∨ k = 2 ∨ k = 3 ∨ k = 4 ∨ k = 5 ∨ k = 6 ∨ k = 7 ∨ k = 8 ∨ k = 9 by omega) with rfl | rfl | rfl | rfl | rfl | rfl | rfl | rfl | rfl | rfl <;> rfl))
theorem mc2 {f f2 : Nat → Nat} (h : ∀ j, j < 62 → f j = f2 j) : mG E g M u (va_up B 2 f) = mG E g M u (va_up B 2 f2) := by rw [← um2, ← um2, nc_congr h]
theorem um3 {f : Nat → Nat} : hu (mG E g M u B) (M + 3) (nc E 62 f) = mG E g M u (va_up B 3 f) := (blk_hu (o := 3) (by decide)).trans (blk_congr (fun k hk => by rcases (show k = 0 ∨ k = 1 ∨ k = 2 ∨ k = 3 ∨ k = 4 ∨ k = 5 ∨ k = 6 ∨ k = 7 ∨ k = 8 ∨ k = 9 by omega) with rfl | rfl | rfl | rfl | rfl | rfl | rfl | rfl | rfl | rfl <;> rfl))
theorem mc3 {f f2 : Nat → Nat} (h : ∀ j, j < 62 → f j = f2 j) : mG E g M u (va_up B 3 f) = mG E g M u (va_up B 3 f2) := by rw [← um3, ← um3, nc_congr h]
theorem um4 {f : Nat → Nat} : hu (mG E g M u B) (M + 4) (nc E 55 f) = mG E g M u (va_up B 4 f) := (blk_hu (o := 4) (by decide)).trans (blk_congr (fun k hk => by rcases (show k = 0 ∨ k = 1 ∨ k = 2 ∨ k = 3 ∨ k = 4 ∨ k = 5 ∨ k = 6 ∨ k = 7 ∨ k = 8 ∨ k = 9 by omega) with rfl | rfl | rfl | rfl | rfl | rfl | rfl | rfl | rfl | rfl <;> rfl))
theorem mc4 {f f2 : Nat → Nat} (h : ∀ j, j < 55 → f j = f2 j) : mG E g M u (va_up B 4 f) = mG E g M u (va_up B 4 f2) := by rw [← um4, ← um4, nc_congr h]
theorem um5 {f : Nat → Nat} : hu (mG E g M u B) (M + 5) (nc E 440 f) = mG E g M u (va_up B 5 f) := (blk_hu (o := 5) (by decide)).trans (blk_congr (fun k hk => by rcases (show k = 0 ∨ k = 1 ∨ k = 2 ∨ k = 3 ∨ k = 4 ∨ k = 5 ∨ k = 6 ∨ k = 7 ∨ k = 8 ∨ k = 9 by omega) with rfl | rfl | rfl | rfl | rfl | rfl | rfl | rfl | rfl | rfl <;> rfl))
theorem mc5 {f f2 : Nat → Nat} (h : ∀ j, j < 440 → f j = f2 j) : mG E g M u (va_up B 5 f) = mG E g M u (va_up B 5 f2) := by rw [← um5, ← um5, nc_congr h]
theorem um6 {f : Nat → Nat} : hu (mG E g M u B) (M + 6) (nc E 110 f) = mG E g M u (va_up B 6 f) := (blk_hu (o := 6) (by decide)).trans (blk_congr (fun k hk => by rcases (show k = 0 ∨ k = 1 ∨ k = 2 ∨ k = 3 ∨ k = 4 ∨ k = 5 ∨ k = 6 ∨ k = 7 ∨ k = 8 ∨ k = 9 by omega) with rfl | rfl | rfl | rfl | rfl | rfl | rfl | rfl | rfl | rfl <;> rfl))
theorem mc6 {f f2 : Nat → Nat} (h : ∀ j, j < 110 → f j = f2 j) : mG E g M u (va_up B 6 f) = mG E g M u (va_up B 6 f2) := by rw [← um6, ← um6, nc_congr h]
theorem um7 {f : Nat → Nat} : hu (mG E g M u B) (M + 7) (zc E 2 (fun i => nI (f i))) = mG E g M u (va_up B 7 f) := (blk_hu (o := 7) (by decide)).trans (blk_congr (fun k hk => by rcases (show k = 0 ∨ k = 1 ∨ k = 2 ∨ k = 3 ∨ k = 4 ∨ k = 5 ∨ k = 6 ∨ k = 7 ∨ k = 8 ∨ k = 9 by omega) with rfl | rfl | rfl | rfl | rfl | rfl | rfl | rfl | rfl | rfl <;> rfl))
theorem um8 {f : Nat → Nat} : hu (mG E g M u B) (M + 8) (nc E 6 f) = mG E g M u (va_up B 8 f) := (blk_hu (o := 8) (by decide)).trans (blk_congr (fun k hk => by rcases (show k = 0 ∨ k = 1 ∨ k = 2 ∨ k = 3 ∨ k = 4 ∨ k = 5 ∨ k = 6 ∨ k = 7 ∨ k = 8 ∨ k = 9 by omega) with rfl | rfl | rfl | rfl | rfl | rfl | rfl | rfl | rfl | rfl <;> rfl))
theorem mc8 {f f2 : Nat → Nat} (h : ∀ j, j < 6 → f j = f2 j) : mG E g M u (va_up B 8 f) = mG E g M u (va_up B 8 f2) := by rw [← um8, ← um8, nc_congr h]
theorem um9 {f : Nat → Nat} : hu (mG E g M u B) (M + 9) (nc E 55 f) = mG E g M u (va_up B 9 f) := (blk_hu (o := 9) (by decide)).trans (blk_congr (fun k hk => by rcases (show k = 0 ∨ k = 1 ∨ k = 2 ∨ k = 3 ∨ k = 4 ∨ k = 5 ∨ k = 6 ∨ k = 7 ∨ k = 8 ∨ k = 9 by omega) with rfl | rfl | rfl | rfl | rfl | rfl | rfl | rfl | rfl | rfl <;> rfl))
theorem mc9 {f f2 : Nat → Nat} (h : ∀ j, j < 55 → f j = f2 j) : mG E g M u (va_up B 9 f) = mG E g M u (va_up B 9 f2) := by rw [← um9, ← um9, nc_congr h]
theorem um_typed {x : Nat} : hu (mG E g M u B) M (oc 10 [.ref (M + 1), .int (nI x), .ref (M + 2), .ref (M + 3), .ref (M + 4), .ref (M + 5), .int (nI (u 1)), .ref (M + 6), .ref (M + 7), .ref (M + 8), .int (nI (u 2)), .int (nI (u 3)), .int (nI (u 4)), .int (nI (u 5)), .int (nI (u 6)), .ref (M + 9)]) = mG E g M (va_up u 0 x) B := (blk_hu (o := 0) (by decide)).trans (blk_congr (fun k hk => by rcases (show k = 0 ∨ k = 1 ∨ k = 2 ∨ k = 3 ∨ k = 4 ∨ k = 5 ∨ k = 6 ∨ k = 7 ∨ k = 8 ∨ k = 9 by omega) with rfl | rfl | rfl | rfl | rfl | rfl | rfl | rfl | rfl | rfl <;> rfl))
theorem um_known {x : Nat} : hu (mG E g M u B) M (oc 10 [.ref (M + 1), .int (nI (u 0)), .ref (M + 2), .ref (M + 3), .ref (M + 4), .ref (M + 5), .int (nI x), .ref (M + 6), .ref (M + 7), .ref (M + 8), .int (nI (u 2)), .int (nI (u 3)), .int (nI (u 4)), .int (nI (u 5)), .int (nI (u 6)), .ref (M + 9)]) = mG E g M (va_up u 1 x) B := (blk_hu (o := 0) (by decide)).trans (blk_congr (fun k hk => by rcases (show k = 0 ∨ k = 1 ∨ k = 2 ∨ k = 3 ∨ k = 4 ∨ k = 5 ∨ k = 6 ∨ k = 7 ∨ k = 8 ∨ k = 9 by omega) with rfl | rfl | rfl | rfl | rfl | rfl | rfl | rfl | rfl | rfl <;> rfl))
theorem um_noted {x : Nat} : hu (mG E g M u B) M (oc 10 [.ref (M + 1), .int (nI (u 0)), .ref (M + 2), .ref (M + 3), .ref (M + 4), .ref (M + 5), .int (nI (u 1)), .ref (M + 6), .ref (M + 7), .ref (M + 8), .int (nI x), .int (nI (u 3)), .int (nI (u 4)), .int (nI (u 5)), .int (nI (u 6)), .ref (M + 9)]) = mG E g M (va_up u 2 x) B := (blk_hu (o := 0) (by decide)).trans (blk_congr (fun k hk => by rcases (show k = 0 ∨ k = 1 ∨ k = 2 ∨ k = 3 ∨ k = 4 ∨ k = 5 ∨ k = 6 ∨ k = 7 ∨ k = 8 ∨ k = 9 by omega) with rfl | rfl | rfl | rfl | rfl | rfl | rfl | rfl | rfl | rfl <;> rfl))
theorem um_at {x : Nat} : hu (mG E g M u B) M (oc 10 [.ref (M + 1), .int (nI (u 0)), .ref (M + 2), .ref (M + 3), .ref (M + 4), .ref (M + 5), .int (nI (u 1)), .ref (M + 6), .ref (M + 7), .ref (M + 8), .int (nI (u 2)), .int (nI x), .int (nI (u 4)), .int (nI (u 5)), .int (nI (u 6)), .ref (M + 9)]) = mG E g M (va_up u 3 x) B := (blk_hu (o := 0) (by decide)).trans (blk_congr (fun k hk => by rcases (show k = 0 ∨ k = 1 ∨ k = 2 ∨ k = 3 ∨ k = 4 ∨ k = 5 ∨ k = 6 ∨ k = 7 ∨ k = 8 ∨ k = 9 by omega) with rfl | rfl | rfl | rfl | rfl | rfl | rfl | rfl | rfl | rfl <;> rfl))
theorem um_sort {x : Nat} : hu (mG E g M u B) M (oc 10 [.ref (M + 1), .int (nI (u 0)), .ref (M + 2), .ref (M + 3), .ref (M + 4), .ref (M + 5), .int (nI (u 1)), .ref (M + 6), .ref (M + 7), .ref (M + 8), .int (nI (u 2)), .int (nI (u 3)), .int (nI x), .int (nI (u 5)), .int (nI (u 6)), .ref (M + 9)]) = mG E g M (va_up u 4 x) B := (blk_hu (o := 0) (by decide)).trans (blk_congr (fun k hk => by rcases (show k = 0 ∨ k = 1 ∨ k = 2 ∨ k = 3 ∨ k = 4 ∨ k = 5 ∨ k = 6 ∨ k = 7 ∨ k = 8 ∨ k = 9 by omega) with rfl | rfl | rfl | rfl | rfl | rfl | rfl | rfl | rfl | rfl <;> rfl))
theorem um_start {x : Nat} : hu (mG E g M u B) M (oc 10 [.ref (M + 1), .int (nI (u 0)), .ref (M + 2), .ref (M + 3), .ref (M + 4), .ref (M + 5), .int (nI (u 1)), .ref (M + 6), .ref (M + 7), .ref (M + 8), .int (nI (u 2)), .int (nI (u 3)), .int (nI (u 4)), .int (nI x), .int (nI (u 6)), .ref (M + 9)]) = mG E g M (va_up u 5 x) B := (blk_hu (o := 0) (by decide)).trans (blk_congr (fun k hk => by rcases (show k = 0 ∨ k = 1 ∨ k = 2 ∨ k = 3 ∨ k = 4 ∨ k = 5 ∨ k = 6 ∨ k = 7 ∨ k = 8 ∨ k = 9 by omega) with rfl | rfl | rfl | rfl | rfl | rfl | rfl | rfl | rfl | rfl <;> rfl))
theorem um_value {x : Nat} : hu (mG E g M u B) M (oc 10 [.ref (M + 1), .int (nI (u 0)), .ref (M + 2), .ref (M + 3), .ref (M + 4), .ref (M + 5), .int (nI (u 1)), .ref (M + 6), .ref (M + 7), .ref (M + 8), .int (nI (u 2)), .int (nI (u 3)), .int (nI (u 4)), .int (nI (u 5)), .int (nI x), .ref (M + 9)]) = mG E g M (va_up u 6 x) B := (blk_hu (o := 0) (by decide)).trans (blk_congr (fun k hk => by rcases (show k = 0 ∨ k = 1 ∨ k = 2 ∨ k = 3 ∨ k = 4 ∨ k = 5 ∨ k = 6 ∨ k = 7 ∨ k = 8 ∨ k = 9 by omega) with rfl | rfl | rfl | rfl | rfl | rfl | rfl | rfl | rfl | rfl <;> rfl))
theorem hu_mG {q : Nat} {e : va_E} (h : q < M ∨ M + 10 ≤ q) : hu (mG E g M u B) q e = mG E (hu g q e) M u B := by
  funext k
  by_cases e1 : k = q
  · subst e1; rw [hu_eq, mout h, hu_eq]
  · rw [hu_ne _ _ e1]
    unfold mG blk
    rw [hu_ne _ _ e1]
end MG
theorem vu_vu {α : Type} {f : Nat → α} {k : Nat} {x y : α} : va_up (va_up f k x) k y = va_up f k y := by
  funext j; simp only [va_up]; split <;> rfl
theorem vu_eq {α : Type} {f : Nat → α} {k : Nat} {x : α} : va_up f k x k = x := if_pos rfl
theorem vu_self {α : Type} {f : Nat → α} {k : Nat} {x : α} (h : f k = x) : va_up f k x = f := by
  funext j; simp only [va_up]; split
  · subst_vars; rfl
  · rfl
/-- a moment, flat -/
def flat (N : Mo) (j : Nat) : Nat := if j < 24 then N.1 j else if j < 48 then N.2.1 (j - 24) else if j < 54 then N.2.2.1 (j - 48) else N.2.2.2
theorem flat_f {N : Mo} {j : Nat} (h : j < 24) : flat N j = N.1 j := if_pos h
theorem flat_h {N : Mo} {j : Nat} (h : j < 24) : flat N (24 + j) = N.2.1 j := by
  unfold flat; rw [if_neg (by omega), if_pos (by omega), Nat.add_sub_cancel_left]
theorem flat_k {N : Mo} {j : Nat} (h : j < 6) : flat N (48 + j) = N.2.2.1 j := by
  unfold flat; rw [if_neg (by omega), if_neg (by omega), if_pos (by omega), Nat.add_sub_cancel_left]
theorem flat_d {N : Mo} : flat N 54 = N.2.2.2 := rfl
theorem flat_up {N : Mo} {k a b : Nat} (h : k < 24) : va_up (va_up (flat N) k a) (24 + k) b = flat (va_up N.1 k a, va_up N.2.1 k b, N.2.2.1, N.2.2.2) := by
  funext j
  simp only [va_up, flat]
  by_cases e1 : j < 24
  · rw [if_neg (by omega), if_pos e1, if_pos e1]
  · rw [if_neg e1, if_neg e1]
    by_cases e2 : j < 48
    · rw [if_pos e2, if_pos e2]
      by_cases e3 : j = 24 + k
      · rw [if_pos e3, if_pos (by omega)]
      · rw [if_neg e3, if_neg (by omega), if_neg (by omega)]
    · rw [if_neg e2, if_neg e2, if_neg (by omega), if_neg (by omega)]
theorem flat_kup {N : Mo} {k a : Nat} (h : k < 6) : va_up (flat N) (48 + k) a = flat (N.1, N.2.1, va_up N.2.2.1 k a, N.2.2.2) := by
  funext j
  simp only [va_up, flat]
  by_cases e1 : j < 24
  · rw [if_neg (by omega), if_pos e1, if_pos e1]
  · rw [if_neg e1, if_neg e1]
    by_cases e2 : j < 48
    · rw [if_neg (by omega), if_pos e2, if_pos e2]
    · rw [if_neg e2, if_neg e2]
      by_cases e3 : j < 54
      · rw [if_pos e3, if_pos e3]
        by_cases e4 : j = 48 + k
        · rw [if_pos e4, if_pos (by omega)]
        · rw [if_neg e4, if_neg (by omega)]
      · rw [if_neg e3, if_neg e3, if_neg (by omega)]
/-- a house, flat -/
def tfl (T : hsT) (j : Nat) : Nat := if j = 0 then T.1 else if j = 1 then T.2.1 else if j < 8 then kindN (T.2.2.1 (j - 2)) else if j < 14 then T.2.2.2.1 (j - 8) else if j < 38 then T.2.2.2.2.1 (j - 14) else T.2.2.2.2.2 (j - 38)
theorem tfl_k {T : hsT} {j : Nat} (h : j < 6) : tfl T (2 + j) = kindN (T.2.2.1 j) := by
  unfold tfl; rw [if_neg (by omega), if_neg (by omega), if_pos (by omega), Nat.add_sub_cancel_left]
theorem tfl_w {T : hsT} {j : Nat} (h : j < 6) : tfl T (8 + j) = T.2.2.2.1 j := by
  unfold tfl; rw [if_neg (by omega), if_neg (by omega), if_neg (by omega), if_pos (by omega), Nat.add_sub_cancel_left]
theorem tfl_f {T : hsT} {j : Nat} (h : j < 24) : tfl T (14 + j) = T.2.2.2.2.1 j := by
  unfold tfl; rw [if_neg (by omega), if_neg (by omega), if_neg (by omega), if_neg (by omega), if_pos (by omega), Nat.add_sub_cancel_left]
theorem tfl_h {T : hsT} {j : Nat} (h : 24 ≤ j) : tfl T (14 + j) = T.2.2.2.2.2 (j - 24) := by
  unfold tfl; rw [if_neg (by omega), if_neg (by omega), if_neg (by omega), if_neg (by omega), if_neg (by omega), show 14 + j - 38 = j - 24 by omega]
def inQ (x a b : Int32) : Bool := decide (a.toInt ≤ x.toInt ∧ x.toInt ≤ b.toInt)
theorem inQ_lo {x a b : Int32} (h : x < a) : inQ x a b = false := decide_eq_false (by have := Int32.lt_iff_toInt_lt.mp h; omega)
theorem inQ_hi {x a b : Int32} (h : b < x) : inQ x a b = false := decide_eq_false (by have := Int32.lt_iff_toInt_lt.mp h; omega)
theorem inQ_in {x a b : Int32} (h : ¬ x < a) (h2 : ¬ b < x) : inQ x a b = true := decide_eq_true (by have h3 := Int32.le_iff_toInt_le.mp (Int32.not_lt.mp h); have h4 := Int32.le_iff_toInt_le.mp (Int32.not_lt.mp h2); exact ⟨h3, h4⟩)
theorem nI_m1 {k : Nat} (hk : k < 2 ^ 31) : (nI k - nI 1).toInt = (k : Int) - 1 := by
  by_cases h : k = 0
  · subst h; rfl
  · rw [pk_sub (show 1 ≤ k by omega), nI_toInt (by omega)]; omega
theorem inQ_R {x : Int32} {k : Nat} (hk : k < 2 ^ 31) : inQ x (nI 0) (nI k - nI 1) = inR x k := by
  unfold inQ inR
  rw [nI_m1 hk, nI_toInt (by decide)]
  congr 1
  apply propext
  omega
theorem inQ_c {x : Int32} (k : Nat) (hk : k + 1 < 2 ^ 31) : inQ x (nI 0) (nI k) = inR x (k + 1) := by
  unfold inQ inR
  rw [nI_toInt (by omega), nI_toInt (by omega)]
  congr 1
  apply propext
  omega
theorem inQ_say {x : Int32} : inQ x (nI 1) (nI 7) = sayB x := by
  cases h : sayB x with
  | true =>
    unfold sayB inR at h
    simp only [Bool.and_eq_true, decide_eq_true_eq] at h
    refine decide_eq_true ?_
    have h1 : (nI 1).toInt = 1 := rfl
    have h7 : (nI 7).toInt = 7 := rfl
    have h0 : x.toInt ≠ 0 := fun e => h.2 (Int32.toInt_inj.mp (by rw [e]; rfl))
    omega
  | false =>
    refine decide_eq_false (fun h2 => ?_)
    have h1 : (nI 1).toInt = 1 := rfl
    have h7 : (nI 7).toInt = 7 := rfl
    have h3 : sayB x = true := by
      unfold sayB inR
      rw [decide_eq_true (by omega), decide_eq_true (show ¬ x = 0 from fun e => by rw [e] at h2; have : (0 : Int32).toInt = 0 := rfl; omega)]; rfl
    rw [h3] at h; cases h
theorem inQ_N {a b c : Nat} (ha : a < 2 ^ 31) (hb : b < 2 ^ 31) (hc : c < 2 ^ 31) : inQ (nI a) (nI b) (nI c) = decide (b ≤ a ∧ a ≤ c) := by
  unfold inQ
  rw [nI_toInt ha, nI_toInt hb, nI_toInt hc]
  congr 1
  apply propext
  omega

set_option maxHeartbeats 4000000 in
set_option maxRecDepth 100000 in
/-- BanisterWordModel.in  -/
theorem c_X11_in (l : Launch) (E : xE) (g : hG) (n : Nat) (x a b : Int32)  : Ct l yX11_in cX11_in 3 (some .boolean) 0 0 0 0 E [.int x, .int a, .int b] (g) n (zr (some (.int (bI (inQ x a b)))) (g) (n)) := by
  refine Ct.of (by decide +kernel) (Nat.le_of_ble_eq_true rfl) (fun v hv => by simp only [List.mem_cons, List.not_mem_nil, or_false] at hv; (try rcases hv with rfl | rfl | rfl) <;> first | rfl | (subst hv; rfl) | exact hv.elim) ?_
  intro K hKl S
  subst hKl
  have X := S.1
  refine r_iload_n X dX11_in_0 rfl ?_
  refine r_iload_n X dX11_in_1 rfl ?_
  refine r_icmp_lt X 14 dX11_in_2 (by decide) (fun c_2 => ?_) (fun c_2 => ?_)
  · skip
    refine r_iconst (v := nI 0) X dX11_in_14 (by decide) ?_
    refine r_zret S dX11_in_15 (by first | rfl | exact bI_nar _) ?_
    exact ⟨by first | rw [inQ_lo c_2]; rfl | rw [inQ_hi c_7]; rfl | rw [inQ_in c_2 c_7]; rfl, rfl, rfl⟩
  · skip
    refine r_iload_n X dX11_in_5 rfl ?_
    refine r_iload_n X dX11_in_6 rfl ?_
    refine r_icmp_gt X 14 dX11_in_7 (by decide) (fun c_7 => ?_) (fun c_7 => ?_)
    · skip
      refine r_iconst (v := nI 0) X dX11_in_14 (by decide) ?_
      refine r_zret S dX11_in_15 (by first | rfl | exact bI_nar _) ?_
      exact ⟨by first | rw [inQ_lo c_2]; rfl | rw [inQ_hi c_7]; rfl | rw [inQ_in c_2 c_7]; rfl, rfl, rfl⟩
    · skip
      refine r_iconst (v := nI 1) X dX11_in_10 (by decide) ?_
      refine r_goto X 15 dX11_in_11 (by decide) ?_
      refine r_zret S dX11_in_15 (by first | rfl | exact bI_nar _) ?_
      exact ⟨by first | rw [inQ_lo c_2]; rfl | rw [inQ_hi c_7]; rfl | rw [inQ_in c_2 c_7]; rfl, rfl, rfl⟩

set_option maxHeartbeats 4000000 in
set_option maxRecDepth 100000 in
/-- BanisterWordModel.isPerson  -/
theorem c_X11_isPerson (l : Launch) (E : xE) (g : hG) (n : Nat) (M : Nat) (u : Nat → Nat) (B : Nat → Nat → Nat) (x : Int32) (h1 : B 2 1 < 2 ^ 31) : Ct l yX11_isPerson cX11_isPerson 2 (some .boolean) 1 22 0 0 E [.ref M, .int x] (mG E g M u B) n (zr (some (.int (bI (inR x (B 2 1))))) (mG E g M u B) (n)) := by
  refine Ct.of (by decide +kernel) (Nat.le_of_ble_eq_true rfl) (fun v hv => by simp only [List.mem_cons, List.not_mem_nil, or_false] at hv; (try rcases hv with rfl | rfl) <;> first | rfl | (subst hv; rfl) | exact hv.elim) ?_
  intro K hKl S
  subst hKl
  have X := S.1
  refine r_iload_n X dX11_isPerson_0 rfl ?_
  refine r_iconst (v := nI 0) X dX11_isPerson_1 (by decide) ?_
  refine r_aload_n X dX11_isPerson_2 rfl ?_
  refine r_get (ci := 10) X 2 _ ti_RX11 rfl (by decide) tw_660 (fun _ h => h) dX11_isPerson_3 (by first | exact m0 | exact m1 | exact m2 | exact m3 | exact m4 | exact m5 | exact m6 | exact m7 | exact m8 | exact m9 | assumption) rfl ?_
  refine r_iconst (v := nI 1) X dX11_isPerson_6 (by decide) ?_
  refine r_nald X _ dX11_isPerson_7 (by first | exact m0 | exact m1 | exact m2 | exact m3 | exact m4 | exact m5 | exact m6 | exact m7 | exact m8 | exact m9 | assumption) (rfl) (by omega) (by decide) ?_
  refine r_iconst (v := nI 1) X dX11_isPerson_8 (by decide) ?_
  refine r_isub X _ dX11_isPerson_9 rfl ?_
  refine r_callS X rfl (c_X11_in _ E _ n _ _ _) tw_711 tw_712 tw_7 tw_713 rfl ⟨ok_X11_in, ⟨Nat.le_of_ble_eq_true rfl, Nat.le_of_ble_eq_true rfl⟩, ⟨Nat.le_of_ble_eq_true rfl, Nat.le_of_ble_eq_true rfl⟩, Nat.le_of_ble_eq_true rfl⟩ dX11_isPerson_10 (kk_r (Wf := Wg K E _ _ _ _) ?_)
  refine r_top _ _ (congrArg bI (inQ_R h1)) ?_
  refine r_zret S dX11_isPerson_13 (by first | rfl | exact bI_nar _) ?_
  exact ⟨rfl, rfl, rfl⟩

set_option maxHeartbeats 4000000 in
set_option maxRecDepth 100000 in
/-- BanisterWordModel.isStep  -/
theorem c_X11_isStep (l : Launch) (E : xE) (g : hG) (n : Nat) (M : Nat) (u : Nat → Nat) (B : Nat → Nat → Nat) (x : Int32) (h1 : B 2 0 < 2 ^ 31) : Ct l yX11_isStep cX11_isStep 2 (some .boolean) 1 22 0 0 E [.ref M, .int x] (mG E g M u B) n (zr (some (.int (bI (inR x (B 2 0))))) (mG E g M u B) (n)) := by
  refine Ct.of (by decide +kernel) (Nat.le_of_ble_eq_true rfl) (fun v hv => by simp only [List.mem_cons, List.not_mem_nil, or_false] at hv; (try rcases hv with rfl | rfl) <;> first | rfl | (subst hv; rfl) | exact hv.elim) ?_
  intro K hKl S
  subst hKl
  have X := S.1
  refine r_iload_n X dX11_isStep_0 rfl ?_
  refine r_iconst (v := nI 0) X dX11_isStep_1 (by decide) ?_
  refine r_aload_n X dX11_isStep_2 rfl ?_
  refine r_get (ci := 10) X 2 _ ti_RX11 rfl (by decide) tw_660 (fun _ h => h) dX11_isStep_3 (by first | exact m0 | exact m1 | exact m2 | exact m3 | exact m4 | exact m5 | exact m6 | exact m7 | exact m8 | exact m9 | assumption) rfl ?_
  refine r_iconst (v := nI 0) X dX11_isStep_6 (by decide) ?_
  refine r_nald X _ dX11_isStep_7 (by first | exact m0 | exact m1 | exact m2 | exact m3 | exact m4 | exact m5 | exact m6 | exact m7 | exact m8 | exact m9 | assumption) (rfl) (by omega) (by decide) ?_
  refine r_iconst (v := nI 1) X dX11_isStep_8 (by decide) ?_
  refine r_isub X _ dX11_isStep_9 rfl ?_
  refine r_callS X rfl (c_X11_in _ E _ n _ _ _) tw_711 tw_712 tw_7 tw_713 rfl ⟨ok_X11_in, ⟨Nat.le_of_ble_eq_true rfl, Nat.le_of_ble_eq_true rfl⟩, ⟨Nat.le_of_ble_eq_true rfl, Nat.le_of_ble_eq_true rfl⟩, Nat.le_of_ble_eq_true rfl⟩ dX11_isStep_10 (kk_r (Wf := Wg K E _ _ _ _) ?_)
  refine r_top _ _ (congrArg bI (inQ_R h1)) ?_
  refine r_zret S dX11_isStep_13 (by first | rfl | exact bI_nar _) ?_
  exact ⟨rfl, rfl, rfl⟩

set_option maxHeartbeats 4000000 in
set_option maxRecDepth 100000 in
/-- BanisterWordModel.isSaying  -/
theorem c_X11_isSaying (l : Launch) (E : xE) (g : hG) (n : Nat) (x : Int32)  : Ct l yX11_isSaying cX11_isSaying 1 (some .boolean) 1 22 0 0 E [.int x] (g) n (zr (some (.int (bI (sayB x)))) (g) (n)) := by
  refine Ct.of (by decide +kernel) (Nat.le_of_ble_eq_true rfl) (fun v hv => by simp only [List.mem_cons, List.not_mem_nil, or_false] at hv; (try rcases hv with rfl) <;> first | rfl | (subst hv; rfl) | exact hv.elim) ?_
  intro K hKl S
  subst hKl
  have X := S.1
  refine r_iload_n X dX11_isSaying_0 rfl ?_
  refine r_iconst (v := nI 1) X dX11_isSaying_1 (by decide) ?_
  refine r_bipush (v := nI 7) X dX11_isSaying_2 (by decide) ?_
  refine r_callS X rfl (c_X11_in _ E _ n _ _ _) tw_711 tw_712 tw_7 tw_713 rfl ⟨ok_X11_in, ⟨Nat.le_of_ble_eq_true rfl, Nat.le_of_ble_eq_true rfl⟩, ⟨Nat.le_of_ble_eq_true rfl, Nat.le_of_ble_eq_true rfl⟩, Nat.le_of_ble_eq_true rfl⟩ dX11_isSaying_4 (kk_r (Wf := Wg K E _ _ _ _) ?_)
  refine r_top _ _ (congrArg bI (inQ_say)) ?_
  refine r_zret S dX11_isSaying_7 (by first | rfl | exact bI_nar _) ?_
  exact ⟨rfl, rfl, rfl⟩

set_option maxHeartbeats 4000000 in
set_option maxRecDepth 100000 in
/-- BanisterWordModel.isLetter  -/
theorem c_X11_isLetter (l : Launch) (E : xE) (g : hG) (n : Nat) (x : Int32)  : Ct l yX11_isLetter cX11_isLetter 1 (some .boolean) 1 22 0 0 E [.int x] (g) n (zr (some (.int (bI (inQ x (nI 97) (nI 122))))) (g) (n)) := by
  refine Ct.of (by decide +kernel) (Nat.le_of_ble_eq_true rfl) (fun v hv => by simp only [List.mem_cons, List.not_mem_nil, or_false] at hv; (try rcases hv with rfl) <;> first | rfl | (subst hv; rfl) | exact hv.elim) ?_
  intro K hKl S
  subst hKl
  have X := S.1
  refine r_iload_n X dX11_isLetter_0 rfl ?_
  refine r_bipush (v := nI 97) X dX11_isLetter_1 (by decide) ?_
  refine r_bipush (v := nI 122) X dX11_isLetter_3 (by decide) ?_
  refine r_callS X rfl (c_X11_in _ E _ n _ _ _) tw_711 tw_712 tw_7 tw_713 rfl ⟨ok_X11_in, ⟨Nat.le_of_ble_eq_true rfl, Nat.le_of_ble_eq_true rfl⟩, ⟨Nat.le_of_ble_eq_true rfl, Nat.le_of_ble_eq_true rfl⟩, Nat.le_of_ble_eq_true rfl⟩ dX11_isLetter_5 (kk_r (Wf := Wg K E _ _ _ _) ?_)
  refine r_zret S dX11_isLetter_8 (by first | rfl | exact bI_nar _) ?_
  exact ⟨rfl, rfl, rfl⟩

set_option maxHeartbeats 4000000 in
set_option maxRecDepth 100000 in
/-- BanisterWordModel.isDigit  -/
theorem c_X11_isDigit (l : Launch) (E : xE) (g : hG) (n : Nat) (x : Int32)  : Ct l yX11_isDigit cX11_isDigit 1 (some .boolean) 1 22 0 0 E [.int x] (g) n (zr (some (.int (bI (inQ x (nI 48) (nI 57))))) (g) (n)) := by
  refine Ct.of (by decide +kernel) (Nat.le_of_ble_eq_true rfl) (fun v hv => by simp only [List.mem_cons, List.not_mem_nil, or_false] at hv; (try rcases hv with rfl) <;> first | rfl | (subst hv; rfl) | exact hv.elim) ?_
  intro K hKl S
  subst hKl
  have X := S.1
  refine r_iload_n X dX11_isDigit_0 rfl ?_
  refine r_bipush (v := nI 48) X dX11_isDigit_1 (by decide) ?_
  refine r_bipush (v := nI 57) X dX11_isDigit_3 (by decide) ?_
  refine r_callS X rfl (c_X11_in _ E _ n _ _ _) tw_711 tw_712 tw_7 tw_713 rfl ⟨ok_X11_in, ⟨Nat.le_of_ble_eq_true rfl, Nat.le_of_ble_eq_true rfl⟩, ⟨Nat.le_of_ble_eq_true rfl, Nat.le_of_ble_eq_true rfl⟩, Nat.le_of_ble_eq_true rfl⟩ dX11_isDigit_5 (kk_r (Wf := Wg K E _ _ _ _) ?_)
  refine r_zret S dX11_isDigit_8 (by first | rfl | exact bI_nar _) ?_
  exact ⟨rfl, rfl, rfl⟩

set_option maxHeartbeats 4000000 in
set_option maxRecDepth 100000 in
/-- BanisterWordModel.write  -/
theorem c_X11_write (l : Launch) (E : xE) (g : hG) (n : Nat) (M : Nat) (u : Nat → Nat) (B : Nat → Nat → Nat) (x : Int32) (h5 : u 0 ≤ 160) : Ct l yX11_write cX11_write 2 (some .int) 1 22 0 0 E [.ref M, .int x] (mG E g M u B) n (zr (some (.int (writeR (u 0) x))) (if inR x 256 = true ∧ u 0 < 160 then mG E g M (va_up u 0 (u 0 + 1)) (va_up B 1 (va_up (B 1) (u 0) (ix x))) else mG E g M u B) (n)) := by
  refine Ct.of (by decide +kernel) (Nat.le_of_ble_eq_true rfl) (fun v hv => by simp only [List.mem_cons, List.not_mem_nil, or_false] at hv; (try rcases hv with rfl | rfl) <;> first | rfl | (subst hv; rfl) | exact hv.elim) ?_
  intro K hKl S
  subst hKl
  have X := S.1
  refine r_iload_n X dX11_write_0 rfl ?_
  refine r_iconst (v := nI 0) X dX11_write_1 (by decide) ?_
  refine r_sipush (v := nI 255) X dX11_write_2 (by decide) ?_
  refine r_callS X rfl (c_X11_in _ E _ n _ _ _) tw_711 tw_712 tw_7 tw_713 rfl ⟨ok_X11_in, ⟨Nat.le_of_ble_eq_true rfl, Nat.le_of_ble_eq_true rfl⟩, ⟨Nat.le_of_ble_eq_true rfl, Nat.le_of_ble_eq_true rfl⟩, Nat.le_of_ble_eq_true rfl⟩ dX11_write_5 (kk_r (Wf := Wg K E _ _ _ _) ?_)
  refine r_top _ _ (congrArg bI (inQ_c 255 (by decide))) ?_
  refine r_if_neB X 14 dX11_write_8 (by decide) (fun c_8 => ?_) (fun c_8 => ?_)
  · skip
    obtain ⟨c, hc, rfl⟩ := inR_ex (by decide) c_8
    have hix : ix (nI c) = c := ix_nI (by omega)
    refine r_aload_n X dX11_write_14 rfl ?_
    refine r_get (ci := 10) X 1 _ ti_RX11 rfl (by decide) tw_659 (fun _ h => h) dX11_write_15 (by first | exact m0 | exact m1 | exact m2 | exact m3 | exact m4 | exact m5 | exact m6 | exact m7 | exact m8 | exact m9 | assumption) rfl ?_
    refine r_sipush (v := nI 160) X dX11_write_18 (by decide) ?_
    refine r_icmp_neN X 27 dX11_write_21 (by decide) (by omega) (by omega) (fun c_21 => ?_) (fun c_21 => ?_)
    · skip
      refine r_aload_n X dX11_write_27 rfl ?_
      refine r_get (ci := 10) X 0 _ ti_RX11 rfl (by decide) tw_658 (fun _ h => h) dX11_write_28 (by first | exact m0 | exact m1 | exact m2 | exact m3 | exact m4 | exact m5 | exact m6 | exact m7 | exact m8 | exact m9 | assumption) rfl ?_
      refine r_aload_n X dX11_write_31 rfl ?_
      refine r_get (ci := 10) X 1 _ ti_RX11 rfl (by decide) tw_659 (fun _ h => h) dX11_write_32 (by first | exact m0 | exact m1 | exact m2 | exact m3 | exact m4 | exact m5 | exact m6 | exact m7 | exact m8 | exact m9 | assumption) rfl ?_
      refine r_iload_n X dX11_write_35 rfl ?_
      refine r_nast X _ dX11_write_36 (by first | exact m0 | exact m1 | exact m2 | exact m3 | exact m4 | exact m5 | exact m6 | exact m7 | exact m8 | exact m9 | assumption) (rfl) (by omega) (by decide) ?_
      refine r_heap um1 ?_
      refine r_aload_n X dX11_write_37 rfl ?_
      refine r_dup X dX11_write_38 rfl ?_
      refine r_get (ci := 10) X 1 _ ti_RX11 rfl (by decide) tw_659 (fun _ h => h) dX11_write_39 (by first | exact m0 | exact m1 | exact m2 | exact m3 | exact m4 | exact m5 | exact m6 | exact m7 | exact m8 | exact m9 | assumption) rfl ?_
      refine r_iconst (v := nI 1) X dX11_write_42 (by decide) ?_
      first | refine r_iaddN X dX11_write_43 ?_ | refine r_iadd X _ dX11_write_43 rfl ?_
      refine r_put (ci := 10) (ty := .int) X 1 ti_RX11 tyX11 tyX11_ok nmX11 rfl (by decide) tw_659 (fun _ h => h) rfl (by decide +kernel) dX11_write_44 (by first | exact m0 | exact m1 | exact m2 | exact m3 | exact m4 | exact m5 | exact m6 | exact m7 | exact m8 | exact m9 | assumption) rfl rfl (Nat.le_of_ble_eq_true rfl) ?_
      try dsimp only [List.set]
      refine r_heap um_typed ?_
      refine r_aload_n X dX11_write_47 rfl ?_
      refine r_get (ci := 10) X 1 _ ti_RX11 rfl (by decide) tw_659 (fun _ h => h) dX11_write_48 (by first | exact m0 | exact m1 | exact m2 | exact m3 | exact m4 | exact m5 | exact m6 | exact m7 | exact m8 | exact m9 | assumption) rfl ?_
      refine r_iret S dX11_write_51 ?_
      have hlt : u 0 < 160 := by omega
      exact ⟨by simp [writeR, c_8, hlt]; rfl, by rw [if_pos ⟨c_8, hlt⟩, hix], rfl⟩
    · skip
      refine r_bipush (v := (-5)) X dX11_write_24 (by decide) ?_
      refine r_iret S dX11_write_26 ?_
      exact ⟨by simp [writeR, c_8, show ¬ u 0 < 160 by omega], by rw [if_neg (by omega)], rfl⟩
  · skip
    refine r_bipush (v := (-3)) X dX11_write_11 (by decide) ?_
    refine r_iret S dX11_write_13 ?_
    exact ⟨by simp [writeR, c_8], by rw [if_neg (by simp [c_8])], rfl⟩

set_option maxHeartbeats 4000000 in
set_option maxRecDepth 100000 in
/-- BanisterWordModel.erase  -/
theorem c_X11_erase (l : Launch) (E : xE) (g : hG) (n : Nat) (M : Nat) (u : Nat → Nat) (B : Nat → Nat → Nat)   : Ct l yX11_erase cX11_erase 2 (some .int) 0 0 0 0 E [.ref M] (mG E g M u B) n (zr (some (.int (nI (u 0)))) (mG E g M (va_up u 0 0) B) (n)) := by
  refine Ct.of (by decide +kernel) (Nat.le_of_ble_eq_true rfl) (fun v hv => by simp only [List.mem_cons, List.not_mem_nil, or_false] at hv; (try rcases hv with rfl) <;> first | rfl | (subst hv; rfl) | exact hv.elim) ?_
  intro K hKl S
  subst hKl
  have X := S.1
  refine r_aload_n X dX11_erase_0 rfl ?_
  refine r_get (ci := 10) X 1 _ ti_RX11 rfl (by decide) tw_659 (fun _ h => h) dX11_erase_1 (by first | exact m0 | exact m1 | exact m2 | exact m3 | exact m4 | exact m5 | exact m6 | exact m7 | exact m8 | exact m9 | assumption) rfl ?_
  refine r_istore_n X dX11_erase_4 (Nat.le_of_ble_eq_true rfl) ?_
  try dsimp only [List.set]
  refine r_aload_n X dX11_erase_5 rfl ?_
  refine r_iconst (v := nI 0) X dX11_erase_6 (by decide) ?_
  refine r_put (ci := 10) (ty := .int) X 1 ti_RX11 tyX11 tyX11_ok nmX11 rfl (by decide) tw_659 (fun _ h => h) rfl (by decide +kernel) dX11_erase_7 (by first | exact m0 | exact m1 | exact m2 | exact m3 | exact m4 | exact m5 | exact m6 | exact m7 | exact m8 | exact m9 | assumption) rfl rfl (Nat.le_of_ble_eq_true rfl) ?_
  try dsimp only [List.set]
  refine r_heap um_typed ?_
  refine r_iload_n X dX11_erase_10 rfl ?_
  refine r_iret S dX11_erase_11 ?_
  exact ⟨rfl, rfl, rfl⟩

set_option maxHeartbeats 4000000 in
set_option maxRecDepth 100000 in
/-- BanisterWordModel.letterAt  -/
theorem c_X11_letterAt (l : Launch) (E : xE) (g : hG) (n : Nat) (M : Nat) (u : Nat → Nat) (B : Nat → Nat → Nat) (k : Nat) (h5 : u 0 ≤ 160) (hk : k < 1000) : Ct l yX11_letterAt cX11_letterAt 2 (some .int) 0 0 0 0 E [.ref M, .int (nI k)] (mG E g M u B) n (zr (some (.int (if k < u 0 then nI (B 1 k) else -1))) (mG E g M u B) (n)) := by
  refine Ct.of (by decide +kernel) (Nat.le_of_ble_eq_true rfl) (fun v hv => by simp only [List.mem_cons, List.not_mem_nil, or_false] at hv; (try rcases hv with rfl | rfl) <;> first | rfl | (subst hv; rfl) | exact hv.elim) ?_
  intro K hKl S
  subst hKl
  have X := S.1
  refine r_iload_n X dX11_letterAt_0 rfl ?_
  refine r_aload_n X dX11_letterAt_1 rfl ?_
  refine r_get (ci := 10) X 1 _ ti_RX11 rfl (by decide) tw_659 (fun _ h => h) dX11_letterAt_2 (by first | exact m0 | exact m1 | exact m2 | exact m3 | exact m4 | exact m5 | exact m6 | exact m7 | exact m8 | exact m9 | assumption) rfl ?_
  refine r_icmp_geN X 17 dX11_letterAt_5 (by decide) (by omega) (by omega) (fun c_5 => ?_) (fun c_5 => ?_)
  · skip
    refine r_iconst (v := (-1)) X dX11_letterAt_17 (by decide) ?_
    refine r_iret S dX11_letterAt_18 ?_
    exact ⟨by first | rw [if_pos c_5] | rw [if_neg (by omega)], rfl, rfl⟩
  · skip
    refine r_aload_n X dX11_letterAt_8 rfl ?_
    refine r_get (ci := 10) X 0 _ ti_RX11 rfl (by decide) tw_658 (fun _ h => h) dX11_letterAt_9 (by first | exact m0 | exact m1 | exact m2 | exact m3 | exact m4 | exact m5 | exact m6 | exact m7 | exact m8 | exact m9 | assumption) rfl ?_
    refine r_iload_n X dX11_letterAt_12 rfl ?_
    refine r_nald X _ dX11_letterAt_13 (by first | exact m0 | exact m1 | exact m2 | exact m3 | exact m4 | exact m5 | exact m6 | exact m7 | exact m8 | exact m9 | assumption) (rfl) (by omega) (by decide) ?_
    refine r_goto X 18 dX11_letterAt_14 (by decide) ?_
    refine r_iret S dX11_letterAt_18 ?_
    exact ⟨by first | rw [if_pos c_5] | rw [if_neg (by omega)], rfl, rfl⟩

set_option maxHeartbeats 4000000 in
set_option maxRecDepth 100000 in
/-- BanisterWordModel.warmOf  -/
theorem c_X11_warmOf (l : Launch) (E : xE) (g : hG) (n : Nat) (M : Nat) (u : Nat → Nat) (B : Nat → Nat → Nat) (T : hsT) (i : Nat) (hT : B 2 = tfl T) (hi : i < 6) (hc : T.2.2.1 i < 4) (hw : T.2.2.2.1 i < 1000) : Ct l yX11_warmOf cX11_warmOf 4 (some .int) 0 0 0 0 E [.ref M, .int (nI i)] (mG E g M u B) n (zr (some (.int (nI (firmN (T.2.2.1 i) (T.2.2.2.1 i))))) (mG E g M u B) (n)) := by
  refine Ct.of (by decide +kernel) (Nat.le_of_ble_eq_true rfl) (fun v hv => by simp only [List.mem_cons, List.not_mem_nil, or_false] at hv; (try rcases hv with rfl | rfl) <;> first | rfl | (subst hv; rfl) | exact hv.elim) ?_
  intro K hKl S
  subst hKl
  have X := S.1
  refine r_aload_n X dX11_warmOf_0 rfl ?_
  refine r_get (ci := 10) X 2 _ ti_RX11 rfl (by decide) tw_660 (fun _ h => h) dX11_warmOf_1 (by first | exact m0 | exact m1 | exact m2 | exact m3 | exact m4 | exact m5 | exact m6 | exact m7 | exact m8 | exact m9 | assumption) rfl ?_
  refine r_bipush (v := nI 8) X dX11_warmOf_4 (by decide) ?_
  refine r_iload_n X dX11_warmOf_6 rfl ?_
  first | refine r_iaddN X dX11_warmOf_7 ?_ | refine r_iadd X _ dX11_warmOf_7 rfl ?_
  refine r_nald X _ dX11_warmOf_8 (by first | exact m0 | exact m1 | exact m2 | exact m3 | exact m4 | exact m5 | exact m6 | exact m7 | exact m8 | exact m9 | assumption) (rfl) (by omega) (by decide) ?_
  refine r_top _ _ (congrArg nI (show B 2 (8 + i) = T.2.2.2.1 i by rw [hT]; exact tfl_w hi)) ?_
  refine r_istore_n X dX11_warmOf_9 (Nat.le_of_ble_eq_true rfl) ?_
  try dsimp only [List.set]
  refine r_aload_n X dX11_warmOf_10 rfl ?_
  refine r_get (ci := 10) X 2 _ ti_RX11 rfl (by decide) tw_660 (fun _ h => h) dX11_warmOf_11 (by first | exact m0 | exact m1 | exact m2 | exact m3 | exact m4 | exact m5 | exact m6 | exact m7 | exact m8 | exact m9 | assumption) rfl ?_
  refine r_iconst (v := nI 2) X dX11_warmOf_14 (by decide) ?_
  refine r_iload_n X dX11_warmOf_15 rfl ?_
  first | refine r_iaddN X dX11_warmOf_16 ?_ | refine r_iadd X _ dX11_warmOf_16 rfl ?_
  refine r_nald X _ dX11_warmOf_17 (by first | exact m0 | exact m1 | exact m2 | exact m3 | exact m4 | exact m5 | exact m6 | exact m7 | exact m8 | exact m9 | assumption) (rfl) (by omega) (by decide) ?_
  refine r_top _ _ (congrArg nI (show B 2 (2 + i) = kindN (T.2.2.1 i) by rw [hT]; exact tfl_k hi)) ?_
  refine r_istore_n X dX11_warmOf_18 (Nat.le_of_ble_eq_true rfl) ?_
  try dsimp only [List.set]
  rcases (show T.2.2.1 i = 0 ∨ T.2.2.1 i = 1 ∨ T.2.2.1 i = 2 ∨ T.2.2.1 i = 3 by omega) with hc | hc | hc | hc
  · skip
    rw [hc]
    have hk : kindN 0 = 1 := rfl
    refine r_iload_n X dX11_warmOf_19 rfl ?_
    refine r_iconst (v := nI 1) X dX11_warmOf_20 (by decide) ?_
    refine r_icmp_neN X 30 dX11_warmOf_21 (by decide) (by omega) (by omega) (fun c_21 => ?_) (fun c_21 => ?_)
    · exact absurd c_21 (by rw [hk]; decide)
    refine r_iconst (v := nI 2) X dX11_warmOf_24 (by decide) ?_
    refine r_iload_n X dX11_warmOf_25 rfl ?_
    first | refine r_imulN X dX11_warmOf_26 ?_ | refine r_imul X _ dX11_warmOf_26 rfl ?_
    refine r_goto X 51 dX11_warmOf_27 (by decide) ?_
    refine r_iret S dX11_warmOf_51 ?_
    exact ⟨by rw [hc]; rfl, rfl, rfl⟩
  · skip
    rw [hc]
    have hk : kindN 1 = 2 := rfl
    refine r_iload_n X dX11_warmOf_19 rfl ?_
    refine r_iconst (v := nI 1) X dX11_warmOf_20 (by decide) ?_
    refine r_icmp_neN X 30 dX11_warmOf_21 (by decide) (by omega) (by omega) (fun c_21 => ?_) (fun c_21 => ?_)
    rotate_left
    · exact absurd c_21 (by rw [hk]; decide)
    refine r_iload_n X dX11_warmOf_30 rfl ?_
    refine r_iconst (v := nI 2) X dX11_warmOf_31 (by decide) ?_
    refine r_icmp_neN X 41 dX11_warmOf_32 (by decide) (by omega) (by omega) (fun c_32 => ?_) (fun c_32 => ?_)
    · exact absurd c_32 (by rw [hk]; decide)
    refine r_iload_n X dX11_warmOf_35 rfl ?_
    refine r_iconst (v := nI 2) X dX11_warmOf_36 (by decide) ?_
    refine r_idivN X dX11_warmOf_37 (by omega) (by omega) (by omega) ?_
    refine r_goto X 51 dX11_warmOf_38 (by decide) ?_
    refine r_iret S dX11_warmOf_51 ?_
    exact ⟨by rw [hc]; rfl, rfl, rfl⟩
  · skip
    rw [hc]
    have hk : kindN 2 = 0 := rfl
    refine r_iload_n X dX11_warmOf_19 rfl ?_
    refine r_iconst (v := nI 1) X dX11_warmOf_20 (by decide) ?_
    refine r_icmp_neN X 30 dX11_warmOf_21 (by decide) (by omega) (by omega) (fun c_21 => ?_) (fun c_21 => ?_)
    rotate_left
    · exact absurd c_21 (by rw [hk]; decide)
    refine r_iload_n X dX11_warmOf_30 rfl ?_
    refine r_iconst (v := nI 2) X dX11_warmOf_31 (by decide) ?_
    refine r_icmp_neN X 41 dX11_warmOf_32 (by decide) (by omega) (by omega) (fun c_32 => ?_) (fun c_32 => ?_)
    rotate_left
    · exact absurd c_32 (by rw [hk]; decide)
    refine r_iload_n X dX11_warmOf_41 rfl ?_
    refine r_iconst (v := nI 3) X dX11_warmOf_42 (by decide) ?_
    refine r_icmp_neN X 50 dX11_warmOf_43 (by decide) (by omega) (by omega) (fun c_43 => ?_) (fun c_43 => ?_)
    rotate_left
    · exact absurd c_43 (by rw [hk]; decide)
    refine r_iload_n X dX11_warmOf_50 rfl ?_
    refine r_iret S dX11_warmOf_51 ?_
    exact ⟨by rw [hc]; rfl, rfl, rfl⟩
  · skip
    rw [hc]
    have hk : kindN 3 = 3 := rfl
    refine r_iload_n X dX11_warmOf_19 rfl ?_
    refine r_iconst (v := nI 1) X dX11_warmOf_20 (by decide) ?_
    refine r_icmp_neN X 30 dX11_warmOf_21 (by decide) (by omega) (by omega) (fun c_21 => ?_) (fun c_21 => ?_)
    rotate_left
    · exact absurd c_21 (by rw [hk]; decide)
    refine r_iload_n X dX11_warmOf_30 rfl ?_
    refine r_iconst (v := nI 2) X dX11_warmOf_31 (by decide) ?_
    refine r_icmp_neN X 41 dX11_warmOf_32 (by decide) (by omega) (by omega) (fun c_32 => ?_) (fun c_32 => ?_)
    rotate_left
    · exact absurd c_32 (by rw [hk]; decide)
    refine r_iload_n X dX11_warmOf_41 rfl ?_
    refine r_iconst (v := nI 3) X dX11_warmOf_42 (by decide) ?_
    refine r_icmp_neN X 50 dX11_warmOf_43 (by decide) (by omega) (by omega) (fun c_43 => ?_) (fun c_43 => ?_)
    · exact absurd c_43 (by rw [hk]; decide)
    refine r_iconst (v := nI 0) X dX11_warmOf_46 (by decide) ?_
    refine r_goto X 51 dX11_warmOf_47 (by decide) ?_
    refine r_iret S dX11_warmOf_51 ?_
    exact ⟨by rw [hc]; rfl, rfl, rfl⟩

set_option maxHeartbeats 4000000 in
set_option maxRecDepth 100000 in
/-- BanisterWordModel.handOf  -/
theorem c_X11_handOf (l : Launch) (E : xE) (g : hG) (n : Nat) (M : Nat) (u : Nat → Nat) (B : Nat → Nat → Nat) (T : hsT) (i : Nat) (hT : B 2 = tfl T) (hi : i < 6) : Ct l yX11_handOf cX11_handOf 2 (some .int) 0 0 0 0 E [.ref M, .int (nI i)] (mG E g M u B) n (zr (some (.int (nI (handN (T.2.2.1 i))))) (mG E g M u B) (n)) := by
  refine Ct.of (by decide +kernel) (Nat.le_of_ble_eq_true rfl) (fun v hv => by simp only [List.mem_cons, List.not_mem_nil, or_false] at hv; (try rcases hv with rfl | rfl) <;> first | rfl | (subst hv; rfl) | exact hv.elim) ?_
  intro K hKl S
  subst hKl
  have X := S.1
  have hk : kindN (T.2.2.1 i) < 4 := by unfold kindN; (repeat' split) <;> omega
  refine r_aload_n X dX11_handOf_0 rfl ?_
  refine r_get (ci := 10) X 2 _ ti_RX11 rfl (by decide) tw_660 (fun _ h => h) dX11_handOf_1 (by first | exact m0 | exact m1 | exact m2 | exact m3 | exact m4 | exact m5 | exact m6 | exact m7 | exact m8 | exact m9 | assumption) rfl ?_
  refine r_iconst (v := nI 2) X dX11_handOf_4 (by decide) ?_
  refine r_iload_n X dX11_handOf_5 rfl ?_
  first | refine r_iaddN X dX11_handOf_6 ?_ | refine r_iadd X _ dX11_handOf_6 rfl ?_
  refine r_nald X _ dX11_handOf_7 (by first | exact m0 | exact m1 | exact m2 | exact m3 | exact m4 | exact m5 | exact m6 | exact m7 | exact m8 | exact m9 | assumption) (rfl) (by omega) (by decide) ?_
  refine r_top _ _ (congrArg nI (show B 2 (2 + i) = kindN (T.2.2.1 i) by rw [hT]; exact tfl_k hi)) ?_
  refine r_iconst (v := nI 1) X dX11_handOf_8 (by decide) ?_
  refine r_icmp_neN X 16 dX11_handOf_9 (by decide) (by omega) (by omega) (fun c_9 => ?_) (fun c_9 => ?_)
  · skip
    refine r_iconst (v := nI 1) X dX11_handOf_16 (by decide) ?_
    refine r_iret S dX11_handOf_17 ?_
    refine ⟨?_, rfl, rfl⟩
    have h9 : handN (T.2.2.1 i) = if kindN (T.2.2.1 i) = 1 then 0 else 1 := by unfold handN kindN; (repeat' split) <;> first | rfl | omega
    rw [h9]; first | rw [if_pos c_9] | rw [if_neg c_9]
  · skip
    refine r_iconst (v := nI 0) X dX11_handOf_12 (by decide) ?_
    refine r_goto X 17 dX11_handOf_13 (by decide) ?_
    refine r_iret S dX11_handOf_17 ?_
    refine ⟨?_, rfl, rfl⟩
    have h9 : handN (T.2.2.1 i) = if kindN (T.2.2.1 i) = 1 then 0 else 1 := by unfold handN kindN; (repeat' split) <;> first | rfl | omega
    rw [h9]; first | rw [if_pos c_9] | rw [if_neg c_9]

set_option maxHeartbeats 4000000 in
set_option maxRecDepth 100000 in
/-- BanisterWordModel.feels  -/
theorem c_X11_feels (l : Launch) (E : xE) (g : hG) (n : Nat) (M : Nat) (u : Nat → Nat) (B : Nat → Nat → Nat) (T : hsT) (i : Nat) (hT : B 2 = tfl T) (hi : i < 6) (hc : T.2.2.1 i < 4) : Ct l yX11_feels cX11_feels 2 (some .boolean) 0 0 0 0 E [.ref M, .int (nI i)] (mG E g M u B) n (zr (some (.int (bI (feelsB (T.2.2.1 i))))) (mG E g M u B) (n)) := by
  refine Ct.of (by decide +kernel) (Nat.le_of_ble_eq_true rfl) (fun v hv => by simp only [List.mem_cons, List.not_mem_nil, or_false] at hv; (try rcases hv with rfl | rfl) <;> first | rfl | (subst hv; rfl) | exact hv.elim) ?_
  intro K hKl S
  subst hKl
  have X := S.1
  have hk : kindN (T.2.2.1 i) < 4 := by unfold kindN; (repeat' split) <;> omega
  refine r_aload_n X dX11_feels_0 rfl ?_
  refine r_get (ci := 10) X 2 _ ti_RX11 rfl (by decide) tw_660 (fun _ h => h) dX11_feels_1 (by first | exact m0 | exact m1 | exact m2 | exact m3 | exact m4 | exact m5 | exact m6 | exact m7 | exact m8 | exact m9 | assumption) rfl ?_
  refine r_iconst (v := nI 2) X dX11_feels_4 (by decide) ?_
  refine r_iload_n X dX11_feels_5 rfl ?_
  first | refine r_iaddN X dX11_feels_6 ?_ | refine r_iadd X _ dX11_feels_6 rfl ?_
  refine r_nald X _ dX11_feels_7 (by first | exact m0 | exact m1 | exact m2 | exact m3 | exact m4 | exact m5 | exact m6 | exact m7 | exact m8 | exact m9 | assumption) (rfl) (by omega) (by decide) ?_
  refine r_top _ _ (congrArg nI (show B 2 (2 + i) = kindN (T.2.2.1 i) by rw [hT]; exact tfl_k hi)) ?_
  refine r_iconst (v := nI 2) X dX11_feels_8 (by decide) ?_
  refine r_icmp_geN X 16 dX11_feels_9 (by decide) (by omega) (by omega) (fun c_9 => ?_) (fun c_9 => ?_)
  · skip
    refine r_iconst (v := nI 0) X dX11_feels_16 (by decide) ?_
    refine r_zret S dX11_feels_17 (by first | rfl | exact bI_nar _) ?_
    refine ⟨?_, rfl, rfl⟩
    rcases (show T.2.2.1 i = 0 ∨ T.2.2.1 i = 1 ∨ T.2.2.1 i = 2 ∨ T.2.2.1 i = 3 by omega) with hc | hc | hc | hc <;> rw [hc] at c_9 ⊢ <;> first | rfl | exact absurd c_9 (by decide)
  · skip
    refine r_iconst (v := nI 1) X dX11_feels_12 (by decide) ?_
    refine r_goto X 17 dX11_feels_13 (by decide) ?_
    refine r_zret S dX11_feels_17 (by first | rfl | exact bI_nar _) ?_
    refine ⟨?_, rfl, rfl⟩
    rcases (show T.2.2.1 i = 0 ∨ T.2.2.1 i = 1 ∨ T.2.2.1 i = 2 ∨ T.2.2.1 i = 3 by omega) with hc | hc | hc | hc <;> rw [hc] at c_9 ⊢ <;> first | rfl | exact absurd c_9 (by decide)

