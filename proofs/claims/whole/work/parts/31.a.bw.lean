/-- the cells of a BanisterWord at X, 75 of them. v: steps, people, the text's five numbers, the past's next and size, how many are seen; F: rows by their places -/
def raCell (E : xE) (r : Nat) (f h : Nat → Nat) (k : Nat) : va_E := if k = 0 then oc 6 [.ref (r + 1), .ref (r + 2)] else if k = 1 then nc E 24 f else nc E 24 h
def bO (X s p : Nat) : va_E := oc 9 [.ref (X + 1), .ref (X + 4), .ref (X + 5), .ref (X + 8), .ref (X + 11), .ref (X + 16), .ref (X + 58), .ref (X + 59), .ref (X + 60), .int (nI s), .int (nI p)]
def bwCell (E : xE) (X : Nat) (v : Nat → Nat) (F : Nat → Nat → Nat) (P SP : Nat → Option Nat) (N : Mo) (Mp Kp : Nat → Mo) (k : Nat) : va_E :=
  if k < 5 then (if k = 0 then bO X (v 0) (v 1) else if k = 1 then tO (X + 1) (v 2) (v 3) (v 4) (v 5) (v 6) else if k = 2 then nc E 160 (F 2) else if k = 3 then nc E 70 (F 3) else qc E 3 6 P)
  else if k < 8 then raCell E (X + 5) (F 6) (F 7) (k - 5) else if k < 11 then raCell E (X + 8) (F 9) (F 10) (k - 8) else if k < 16 then moCell E (X + 11) N (k - 11)
  else if k < 58 then paCell E (X + 16) (v 7) (v 8) Mp (k - 16) else if k < 60 then (if k = 58 then qc E 2 2 (fun i => some (X + 65 + 5 * i)) else zc E 2 (fun i => nI (F 59 i)))
  else if k < 65 then siCell E (X + 60) (v 9) SP (F 62) (F 63) (F 64) (k - 60) else moCell E (X + 65 + 5 * ((k - 65) / 5)) (Kp ((k - 65) / 5)) ((k - 65) % 5)
def bG (E : xE) (g : hG) (X : Nat) (v : Nat → Nat) (F : Nat → Nat → Nat) (P SP : Nat → Option Nat) (N : Mo) (Mp Kp : Nat → Mo) : hG := blk g X 75 (bwCell E X v F P SP N Mp Kp)
section BG
variable {E : xE} {g : hG} {X : Nat} {v : Nat → Nat} {F : Nat → Nat → Nat} {P SP : Nat → Option Nat} {N : Mo} {Mp Kp : Nat → Mo}
theorem bG_at {q : Nat} (k : Nat) (hk : k < 75) (hq : q = X + k) {e : va_E} (he : bwCell E X v F P SP N Mp Kp k = e) : bG E g X v F P SP N Mp Kp q = some e := by rw [hq, ← he]; exact blk_in hk
theorem b0 : bG E g X v F P SP N Mp Kp X = some (bO X (v 0) (v 1)) := bG_at 0 (by decide) rfl rfl
theorem bta : ta E (bG E g X v F P SP N Mp Kp) (X + 1) (F 2) (F 3) (v 2) (v 3) (v 4) (v 5) (v 6) := ⟨bG_at 1 (by decide) rfl rfl, bG_at 2 (by decide) rfl rfl, bG_at 3 (by decide) rfl rfl⟩
theorem b4 : bG E g X v F P SP N Mp Kp (X + 4) = some (qc E 3 6 P) := bG_at 4 (by decide) rfl rfl
theorem btold : ra E (bG E g X v F P SP N Mp Kp) (X + 5) (F 6) (F 7) := ⟨bG_at 5 (by decide) rfl rfl, bG_at 6 (by decide) rfl rfl, bG_at 7 (by decide) rfl rfl⟩
theorem btrial : ra E (bG E g X v F P SP N Mp Kp) (X + 8) (F 9) (F 10) := ⟨bG_at 8 (by decide) rfl rfl, bG_at 9 (by decide) rfl rfl, bG_at 10 (by decide) rfl rfl⟩
theorem bnow : ma E (bG E g X v F P SP N Mp Kp) (X + 11) N := fun k hk => bG_at (11 + k) (by omega) (by omega) (by
  unfold bwCell
  rw [if_neg (by omega), if_neg (by omega), if_neg (by omega), if_pos (by omega), show 11 + k - 11 = k by omega])
theorem bpast : pa E (bG E g X v F P SP N Mp Kp) (X + 16) (v 7) (v 8) Mp := fun k hk => bG_at (16 + k) (by omega) (by omega) (by
  unfold bwCell
  rw [if_neg (by omega), if_neg (by omega), if_neg (by omega), if_neg (by omega), if_pos (by omega), show 16 + k - 16 = k by omega])
theorem bk : bG E g X v F P SP N Mp Kp (X + 58) = some (qc E 2 2 (fun i => some (X + 65 + 5 * i))) := bG_at 58 (by decide) rfl rfl
theorem bz : bG E g X v F P SP N Mp Kp (X + 59) = some (zc E 2 (fun i => nI (F 59 i))) := bG_at 59 (by decide) rfl rfl
theorem bsi : sa E (bG E g X v F P SP N Mp Kp) (X + 60) (v 9) SP (F 62) (F 63) (F 64) := fun k hk => bG_at (60 + k) (by omega) (by omega) (by
  unfold bwCell
  rw [if_neg (by omega), if_neg (by omega), if_neg (by omega), if_neg (by omega), if_neg (by omega), if_neg (by omega), if_pos (by omega), show 60 + k - 60 = k by omega])
theorem bkept {i : Nat} (hi : i < 2) : ma E (bG E g X v F P SP N Mp Kp) (X + 65 + 5 * i) (Kp i) := fun k hk => bG_at (65 + 5 * i + k) (by omega) (by omega) (by
  unfold bwCell
  rw [if_neg (by omega), if_neg (by omega), if_neg (by omega), if_neg (by omega), if_neg (by omega), if_neg (by omega), if_neg (by omega), show (65 + 5 * i + k - 65) / 5 = i by omega, show (65 + 5 * i + k - 65) % 5 = k by omega])
theorem bout {q : Nat} (h : q < X ∨ X + 75 ≤ q) : bG E g X v F P SP N Mp Kp q = g q := blk_out h

theorem vu_ne {α : Type} {f : Nat → α} {k j : Nat} {x : α} (h : j ≠ k) : va_up f k x j = f j := if_neg h
theorem cg_p {k : Nat} (h : 16 ≤ k ∧ k < 58) : bwCell E X v F P SP N Mp Kp k = paCell E (X + 16) (v 7) (v 8) Mp (k - 16) := by
  unfold bwCell
  rw [if_neg (by omega), if_neg (by omega), if_neg (by omega), if_neg (by omega), if_pos (by omega)]
theorem cg_k {k : Nat} (h : 65 ≤ k) : bwCell E X v F P SP N Mp Kp k = moCell E (X + 65 + 5 * ((k - 65) / 5)) (Kp ((k - 65) / 5)) ((k - 65) % 5) := by
  unfold bwCell
  rw [if_neg (by omega), if_neg (by omega), if_neg (by omega), if_neg (by omega), if_neg (by omega), if_neg (by omega), if_neg (by omega)]
theorem u_obj (s p : Nat) : hu (bG E g X v F P SP N Mp Kp) X (bO X s p) = bG E g X (va_up (va_up v 0 s) 1 p) F P SP N Mp Kp := by
  refine (blk_hu (o := 0) (by decide)).trans ?_
  refine blk_congr (fun k hk => ?_)
  rcases (show k < 16 ∨ (16 ≤ k ∧ k < 58) ∨ (58 ≤ k ∧ k < 65) ∨ 65 ≤ k by omega) with h | h | h | h
  · rcases (show k = 0 ∨ k = 1 ∨ k = 2 ∨ k = 3 ∨ k = 4 ∨ k = 5 ∨ k = 6 ∨ k = 7 ∨ k = 8 ∨ k = 9 ∨ k = 10 ∨ k = 11 ∨ k = 12 ∨ k = 13 ∨ k = 14 ∨ k = 15 by omega) with rfl | rfl | rfl | rfl | rfl | rfl | rfl | rfl | rfl | rfl | rfl | rfl | rfl | rfl | rfl | rfl <;> rfl
  · rw [vu_ne (by omega)]; rw [cg_p h, cg_p h]; try rfl
  · rcases (show k = 58 ∨ k = 59 ∨ k = 60 ∨ k = 61 ∨ k = 62 ∨ k = 63 ∨ k = 64 by omega) with rfl | rfl | rfl | rfl | rfl | rfl | rfl <;> rfl
  · rw [vu_ne (by omega)]; rw [cg_k h, cg_k h]
theorem u_txt (a b c d e : Nat) : hu (bG E g X v F P SP N Mp Kp) (X + 1) (tO (X + 1) a b c d e) = bG E g X (va_up (va_up (va_up (va_up (va_up v 2 a) 3 b) 4 c) 5 d) 6 e) F P SP N Mp Kp := by
  refine (blk_hu (o := 1) (by decide)).trans ?_
  refine blk_congr (fun k hk => ?_)
  rcases (show k < 16 ∨ (16 ≤ k ∧ k < 58) ∨ (58 ≤ k ∧ k < 65) ∨ 65 ≤ k by omega) with h | h | h | h
  · rcases (show k = 0 ∨ k = 1 ∨ k = 2 ∨ k = 3 ∨ k = 4 ∨ k = 5 ∨ k = 6 ∨ k = 7 ∨ k = 8 ∨ k = 9 ∨ k = 10 ∨ k = 11 ∨ k = 12 ∨ k = 13 ∨ k = 14 ∨ k = 15 by omega) with rfl | rfl | rfl | rfl | rfl | rfl | rfl | rfl | rfl | rfl | rfl | rfl | rfl | rfl | rfl | rfl <;> rfl
  · rw [vu_ne (by omega)]; rw [cg_p h, cg_p h]; try rfl
  · rcases (show k = 58 ∨ k = 59 ∨ k = 60 ∨ k = 61 ∨ k = 62 ∨ k = 63 ∨ k = 64 by omega) with rfl | rfl | rfl | rfl | rfl | rfl | rfl <;> rfl
  · rw [vu_ne (by omega)]; rw [cg_k h, cg_k h]
theorem u_let (L : Nat → Nat) : hu (bG E g X v F P SP N Mp Kp) (X + 1 + 1) (nc E 160 L) = bG E g X v (va_up F 2 L) P SP N Mp Kp := by
  refine (blk_hu (o := 2) (by decide)).trans ?_
  refine blk_congr (fun k hk => ?_)
  rcases (show k < 16 ∨ (16 ≤ k ∧ k < 58) ∨ (58 ≤ k ∧ k < 65) ∨ 65 ≤ k by omega) with h | h | h | h
  · rcases (show k = 0 ∨ k = 1 ∨ k = 2 ∨ k = 3 ∨ k = 4 ∨ k = 5 ∨ k = 6 ∨ k = 7 ∨ k = 8 ∨ k = 9 ∨ k = 10 ∨ k = 11 ∨ k = 12 ∨ k = 13 ∨ k = 14 ∨ k = 15 by omega) with rfl | rfl | rfl | rfl | rfl | rfl | rfl | rfl | rfl | rfl | rfl | rfl | rfl | rfl | rfl | rfl <;> rfl
  · rw [vu_ne (by omega)]; rw [cg_p h, cg_p h]; try rfl
  · rcases (show k = 58 ∨ k = 59 ∨ k = 60 ∨ k = 61 ∨ k = 62 ∨ k = 63 ∨ k = 64 by omega) with rfl | rfl | rfl | rfl | rfl | rfl | rfl <;> rfl
  · rw [vu_ne (by omega)]; rw [cg_k h, cg_k h]
theorem u_pt (L : Nat → Nat) : hu (bG E g X v F P SP N Mp Kp) (X + 1 + 2) (nc E 70 L) = bG E g X v (va_up F 3 L) P SP N Mp Kp := by
  refine (blk_hu (o := 3) (by decide)).trans ?_
  refine blk_congr (fun k hk => ?_)
  rcases (show k < 16 ∨ (16 ≤ k ∧ k < 58) ∨ (58 ≤ k ∧ k < 65) ∨ 65 ≤ k by omega) with h | h | h | h
  · rcases (show k = 0 ∨ k = 1 ∨ k = 2 ∨ k = 3 ∨ k = 4 ∨ k = 5 ∨ k = 6 ∨ k = 7 ∨ k = 8 ∨ k = 9 ∨ k = 10 ∨ k = 11 ∨ k = 12 ∨ k = 13 ∨ k = 14 ∨ k = 15 by omega) with rfl | rfl | rfl | rfl | rfl | rfl | rfl | rfl | rfl | rfl | rfl | rfl | rfl | rfl | rfl | rfl <;> rfl
  · rw [vu_ne (by omega)]; rw [cg_p h, cg_p h]; try rfl
  · rcases (show k = 58 ∨ k = 59 ∨ k = 60 ∨ k = 61 ∨ k = 62 ∨ k = 63 ∨ k = 64 by omega) with rfl | rfl | rfl | rfl | rfl | rfl | rfl <;> rfl
  · rw [vu_ne (by omega)]; rw [cg_k h, cg_k h]
theorem u_ppl (Q : Nat → Option Nat) : hu (bG E g X v F P SP N Mp Kp) (X + 4) (qc E 3 6 Q) = bG E g X v F Q SP N Mp Kp := by
  refine (blk_hu (o := 4) (by decide)).trans ?_
  refine blk_congr (fun k hk => ?_)
  rcases (show k < 16 ∨ (16 ≤ k ∧ k < 58) ∨ (58 ≤ k ∧ k < 65) ∨ 65 ≤ k by omega) with h | h | h | h
  · rcases (show k = 0 ∨ k = 1 ∨ k = 2 ∨ k = 3 ∨ k = 4 ∨ k = 5 ∨ k = 6 ∨ k = 7 ∨ k = 8 ∨ k = 9 ∨ k = 10 ∨ k = 11 ∨ k = 12 ∨ k = 13 ∨ k = 14 ∨ k = 15 by omega) with rfl | rfl | rfl | rfl | rfl | rfl | rfl | rfl | rfl | rfl | rfl | rfl | rfl | rfl | rfl | rfl <;> rfl
  · rw [vu_ne (by omega)]; rw [cg_p h, cg_p h]; try rfl
  · rcases (show k = 58 ∨ k = 59 ∨ k = 60 ∨ k = 61 ∨ k = 62 ∨ k = 63 ∨ k = 64 by omega) with rfl | rfl | rfl | rfl | rfl | rfl | rfl <;> rfl
  · rw [vu_ne (by omega)]; rw [cg_k h, cg_k h]
theorem u_told (f h : Nat → Nat) : rR E (bG E g X v F P SP N Mp Kp) (X + 5) f h = bG E g X v (va_up (va_up F 6 f) 7 h) P SP N Mp Kp := by
  show hu (hu (blk g X 75 _) (X + 6) _) (X + 7) _ = _
  rw [blk_hu (o := 6) (by decide), blk_hu (o := 7) (by decide)]
  refine blk_congr (fun k hk => ?_)
  rcases (show k < 16 ∨ (16 ≤ k ∧ k < 58) ∨ (58 ≤ k ∧ k < 65) ∨ 65 ≤ k by omega) with h | h | h | h
  · rcases (show k = 0 ∨ k = 1 ∨ k = 2 ∨ k = 3 ∨ k = 4 ∨ k = 5 ∨ k = 6 ∨ k = 7 ∨ k = 8 ∨ k = 9 ∨ k = 10 ∨ k = 11 ∨ k = 12 ∨ k = 13 ∨ k = 14 ∨ k = 15 by omega) with rfl | rfl | rfl | rfl | rfl | rfl | rfl | rfl | rfl | rfl | rfl | rfl | rfl | rfl | rfl | rfl <;> rfl
  · rw [vu_ne (by omega), vu_ne (by omega)]; rw [cg_p h, cg_p h]; try rfl
  · rcases (show k = 58 ∨ k = 59 ∨ k = 60 ∨ k = 61 ∨ k = 62 ∨ k = 63 ∨ k = 64 by omega) with rfl | rfl | rfl | rfl | rfl | rfl | rfl <;> rfl
  · rw [vu_ne (by omega), vu_ne (by omega)]; rw [cg_k h, cg_k h]
theorem u_trial (f h : Nat → Nat) : rR E (bG E g X v F P SP N Mp Kp) (X + 8) f h = bG E g X v (va_up (va_up F 9 f) 10 h) P SP N Mp Kp := by
  show hu (hu (blk g X 75 _) (X + 9) _) (X + 10) _ = _
  rw [blk_hu (o := 9) (by decide), blk_hu (o := 10) (by decide)]
  refine blk_congr (fun k hk => ?_)
  rcases (show k < 16 ∨ (16 ≤ k ∧ k < 58) ∨ (58 ≤ k ∧ k < 65) ∨ 65 ≤ k by omega) with h | h | h | h
  · rcases (show k = 0 ∨ k = 1 ∨ k = 2 ∨ k = 3 ∨ k = 4 ∨ k = 5 ∨ k = 6 ∨ k = 7 ∨ k = 8 ∨ k = 9 ∨ k = 10 ∨ k = 11 ∨ k = 12 ∨ k = 13 ∨ k = 14 ∨ k = 15 by omega) with rfl | rfl | rfl | rfl | rfl | rfl | rfl | rfl | rfl | rfl | rfl | rfl | rfl | rfl | rfl | rfl <;> rfl
  · rw [vu_ne (by omega), vu_ne (by omega)]; rw [cg_p h, cg_p h]; try rfl
  · rcases (show k = 58 ∨ k = 59 ∨ k = 60 ∨ k = 61 ∨ k = 62 ∨ k = 63 ∨ k = 64 by omega) with rfl | rfl | rfl | rfl | rfl | rfl | rfl <;> rfl
  · rw [vu_ne (by omega), vu_ne (by omega)]; rw [cg_k h, cg_k h]
theorem u_nowr (f h : Nat → Nat) : rR E (bG E g X v F P SP N Mp Kp) (X + 11 + 1) f h = bG E g X v F P SP (f, h, N.2.2.1, N.2.2.2) Mp Kp := by
  show hu (hu (blk g X 75 _) (X + 13) _) (X + 14) _ = _
  rw [blk_hu (o := 13) (by decide), blk_hu (o := 14) (by decide)]
  refine blk_congr (fun k hk => ?_)
  rcases (show k < 16 ∨ (16 ≤ k ∧ k < 58) ∨ (58 ≤ k ∧ k < 65) ∨ 65 ≤ k by omega) with h | h | h | h
  · rcases (show k = 0 ∨ k = 1 ∨ k = 2 ∨ k = 3 ∨ k = 4 ∨ k = 5 ∨ k = 6 ∨ k = 7 ∨ k = 8 ∨ k = 9 ∨ k = 10 ∨ k = 11 ∨ k = 12 ∨ k = 13 ∨ k = 14 ∨ k = 15 by omega) with rfl | rfl | rfl | rfl | rfl | rfl | rfl | rfl | rfl | rfl | rfl | rfl | rfl | rfl | rfl | rfl <;> rfl
  · rw [vu_ne (by omega), vu_ne (by omega)]; rw [cg_p h, cg_p h]; try rfl
  · rcases (show k = 58 ∨ k = 59 ∨ k = 60 ∨ k = 61 ∨ k = 62 ∨ k = 63 ∨ k = 64 by omega) with rfl | rfl | rfl | rfl | rfl | rfl | rfl <;> rfl
  · rw [vu_ne (by omega), vu_ne (by omega)]; rw [cg_k h, cg_k h]
theorem u_nowk (kn : Nat → Nat) : hu (bG E g X v F P SP N Mp Kp) (X + 11 + 4) (nc E 6 kn) = bG E g X v F P SP (N.1, N.2.1, kn, N.2.2.2) Mp Kp := by
  refine (blk_hu (o := 15) (by decide)).trans ?_
  refine blk_congr (fun k hk => ?_)
  rcases (show k < 16 ∨ (16 ≤ k ∧ k < 58) ∨ (58 ≤ k ∧ k < 65) ∨ 65 ≤ k by omega) with h | h | h | h
  · rcases (show k = 0 ∨ k = 1 ∨ k = 2 ∨ k = 3 ∨ k = 4 ∨ k = 5 ∨ k = 6 ∨ k = 7 ∨ k = 8 ∨ k = 9 ∨ k = 10 ∨ k = 11 ∨ k = 12 ∨ k = 13 ∨ k = 14 ∨ k = 15 by omega) with rfl | rfl | rfl | rfl | rfl | rfl | rfl | rfl | rfl | rfl | rfl | rfl | rfl | rfl | rfl | rfl <;> rfl
  · rw [vu_ne (by omega)]; rw [cg_p h, cg_p h]; try rfl
  · rcases (show k = 58 ∨ k = 59 ∨ k = 60 ∨ k = 61 ∨ k = 62 ∨ k = 63 ∨ k = 64 by omega) with rfl | rfl | rfl | rfl | rfl | rfl | rfl <;> rfl
  · rw [vu_ne (by omega)]; rw [cg_k h, cg_k h]
theorem u_nowd (d : Nat) : hu (bG E g X v F P SP N Mp Kp) (X + 11) (oc 4 [.ref (X + 11 + 1), .ref (X + 11 + 4), .int (nI d)]) = bG E g X v F P SP (N.1, N.2.1, N.2.2.1, d) Mp Kp := by
  refine (blk_hu (o := 11) (by decide)).trans ?_
  refine blk_congr (fun k hk => ?_)
  rcases (show k < 16 ∨ (16 ≤ k ∧ k < 58) ∨ (58 ≤ k ∧ k < 65) ∨ 65 ≤ k by omega) with h | h | h | h
  · rcases (show k = 0 ∨ k = 1 ∨ k = 2 ∨ k = 3 ∨ k = 4 ∨ k = 5 ∨ k = 6 ∨ k = 7 ∨ k = 8 ∨ k = 9 ∨ k = 10 ∨ k = 11 ∨ k = 12 ∨ k = 13 ∨ k = 14 ∨ k = 15 by omega) with rfl | rfl | rfl | rfl | rfl | rfl | rfl | rfl | rfl | rfl | rfl | rfl | rfl | rfl | rfl | rfl <;> rfl
  · rw [vu_ne (by omega)]; rw [cg_p h, cg_p h]; try rfl
  · rcases (show k = 58 ∨ k = 59 ∨ k = 60 ∨ k = 61 ∨ k = 62 ∨ k = 63 ∨ k = 64 by omega) with rfl | rfl | rfl | rfl | rfl | rfl | rfl <;> rfl
  · rw [vu_ne (by omega)]; rw [cg_k h, cg_k h]
theorem u_now (m : Mo) : mR E (bG E g X v F P SP N Mp Kp) (X + 11) m = bG E g X v F P SP m Mp Kp := by
  refine (blk_sub (o := 11) (l := 5) (by decide)).trans ?_
  refine blk_congr (fun k hk => ?_)
  rcases (show k < 16 ∨ (16 ≤ k ∧ k < 58) ∨ (58 ≤ k ∧ k < 65) ∨ 65 ≤ k by omega) with h | h | h | h
  · rcases (show k = 0 ∨ k = 1 ∨ k = 2 ∨ k = 3 ∨ k = 4 ∨ k = 5 ∨ k = 6 ∨ k = 7 ∨ k = 8 ∨ k = 9 ∨ k = 10 ∨ k = 11 ∨ k = 12 ∨ k = 13 ∨ k = 14 ∨ k = 15 by omega) with rfl | rfl | rfl | rfl | rfl | rfl | rfl | rfl | rfl | rfl | rfl | rfl | rfl | rfl | rfl | rfl <;> rfl
  · rw [if_neg (by omega)]; rw [cg_p h, cg_p h]; try rfl
  · rcases (show k = 58 ∨ k = 59 ∨ k = 60 ∨ k = 61 ∨ k = 62 ∨ k = 63 ∨ k = 64 by omega) with rfl | rfl | rfl | rfl | rfl | rfl | rfl <;> rfl
  · rw [if_neg (by omega)]; rw [cg_k h, cg_k h]
theorem u_past (nx sz : Nat) (M : Nat → Mo) : pG E (bG E g X v F P SP N Mp Kp) (X + 16) nx sz M = bG E g X (va_up (va_up v 7 nx) 8 sz) F P SP N M Kp := by
  refine (blk_sub (o := 16) (l := 42) (by decide)).trans ?_
  refine blk_congr (fun k hk => ?_)
  rcases (show k < 16 ∨ (16 ≤ k ∧ k < 58) ∨ (58 ≤ k ∧ k < 65) ∨ 65 ≤ k by omega) with h | h | h | h
  · rcases (show k = 0 ∨ k = 1 ∨ k = 2 ∨ k = 3 ∨ k = 4 ∨ k = 5 ∨ k = 6 ∨ k = 7 ∨ k = 8 ∨ k = 9 ∨ k = 10 ∨ k = 11 ∨ k = 12 ∨ k = 13 ∨ k = 14 ∨ k = 15 by omega) with rfl | rfl | rfl | rfl | rfl | rfl | rfl | rfl | rfl | rfl | rfl | rfl | rfl | rfl | rfl | rfl <;> rfl
  · rw [if_pos (by omega), cg_p h]; rfl
  · rcases (show k = 58 ∨ k = 59 ∨ k = 60 ∨ k = 61 ∨ k = 62 ∨ k = 63 ∨ k = 64 by omega) with rfl | rfl | rfl | rfl | rfl | rfl | rfl <;> rfl
  · rw [if_neg (by omega)]; rw [cg_k h, cg_k h]
theorem u_si (sz : Nat) (Q : Nat → Option Nat) (a b c : Nat → Nat) : sG E (bG E g X v F P SP N Mp Kp) (X + 60) sz Q a b c = bG E g X (va_up v 9 sz) (va_up (va_up (va_up F 62 a) 63 b) 64 c) P Q N Mp Kp := by
  refine (blk_sub (o := 60) (l := 5) (by decide)).trans ?_
  refine blk_congr (fun k hk => ?_)
  rcases (show k < 16 ∨ (16 ≤ k ∧ k < 58) ∨ (58 ≤ k ∧ k < 65) ∨ 65 ≤ k by omega) with h | h | h | h
  · rcases (show k = 0 ∨ k = 1 ∨ k = 2 ∨ k = 3 ∨ k = 4 ∨ k = 5 ∨ k = 6 ∨ k = 7 ∨ k = 8 ∨ k = 9 ∨ k = 10 ∨ k = 11 ∨ k = 12 ∨ k = 13 ∨ k = 14 ∨ k = 15 by omega) with rfl | rfl | rfl | rfl | rfl | rfl | rfl | rfl | rfl | rfl | rfl | rfl | rfl | rfl | rfl | rfl <;> rfl
  · rw [if_neg (by omega)]; rw [cg_p h, cg_p h]; try rfl
  · rcases (show k = 58 ∨ k = 59 ∨ k = 60 ∨ k = 61 ∨ k = 62 ∨ k = 63 ∨ k = 64 by omega) with rfl | rfl | rfl | rfl | rfl | rfl | rfl <;> rfl
  · rw [if_neg (by omega)]; rw [cg_k h, cg_k h]
theorem u_pasth (nx sz : Nat) : hu (bG E g X v F P SP N Mp Kp) (X + 16) (oc 5 [.ref (X + 16 + 1), .int (nI nx), .int (nI sz)]) = bG E g X (va_up (va_up v 7 nx) 8 sz) F P SP N Mp Kp := by
  refine (blk_hu (o := 16) (by decide)).trans ?_
  refine blk_congr (fun k hk => ?_)
  rcases (show k < 16 ∨ (16 ≤ k ∧ k < 58) ∨ (58 ≤ k ∧ k < 65) ∨ 65 ≤ k by omega) with h | h | h | h
  · rcases (show k = 0 ∨ k = 1 ∨ k = 2 ∨ k = 3 ∨ k = 4 ∨ k = 5 ∨ k = 6 ∨ k = 7 ∨ k = 8 ∨ k = 9 ∨ k = 10 ∨ k = 11 ∨ k = 12 ∨ k = 13 ∨ k = 14 ∨ k = 15 by omega) with rfl | rfl | rfl | rfl | rfl | rfl | rfl | rfl | rfl | rfl | rfl | rfl | rfl | rfl | rfl | rfl <;> rfl
  · by_cases e1 : k = 16
    · subst e1; rfl
    · rw [vu_ne e1, cg_p h, cg_p h]; simp only [paCell]; rw [if_neg (show ¬ k - 16 = 0 by omega), if_neg (show ¬ k - 16 = 0 by omega)]
  · rcases (show k = 58 ∨ k = 59 ∨ k = 60 ∨ k = 61 ∨ k = 62 ∨ k = 63 ∨ k = 64 by omega) with rfl | rfl | rfl | rfl | rfl | rfl | rfl <;> rfl
  · rw [vu_ne (by omega)]; rw [cg_k h, cg_k h]
theorem u_sih (sz : Nat) : hu (bG E g X v F P SP N Mp Kp) (X + 60) (oc 7 [.ref (X + 60 + 1), .ref (X + 60 + 2), .ref (X + 60 + 3), .ref (X + 60 + 4), .int (nI sz)]) = bG E g X (va_up v 9 sz) F P SP N Mp Kp := by
  refine (blk_hu (o := 60) (by decide)).trans ?_
  refine blk_congr (fun k hk => ?_)
  rcases (show k < 16 ∨ (16 ≤ k ∧ k < 58) ∨ (58 ≤ k ∧ k < 65) ∨ 65 ≤ k by omega) with h | h | h | h
  · rcases (show k = 0 ∨ k = 1 ∨ k = 2 ∨ k = 3 ∨ k = 4 ∨ k = 5 ∨ k = 6 ∨ k = 7 ∨ k = 8 ∨ k = 9 ∨ k = 10 ∨ k = 11 ∨ k = 12 ∨ k = 13 ∨ k = 14 ∨ k = 15 by omega) with rfl | rfl | rfl | rfl | rfl | rfl | rfl | rfl | rfl | rfl | rfl | rfl | rfl | rfl | rfl | rfl <;> rfl
  · rw [vu_ne (by omega)]; rw [cg_p h, cg_p h]; try rfl
  · rcases (show k = 58 ∨ k = 59 ∨ k = 60 ∨ k = 61 ∨ k = 62 ∨ k = 63 ∨ k = 64 by omega) with rfl | rfl | rfl | rfl | rfl | rfl | rfl <;> rfl
  · rw [vu_ne (by omega)]; rw [cg_k h, cg_k h]
theorem u_z (f : Nat → Nat) : hu (bG E g X v F P SP N Mp Kp) (X + 59) (zc E 2 (fun i => nI (f i))) = bG E g X v (va_up F 59 f) P SP N Mp Kp := by
  refine (blk_hu (o := 59) (by decide)).trans ?_
  refine blk_congr (fun k hk => ?_)
  rcases (show k < 16 ∨ (16 ≤ k ∧ k < 58) ∨ (58 ≤ k ∧ k < 65) ∨ 65 ≤ k by omega) with h | h | h | h
  · rcases (show k = 0 ∨ k = 1 ∨ k = 2 ∨ k = 3 ∨ k = 4 ∨ k = 5 ∨ k = 6 ∨ k = 7 ∨ k = 8 ∨ k = 9 ∨ k = 10 ∨ k = 11 ∨ k = 12 ∨ k = 13 ∨ k = 14 ∨ k = 15 by omega) with rfl | rfl | rfl | rfl | rfl | rfl | rfl | rfl | rfl | rfl | rfl | rfl | rfl | rfl | rfl | rfl <;> rfl
  · rw [vu_ne (by omega)]; rw [cg_p h, cg_p h]; try rfl
  · rcases (show k = 58 ∨ k = 59 ∨ k = 60 ∨ k = 61 ∨ k = 62 ∨ k = 63 ∨ k = 64 by omega) with rfl | rfl | rfl | rfl | rfl | rfl | rfl <;> rfl
  · rw [vu_ne (by omega)]; rw [cg_k h, cg_k h]
theorem u_kept (i : Nat) (hi : i < 2) (m : Mo) : mR E (bG E g X v F P SP N Mp Kp) (X + 65 + 5 * i) m = bG E g X v F P SP N Mp (va_up Kp i m) := by
  show blk (blk g X 75 _) (X + 65 + 5 * i) 5 _ = _
  rw [show X + 65 + 5 * i = X + (65 + 5 * i) by omega, blk_sub (o := 65 + 5 * i) (l := 5) (by omega)]
  refine blk_congr (fun k hk => ?_)
  by_cases h : 65 ≤ k
  · by_cases e1 : (k - 65) / 5 = i
    · rw [if_pos (by omega), cg_k h, e1, show (k - 65) % 5 = k - (65 + 5 * i) by omega]; simp only [va_up, if_true]; rw [show X + 65 + 5 * i = X + (65 + 5 * i) by omega]
    · rw [if_neg (by omega), cg_k h, cg_k h, vu_ne e1]
  · rw [if_neg (by omega)]; unfold bwCell; rcases (show k < 5 ∨ (5 ≤ k ∧ k < 8) ∨ (8 ≤ k ∧ k < 11) ∨ (11 ≤ k ∧ k < 16) ∨ (16 ≤ k ∧ k < 58) ∨ (58 ≤ k ∧ k < 60) ∨ (60 ≤ k ∧ k < 65) by omega) with q | q | q | q | q | q | q
    · rw [if_pos q, if_pos q]
    · rw [if_neg (by omega), if_pos q.2, if_neg (by omega), if_pos q.2]
    · rw [if_neg (by omega), if_neg (by omega), if_pos q.2, if_neg (by omega), if_neg (by omega), if_pos q.2]
    · rw [if_neg (by omega), if_neg (by omega), if_neg (by omega), if_pos q.2, if_neg (by omega), if_neg (by omega), if_neg (by omega), if_pos q.2]
    · rw [if_neg (by omega), if_neg (by omega), if_neg (by omega), if_neg (by omega), if_pos q.2, if_neg (by omega), if_neg (by omega), if_neg (by omega), if_neg (by omega), if_pos q.2]
    · rcases (show k = 58 ∨ k = 59 by omega) with rfl | rfl <;> rfl
    · rw [if_neg (by omega), if_neg (by omega), if_neg (by omega), if_neg (by omega), if_neg (by omega), if_neg (by omega), if_pos q.2, if_neg (by omega), if_neg (by omega), if_neg (by omega), if_neg (by omega), if_neg (by omega), if_neg (by omega), if_pos q.2]
end BG
