section LW
variable {K : xC} {E : xE} {cells slots pc nL : Nat} {ls : List (Option Value)} {st : List Value} {g : hG} {n : Nat} {cc : ByteArray} {own : String} {R : Room}
theorem r_sld {b L j : Nat} {xs : Nat → Int32} {i : Int32} (S : Sx K E cc nL own R) (hX : va_X b L xs K.2.2.2.2.1 K.2.2.2.2.1.heap) (hb : b < E.1) (hL : L ≤ 384) (hj : j < L) (hi : i = nI j) (hd : decode cc pc = .ok (.iaload, 1)) (kk : Wg K E cells slots (pc + 1) ls (.int (xs j) :: st) g n) : Wg K E cells slots pc ls (.int i :: .ref b :: st) g n := fun H locs la a1 b1 c1 d1 => va_sld S.x S.b hX (Nat.lt_of_lt_of_le hb S.2.2.1) (Nat.not_le.mpr hb) d1 (ix_in hi hj (by omega)) hd (by rw [ix_cl hi hj (by omega)]; exact kk H locs la a1 b1 c1 d1)
theorem r_slen {b L : Nat} {xs : Nat → Int32} (S : Sx K E cc nL own R) (hX : va_X b L xs K.2.2.2.2.1 K.2.2.2.2.1.heap) (hb : b < E.1) (hd : decode cc pc = .ok (.arraylength, 1)) (kk : Wg K E cells slots (pc + 1) ls (.int (nI L) :: st) g n) : Wg K E cells slots pc ls (.ref b :: st) g n := fun H locs la a1 b1 c1 d1 => va_slen S.x S.b hX (Nat.lt_of_lt_of_le hb S.2.2.1) (Nat.not_le.mpr hb) d1 hd (kk H locs la a1 b1 c1 d1)
end LW
/-- the law goes on behind a call -/
def Nx (K : xC) (E : xE) (b Y i cells slots : Nat) : Prop := ∀ (g : hG) (n : Nat) (v : Nat → Nat) (F : Nat → Nat → Nat) (P SP : Nat → Option Nat) (N : Mo) (Mp Kp : Nat → Mo) (u : Nat → Nat) (B : Nat → Nat → Nat), Rl n Y g v F P SP N Mp Kp u B → Wg K E cells slots 826 [some (.ref b), some (.ref Y), some (.ref (Y + 75)), some (.int (nI i))] [] (bG E (mG E g (Y + 75) u B) Y v F P SP N Mp Kp) n
theorem Zrh_l {E : xE} {g : hG} {n M : Nat} {u : Nat → Nat} {B : Nat → Nat → Nat} {T : hsT} {v : Option Value} {g' : hG} {n' q : Nat} (h : prs (B 1) (u 0) 14 0 T.1 T.2.1 0 (fun _ => (0, fun _ => 0)) = .inl q) (z : Zrh E g n M u B T v g' n') : v = some (.int (-4)) ∧ n' = n ∧ ∃ (u2 D : Nat → Nat), (u2 0 = u 0 ∧ u2 1 = u 1 ∧ u2 2 = u 2) ∧ g' = mG E g M u2 (va_up B 3 D) := by
  obtain ⟨hn, ⟨q9, h9, hv, h8⟩ | ⟨m, C, h9, -⟩⟩ := z
  · exact ⟨hv, hn, h8⟩
  · rw [h] at h9; cases h9
theorem Zrh_r {E : xE} {g : hG} {n M : Nat} {u : Nat → Nat} {B : Nat → Nat → Nat} {T : hsT} {v : Option Value} {g' : hG} {n' m : Nat} {C : Nat → Nat × (Nat → Nat)} (h : prs (B 1) (u 0) 14 0 T.1 T.2.1 0 (fun _ => (0, fun _ => 0)) = .inr (m, C)) (z : Zrh E g n M u B T v g' n') : v = some (.int (nI m)) ∧ n' = n ∧ ∃ (u2 D : Nat → Nat), (u2 0 = 0 ∧ u2 1 = 0 ∧ u2 2 = 0) ∧ g' = mG E g M u2 (va_up (va_up (va_up (va_up B 3 D) 2 (tfl (cFold C T m))) 4 (flat (laid (cFold C T m)))) 7 (fun _ => 0)) := by
  obtain ⟨hn, ⟨q9, h9, -⟩ | ⟨m9, C9, h9, hv, h8⟩⟩ := z
  · rw [h] at h9; cases h9
  · rw [h] at h9
    cases h9
    exact ⟨hv, hn, h8⟩

set_option maxHeartbeats 4000000 in
set_option maxRecDepth 100000 in
/-- the law, case 0: write -/
theorem lc_0 {K : xC} {E : xE} {b L Y i cells slots n : Nat} {xs : Nat → Int32} {g : hG} {v : Nat → Nat} {F : Nat → Nat → Nat} {P SP : Nat → Option Nat} {N : Mo} {Mp Kp : Nat → Mo} {u : Nat → Nat} {B : Nat → Nat → Nat} (X : Sx K E cL_law 4 "BanisterWordLaw" room_1) (hX : va_X b L xs K.2.2.2.2.1 K.2.2.2.2.1.heap) (hbE : b < E.1) (hL : L ≤ 384) (hi : i + 6 ≤ L) (hc : cells + 14 ≤ 600000) (hs : slots + 14 ≤ 7302249) (hR : Rl n Y g v F P SP N Mp Kp u B) (kk : Nx K E b Y i (cells + 14) (slots + 14)) : Wg K E cells slots 144 [some (.ref b), some (.ref Y), some (.ref (Y + 75)), some (.int (nI i))] [] (bG E (mG E g (Y + 75) u B) Y v F P SP N Mp Kp) n := by
  obtain ⟨cl, wm, pad, si, Q, I, hT, hTx, hNn, hPs, hKk, hSs⟩ := hR
  obtain ⟨hP, hPn, h02, h0, h1, hgt, hYn⟩ := id hT
  obtain ⟨hu0, h5, hB1, hL2, hF3⟩ := id hTx
  obtain ⟨hB2, hB4, hgN⟩ := id hNn
  obtain ⟨hN7, hN9, hNk, hNd, hNf, hNz⟩ := id hgN
  obtain ⟨hu1, h8, h7, hB5, hQ⟩ := id hPs
  obtain ⟨hB7, hz1, hB6, hI⟩ := id hKk
  obtain ⟨hu2, h9, hSo, hB8⟩ := id hSs
  have hP2 : ∀ i, i < v 1 → cl i < 4 ∧ wm i ≤ 9 := fun i h => (hPn i h).2
  by_cases hc9 : inR (xs (i + 1)) 256 = true ∧ v 5 < 160
  · skip
    have hc92 := hc9.2
    have hix := ix_lt (by decide) hc9.1
    refine r_aload_n X dL_law_144 rfl ?_
    refine r_aload_n X dL_law_145 rfl ?_
    refine r_iload_n X dL_law_146 rfl ?_
    refine r_iconst (v := nI 1) X dL_law_147 (by decide) ?_
    first | refine r_iaddN X dL_law_148 ?_ | refine r_iadd X _ dL_law_148 rfl ?_
    refine r_sld X hX hbE hL (by omega) rfl dL_law_149 ?_
    refine r_callV (ci := 9) X rfl (c_X10_write _ E _ n Y v F P SP N Mp Kp (xs (i + 1)) h5) tw_173 tw_174 tw_175 tw_1 tw_176 rfl rfl b0 rfl ⟨ok_X10_write, ⟨Nat.le_of_ble_eq_true rfl, Nat.le_of_ble_eq_true rfl⟩, ⟨by show _ ≤ 600000; omega, by show _ ≤ 7302249; omega⟩, Nat.le_of_ble_eq_true rfl⟩ dL_law_150 (kk_r (Wf := Wg K E _ _ _ _) ?_)
    refine r_heap ((if_pos hc9).trans bm) ?_
    refine r_aload_n X dL_law_153 rfl ?_
    refine r_aload_n X dL_law_154 rfl ?_
    refine r_iload_n X dL_law_155 rfl ?_
    refine r_iconst (v := nI 1) X dL_law_156 (by decide) ?_
    first | refine r_iaddN X dL_law_157 ?_ | refine r_iadd X _ dL_law_157 rfl ?_
    refine r_sld X hX hbE hL (by omega) rfl dL_law_158 ?_
    refine r_callV (ci := 10) X rfl (c_X11_write _ E _ _ (Y + 75) u B (xs (i + 1)) (by rw [hu0]; exact h5)) tw_707 tw_708 tw_709 tw_7 tw_710 rfl rfl m0 rfl ⟨ok_X11_write, ⟨Nat.le_of_ble_eq_true rfl, Nat.le_of_ble_eq_true rfl⟩, ⟨by show _ ≤ 600000; omega, by show _ ≤ 7302249; omega⟩, Nat.le_of_ble_eq_true rfl⟩ dL_law_159 (kk_r (Wf := Wg K E _ _ _ _) ?_)
    refine r_heap ((if_pos (by rw [hu0]; exact hc9)).trans bm.symm) ?_
    refine r_icmp_eq X 826 dL_law_162 (by decide) (fun c_162 => ?_) (fun c_162 => ?_)
    rotate_left
    · exact absurd (by rw [hu0]) c_162
    refine r_widen (cells + 14) (slots + 14) (by omega) (by omega) ?_
    exact kk _ _ _ _ _ _ _ _ _ _ _ ⟨cl, wm, pad, si, Q, I, hT, ⟨by show u 0 + 1 = v 5 + 1; rw [hu0], by show v 5 + 1 ≤ 160; omega, by show va_up (B 1) (u 0) _ = va_up (F 2) (v 5) _; rw [hB1, hu0], fun j => by show va_up (F 2) (v 5) (ix (xs (i + 1))) j ≤ 255; have := hL2 j; simp only [va_up]; split <;> omega, hF3⟩, hNn, hPs, hKk, hSs⟩
  · skip
    refine r_aload_n X dL_law_144 rfl ?_
    refine r_aload_n X dL_law_145 rfl ?_
    refine r_iload_n X dL_law_146 rfl ?_
    refine r_iconst (v := nI 1) X dL_law_147 (by decide) ?_
    first | refine r_iaddN X dL_law_148 ?_ | refine r_iadd X _ dL_law_148 rfl ?_
    refine r_sld X hX hbE hL (by omega) rfl dL_law_149 ?_
    refine r_callV (ci := 9) X rfl (c_X10_write _ E _ n Y v F P SP N Mp Kp (xs (i + 1)) h5) tw_173 tw_174 tw_175 tw_1 tw_176 rfl rfl b0 rfl ⟨ok_X10_write, ⟨Nat.le_of_ble_eq_true rfl, Nat.le_of_ble_eq_true rfl⟩, ⟨by show _ ≤ 600000; omega, by show _ ≤ 7302249; omega⟩, Nat.le_of_ble_eq_true rfl⟩ dL_law_150 (kk_r (Wf := Wg K E _ _ _ _) ?_)
    refine r_heap ((if_neg hc9).trans bm) ?_
    refine r_aload_n X dL_law_153 rfl ?_
    refine r_aload_n X dL_law_154 rfl ?_
    refine r_iload_n X dL_law_155 rfl ?_
    refine r_iconst (v := nI 1) X dL_law_156 (by decide) ?_
    first | refine r_iaddN X dL_law_157 ?_ | refine r_iadd X _ dL_law_157 rfl ?_
    refine r_sld X hX hbE hL (by omega) rfl dL_law_158 ?_
    refine r_callV (ci := 10) X rfl (c_X11_write _ E _ _ (Y + 75) u B (xs (i + 1)) (by rw [hu0]; exact h5)) tw_707 tw_708 tw_709 tw_7 tw_710 rfl rfl m0 rfl ⟨ok_X11_write, ⟨Nat.le_of_ble_eq_true rfl, Nat.le_of_ble_eq_true rfl⟩, ⟨by show _ ≤ 600000; omega, by show _ ≤ 7302249; omega⟩, Nat.le_of_ble_eq_true rfl⟩ dL_law_159 (kk_r (Wf := Wg K E _ _ _ _) ?_)
    refine r_heap ((if_neg (by rw [hu0]; exact hc9)).trans bm.symm) ?_
    refine r_icmp_eq X 826 dL_law_162 (by decide) (fun c_162 => ?_) (fun c_162 => ?_)
    rotate_left
    · exact absurd (by rw [hu0]) c_162
    refine r_widen (cells + 14) (slots + 14) (by omega) (by omega) ?_
    exact kk _ _ _ _ _ _ _ _ _ _ _ ⟨cl, wm, pad, si, Q, I, hT, hTx, hNn, hPs, hKk, hSs⟩

set_option maxHeartbeats 4000000 in
set_option maxRecDepth 100000 in
/-- the law, case 1: erase -/
theorem lc_1 {K : xC} {E : xE} {b L Y i cells slots n : Nat} {xs : Nat → Int32} {g : hG} {v : Nat → Nat} {F : Nat → Nat → Nat} {P SP : Nat → Option Nat} {N : Mo} {Mp Kp : Nat → Mo} {u : Nat → Nat} {B : Nat → Nat → Nat} (X : Sx K E cL_law 4 "BanisterWordLaw" room_1) (hX : va_X b L xs K.2.2.2.2.1 K.2.2.2.2.1.heap) (hbE : b < E.1) (hL : L ≤ 384) (hi : i + 6 ≤ L) (hc : cells + 14 ≤ 600000) (hs : slots + 14 ≤ 7302249) (hR : Rl n Y g v F P SP N Mp Kp u B) (kk : Nx K E b Y i (cells + 14) (slots + 14)) : Wg K E cells slots 167 [some (.ref b), some (.ref Y), some (.ref (Y + 75)), some (.int (nI i))] [] (bG E (mG E g (Y + 75) u B) Y v F P SP N Mp Kp) n := by
  obtain ⟨cl, wm, pad, si, Q, I, hT, hTx, hNn, hPs, hKk, hSs⟩ := hR
  obtain ⟨hP, hPn, h02, h0, h1, hgt, hYn⟩ := id hT
  obtain ⟨hu0, h5, hB1, hL2, hF3⟩ := id hTx
  obtain ⟨hB2, hB4, hgN⟩ := id hNn
  obtain ⟨hN7, hN9, hNk, hNd, hNf, hNz⟩ := id hgN
  obtain ⟨hu1, h8, h7, hB5, hQ⟩ := id hPs
  obtain ⟨hB7, hz1, hB6, hI⟩ := id hKk
  obtain ⟨hu2, h9, hSo, hB8⟩ := id hSs
  have hP2 : ∀ i, i < v 1 → cl i < 4 ∧ wm i ≤ 9 := fun i h => (hPn i h).2
  refine r_aload_n X dL_law_167 rfl ?_
  refine r_callV (ci := 9) X rfl (c_X10_erase _ E _ n Y v F P SP N Mp Kp ) tw_181 tw_182 tw_183 tw_1 tw_184 rfl rfl b0 rfl ⟨ok_X10_erase, ⟨Nat.le_of_ble_eq_true rfl, Nat.le_of_ble_eq_true rfl⟩, ⟨by show _ ≤ 600000; omega, by show _ ≤ 7302249; omega⟩, Nat.le_of_ble_eq_true rfl⟩ dL_law_168 (kk_r (Wf := Wg K E _ _ _ _) ?_)
  refine r_heap bm ?_
  refine r_aload_n X dL_law_171 rfl ?_
  refine r_callV (ci := 10) X rfl (c_X11_erase _ E _ _ (Y + 75) u B ) tw_714 tw_715 tw_716 tw_7 tw_717 rfl rfl m0 rfl ⟨ok_X11_erase, ⟨Nat.le_of_ble_eq_true rfl, Nat.le_of_ble_eq_true rfl⟩, ⟨by show _ ≤ 600000; omega, by show _ ≤ 7302249; omega⟩, Nat.le_of_ble_eq_true rfl⟩ dL_law_172 (kk_r (Wf := Wg K E _ _ _ _) ?_)
  refine r_heap bm.symm ?_
  refine r_icmp_eq X 826 dL_law_175 (by decide) (fun c_175 => ?_) (fun c_175 => ?_)
  rotate_left
  · exact absurd (by rw [hu0]) c_175
  refine r_widen (cells + 14) (slots + 14) (by omega) (by omega) ?_
  exact kk _ _ _ _ _ _ _ _ _ _ _ ⟨cl, wm, pad, si, Q, I, hT, ⟨rfl, Nat.zero_le _, hB1, hL2, hF3⟩, hNn, hPs, hKk, hSs⟩

set_option maxHeartbeats 4000000 in
set_option maxRecDepth 100000 in
/-- the law, case 2: fault -/
theorem lc_2 {K : xC} {E : xE} {b L Y i cells slots n : Nat} {xs : Nat → Int32} {g : hG} {v : Nat → Nat} {F : Nat → Nat → Nat} {P SP : Nat → Option Nat} {N : Mo} {Mp Kp : Nat → Mo} {u : Nat → Nat} {B : Nat → Nat → Nat} (X : Sx K E cL_law 4 "BanisterWordLaw" room_1) (hX : va_X b L xs K.2.2.2.2.1 K.2.2.2.2.1.heap) (hbE : b < E.1) (hL : L ≤ 384) (hi : i + 6 ≤ L) (hc : cells + 14 ≤ 600000) (hs : slots + 14 ≤ 7302249) (hR : Rl n Y g v F P SP N Mp Kp u B) (kk : Nx K E b Y i (cells + 14) (slots + 14)) : Wg K E cells slots 180 [some (.ref b), some (.ref Y), some (.ref (Y + 75)), some (.int (nI i))] [] (bG E (mG E g (Y + 75) u B) Y v F P SP N Mp Kp) n := by
  obtain ⟨cl, wm, pad, si, Q, I, hT, hTx, hNn, hPs, hKk, hSs⟩ := hR
  obtain ⟨hP, hPn, h02, h0, h1, hgt, hYn⟩ := id hT
  obtain ⟨hu0, h5, hB1, hL2, hF3⟩ := id hTx
  obtain ⟨hB2, hB4, hgN⟩ := id hNn
  obtain ⟨hN7, hN9, hNk, hNd, hNf, hNz⟩ := id hgN
  obtain ⟨hu1, h8, h7, hB5, hQ⟩ := id hPs
  obtain ⟨hB7, hz1, hB6, hI⟩ := id hKk
  obtain ⟨hu2, h9, hSo, hB8⟩ := id hSs
  have hP2 : ∀ i, i < v 1 → cl i < 4 ∧ wm i ≤ 9 := fun i h => (hPn i h).2
  refine r_aload_n X dL_law_180 rfl ?_
  refine r_callV (ci := 9) X rfl (c_X10_fault _ E _ n Y v F P SP N Mp Kp hL2 h5 h02 hF3 h0 h1) tw_185 tw_186 tw_187 tw_1 tw_188 rfl rfl b0 rfl ⟨ok_X10_fault, ⟨Nat.le_of_ble_eq_true rfl, Nat.le_of_ble_eq_true rfl⟩, ⟨by show _ ≤ 600000; omega, by show _ ≤ 7302249; omega⟩, Nat.le_of_ble_eq_true rfl⟩ dL_law_181 (fun v_181 g_181 n_181 z_181 => ?_)
  obtain ⟨rfl, hn9, Pt, a1, a2, a3, a4, hPt, rfl⟩ := z_181
  replace hn9 := hn9.symm
  subst hn9
  refine r_heap bm ?_
  refine r_aload_n X dL_law_184 rfl ?_
  refine r_callV (ci := 10) X rfl (c_X11_fault _ E _ _ (Y + 75) u B (v 0, v 1, cl, wm, F 6, F 7) (by rw [hu0]; exact h5) (by rw [hB1]; exact hL2) hB2 h02 h0 h1) tw_718 tw_719 tw_720 tw_7 tw_721 rfl rfl m0 rfl ⟨ok_X11_fault, ⟨Nat.le_of_ble_eq_true rfl, Nat.le_of_ble_eq_true rfl⟩, ⟨by show _ ≤ 600000; omega, by show _ ≤ 7302249; omega⟩, Nat.le_of_ble_eq_true rfl⟩ dL_law_185 (fun v_185 g_185 n_185 z_185 => ?_)
  obtain ⟨rfl, hn9, u2, D, ⟨q0, q1, q2⟩, rfl⟩ := z_185
  replace hn9 := hn9.symm
  subst hn9
  refine r_heap bm.symm ?_
  refine r_icmp_eq X 826 dL_law_188 (by decide) (fun c_188 => ?_) (fun c_188 => ?_)
  rotate_left
  · exact absurd (by rw [hB1, hu0]) c_188
  refine r_widen (cells + 14) (slots + 14) (by omega) (by omega) ?_
  exact kk _ _ _ _ _ _ _ _ _ _ _ ⟨cl, wm, pad, si, Q, I, hT, ⟨q0.trans hu0, h5, hB1, hL2, hPt⟩, hNn, ⟨q1.trans hu1, h8, h7, hB5, hQ⟩, hKk, ⟨q2.trans hu2, h9, hSo, hB8⟩⟩

set_option maxHeartbeats 4000000 in
set_option maxRecDepth 100000 in
/-- the law, case 3: house -/
theorem lc_3 {K : xC} {E : xE} {b L Y i cells slots n : Nat} {xs : Nat → Int32} {g : hG} {v : Nat → Nat} {F : Nat → Nat → Nat} {P SP : Nat → Option Nat} {N : Mo} {Mp Kp : Nat → Mo} {u : Nat → Nat} {B : Nat → Nat → Nat} (X : Sx K E cL_law 4 "BanisterWordLaw" room_1) (hX : va_X b L xs K.2.2.2.2.1 K.2.2.2.2.1.heap) (hbE : b < E.1) (hL : L ≤ 384) (hi : i + 6 ≤ L) (hc : cells + 14 ≤ 600000) (hs : slots + 14 ≤ 7302249) (hR : Rl n Y g v F P SP N Mp Kp u B) (kk : Nx K E b Y i (cells + 14) (slots + 14)) : Wg K E cells slots 193 [some (.ref b), some (.ref Y), some (.ref (Y + 75)), some (.int (nI i))] [] (bG E (mG E g (Y + 75) u B) Y v F P SP N Mp Kp) n := by
  obtain ⟨cl, wm, pad, si, Q, I, hT, hTx, hNn, hPs, hKk, hSs⟩ := hR
  obtain ⟨hP, hPn, h02, h0, h1, hgt, hYn⟩ := id hT
  obtain ⟨hu0, h5, hB1, hL2, hF3⟩ := id hTx
  obtain ⟨hB2, hB4, hgN⟩ := id hNn
  obtain ⟨hN7, hN9, hNk, hNd, hNf, hNz⟩ := id hgN
  obtain ⟨hu1, h8, h7, hB5, hQ⟩ := id hPs
  obtain ⟨hB7, hz1, hB6, hI⟩ := id hKk
  obtain ⟨hu2, h9, hSo, hB8⟩ := id hSs
  have hP2 : ∀ i, i < v 1 → cl i < 4 ∧ wm i ≤ 9 := fun i h => (hPn i h).2
  refine r_aload_n X dL_law_193 rfl ?_
  refine r_callV (ci := 9) X rfl (c_X10_house _ E _ n Y v F P SP N Mp Kp pad cl wm hL2 h5 h02 hF3 h0 h1 (pOk_m hP) (fun i h => (hPn i h).1) hYn) tw_289 tw_290 tw_291 tw_1 tw_292 rfl rfl b0 rfl ⟨ok_X10_house, ⟨Nat.le_of_ble_eq_true rfl, Nat.le_of_ble_eq_true rfl⟩, ⟨by show _ ≤ 600000; omega, by show _ ≤ 7302249; omega⟩, Nat.le_of_ble_eq_true rfl⟩ dL_law_194 (fun v_194 g_194 n_194 z_194 => ?_)
  rcases z_194 with ⟨q, hRR, rfl, hn9, Pt, a1, a2, a3, a4, hPt, rfl⟩ | ⟨m, C, hRR, rfl, g2, v2, F2, P2, pad2, hn1, hn2, hg2, hso, hpn2, w5, w7, w8, w9, wF3, wF59, wF, rfl⟩
  · skip
    replace hn9 := hn9.symm
    subst hn9
    refine r_heap bm ?_
    refine r_aload_n X dL_law_197 rfl ?_
    refine r_callV (ci := 10) X rfl (c_X11_house _ E _ _ (Y + 75) u B (v 0, v 1, cl, wm, F 6, F 7) (by rw [hu0]; exact h5) (by rw [hB1]; exact hL2) hB2 h02 h0 h1) tw_768 tw_769 tw_770 tw_7 tw_771 rfl rfl m0 rfl ⟨ok_X11_house, ⟨Nat.le_of_ble_eq_true rfl, Nat.le_of_ble_eq_true rfl⟩, ⟨by show _ ≤ 600000; omega, by show _ ≤ 7302249; omega⟩, Nat.le_of_ble_eq_true rfl⟩ dL_law_198 (fun v_198 g_198 n_198 z_198 => ?_)
    obtain ⟨rfl, hn9, u2, D, ⟨q0, q1, q2⟩, rfl⟩ := Zrh_l (q := q) (by rw [hB1, hu0]; exact hRR) z_198
    replace hn9 := hn9.symm
    subst hn9
    refine r_heap bm.symm ?_
    refine r_icmp_eq X 826 dL_law_201 (by decide) (fun c_201 => ?_) (fun c_201 => ?_)
    rotate_left
    · exact absurd (rfl) c_201
    refine r_widen (cells + 14) (slots + 14) (by omega) (by omega) ?_
    exact kk _ _ _ _ _ _ _ _ _ _ _ ⟨cl, wm, pad, si, Q, I, hT, ⟨q0.trans hu0, h5, hB1, hL2, hPt⟩, hNn, ⟨q1.trans hu1, h8, h7, hB5, hQ⟩, hKk, ⟨q2.trans hu2, h9, hSo, hB8⟩⟩
  · skip
    have hg3 : g2 = mG E g2 (Y + 75) u B := (blk_self (fun k hk => (hg2 _ (by omega)).trans (blk_in hk))).symm
    refine r_heap ((congrArg (fun w => bG E w Y v2 F2 P2 SP (F2 6, F2 7, fun _ => 0, 0) Mp Kp) hg3).trans bm) ?_
    refine r_aload_n X dL_law_197 rfl ?_
    refine r_callV (ci := 10) X rfl (c_X11_house _ E _ _ (Y + 75) u B (v 0, v 1, cl, wm, F 6, F 7) (by rw [hu0]; exact h5) (by rw [hB1]; exact hL2) hB2 h02 h0 h1) tw_768 tw_769 tw_770 tw_7 tw_771 rfl rfl m0 rfl ⟨ok_X11_house, ⟨Nat.le_of_ble_eq_true rfl, Nat.le_of_ble_eq_true rfl⟩, ⟨by show _ ≤ 600000; omega, by show _ ≤ 7302249; omega⟩, Nat.le_of_ble_eq_true rfl⟩ dL_law_198 (fun v_198 g_198 n_198 z_198 => ?_)
    obtain ⟨rfl, hn9, u2, D, ⟨q0, q1, q2⟩, rfl⟩ := Zrh_r (m := m) (C := C) (by rw [hB1, hu0]; exact hRR) z_198
    replace hn9 := hn9.symm
    subst hn9
    refine r_heap bm.symm ?_
    have hgg := (prs_good (x := (v 0, v 1, cl, wm, F 6, F 7)) 14 0 0 _ C _ hRR (Nat.zero_le _) (fun j hj => absurd hj (Nat.not_lt_zero _))).2.2
    have hgb := fold_b hgg h02 h0 h1 m (Nat.le_refl _)
    have hgp := fold_p hgg hP2 m (Nat.le_refl _)
    have hgt2 := fold_t hgg h02 h0 h1 hgt m (Nat.le_refl _)
    have hgF : gdM (v2 0) (F2 6, F2 7, fun _ => 0, 0) := by rw [hso.1, hso.2.2.1, hso.2.2.2.1]; exact hgt2
    have hF22 : F2 2 = F 2 := wF 2 (by decide) (by decide) (by decide) (by decide)
    refine r_icmp_eq X 826 dL_law_201 (by decide) (fun c_201 => ?_) (fun c_201 => ?_)
    rotate_left
    · exact absurd (rfl) c_201
    refine r_widen (cells + 14) (slots + 14) (by omega) (by omega) ?_
    refine kk _ _ _ _ _ _ _ _ _ _ _ ⟨(cFold C (v 0, v 1, cl, wm, F 6, F 7) m).2.2.1, (cFold C (v 0, v 1, cl, wm, F 6, F 7) m).2.2.2.1, pad2, si, Q, I, ?_, ?_, ?_, ?_, ?_, ?_⟩
    · exact ⟨hso.2.2.2.2, fun i hi => ⟨hpn2 i hi, hgp i (by rw [← hso.2.1]; exact hi)⟩, by rw [hso.1]; exact hgb.1, by rw [hso.1]; exact hgb.2.1, by rw [hso.2.1]; exact hgb.2.2, hgF, by omega⟩
    · exact ⟨by rw [q0, w5], by rw [w5]; exact Nat.zero_le _, by show B 1 = F2 2; rw [hF22]; exact hB1, fun j => by rw [hF22]; exact hL2 j, wF3⟩
    · exact ⟨by show tfl (cFold C (v 0, v 1, cl, wm, F 6, F 7) m) = tfl _; rw [hsO_eq hso], by show flat (laid (cFold C (v 0, v 1, cl, wm, F 6, F 7) m)) = flat (F2 6, F2 7, fun _ => 0, 0); rw [hso.2.2.1, hso.2.2.2.1]; rfl, hgF⟩
    · exact ⟨by rw [q1, w8], by rw [w8]; exact Nat.zero_le _, by rw [w7]; exact h7, hB5, fun k hk => absurd hk (by rw [w8]; exact Nat.not_lt_zero _)⟩
    · exact ⟨by show (fun _ => 0) = F2 59; rw [wF59], fun j => by rw [wF59]; exact Nat.zero_le _, hB6, fun k hk h => absurd (by rw [wF59]) h⟩
    · exact ⟨by rw [q2, w9], by rw [w9]; exact Nat.zero_le _, fun i hi => absurd hi (by rw [w9]; exact Nat.not_lt_zero _), fun k hk => absurd hk (by rw [w9]; exact Nat.not_lt_zero _)⟩

set_option maxHeartbeats 4000000 in
set_option maxRecDepth 100000 in
/-- the law, case 4: person -/
theorem lc_4 {K : xC} {E : xE} {b L Y i cells slots n : Nat} {xs : Nat → Int32} {g : hG} {v : Nat → Nat} {F : Nat → Nat → Nat} {P SP : Nat → Option Nat} {N : Mo} {Mp Kp : Nat → Mo} {u : Nat → Nat} {B : Nat → Nat → Nat} (X : Sx K E cL_law 4 "BanisterWordLaw" room_1) (hX : va_X b L xs K.2.2.2.2.1 K.2.2.2.2.1.heap) (hbE : b < E.1) (hL : L ≤ 384) (hi : i + 6 ≤ L) (hc : cells + 14 ≤ 600000) (hs : slots + 14 ≤ 7302249) (hR : Rl n Y g v F P SP N Mp Kp u B) (kk : Nx K E b Y i (cells + 14) (slots + 14)) : Wg K E cells slots 206 [some (.ref b), some (.ref Y), some (.ref (Y + 75)), some (.int (nI i))] [] (bG E (mG E g (Y + 75) u B) Y v F P SP N Mp Kp) n := by
  obtain ⟨cl, wm, pad, si, Q, I, hT, hTx, hNn, hPs, hKk, hSs⟩ := hR
  obtain ⟨hP, hPn, h02, h0, h1, hgt, hYn⟩ := id hT
  obtain ⟨hu0, h5, hB1, hL2, hF3⟩ := id hTx
  obtain ⟨hB2, hB4, hgN⟩ := id hNn
  obtain ⟨hN7, hN9, hNk, hNd, hNf, hNz⟩ := id hgN
  obtain ⟨hu1, h8, h7, hB5, hQ⟩ := id hPs
  obtain ⟨hB7, hz1, hB6, hI⟩ := id hKk
  obtain ⟨hu2, h9, hSo, hB8⟩ := id hSs
  have hP2 : ∀ i, i < v 1 → cl i < 4 ∧ wm i ≤ 9 := fun i h => (hPn i h).2
  refine r_aload_n X dL_law_206 rfl ?_
  refine r_aload_n X dL_law_207 rfl ?_
  refine r_iload_n X dL_law_208 rfl ?_
  refine r_iconst (v := nI 1) X dL_law_209 (by decide) ?_
  first | refine r_iaddN X dL_law_210 ?_ | refine r_iadd X _ dL_law_210 rfl ?_
  refine r_sld X hX hbE hL (by omega) rfl dL_law_211 ?_
  refine r_aload_n X dL_law_212 rfl ?_
  refine r_iload_n X dL_law_213 rfl ?_
  refine r_iconst (v := nI 2) X dL_law_214 (by decide) ?_
  first | refine r_iaddN X dL_law_215 ?_ | refine r_iadd X _ dL_law_215 rfl ?_
  refine r_sld X hX hbE hL (by omega) rfl dL_law_216 ?_
  refine r_callV (ci := 9) X rfl (c_X10_person _ E _ n Y v F P SP N Mp Kp pad cl wm (xs (i + 1)) (xs (i + 2)) (pOk_m hP) h1) tw_386 tw_387 tw_388 tw_1 tw_389 rfl rfl b0 rfl ⟨ok_X10_person, ⟨Nat.le_of_ble_eq_true rfl, Nat.le_of_ble_eq_true rfl⟩, ⟨by show _ ≤ 600000; omega, by show _ ≤ 7302249; omega⟩, Nat.le_of_ble_eq_true rfl⟩ dL_law_217 (kk_r (Wf := Wg K E _ _ _ _) ?_)
  refine r_heap bm ?_
  refine r_aload_n X dL_law_220 rfl ?_
  refine r_aload_n X dL_law_221 rfl ?_
  refine r_iload_n X dL_law_222 rfl ?_
  refine r_iconst (v := nI 1) X dL_law_223 (by decide) ?_
  first | refine r_iaddN X dL_law_224 ?_ | refine r_iadd X _ dL_law_224 rfl ?_
  refine r_sld X hX hbE hL (by omega) rfl dL_law_225 ?_
  refine r_aload_n X dL_law_226 rfl ?_
  refine r_iload_n X dL_law_227 rfl ?_
  refine r_iconst (v := nI 2) X dL_law_228 (by decide) ?_
  first | refine r_iaddN X dL_law_229 ?_ | refine r_iadd X _ dL_law_229 rfl ?_
  refine r_sld X hX hbE hL (by omega) rfl dL_law_230 ?_
  refine r_callV (ci := 10) X rfl (c_X11_person _ E _ _ (Y + 75) u B (v 0, v 1, cl, wm, F 6, F 7) N (xs (i + 1)) (xs (i + 2)) hB2 hB4 h0 h1) tw_772 tw_773 tw_774 tw_7 tw_775 rfl rfl m0 rfl ⟨ok_X11_person, ⟨Nat.le_of_ble_eq_true rfl, Nat.le_of_ble_eq_true rfl⟩, ⟨by show _ ≤ 600000; omega, by show _ ≤ 7302249; omega⟩, Nat.le_of_ble_eq_true rfl⟩ dL_law_231 (kk_r (Wf := Wg K E _ _ _ _) ?_)
  refine r_heap bm.symm ?_
  refine r_icmp_eq X 826 dL_law_234 (by decide) (fun c_234 => ?_) (fun c_234 => ?_)
  rotate_left
  · exact absurd (rfl) c_234
  refine r_widen (cells + 14) (slots + 14) (by omega) (by omega) ?_
  exact kk _ _ _ _ _ _ _ _ _ _ _ ⟨cl, wm, pad, si, Q, I, hT, hTx, hNn, hPs, hKk, hSs⟩

set_option maxHeartbeats 4000000 in
set_option maxRecDepth 100000 in
/-- the law, case 5: rail -/
theorem lc_5 {K : xC} {E : xE} {b L Y i cells slots n : Nat} {xs : Nat → Int32} {g : hG} {v : Nat → Nat} {F : Nat → Nat → Nat} {P SP : Nat → Option Nat} {N : Mo} {Mp Kp : Nat → Mo} {u : Nat → Nat} {B : Nat → Nat → Nat} (X : Sx K E cL_law 4 "BanisterWordLaw" room_1) (hX : va_X b L xs K.2.2.2.2.1 K.2.2.2.2.1.heap) (hbE : b < E.1) (hL : L ≤ 384) (hi : i + 6 ≤ L) (hc : cells + 14 ≤ 600000) (hs : slots + 14 ≤ 7302249) (hR : Rl n Y g v F P SP N Mp Kp u B) (kk : Nx K E b Y i (cells + 14) (slots + 14)) : Wg K E cells slots 239 [some (.ref b), some (.ref Y), some (.ref (Y + 75)), some (.int (nI i))] [] (bG E (mG E g (Y + 75) u B) Y v F P SP N Mp Kp) n := by
  obtain ⟨cl, wm, pad, si, Q, I, hT, hTx, hNn, hPs, hKk, hSs⟩ := hR
  obtain ⟨hP, hPn, h02, h0, h1, hgt, hYn⟩ := id hT
  obtain ⟨hu0, h5, hB1, hL2, hF3⟩ := id hTx
  obtain ⟨hB2, hB4, hgN⟩ := id hNn
  obtain ⟨hN7, hN9, hNk, hNd, hNf, hNz⟩ := id hgN
  obtain ⟨hu1, h8, h7, hB5, hQ⟩ := id hPs
  obtain ⟨hB7, hz1, hB6, hI⟩ := id hKk
  obtain ⟨hu2, h9, hSo, hB8⟩ := id hSs
  have hP2 : ∀ i, i < v 1 → cl i < 4 ∧ wm i ≤ 9 := fun i h => (hPn i h).2
  refine r_aload_n X dL_law_239 rfl ?_
  refine r_aload_n X dL_law_240 rfl ?_
  refine r_iload_n X dL_law_241 rfl ?_
  refine r_iconst (v := nI 1) X dL_law_242 (by decide) ?_
  first | refine r_iaddN X dL_law_243 ?_ | refine r_iadd X _ dL_law_243 rfl ?_
  refine r_sld X hX hbE hL (by omega) rfl dL_law_244 ?_
  refine r_aload_n X dL_law_245 rfl ?_
  refine r_iload_n X dL_law_246 rfl ?_
  refine r_iconst (v := nI 2) X dL_law_247 (by decide) ?_
  first | refine r_iaddN X dL_law_248 ?_ | refine r_iadd X _ dL_law_248 rfl ?_
  refine r_sld X hX hbE hL (by omega) rfl dL_law_249 ?_
  refine r_aload_n X dL_law_250 rfl ?_
  refine r_iload_n X dL_law_251 rfl ?_
  refine r_iconst (v := nI 3) X dL_law_252 (by decide) ?_
  first | refine r_iaddN X dL_law_253 ?_ | refine r_iadd X _ dL_law_253 rfl ?_
  refine r_sld X hX hbE hL (by omega) rfl dL_law_254 ?_
  refine r_callV (ci := 9) X rfl (c_X10_rail _ E _ n Y v F P SP N Mp Kp (xs (i + 1)) (xs (i + 2)) (xs (i + 3)) h0 hN7) tw_409 tw_410 tw_411 tw_1 tw_412 rfl rfl b0 rfl ⟨ok_X10_rail, ⟨Nat.le_of_ble_eq_true rfl, Nat.le_of_ble_eq_true rfl⟩, ⟨by show _ ≤ 600000; omega, by show _ ≤ 7302249; omega⟩, Nat.le_of_ble_eq_true rfl⟩ dL_law_255 (kk_r (Wf := Wg K E _ _ _ _) ?_)
  refine r_heap bm ?_
  refine r_aload_n X dL_law_258 rfl ?_
  refine r_aload_n X dL_law_259 rfl ?_
  refine r_iload_n X dL_law_260 rfl ?_
  refine r_iconst (v := nI 1) X dL_law_261 (by decide) ?_
  first | refine r_iaddN X dL_law_262 ?_ | refine r_iadd X _ dL_law_262 rfl ?_
  refine r_sld X hX hbE hL (by omega) rfl dL_law_263 ?_
  refine r_aload_n X dL_law_264 rfl ?_
  refine r_iload_n X dL_law_265 rfl ?_
  refine r_iconst (v := nI 2) X dL_law_266 (by decide) ?_
  first | refine r_iaddN X dL_law_267 ?_ | refine r_iadd X _ dL_law_267 rfl ?_
  refine r_sld X hX hbE hL (by omega) rfl dL_law_268 ?_
  refine r_aload_n X dL_law_269 rfl ?_
  refine r_iload_n X dL_law_270 rfl ?_
  refine r_iconst (v := nI 3) X dL_law_271 (by decide) ?_
  first | refine r_iaddN X dL_law_272 ?_ | refine r_iadd X _ dL_law_272 rfl ?_
  refine r_sld X hX hbE hL (by omega) rfl dL_law_273 ?_
  refine r_callV (ci := 10) X rfl (c_X11_rail _ E _ _ (Y + 75) u B (v 0, v 1, cl, wm, F 6, F 7) N (xs (i + 1)) (xs (i + 2)) (xs (i + 3)) hB2 hB4 h0 h1 hN7 hN9) tw_780 tw_781 tw_782 tw_7 tw_783 rfl rfl m0 rfl ⟨ok_X11_rail, ⟨Nat.le_of_ble_eq_true rfl, Nat.le_of_ble_eq_true rfl⟩, ⟨by show _ ≤ 600000; omega, by show _ ≤ 7302249; omega⟩, Nat.le_of_ble_eq_true rfl⟩ dL_law_274 (kk_r (Wf := Wg K E _ _ _ _) ?_)
  refine r_heap bm.symm ?_
  refine r_icmp_eq X 826 dL_law_277 (by decide) (fun c_277 => ?_) (fun c_277 => ?_)
  rotate_left
  · exact absurd (rfl) c_277
  refine r_widen (cells + 14) (slots + 14) (by omega) (by omega) ?_
  exact kk _ _ _ _ _ _ _ _ _ _ _ ⟨cl, wm, pad, si, Q, I, hT, hTx, hNn, hPs, hKk, hSs⟩

set_option maxHeartbeats 4000000 in
set_option maxRecDepth 100000 in
/-- the law, case 6: as -/
theorem lc_6 {K : xC} {E : xE} {b L Y i cells slots n : Nat} {xs : Nat → Int32} {g : hG} {v : Nat → Nat} {F : Nat → Nat → Nat} {P SP : Nat → Option Nat} {N : Mo} {Mp Kp : Nat → Mo} {u : Nat → Nat} {B : Nat → Nat → Nat} (X : Sx K E cL_law 4 "BanisterWordLaw" room_1) (hX : va_X b L xs K.2.2.2.2.1 K.2.2.2.2.1.heap) (hbE : b < E.1) (hL : L ≤ 384) (hi : i + 6 ≤ L) (hc : cells + 14 ≤ 600000) (hs : slots + 14 ≤ 7302249) (hR : Rl n Y g v F P SP N Mp Kp u B) (kk : Nx K E b Y i (cells + 14) (slots + 14)) : Wg K E cells slots 282 [some (.ref b), some (.ref Y), some (.ref (Y + 75)), some (.int (nI i))] [] (bG E (mG E g (Y + 75) u B) Y v F P SP N Mp Kp) n := by
  obtain ⟨cl, wm, pad, si, Q, I, hT, hTx, hNn, hPs, hKk, hSs⟩ := hR
  obtain ⟨hP, hPn, h02, h0, h1, hgt, hYn⟩ := id hT
  obtain ⟨hu0, h5, hB1, hL2, hF3⟩ := id hTx
  obtain ⟨hB2, hB4, hgN⟩ := id hNn
  obtain ⟨hN7, hN9, hNk, hNd, hNf, hNz⟩ := id hgN
  obtain ⟨hu1, h8, h7, hB5, hQ⟩ := id hPs
  obtain ⟨hB7, hz1, hB6, hI⟩ := id hKk
  obtain ⟨hu2, h9, hSo, hB8⟩ := id hSs
  have hP2 : ∀ i, i < v 1 → cl i < 4 ∧ wm i ≤ 9 := fun i h => (hPn i h).2
  refine r_aload_n X dL_law_282 rfl ?_
  refine r_aload_n X dL_law_283 rfl ?_
  refine r_iload_n X dL_law_284 rfl ?_
  refine r_iconst (v := nI 1) X dL_law_285 (by decide) ?_
  first | refine r_iaddN X dL_law_286 ?_ | refine r_iadd X _ dL_law_286 rfl ?_
  refine r_sld X hX hbE hL (by omega) rfl dL_law_287 ?_
  refine r_aload_n X dL_law_288 rfl ?_
  refine r_iload_n X dL_law_289 rfl ?_
  refine r_iconst (v := nI 2) X dL_law_290 (by decide) ?_
  first | refine r_iaddN X dL_law_291 ?_ | refine r_iadd X _ dL_law_291 rfl ?_
  refine r_sld X hX hbE hL (by omega) rfl dL_law_292 ?_
  refine r_callV (ci := 9) X rfl (c_X10_as _ E _ n Y v F P SP N Mp Kp pad cl wm (xs (i + 1)) (xs (i + 2)) (pOk_m hP) h1) tw_432 tw_433 tw_434 tw_1 tw_435 rfl rfl b0 rfl ⟨ok_X10_as, ⟨Nat.le_of_ble_eq_true rfl, Nat.le_of_ble_eq_true rfl⟩, ⟨by show _ ≤ 600000; omega, by show _ ≤ 7302249; omega⟩, Nat.le_of_ble_eq_true rfl⟩ dL_law_293 (kk_r (Wf := Wg K E _ _ _ _) ?_)
  refine r_heap bm ?_
  refine r_aload_n X dL_law_296 rfl ?_
  refine r_aload_n X dL_law_297 rfl ?_
  refine r_iload_n X dL_law_298 rfl ?_
  refine r_iconst (v := nI 1) X dL_law_299 (by decide) ?_
  first | refine r_iaddN X dL_law_300 ?_ | refine r_iadd X _ dL_law_300 rfl ?_
  refine r_sld X hX hbE hL (by omega) rfl dL_law_301 ?_
  refine r_aload_n X dL_law_302 rfl ?_
  refine r_iload_n X dL_law_303 rfl ?_
  refine r_iconst (v := nI 2) X dL_law_304 (by decide) ?_
  first | refine r_iaddN X dL_law_305 ?_ | refine r_iadd X _ dL_law_305 rfl ?_
  refine r_sld X hX hbE hL (by omega) rfl dL_law_306 ?_
  refine r_callV (ci := 10) X rfl (c_X11_as _ E _ _ (Y + 75) u B (v 0, v 1, cl, wm, F 6, F 7) (xs (i + 1)) (xs (i + 2)) hB2 h0 h1 hP2) tw_788 tw_789 tw_790 tw_7 tw_791 rfl rfl m0 rfl ⟨ok_X11_as, ⟨Nat.le_of_ble_eq_true rfl, Nat.le_of_ble_eq_true rfl⟩, ⟨by show _ ≤ 600000; omega, by show _ ≤ 7302249; omega⟩, Nat.le_of_ble_eq_true rfl⟩ dL_law_307 (kk_r (Wf := Wg K E _ _ _ _) ?_)
  refine r_heap bm.symm ?_
  refine r_icmp_eq X 826 dL_law_310 (by decide) (fun c_310 => ?_) (fun c_310 => ?_)
  rotate_left
  · exact absurd (rfl) c_310
  refine r_widen (cells + 14) (slots + 14) (by omega) (by omega) ?_
  exact kk _ _ _ _ _ _ _ _ _ _ _ ⟨cl, wm, pad, si, Q, I, hT, hTx, hNn, hPs, hKk, hSs⟩

