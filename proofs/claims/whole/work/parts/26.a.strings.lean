/-- the letters of the words, by their numbers -/
def xnm : List (List Nat) := [[103, 117, 101, 115, 116], [99, 104, 105, 108, 100], [103, 108, 111, 118, 101, 100], [109, 97, 105, 100], [115, 116, 97, 105, 114], [119, 111, 114, 100], [99, 108, 101, 97, 110]]
def nlen (i : Nat) : Nat := xlen.getD i 0
def nmC (i k : Nat) : Nat := (xnm.getD i []).getD k 0
theorem nlen_le : ∀ i, i < 7 → nlen i ≤ 6 := by decide
theorem xch_ok : ∀ i, i < 7 → ∀ k, k < 6 → k < nlen i → ((((xbyt.getD i []).getD k 0) &&& 255).toUInt32 % 65536).toInt32 = nI (nmC i k) := by decide +kernel
theorem nmC_lt : ∀ i, i < 7 → ∀ k, k < 6 → k < nlen i → nmC i k < 256 := by decide +kernel
section R26
variable {K : xC} {E : xE} {cells slots pc nL : Nat} {ls : List (Option Value)} {st : List Value} {g : hG} {n : Nat} {cc : ByteArray} {own : String} {R : Room}
theorem r_pop (S : Sx K E cc nL own R) {v : Value} (hd : decode cc pc = .ok (.pop, 1)) (hv : v.category = 1) (kk : Wg K E cells slots (pc + 1) ls st g n) : Wg K E cells slots pc ls (v :: st) g n := fun H locs la a b c d => lv_pop S.x S.b hd hv (kk H locs la a b c d)
theorem r_i2c (S : Sx K E cc nL own R) {x : Int32} (v : Int32) (hd : decode cc pc = .ok (.i2c, 1)) (hv : (x.toUInt32 % 65536).toInt32 = v) (kk : Wg K E cells slots (pc + 1) ls (.int v :: st) g n) : Wg K E cells slots pc ls (.int x :: st) g n := fun H locs la a b c d => lv_i2c S.x S.b hd (by first | exact hv | (rw [← hv]; rfl)) (kk H locs la a b c d)
theorem r_gets {C f d ref : String} {v : Value} {index : Nat} (S : Sx K E cc nL own R) (hZ : va_Z C f d v (xA E) K.2.2.2.2.1 K.2.2.2.2.1.heap) (hlink : Cond.fieldLink own index ref f d ∈ tblG) (hsame : ∀ x, K.2.2.2.2.1.fieldFound? C f d = some x → K.2.2.2.2.1.fieldFound? ref f d = some x) (hd : decode cc pc = .ok (.getstatic index, 3)) (kk : Wg K E cells slots (pc + 3) ls (v :: st) g n) : Wg K E cells slots pc ls st g n := fun H locs la h1 h2 h3 h4 => va_gets S.x S.b hZ h4 S.o (S.w _ hlink) hsame hd (kk H locs la h1 h2 h3 h4)
theorem r_strf {f d ref : String} {v : Value} {index q : Nat} (S : Sx K E cc nL own R) (hE : va_OF "java/lang/String" f d v q (xA E) K.2.2.2.2.1 K.2.2.2.2.1.heap) (hlink : Cond.fieldLink own index ref f d ∈ tblG) (hsame : ∀ x, K.2.2.2.2.1.fieldFound? "java/lang/String" f d = some x → K.2.2.2.2.1.fieldFound? ref f d = some x) (hd : decode cc pc = .ok (.getfield index, 3)) (kk : Wg K E cells slots (pc + 3) ls (v :: st) g n) : Wg K E cells slots pc ls (.ref q :: st) g n := fun H locs la h1 h2 h3 h4 => vk_getf S.x S.b hE h4 S.o (S.w _ hlink) hsame hd (kk H locs la h1 h2 h3 h4)
theorem r_tlen {t N : Nat} {f : Nat → Value} {ty : FieldType} (S : Sx K E cc nL own R) (hT : va_T ty t N f (xA E) K.2.2.2.2.1 K.2.2.2.2.1.heap) (hd : decode cc pc = .ok (.arraylength, 1)) (kk : Wg K E cells slots (pc + 1) ls (.int (nI N) :: st) g n) : Wg K E cells slots pc ls (.ref t :: st) g n := fun H locs la h1 h2 h3 h4 => va_tlen S.x S.b hT h4 rfl hd (kk H locs la h1 h2 h3 h4)
theorem r_tb {t N : Nat} {f : Nat → Value} {i : Int32} (j : Nat) {v : Value} (S : Sx K E cc nL own R) (hT : va_T .byte t N f (xA E) K.2.2.2.2.1 K.2.2.2.2.1.heap) (hi : i = nI j) (hj : j < N) (hN : N < 2 ^ 31) (hv : f j = v) (hd : decode cc pc = .ok (.baload, 1)) (kk : Wg K E cells slots (pc + 1) ls (v :: st) g n) : Wg K E cells slots pc ls (.int i :: .ref t :: st) g n := fun H locs la h1 h2 h3 h4 => va_tb S.x S.b hT h4 (ix_in hi hj hN) (by rw [ix_cl hi hj hN]; exact hv) hd (kk H locs la h1 h2 h3 h4)
theorem r_ldcS {index q : Nat} {tx : String} (S : Sx K E cc nL own R) (hZ : vk_R own index tx q K.2.2.2.2.1) (hd : decode cc pc = .ok (.ldc index, 2)) (kk : Wg K E cells slots (pc + 2) ls (.ref q :: st) g n) : Wg K E cells slots pc ls st g n := fun H locs la h1 h2 h3 h4 => va_ldcS S.x S.b S.o hZ hd (kk H locs la h1 h2 h3 h4)
variable {y : MethodName} {bytes : ByteArray} {maxL fr lo_ mc ms : Nat} {ret : Option FieldType} {As : List Value} {Z : Option Value → hG → Nat → Prop}
/-- a call on a string constant -/
theorem r_callT {index i : Nat} {st0 : List Value} (S : Sx K E cc nL own R) (hlen : ls.length = nL) (hi : i < 7) (hM : Ct K.2.1 y bytes maxL ret fr lo_ mc ms E (.ref (E.2.2.2.1 i) :: As) g n Z) (w1 : Cond.methodLink own index y ∈ tblG) (w2 : Cond.instanceMethod y ∈ tblG) (w3 : Cond.selects "java/lang/String" y y ∈ tblG) (w4 : Cond.initialized "java/lang/String" ∈ tblG) (w5 : Cond.code y bytes maxL ret ∈ tblG) (hC : y.cls = "java/lang/String") (hst : st0 = As.reverse ++ .ref (E.2.2.2.1 i) :: st) (hok : cOk R y As.length fr lo_ maxL cells slots mc ms st) (hd : decode cc pc = .ok (.invokevirtual index, 3))
    (kk : ∀ (v : Option Value) (g' : hG) (n' : Nat), Z v g' n' → Wg K E (cells + mc) (slots + ms) (pc + 3) ls (v.toList ++ st) g' n') : Wg K E cells slots pc ls st0 g n := fun H locs la h1 h2 h3 h4 => by
  subst hst
  obtain ⟨o1, o2, o3, o4⟩ := hok
  have hgd : GoodIn tblG (wsV own index "java/lang/String" y (yw y bytes maxL ret)) := gd_app (fun w hw => by
    simp only [List.mem_cons, List.not_mem_nil, or_false] at hw
    rcases hw with rfl | rfl | rfl | rfl <;> assumption) (gd_all w5)
  exact r_go h1 h4 (va_runV (As := As) (rest := st) S.1 hM (cwV As.length S.w hgd rfl rfl rfl ⟨hC, o1⟩ (by rw [S.2.2.2]; exact o2)) ⟨cP.blind, vk_recv S.2.1.2.2.1.2 hi h4, S.pre h2 h3 h4⟩ rfl rfl (by rw [← hlen]; exact h1.1) rfl (by show 2 * 0 + _ ≤ 8; omega) hd (by rw [S.2.2.2]; exact o3)) kk
end R26

set_option maxHeartbeats 4000000 in
set_option maxRecDepth 100000 in
/-- java/lang/String.coder  -/
theorem c_J0_coder_7d493 (l : Launch) (E : xE) (g : hG) (n : Nat) (i : Nat) (hi : i < 7) : Ct l yJ0_coder_7d493 cJ0_coder_7d493 1 (some .byte) 0 0 0 0 E [.ref (E.2.2.2.1 i)] (g) n (zr (some (.int (nI 0))) (g) (n)) := by
  refine Ct.of (by decide +kernel) (Nat.le_of_ble_eq_true rfl) (fun v hv => by simp only [List.mem_cons, List.not_mem_nil, or_false] at hv; (try rcases hv with rfl) <;> first | rfl | (subst hv; rfl) | exact hv.elim) ?_
  intro K hKl S
  subst hKl
  have X := S.1
  refine r_gets X X.2.1.2.2.2.1 tw_227 (fun _ h => h) dJ0_coder_7d493_0 ?_
  refine r_if_eq X 13 dJ0_coder_7d493_3 (by decide) (fun c_3 => ?_) (fun c_3 => ?_)
  · exact absurd c_3 (by decide)
  refine r_aload_n X dJ0_coder_7d493_6 rfl ?_
  refine r_strf X (X.2.1.2.2.1.2.1 i hi).2.1 tw_921 (fun _ h => h) dJ0_coder_7d493_7 ?_
  refine r_goto X 14 dJ0_coder_7d493_10 (by decide) ?_
  refine r_zret S dJ0_coder_7d493_14 (rfl) ?_
  exact ⟨rfl, rfl, rfl⟩

set_option maxHeartbeats 4000000 in
set_option maxRecDepth 100000 in
/-- java/lang/String.isLatin1  -/
theorem c_J0_isLatin1_aae02 (l : Launch) (E : xE) (g : hG) (n : Nat) (i : Nat) (hi : i < 7) : Ct l yJ0_isLatin1_aae02 cJ0_isLatin1_aae02 1 (some .boolean) 0 0 0 0 E [.ref (E.2.2.2.1 i)] (g) n (zr (some (.int (nI 1))) (g) (n)) := by
  refine Ct.of (by decide +kernel) (Nat.le_of_ble_eq_true rfl) (fun v hv => by simp only [List.mem_cons, List.not_mem_nil, or_false] at hv; (try rcases hv with rfl) <;> first | rfl | (subst hv; rfl) | exact hv.elim) ?_
  intro K hKl S
  subst hKl
  have X := S.1
  refine r_gets X X.2.1.2.2.2.1 tw_227 (fun _ h => h) dJ0_isLatin1_aae02_0 ?_
  refine r_if_eq X 17 dJ0_isLatin1_aae02_3 (by decide) (fun c_3 => ?_) (fun c_3 => ?_)
  · exact absurd c_3 (by decide)
  refine r_aload_n X dJ0_isLatin1_aae02_6 rfl ?_
  refine r_strf X (X.2.1.2.2.1.2.1 i hi).2.1 tw_921 (fun _ h => h) dJ0_isLatin1_aae02_7 ?_
  refine r_if_ne X 17 dJ0_isLatin1_aae02_10 (by decide) (fun c_10 => ?_) (fun c_10 => ?_)
  · exact absurd rfl c_10
  refine r_iconst (v := nI 1) X dJ0_isLatin1_aae02_13 (by decide) ?_
  refine r_goto X 18 dJ0_isLatin1_aae02_14 (by decide) ?_
  refine r_zret S dJ0_isLatin1_aae02_18 (rfl) ?_
  exact ⟨rfl, rfl, rfl⟩

set_option maxHeartbeats 4000000 in
set_option maxRecDepth 100000 in
/-- java/lang/String.length  -/
theorem c_J0_length_8abf5 (l : Launch) (E : xE) (g : hG) (n : Nat) (i : Nat) (hi : i < 7) : Ct l yJ0_length_8abf5 cJ0_length_8abf5 1 (some .int) 1 20 0 0 E [.ref (E.2.2.2.1 i)] (g) n (zr (some (.int (nI (nlen i)))) (g) (n)) := by
  refine Ct.of (by decide +kernel) (Nat.le_of_ble_eq_true rfl) (fun v hv => by simp only [List.mem_cons, List.not_mem_nil, or_false] at hv; (try rcases hv with rfl) <;> first | rfl | (subst hv; rfl) | exact hv.elim) ?_
  intro K hKl S
  subst hKl
  have X := S.1
  have hnl := nlen_le i hi
  refine r_aload_n X dJ0_length_8abf5_0 rfl ?_
  refine r_strf X (X.2.1.2.2.1.2.1 i hi).2.2.1 tw_920 (fun _ h => h) dJ0_length_8abf5_1 ?_
  refine r_tlen X (X.2.1.2.2.1.2.1 i hi).2.2.2 dJ0_length_8abf5_4 ?_
  refine r_aload_n X dJ0_length_8abf5_5 rfl ?_
  refine r_callT X rfl hi (c_J0_coder_7d493 _ E g n i hi) tw_223 tw_224 tw_225 tw_8 tw_226 rfl rfl ⟨ok_J0_coder_7d493, ⟨Nat.le_of_ble_eq_true rfl, Nat.le_of_ble_eq_true rfl⟩, ⟨Nat.le_of_ble_eq_true rfl, Nat.le_of_ble_eq_true rfl⟩, Nat.le_of_ble_eq_true rfl⟩ dJ0_length_8abf5_6 (kk_r (Wf := Wg K E _ _ _ _) ?_)
  refine r_ishrN (x := nlen i) X dJ0_length_8abf5_9 (by omega) (by omega) ?_
  refine r_iret S dJ0_length_8abf5_10 ?_
  exact ⟨by simp, rfl, rfl⟩

set_option maxHeartbeats 4000000 in
set_option maxRecDepth 100000 in
/-- jdk/internal/util/Preconditions.checkIndex  -/
theorem c_J3_checkIndex_8e157 (l : Launch) (E : xE) (g : hG) (n : Nat) (a b : Nat) (fm : Value) (ha : a < b) (hb : b < 2 ^ 31) (hfm : fm.category = 1) : Ct l yJ3_checkIndex_8e157 cJ3_checkIndex_8e157 3 (some .int) 0 0 0 0 E [.int (nI a), .int (nI b), fm] (g) n (zr (some (.int (nI a))) (g) (n)) := by
  refine Ct.of (by decide +kernel) (Nat.le_of_ble_eq_true rfl) (fun v hv => by simp only [List.mem_cons, List.not_mem_nil, or_false] at hv; rcases hv with rfl | rfl | rfl <;> first | rfl | exact hfm) ?_
  intro K hKl S
  subst hKl
  have X := S.1
  refine r_iload_n X dJ3_checkIndex_8e157_0 rfl ?_
  refine r_if_ltN X 9 dJ3_checkIndex_8e157_1 (by decide) (by omega) ?_
  refine r_iload_n X dJ3_checkIndex_8e157_4 rfl ?_
  refine r_iload_n X dJ3_checkIndex_8e157_5 rfl ?_
  refine r_icmp_ltN X 16 dJ3_checkIndex_8e157_6 (by decide) (by omega) (by omega) (fun c_6 => ?_) (fun c_6 => ?_)
  rotate_left
  · exact absurd c_6 (by omega)
  refine r_iload_n X dJ3_checkIndex_8e157_16 rfl ?_
  refine r_iret S dJ3_checkIndex_8e157_17 ?_
  exact ⟨rfl, rfl, rfl⟩

set_option maxHeartbeats 4000000 in
set_option maxRecDepth 100000 in
/-- java/lang/String.checkIndex  -/
theorem c_J0_checkIndex_df160 (l : Launch) (E : xE) (g : hG) (n : Nat) (a b : Nat) (ha : a < b) (hb : b < 2 ^ 31) : Ct l yJ0_checkIndex_df160 cJ0_checkIndex_df160 2 none 1 22 0 0 E [.int (nI a), .int (nI b)] (g) n (zr (none) (g) (n)) := by
  refine Ct.of (by decide +kernel) (Nat.le_of_ble_eq_true rfl) (fun v hv => by simp only [List.mem_cons, List.not_mem_nil, or_false] at hv; (try rcases hv with rfl | rfl) <;> first | rfl | (subst hv; rfl) | exact hv.elim) ?_
  intro K hKl S
  subst hKl
  have X := S.1
  refine r_iload_n X dJ0_checkIndex_df160_0 rfl ?_
  refine r_iload_n X dJ0_checkIndex_df160_1 rfl ?_
  rcases X.2.1.2.2.2.2 with hz | ⟨t, hz⟩
  · refine r_gets X hz tw_243 (fun _ h => h) dJ0_checkIndex_df160_2 ?_
    refine r_callS X rfl (c_J3_checkIndex_8e157 _ E g n a b .null ha hb rfl) tw_245 tw_246 tw_10 tw_247 rfl ⟨ok_J3_checkIndex_8e157, ⟨Nat.le_of_ble_eq_true rfl, Nat.le_of_ble_eq_true rfl⟩, ⟨Nat.le_of_ble_eq_true rfl, Nat.le_of_ble_eq_true rfl⟩, Nat.le_of_ble_eq_true rfl⟩ dJ0_checkIndex_df160_5 (kk_r (Wf := Wg K E _ _ _ _) ?_)
    refine r_pop X dJ0_checkIndex_df160_8 rfl ?_
    refine r_vret S dJ0_checkIndex_df160_9 ?_
    exact ⟨rfl, rfl, rfl⟩
  · refine r_gets X hz tw_243 (fun _ h => h) dJ0_checkIndex_df160_2 ?_
    refine r_callS X rfl (c_J3_checkIndex_8e157 _ E g n a b (.ref t) ha hb rfl) tw_245 tw_246 tw_10 tw_247 rfl ⟨ok_J3_checkIndex_8e157, ⟨Nat.le_of_ble_eq_true rfl, Nat.le_of_ble_eq_true rfl⟩, ⟨Nat.le_of_ble_eq_true rfl, Nat.le_of_ble_eq_true rfl⟩, Nat.le_of_ble_eq_true rfl⟩ dJ0_checkIndex_df160_5 (kk_r (Wf := Wg K E _ _ _ _) ?_)
    refine r_pop X dJ0_checkIndex_df160_8 rfl ?_
    refine r_vret S dJ0_checkIndex_df160_9 ?_
    exact ⟨rfl, rfl, rfl⟩

set_option maxHeartbeats 4000000 in
set_option maxRecDepth 100000 in
/-- java/lang/StringLatin1.charAt  -/
theorem c_J1_charAt_3b067 (l : Launch) (E : xE) (g : hG) (n : Nat) (i k : Nat) (hi : i < 7) (hk : k < nlen i) : Ct l yJ1_charAt_3b067 cJ1_charAt_3b067 2 (some .char) 2 43 0 0 E [.ref (E.2.2.2.2 i), .int (nI k)] (g) n (zr (some (.int (nI (nmC i k)))) (g) (n)) := by
  refine Ct.of (by decide +kernel) (Nat.le_of_ble_eq_true rfl) (fun v hv => by simp only [List.mem_cons, List.not_mem_nil, or_false] at hv; (try rcases hv with rfl | rfl) <;> first | rfl | (subst hv; rfl) | exact hv.elim) ?_
  intro K hKl S
  subst hKl
  have X := S.1
  have hnl := nlen_le i hi
  refine r_iload_n X dJ1_charAt_3b067_0 rfl ?_
  refine r_aload_n X dJ1_charAt_3b067_1 rfl ?_
  refine r_tlen X (X.2.1.2.2.1.2.1 i hi).2.2.2 dJ1_charAt_3b067_2 ?_
  refine r_callS X rfl (c_J0_checkIndex_df160 _ E g n k (nlen i) hk (by omega)) tw_240 tw_241 tw_8 tw_242 rfl ⟨ok_J0_checkIndex_df160, ⟨Nat.le_of_ble_eq_true rfl, Nat.le_of_ble_eq_true rfl⟩, ⟨Nat.le_of_ble_eq_true rfl, Nat.le_of_ble_eq_true rfl⟩, Nat.le_of_ble_eq_true rfl⟩ dJ1_charAt_3b067_3 (kk_v (Wf := Wg K E _ _ _ _) ?_)
  refine r_aload_n X dJ1_charAt_3b067_6 rfl ?_
  refine r_iload_n X dJ1_charAt_3b067_7 rfl ?_
  refine r_tb k X (X.2.1.2.2.1.2.1 i hi).2.2.2 rfl hk (by show nlen i < _; omega) rfl dJ1_charAt_3b067_8 ?_
  refine r_sipush (v := 255) X dJ1_charAt_3b067_9 (by decide) ?_
  refine r_iand X _ dJ1_charAt_3b067_12 rfl ?_
  refine r_i2c X (nI (nmC i k)) dJ1_charAt_3b067_13 (xch_ok i hi k (by omega) hk) ?_
  refine r_zret S dJ1_charAt_3b067_14 ((pk_charN (Nat.lt_trans (nmC_lt i hi k (by omega) hk) (by decide))).1) ?_
  exact ⟨rfl, rfl, rfl⟩

set_option maxHeartbeats 4000000 in
set_option maxRecDepth 100000 in
/-- java/lang/String.charAt  -/
theorem c_J0_charAt_5068e (l : Launch) (E : xE) (g : hG) (n : Nat) (i k : Nat) (hi : i < 7) (hk : k < nlen i) : Ct l yJ0_charAt_5068e cJ0_charAt_5068e 2 (some .char) 4 85 0 0 E [.ref (E.2.2.2.1 i), .int (nI k)] (g) n (zr (some (.int (nI (nmC i k)))) (g) (n)) := by
  refine Ct.of (by decide +kernel) (Nat.le_of_ble_eq_true rfl) (fun v hv => by simp only [List.mem_cons, List.not_mem_nil, or_false] at hv; (try rcases hv with rfl | rfl) <;> first | rfl | (subst hv; rfl) | exact hv.elim) ?_
  intro K hKl S
  subst hKl
  have X := S.1
  have hnl := nlen_le i hi
  refine r_aload_n X dJ0_charAt_5068e_0 rfl ?_
  refine r_callT X rfl hi (c_J0_isLatin1_aae02 _ E g n i hi) tw_233 tw_234 tw_235 tw_8 tw_236 rfl rfl ⟨ok_J0_isLatin1_aae02, ⟨Nat.le_of_ble_eq_true rfl, Nat.le_of_ble_eq_true rfl⟩, ⟨Nat.le_of_ble_eq_true rfl, Nat.le_of_ble_eq_true rfl⟩, Nat.le_of_ble_eq_true rfl⟩ dJ0_charAt_5068e_1 (kk_r (Wf := Wg K E _ _ _ _) ?_)
  refine r_if_eq X 16 dJ0_charAt_5068e_4 (by decide) (fun c_4 => ?_) (fun c_4 => ?_)
  · exact absurd c_4 (by decide)
  refine r_aload_n X dJ0_charAt_5068e_7 rfl ?_
  refine r_strf X (X.2.1.2.2.1.2.1 i hi).2.2.1 tw_920 (fun _ h => h) dJ0_charAt_5068e_8 ?_
  refine r_iload_n X dJ0_charAt_5068e_11 rfl ?_
  refine r_callS X rfl (c_J1_charAt_3b067 _ E g n i k hi hk) tw_237 tw_238 tw_9 tw_239 rfl ⟨ok_J1_charAt_3b067, ⟨Nat.le_of_ble_eq_true rfl, Nat.le_of_ble_eq_true rfl⟩, ⟨Nat.le_of_ble_eq_true rfl, Nat.le_of_ble_eq_true rfl⟩, Nat.le_of_ble_eq_true rfl⟩ dJ0_charAt_5068e_12 (kk_r (Wf := Wg K E _ _ _ _) ?_)
  refine r_zret S dJ0_charAt_5068e_15 ((pk_charN (Nat.lt_trans (nmC_lt i hi k (by omega) hk) (by decide))).1) ?_
  exact ⟨rfl, rfl, rfl⟩

