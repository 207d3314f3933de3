theorem fs_ex : ∀ i : Nat, i < 7 → Cond.exactly (Term.string "BanisterWord$Text" (82 + 2 * i)) "java/lang/String" ∈ flatC (Jvm.Cond.and given_1 narrow_1) := by decide +kernel
theorem fs_co : ∀ i : Nat, i < 7 → Cond.eq (.field (Term.string "BanisterWord$Text" (82 + 2 * i)) "java/lang/String" "coder" "B") (.int 0) ∈ flatC (Jvm.Cond.and given_1 narrow_1) := by decide +kernel
theorem fs_ar : ∀ i : Nat, i < 7 → Cond.arrayOf (.field (Term.string "BanisterWord$Text" (82 + 2 * i)) "java/lang/String" "value" "[B") .byte ∈ flatC (Jvm.Cond.and given_1 narrow_1) := by decide +kernel
theorem fs_le : ∀ i : Nat, i < 7 → Cond.eq (.length (.field (Term.string "BanisterWord$Text" (82 + 2 * i)) "java/lang/String" "value" "[B")) (.int (Int32.ofNat (xlen.getD i 0))) ∈ flatC (Jvm.Cond.and given_1 narrow_1) := by decide +kernel
theorem fs_el : ∀ i : Nat, i < 7 → ∀ j : Nat, j < xlen.getD i 0 → Cond.eq (.elem (.field (Term.string "BanisterWord$Text" (82 + 2 * i)) "java/lang/String" "value" "[B") (.int (Int32.ofNat j))) (.int ((xbyt.getD i []).getD j 0)) ∈ flatC (Jvm.Cond.and given_1 narrow_1) := by decide +kernel
theorem fs_ne : ∀ i : Nat, i < 7 → ∀ j : Nat, j < 7 → i ≠ j → (Cond.not (Cond.eq (Term.string "BanisterWord$Text" (82 + 2 * i)) (Term.string "BanisterWord$Text" (82 + 2 * j))) ∈ flatC (Jvm.Cond.and given_1 narrow_1) ∨ Cond.not (Cond.eq (Term.string "BanisterWord$Text" (82 + 2 * j)) (Term.string "BanisterWord$Text" (82 + 2 * i))) ∈ flatC (Jvm.Cond.and given_1 narrow_1)) := by decide +kernel
theorem fs_ln : ∀ i : Nat, i < 7 → xlen.getD i 0 < 2 ^ 31 := by decide +kernel
theorem fs_z1 : Cond.eq (.static "java/lang/String" "COMPACT_STRINGS" "Z") (.int 1) ∈ flatC (Jvm.Cond.and given_1 narrow_1) := by decide +kernel
theorem fs_z2 : Cond.isRef (.static "jdk/internal/util/Preconditions" "SIOOBE_FORMATTER" "Ljava/util/function/BiFunction;") ∈ flatC (Jvm.Cond.and given_1 narrow_1) := by decide +kernel
theorem fs_nMaidGuest : Cond.not (.castable "BanisterWord$Maid" "BanisterWord$Guest") ∈ flatC (Jvm.Cond.and given_1 narrow_1) := by decide +kernel
theorem fs_nGuestChild : Cond.not (.castable "BanisterWord$Guest" "BanisterWord$Child") ∈ flatC (Jvm.Cond.and given_1 narrow_1) := by decide +kernel
theorem fs_nGlovedChild : Cond.not (.castable "BanisterWord$Gloved" "BanisterWord$Child") ∈ flatC (Jvm.Cond.and given_1 narrow_1) := by decide +kernel
theorem fs_nMaidChild : Cond.not (.castable "BanisterWord$Maid" "BanisterWord$Child") ∈ flatC (Jvm.Cond.and given_1 narrow_1) := by decide +kernel
theorem fs_nGuestGloved : Cond.not (.castable "BanisterWord$Guest" "BanisterWord$Gloved") ∈ flatC (Jvm.Cond.and given_1 narrow_1) := by decide +kernel
theorem fs_nChildGloved : Cond.not (.castable "BanisterWord$Child" "BanisterWord$Gloved") ∈ flatC (Jvm.Cond.and given_1 narrow_1) := by decide +kernel
theorem fs_nMaidGloved : Cond.not (.castable "BanisterWord$Maid" "BanisterWord$Gloved") ∈ flatC (Jvm.Cond.and given_1 narrow_1) := by decide +kernel
theorem fs_nGuestMaid : Cond.not (.castable "BanisterWord$Guest" "BanisterWord$Maid") ∈ flatC (Jvm.Cond.and given_1 narrow_1) := by decide +kernel
theorem fs_nChildMaid : Cond.not (.castable "BanisterWord$Child" "BanisterWord$Maid") ∈ flatC (Jvm.Cond.and given_1 narrow_1) := by decide +kernel
theorem fs_nGlovedMaid : Cond.not (.castable "BanisterWord$Gloved" "BanisterWord$Maid") ∈ flatC (Jvm.Cond.and given_1 narrow_1) := by decide +kernel
set_option maxHeartbeats 4000000 in
set_option maxRecDepth 100000 in
theorem xs_start {s : State} {b : Nat} (hts : ∀ w ∈ lw_tbl, w.before #[Value.ref b] s = true) (hgv : (Jvm.Cond.and given_1 narrow_1).before #[Value.ref b] s = true) : ∃ E : xE, E.1 = s.heap.size ∧ Xs E s := by
  have hs := flat_of_before _ hgv
  have htg : ∀ w ∈ tblG, w.before #[Value.ref b] s = true := fun w hw => hts w (List.mem_filter.mp hw).1
  obtain ⟨c0, i0, hK0⟩ := u_known (C := RX0) (T := TX0) (N := 1) (n := 1) htg ti_RX0 (htg _ tw_348)
  obtain ⟨c1, i1, hK1⟩ := u_known (C := RX1) (T := TX1) (N := 1) (n := 1) htg ti_RX1 (htg _ tw_356)
  obtain ⟨c2, i2, hK2⟩ := u_known (C := RX2) (T := TX2) (N := 1) (n := 1) htg ti_RX2 (htg _ tw_328)
  obtain ⟨c3, i3, hK3⟩ := u_known (C := RX3) (T := TX3) (N := 1) (n := 1) htg ti_RX3 (htg _ tw_364)
  obtain ⟨c4, i4, hK4⟩ := u_known (C := RX4) (T := TX4) (N := 3) (n := 3) htg ti_RX4 (htg _ tw_74)
  obtain ⟨c5, i5, hK5⟩ := u_known (C := RX5) (T := TX5) (N := 3) (n := 3) htg ti_RX5 (htg _ tw_95)
  obtain ⟨c6, i6, hK6⟩ := u_known (C := RX7) (T := TX7) (N := 2) (n := 2) htg ti_RX7 (htg _ tw_61)
  obtain ⟨c7, i7, hK7⟩ := u_known (C := RX8) (T := TX8) (N := 5) (n := 5) htg ti_RX8 (htg _ tw_115)
  obtain ⟨c8, i8, hK8⟩ := u_known (C := RX9) (T := TX9) (N := 7) (n := 7) htg ti_RX9 (htg _ tw_28)
  obtain ⟨c9, i9, hK9⟩ := u_known (C := RX10) (T := TX10) (N := 11) (n := 11) htg ti_RX10 (htg _ tw_20)
  obtain ⟨c10, i10, hK10⟩ := u_known (C := RX11) (T := TX11) (N := 16) (n := 16) htg ti_RX11 (htg _ tw_649)
  obtain ⟨a0, k0, p0, f0, g0, h0⟩ := Cond.arrayClass_spec (htg _ tw_57)
  obtain ⟨a1, k1, p1, f1, g1, h1⟩ := Cond.arrayClass_spec (htg _ tw_138)
  obtain ⟨p2, a2, k2, f2, -, g2, h2, e2⟩ := Cond.arrayOver_spec (hts _ tn_101)
  obtain ⟨p3, a3, k3, f3, -, g3, h3, e3⟩ := Cond.arrayOver_spec (hts _ tn_59)
  have hA : ∀ a : Nat, a < s.heap.size → ¬ (fun q : Nat => s.heap.size ≤ q) a := fun a h => Nat.not_le.mpr h
  obtain ⟨adK, adV, hS, hE⟩ := vk_Sof (args := #[Value.ref b]) (s := s) (N := 7) (tm := fun i => (Term.string "BanisterWord$Text" (82 + 2 * i))) (len := xlen) (byt := xbyt) (A := fun q : Nat => s.heap.size ≤ q) fs_ln (fun i hi => hs _ (fs_ex i hi)) (fun i hi => hs _ (fs_co i hi)) (fun i hi => hs _ (fs_ar i hi)) (fun i hi => hs _ (fs_le i hi)) (fun i hi j hj => hs _ (fs_el i hi j hj)) (fun i j hi hj hij => (fs_ne i hi j hj hij).imp (fun h => hs _ h) (fun h => hs _ h)) hA
  refine ⟨(s.heap.size, (fun k => [c0, c1, c2, c3, c4, c5, c6, c7, c8, c9, c10].getD k c0, fun k => [i0, i1, i2, i3, i4, i5, i6, i7, i8, i9, i10].getD k i0), fun k => [a0, a1, a2, a3].getD k a0, adK, adV), rfl, ⟨fun k q hq => ?_, fun k q hq => ?_⟩, ⟨va_Nw.of rfl (hts _ tn_102), va_Nw.of rfl (hts _ tn_80), va_Nw.of rfl (hts _ tn_116), va_Nw.of rfl (hts _ tn_75), va_Nw.of rfl (hts _ tn_62), va_Nw.of rfl (hts _ tn_29), va_Nw.of rfl (hts _ tn_395), va_Nw.of rfl (hts _ tn_440), va_Nw.of rfl (hts _ tn_499), va_Nw.of rfl (hts _ tn_917), va_Nw.of rfl (hts _ tn_918), va_Nw.of rfl (hts _ tn_916), va_Nw.of rfl (hts _ tn_919), va_Nw.of rfl (hts _ tn_914), va_Nw.of rfl (hts _ tn_915), va_Nc.of (hs _ fs_nMaidGuest), va_Nc.of (hs _ fs_nGuestChild), va_Nc.of (hs _ fs_nGlovedChild), va_Nc.of (hs _ fs_nMaidChild), va_Nc.of (hs _ fs_nGuestGloved), va_Nc.of (hs _ fs_nChildGloved), va_Nc.of (hs _ fs_nMaidGloved), va_Nc.of (hs _ fs_nGuestMaid), va_Nc.of (hs _ fs_nChildMaid), va_Nc.of (hs _ fs_nGlovedMaid), va_AO.of (hts _ tn_101), va_AO.of (hts _ tn_59)⟩, ⟨fun i hi => ?_, hS⟩, ?_, ?_⟩
  · match k, hq with
    | 0, hq => cases hq; exact hK0
    | 1, hq => cases hq; exact hK1
    | 2, hq => cases hq; exact hK2
    | 3, hq => cases hq; exact hK3
    | 4, hq => cases hq; exact hK4
    | 5, hq => cases hq; exact hK5
    | 6, hq => cases hq; exact hK6
    | 7, hq => cases hq; exact hK7
    | 8, hq => cases hq; exact hK8
    | 9, hq => cases hq; exact hK9
    | 10, hq => cases hq; exact hK10
    | k + 11, hq => simp [vwCl] at hq
  · match k, hq with
    | 0, hq => cases hq; exact ⟨fun n z => ⟨fun k h => (by cases h), k0, g0, p0, h0⟩, f0⟩
    | 1, hq => cases hq; exact ⟨fun n z => ⟨fun k h => (by cases h), k1, g1, p1, h1⟩, f1⟩
    | 2, hq => cases hq; exact ⟨fun n z => ⟨fun k h => (by cases h), k2, g2, p2, h2⟩, ⟨k2, p2, g2, h2, f2, e2⟩⟩
    | 3, hq => cases hq; exact ⟨fun n z => ⟨fun k h => (by cases h), k3, g3, p3, h3⟩, ⟨k3, p3, g3, h3, f3, e3⟩⟩
    | k + 4, hq => simp [xtys] at hq
  · refine vk_R.of (A := #[Value.ref b]) ?_ (hE i hi)
    rcases (show i = 0 ∨ i = 1 ∨ i = 2 ∨ i = 3 ∨ i = 4 ∨ i = 5 ∨ i = 6 by omega) with rfl | rfl | rfl | rfl | rfl | rfl | rfl
    · exact hts _ tn_208
    · exact hts _ tn_209
    · exact hts _ tn_210
    · exact hts _ tn_211
    · exact hts _ tn_212
    · exact hts _ tn_213
    · exact hts _ tn_214
  · exact va_Zof (hts _ tn_228) (htg _ tw_8) (va_eqi (hs _ fs_z1)) hA
  · exact va_Zqof (hts _ tn_244) (htg _ tw_10) (hs _ fs_z2) hA
