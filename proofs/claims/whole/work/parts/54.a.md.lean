theorem wd_t {L : Nat → Nat} {ln b e srt i : Nat} (h4 : srt = tkS L ln b) (h3 : e = tkE L ln b) (hi : i < 7) (h : wdB L srt b e i = true) : findW L b (sc (okL L) ln b) = some i ∧ e = sc (okL L) ln b := by
  obtain ⟨e1, e2⟩ := and_dt h
  have e3 : e = sc (okL L) ln b := by rw [h3]; unfold tkE; rw [← h4, e1]; rfl
  exact ⟨by rw [← e3]; exact find_some hi e2, e3⟩
theorem wd_n {L : Nat → Nat} {ln b e srt : Nat} (h4 : srt = tkS L ln b) (h3 : e = tkE L ln b) (h : ∀ i, i < 7 → wdB L srt b e i = false) : findW L b (sc (okL L) ln b) = none := by
  by_cases e1 : srt = 1
  · have e3 : e = sc (okL L) ln b := by rw [h3]; unfold tkE; rw [← h4, e1]; rfl
    rw [← e3]
    refine find_none (fun j hj => ?_)
    have h9 := h j hj
    unfold wdB at h9
    rw [decide_eq_true e1, Bool.true_and] at h9
    exact h9
  · refine find_nil ?_
    by_cases e2 : b < ln
    · cases hl : okL L b with
      | false => rw [sc_f hl]; exact Nat.le_refl _
      | true => exact absurd (h4.trans (tkS_1 e2 hl)) e1
    · rw [sc_ge (by omega)]; exact Nat.le_refl _
theorem wd_l {L : Nat → Nat} {ln b e srt : Nat} (h4 : srt = tkS L ln b) (h3 : e = tkE L ln b) : srt = 1 → ∀ j, b ≤ j → j < e → L j ≠ 0 := fun e1 j h1 h2 => by
  have e3 : e = sc (okL L) ln b := by rw [h3]; unfold tkE; rw [← h4, e1]; rfl
  rw [e3] at h2
  have h9 : 97 ≤ L j ∧ L j ≤ 122 := of_decide_eq_true (sc_ok h1 h2)
  omega
/-- behind readsClause -/
def Zrk (E : xE) (g : hG) (n M : Nat) (u : Nat → Nat) (B : Nat → Nat → Nat) (T : hsT) (p : Nat) : Option Value → hG → Nat → Prop := fun v g' n' => n' = n ∧ ∃ u2 : Nat → Nat, (u2 0 = u 0 ∧ u2 1 = u 1 ∧ u2 2 = u 2) ∧ ((∃ r, pcl (B 1) (u 0) T.1 T.2.1 p = .inl r ∧ v = some (.int 0) ∧ u2 5 = r ∧ g' = mG E g M u2 B) ∨ (∃ w a e, pcl (B 1) (u 0) T.1 T.2.1 p = .inr (w, a, e) ∧ v = some (.int 1) ∧ u2 3 = e ∧ g' = mG E g M u2 (va_up B 3 (tfl (cStep w a T)))))
theorem Zrd_v {E : xE} {g : hG} {n M : Nat} {u : Nat → Nat} {B : Nat → Nat → Nat} {T : hsT} {w : Nat} {v : Option Value} {g' : hG} {n' : Nat} (z : Zrd E g n M u B T w v g' n') : ∃ b : Bool, v = some (.int (bI b)) := by
  obtain ⟨-, u2, -, ⟨r, -, hv, -⟩ | ⟨a, e, -, hv, -⟩⟩ := z
  · exact ⟨false, hv⟩
  · exact ⟨true, hv⟩
theorem Zrp_v {E : xE} {g : hG} {n M : Nat} {u : Nat → Nat} {B : Nat → Nat → Nat} {T : hsT} {w : Nat} {v : Option Value} {g' : hG} {n' : Nat} (z : Zrp E g n M u B T w v g' n') : ∃ b : Bool, v = some (.int (bI b)) := by
  rcases z with ⟨-, hv, -⟩ | ⟨-, z⟩
  · exact ⟨false, hv⟩
  · exact Zrd_v z
theorem Zrk_d {E : xE} {g : hG} {n M : Nat} {u : Nat → Nat} {B : Nat → Nat → Nat} {T : hsT} {w p : Nat} {v : Option Value} {g' : hG} {n' : Nat} (hb : u 5 = sc (okB (B 1)) (u 0) p) (hf : findW (B 1) (u 5) (sc (okL (B 1)) (u 0) (u 5)) = some w ∧ u 3 = sc (okL (B 1)) (u 0) (u 5)) (hw : ¬ (w ≤ 3 ∧ 6 ≤ T.2.1)) (z : Zrd E g n M u B T w v g' n') : Zrk E g n M u B T p v g' n' := by
  obtain ⟨hn, u2, hu, ⟨r, hR, hv, q5, hg⟩ | ⟨a, e, hR, hv, q3, hg⟩⟩ := z
  · rw [hf.2, hb] at hR
    rw [hb] at hf
    exact ⟨hn, u2, hu, Or.inl ⟨r, pcl_l hf.1 hw hR, hv, q5, hg⟩⟩
  · rw [hf.2, hb] at hR
    rw [hb] at hf
    exact ⟨hn, u2, hu, Or.inr ⟨w, a, e, pcl_r hf.1 hw hR, hv, q3, hg⟩⟩
theorem Zrk_p {E : xE} {g : hG} {n M : Nat} {u : Nat → Nat} {B : Nat → Nat → Nat} {T : hsT} {w p : Nat} {v : Option Value} {g' : hG} {n' : Nat} (hb : u 5 = sc (okB (B 1)) (u 0) p) (hf : findW (B 1) (u 5) (sc (okL (B 1)) (u 0) (u 5)) = some w ∧ u 3 = sc (okL (B 1)) (u 0) (u 5)) (hw : w ≤ 3) (z : Zrp E g n M u B T w v g' n') : Zrk E g n M u B T p v g' n' := by
  rcases z with ⟨h6, hv, hg, hn⟩ | ⟨h6, z⟩
  · rw [hb] at hf
    exact ⟨hn, u, ⟨rfl, rfl, rfl⟩, Or.inl ⟨_, pcl_full hf.1 ⟨hw, by omega⟩, hv, hb, hg⟩⟩
  · exact Zrk_d hb hf (by omega) z

set_option maxHeartbeats 4000000 in
set_option maxRecDepth 100000 in
/-- BanisterWordModel.readsClause  -/
theorem c_X11_readsClause (l : Launch) (E : xE) (g : hG) (n : Nat) (M : Nat) (u : Nat → Nat) (B : Nat → Nat → Nat) (T : hsT) (p : Nat) (h5 : u 0 ≤ 160) (hL : ∀ j, B 1 j ≤ 255) (hD : B 3 = tfl T) (h02 : 2 ≤ T.1) (h0 : T.1 ≤ 12) (hp : T.2.1 ≤ 6) (hpp : p ≤ u 0) (hb : u 5 = sc (okB (B 1)) (u 0) p) (h4 : u 4 = tkS (B 1) (u 0) (u 5)) (h3 : u 3 = tkE (B 1) (u 0) (u 5)) : Ct l yX11_readsClause cX11_readsClause 1 (some .boolean) 5 107 0 0 E [.ref M] (mG E g M u B) n (Zrk E g n M u B T p) := by
  refine Ct.of (by decide +kernel) (Nat.le_of_ble_eq_true rfl) (fun v hv => by simp only [List.mem_cons, List.not_mem_nil, or_false] at hv; (try rcases hv with rfl) <;> first | rfl | (subst hv; rfl) | exact hv.elim) ?_
  intro K hKl S
  subst hKl
  have X := S.1
  have hb0 : u 5 ≤ u 0 := by rw [hb]; exact sc_hi hpp
  have h30 : u 3 ≤ u 0 := by rw [h3]; exact tkE_le hb0
  have h53 : u 5 ≤ u 3 := by rw [h3]; exact tkE_ge
  have h43 : u 4 ≤ 3 := by rw [h4]; exact tkS_le _ _ _
  have hl := wd_l h4 h3
  refine r_aload_n X dX11_readsClause_0 rfl ?_
  refine r_bipush (v := nI 115) X dX11_readsClause_1 (by decide) ?_
  refine r_bipush (v := nI 116) X dX11_readsClause_3 (by decide) ?_
  refine r_bipush (v := nI 97) X dX11_readsClause_5 (by decide) ?_
  refine r_bipush (v := nI 105) X dX11_readsClause_7 (by decide) ?_
  refine r_bipush (v := nI 114) X dX11_readsClause_9 (by decide) ?_
  refine r_iconst (v := nI 0) X dX11_readsClause_11 (by decide) ?_
  refine r_callV (ci := 10) X rfl (c_X11_isWord _ E g n M u B 4 (by decide) (by omega) h53 h43 hL hl) tw_744 tw_746 tp_22 tw_7 tw_747 rfl rfl (by first | exact m0 | exact m1 | exact m2 | exact m3 | exact m4 | exact m5 | exact m6 | exact m7 | exact m8 | exact m9 | assumption) rfl ⟨ok_X11_isWord, ⟨Nat.le_of_ble_eq_true rfl, Nat.le_of_ble_eq_true rfl⟩, ⟨Nat.le_of_ble_eq_true rfl, Nat.le_of_ble_eq_true rfl⟩, Nat.le_of_ble_eq_true rfl⟩ dX11_readsClause_12 (kk_r (Wf := Wg K E _ _ _ _) ?_)
  refine r_if_eqB X 23 dX11_readsClause_15 (by decide) (fun c_15 => ?_) (fun c_15 => ?_)
  · skip
    refine r_aload_n X dX11_readsClause_23 rfl ?_
    refine r_bipush (v := nI 103) X dX11_readsClause_24 (by decide) ?_
    refine r_bipush (v := nI 117) X dX11_readsClause_26 (by decide) ?_
    refine r_bipush (v := nI 101) X dX11_readsClause_28 (by decide) ?_
    refine r_bipush (v := nI 115) X dX11_readsClause_30 (by decide) ?_
    refine r_bipush (v := nI 116) X dX11_readsClause_32 (by decide) ?_
    refine r_iconst (v := nI 0) X dX11_readsClause_34 (by decide) ?_
    refine r_callV (ci := 10) X rfl (c_X11_isWord _ E g n M u B 0 (by decide) (by omega) h53 h43 hL hl) tw_744 tw_746 tp_22 tw_7 tw_747 rfl rfl (by first | exact m0 | exact m1 | exact m2 | exact m3 | exact m4 | exact m5 | exact m6 | exact m7 | exact m8 | exact m9 | assumption) rfl ⟨ok_X11_isWord, ⟨Nat.le_of_ble_eq_true rfl, Nat.le_of_ble_eq_true rfl⟩, ⟨Nat.le_of_ble_eq_true rfl, Nat.le_of_ble_eq_true rfl⟩, Nat.le_of_ble_eq_true rfl⟩ dX11_readsClause_35 (kk_r (Wf := Wg K E _ _ _ _) ?_)
    refine r_if_eqB X 47 dX11_readsClause_38 (by decide) (fun c_38 => ?_) (fun c_38 => ?_)
    · skip
      refine r_aload_n X dX11_readsClause_47 rfl ?_
      refine r_bipush (v := nI 99) X dX11_readsClause_48 (by decide) ?_
      refine r_bipush (v := nI 104) X dX11_readsClause_50 (by decide) ?_
      refine r_bipush (v := nI 105) X dX11_readsClause_52 (by decide) ?_
      refine r_bipush (v := nI 108) X dX11_readsClause_54 (by decide) ?_
      refine r_bipush (v := nI 100) X dX11_readsClause_56 (by decide) ?_
      refine r_iconst (v := nI 0) X dX11_readsClause_58 (by decide) ?_
      refine r_callV (ci := 10) X rfl (c_X11_isWord _ E g n M u B 1 (by decide) (by omega) h53 h43 hL hl) tw_744 tw_746 tp_22 tw_7 tw_747 rfl rfl (by first | exact m0 | exact m1 | exact m2 | exact m3 | exact m4 | exact m5 | exact m6 | exact m7 | exact m8 | exact m9 | assumption) rfl ⟨ok_X11_isWord, ⟨Nat.le_of_ble_eq_true rfl, Nat.le_of_ble_eq_true rfl⟩, ⟨Nat.le_of_ble_eq_true rfl, Nat.le_of_ble_eq_true rfl⟩, Nat.le_of_ble_eq_true rfl⟩ dX11_readsClause_59 (kk_r (Wf := Wg K E _ _ _ _) ?_)
      refine r_if_eqB X 71 dX11_readsClause_62 (by decide) (fun c_62 => ?_) (fun c_62 => ?_)
      · skip
        refine r_aload_n X dX11_readsClause_71 rfl ?_
        refine r_bipush (v := nI 103) X dX11_readsClause_72 (by decide) ?_
        refine r_bipush (v := nI 108) X dX11_readsClause_74 (by decide) ?_
        refine r_bipush (v := nI 111) X dX11_readsClause_76 (by decide) ?_
        refine r_bipush (v := nI 118) X dX11_readsClause_78 (by decide) ?_
        refine r_bipush (v := nI 101) X dX11_readsClause_80 (by decide) ?_
        refine r_bipush (v := nI 100) X dX11_readsClause_82 (by decide) ?_
        refine r_callV (ci := 10) X rfl (c_X11_isWord _ E g n M u B 2 (by decide) (by omega) h53 h43 hL hl) tw_744 tw_746 tp_22 tw_7 tw_747 rfl rfl (by first | exact m0 | exact m1 | exact m2 | exact m3 | exact m4 | exact m5 | exact m6 | exact m7 | exact m8 | exact m9 | assumption) rfl ⟨ok_X11_isWord, ⟨Nat.le_of_ble_eq_true rfl, Nat.le_of_ble_eq_true rfl⟩, ⟨Nat.le_of_ble_eq_true rfl, Nat.le_of_ble_eq_true rfl⟩, Nat.le_of_ble_eq_true rfl⟩ dX11_readsClause_84 (kk_r (Wf := Wg K E _ _ _ _) ?_)
        refine r_if_eqB X 96 dX11_readsClause_87 (by decide) (fun c_87 => ?_) (fun c_87 => ?_)
        · skip
          refine r_aload_n X dX11_readsClause_96 rfl ?_
          refine r_bipush (v := nI 109) X dX11_readsClause_97 (by decide) ?_
          refine r_bipush (v := nI 97) X dX11_readsClause_99 (by decide) ?_
          refine r_bipush (v := nI 105) X dX11_readsClause_101 (by decide) ?_
          refine r_bipush (v := nI 100) X dX11_readsClause_103 (by decide) ?_
          refine r_iconst (v := nI 0) X dX11_readsClause_105 (by decide) ?_
          refine r_iconst (v := nI 0) X dX11_readsClause_106 (by decide) ?_
          refine r_callV (ci := 10) X rfl (c_X11_isWord _ E g n M u B 3 (by decide) (by omega) h53 h43 hL hl) tw_744 tw_746 tp_22 tw_7 tw_747 rfl rfl (by first | exact m0 | exact m1 | exact m2 | exact m3 | exact m4 | exact m5 | exact m6 | exact m7 | exact m8 | exact m9 | assumption) rfl ⟨ok_X11_isWord, ⟨Nat.le_of_ble_eq_true rfl, Nat.le_of_ble_eq_true rfl⟩, ⟨Nat.le_of_ble_eq_true rfl, Nat.le_of_ble_eq_true rfl⟩, Nat.le_of_ble_eq_true rfl⟩ dX11_readsClause_107 (kk_r (Wf := Wg K E _ _ _ _) ?_)
          refine r_if_eqB X 119 dX11_readsClause_110 (by decide) (fun c_110 => ?_) (fun c_110 => ?_)
          · skip
            refine r_aload_n X dX11_readsClause_119 rfl ?_
            refine r_bipush (v := nI 119) X dX11_readsClause_120 (by decide) ?_
            refine r_bipush (v := nI 111) X dX11_readsClause_122 (by decide) ?_
            refine r_bipush (v := nI 114) X dX11_readsClause_124 (by decide) ?_
            refine r_bipush (v := nI 100) X dX11_readsClause_126 (by decide) ?_
            refine r_iconst (v := nI 0) X dX11_readsClause_128 (by decide) ?_
            refine r_iconst (v := nI 0) X dX11_readsClause_129 (by decide) ?_
            refine r_callV (ci := 10) X rfl (c_X11_isWord _ E g n M u B 5 (by decide) (by omega) h53 h43 hL hl) tw_744 tw_746 tp_22 tw_7 tw_747 rfl rfl (by first | exact m0 | exact m1 | exact m2 | exact m3 | exact m4 | exact m5 | exact m6 | exact m7 | exact m8 | exact m9 | assumption) rfl ⟨ok_X11_isWord, ⟨Nat.le_of_ble_eq_true rfl, Nat.le_of_ble_eq_true rfl⟩, ⟨Nat.le_of_ble_eq_true rfl, Nat.le_of_ble_eq_true rfl⟩, Nat.le_of_ble_eq_true rfl⟩ dX11_readsClause_130 (kk_r (Wf := Wg K E _ _ _ _) ?_)
            refine r_if_eqB X 141 dX11_readsClause_133 (by decide) (fun c_133 => ?_) (fun c_133 => ?_)
            · skip
              refine r_aload_n X dX11_readsClause_141 rfl ?_
              refine r_bipush (v := nI 99) X dX11_readsClause_142 (by decide) ?_
              refine r_bipush (v := nI 108) X dX11_readsClause_144 (by decide) ?_
              refine r_bipush (v := nI 101) X dX11_readsClause_146 (by decide) ?_
              refine r_bipush (v := nI 97) X dX11_readsClause_148 (by decide) ?_
              refine r_bipush (v := nI 110) X dX11_readsClause_150 (by decide) ?_
              refine r_iconst (v := nI 0) X dX11_readsClause_152 (by decide) ?_
              refine r_callV (ci := 10) X rfl (c_X11_isWord _ E g n M u B 6 (by decide) (by omega) h53 h43 hL hl) tw_744 tw_746 tp_22 tw_7 tw_747 rfl rfl (by first | exact m0 | exact m1 | exact m2 | exact m3 | exact m4 | exact m5 | exact m6 | exact m7 | exact m8 | exact m9 | assumption) rfl ⟨ok_X11_isWord, ⟨Nat.le_of_ble_eq_true rfl, Nat.le_of_ble_eq_true rfl⟩, ⟨Nat.le_of_ble_eq_true rfl, Nat.le_of_ble_eq_true rfl⟩, Nat.le_of_ble_eq_true rfl⟩ dX11_readsClause_153 (kk_r (Wf := Wg K E _ _ _ _) ?_)
              refine r_if_eqB X 165 dX11_readsClause_156 (by decide) (fun c_156 => ?_) (fun c_156 => ?_)
              · skip
                refine r_iconst (v := nI 0) X dX11_readsClause_165 (by decide) ?_
                refine r_zret S dX11_readsClause_166 (by first | rfl | exact bI_nar _) ?_
                have hall : ∀ i, i < 7 → wdB (B 1) (u 4) (u 5) (u 3) i = false := fun i hi => by
                  rcases (show i = 0 ∨ i = 1 ∨ i = 2 ∨ i = 3 ∨ i = 4 ∨ i = 5 ∨ i = 6 by omega) with rfl | rfl | rfl | rfl | rfl | rfl | rfl <;> assumption
                exact ⟨rfl, u, ⟨rfl, rfl, rfl⟩, Or.inl ⟨_, pcl_none (by rw [← hb]; exact wd_n h4 h3 hall), rfl, hb, rfl⟩⟩
              · skip
                refine r_aload_n X dX11_readsClause_159 rfl ?_
                refine r_callV (ci := 10) X rfl (c_X11_cleans _ E g n M u B) tw_756 tw_758 tp_25 tw_7 tw_759 rfl rfl (by first | exact m0 | exact m1 | exact m2 | exact m3 | exact m4 | exact m5 | exact m6 | exact m7 | exact m8 | exact m9 | assumption) rfl ⟨ok_X11_cleans, ⟨Nat.le_of_ble_eq_true rfl, Nat.le_of_ble_eq_true rfl⟩, ⟨Nat.le_of_ble_eq_true rfl, Nat.le_of_ble_eq_true rfl⟩, Nat.le_of_ble_eq_true rfl⟩ dX11_readsClause_160 (kk_v (Wf := Wg K E _ _ _ _) ?_)
                refine r_iconst (v := nI 1) X dX11_readsClause_163 (by decide) ?_
                refine r_zret S dX11_readsClause_164 (by first | rfl | exact bI_nar _) ?_
                have hf := (wd_t h4 h3 (by decide) c_156)
                refine ⟨rfl, u, ⟨rfl, rfl, rfl⟩, Or.inr ⟨6, _, _, pcl_r (by rw [← hb]; exact hf.1) (by omega) rfl, rfl, by rw [← hb]; exact hf.2, ?_⟩⟩
                refine mc3 (fun j hj => ?_)
                show (if j < 14 then B 3 j else 0) = tfl (T.1, T.2.1, T.2.2.1, T.2.2.2.1, fun _ => 0, fun _ => 0) j
                rw [hD]
                simp only [tfl]
                (repeat' split) <;> first | rfl | omega
            · skip
              refine r_aload_n X dX11_readsClause_136 rfl ?_
              refine r_callV (ci := 10) X rfl (c_X11_readsSaying _ E g n M u B T h5 h30 hL hD h02 h0) tw_764 tw_766 tp_27 tw_7 tw_767 rfl rfl (by first | exact m0 | exact m1 | exact m2 | exact m3 | exact m4 | exact m5 | exact m6 | exact m7 | exact m8 | exact m9 | assumption) rfl ⟨ok_X11_readsSaying, ⟨Nat.le_of_ble_eq_true rfl, Nat.le_of_ble_eq_true rfl⟩, ⟨Nat.le_of_ble_eq_true rfl, Nat.le_of_ble_eq_true rfl⟩, Nat.le_of_ble_eq_true rfl⟩ dX11_readsClause_137 (fun v_137 g_137 n_137 z_137 => ?_)
              have z9 := z_137
              obtain ⟨b9, rfl⟩ := Zrd_v z_137
              refine r_zret S dX11_readsClause_140 (by first | rfl | exact bI_nar _) ?_
              exact Zrk_d hb (wd_t h4 h3 (by decide) c_133) (by omega) z9
          · skip
            refine r_aload_n X dX11_readsClause_113 rfl ?_
            refine r_iconst (v := nI 3) X dX11_readsClause_114 (by decide) ?_
            refine r_callV (ci := 10) X rfl (c_X11_readsPerson _ E g n M u B T 3 h5 h30 hL hD (by decide) hp) tw_760 tw_762 tp_26 tw_7 tw_763 rfl rfl (by first | exact m0 | exact m1 | exact m2 | exact m3 | exact m4 | exact m5 | exact m6 | exact m7 | exact m8 | exact m9 | assumption) rfl ⟨ok_X11_readsPerson, ⟨Nat.le_of_ble_eq_true rfl, Nat.le_of_ble_eq_true rfl⟩, ⟨Nat.le_of_ble_eq_true rfl, Nat.le_of_ble_eq_true rfl⟩, Nat.le_of_ble_eq_true rfl⟩ dX11_readsClause_115 (fun v_115 g_115 n_115 z_115 => ?_)
            have z9 := z_115
            obtain ⟨b9, rfl⟩ := Zrp_v z_115
            refine r_zret S dX11_readsClause_118 (by first | rfl | exact bI_nar _) ?_
            exact Zrk_p hb (wd_t h4 h3 (by decide) c_110) (by decide) z9
        · skip
          refine r_aload_n X dX11_readsClause_90 rfl ?_
          refine r_iconst (v := nI 2) X dX11_readsClause_91 (by decide) ?_
          refine r_callV (ci := 10) X rfl (c_X11_readsPerson _ E g n M u B T 2 h5 h30 hL hD (by decide) hp) tw_760 tw_762 tp_26 tw_7 tw_763 rfl rfl (by first | exact m0 | exact m1 | exact m2 | exact m3 | exact m4 | exact m5 | exact m6 | exact m7 | exact m8 | exact m9 | assumption) rfl ⟨ok_X11_readsPerson, ⟨Nat.le_of_ble_eq_true rfl, Nat.le_of_ble_eq_true rfl⟩, ⟨Nat.le_of_ble_eq_true rfl, Nat.le_of_ble_eq_true rfl⟩, Nat.le_of_ble_eq_true rfl⟩ dX11_readsClause_92 (fun v_92 g_92 n_92 z_92 => ?_)
          have z9 := z_92
          obtain ⟨b9, rfl⟩ := Zrp_v z_92
          refine r_zret S dX11_readsClause_95 (by first | rfl | exact bI_nar _) ?_
          exact Zrk_p hb (wd_t h4 h3 (by decide) c_87) (by decide) z9
      · skip
        refine r_aload_n X dX11_readsClause_65 rfl ?_
        refine r_iconst (v := nI 1) X dX11_readsClause_66 (by decide) ?_
        refine r_callV (ci := 10) X rfl (c_X11_readsPerson _ E g n M u B T 1 h5 h30 hL hD (by decide) hp) tw_760 tw_762 tp_26 tw_7 tw_763 rfl rfl (by first | exact m0 | exact m1 | exact m2 | exact m3 | exact m4 | exact m5 | exact m6 | exact m7 | exact m8 | exact m9 | assumption) rfl ⟨ok_X11_readsPerson, ⟨Nat.le_of_ble_eq_true rfl, Nat.le_of_ble_eq_true rfl⟩, ⟨Nat.le_of_ble_eq_true rfl, Nat.le_of_ble_eq_true rfl⟩, Nat.le_of_ble_eq_true rfl⟩ dX11_readsClause_67 (fun v_67 g_67 n_67 z_67 => ?_)
        have z9 := z_67
        obtain ⟨b9, rfl⟩ := Zrp_v z_67
        refine r_zret S dX11_readsClause_70 (by first | rfl | exact bI_nar _) ?_
        exact Zrk_p hb (wd_t h4 h3 (by decide) c_62) (by decide) z9
    · skip
      refine r_aload_n X dX11_readsClause_41 rfl ?_
      refine r_iconst (v := nI 0) X dX11_readsClause_42 (by decide) ?_
      refine r_callV (ci := 10) X rfl (c_X11_readsPerson _ E g n M u B T 0 h5 h30 hL hD (by decide) hp) tw_760 tw_762 tp_26 tw_7 tw_763 rfl rfl (by first | exact m0 | exact m1 | exact m2 | exact m3 | exact m4 | exact m5 | exact m6 | exact m7 | exact m8 | exact m9 | assumption) rfl ⟨ok_X11_readsPerson, ⟨Nat.le_of_ble_eq_true rfl, Nat.le_of_ble_eq_true rfl⟩, ⟨Nat.le_of_ble_eq_true rfl, Nat.le_of_ble_eq_true rfl⟩, Nat.le_of_ble_eq_true rfl⟩ dX11_readsClause_43 (fun v_43 g_43 n_43 z_43 => ?_)
      have z9 := z_43
      obtain ⟨b9, rfl⟩ := Zrp_v z_43
      refine r_zret S dX11_readsClause_46 (by first | rfl | exact bI_nar _) ?_
      exact Zrk_p hb (wd_t h4 h3 (by decide) c_38) (by decide) z9
  · skip
    refine r_aload_n X dX11_readsClause_18 rfl ?_
    refine r_callV (ci := 10) X rfl (c_X11_readsStair _ E g n M u B T h5 h30 hL hD) tw_748 tw_750 tp_23 tw_7 tw_751 rfl rfl (by first | exact m0 | exact m1 | exact m2 | exact m3 | exact m4 | exact m5 | exact m6 | exact m7 | exact m8 | exact m9 | assumption) rfl ⟨ok_X11_readsStair, ⟨Nat.le_of_ble_eq_true rfl, Nat.le_of_ble_eq_true rfl⟩, ⟨Nat.le_of_ble_eq_true rfl, Nat.le_of_ble_eq_true rfl⟩, Nat.le_of_ble_eq_true rfl⟩ dX11_readsClause_19 (fun v_19 g_19 n_19 z_19 => ?_)
    have z9 := z_19
    obtain ⟨b9, rfl⟩ := Zrd_v z_19
    refine r_zret S dX11_readsClause_22 (by first | rfl | exact bI_nar _) ?_
    exact Zrk_d hb (wd_t h4 h3 (by decide) c_15) (by omega) z9

