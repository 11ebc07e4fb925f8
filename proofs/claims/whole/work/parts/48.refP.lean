theorem cw_tn_0 {r : Int32} (h : cw_md r 16 = 0) : cw_tl r = 111 ∧ cw_ta r = 1 + cw_md (r / 16) 9 ∧ cw_tb r = cw_md (r / 16 / 8) 20 ∧ cw_tc r = cw_md (r / 16 / 256) 20 := by
  exact ⟨by unfold cw_tl; simp only [h]; simp, by unfold cw_ta; simp only [h]; simp, by unfold cw_tb; simp only [h]; simp, by unfold cw_tc; simp only [h]; simp⟩
theorem cw_tn_1 {r : Int32} (h : cw_md r 16 = 1) : cw_tl r = 107 ∧ cw_ta r = cw_md (r / 16) 20 ∧ cw_tb r = 1 + cw_md (r / 16 / 32) 9 ∧ cw_tc r = cw_md (r / 16 / 256) 20 := by
  exact ⟨by unfold cw_tl; simp only [h]; simp, by unfold cw_ta; simp only [h]; simp, by unfold cw_tb; simp only [h]; simp, by unfold cw_tc; simp only [h]; simp⟩
theorem cw_tn_2 {r : Int32} (h : cw_md r 16 = 2) : cw_tl r = 115 ∧ cw_ta r = cw_md (r / 16) 20 ∧ cw_tb r = cw_md (r / 16 / 32) 2 ∧ cw_tc r = cw_md (r / 16 / 256) 20 := by
  exact ⟨by unfold cw_tl; simp only [h]; simp, by unfold cw_ta; simp only [h]; simp, by unfold cw_tb; simp only [h]; simp, by unfold cw_tc; simp only [h]; simp⟩
theorem cw_tn_9 {r : Int32} (h : cw_md r 16 = 9) : cw_tl r = 101 ∧ cw_ta r = cw_md (r / 16) 6 ∧ cw_tb r = cw_md (r / 16 / 8) 20 ∧ cw_tc r = cw_md (r / 16 / 256) 20 := by
  exact ⟨by unfold cw_tl; simp only [h]; simp, by unfold cw_ta; simp only [h]; simp, by unfold cw_tb; simp only [h]; simp, by unfold cw_tc; simp only [h]; simp⟩
theorem cw_tn_10 {r : Int32} (h : cw_md r 16 = 10) : cw_tl r = 114 ∧ cw_ta r = cw_md (r / 16) 6 ∧ cw_tb r = cw_md (r / 16 / 8) 20 ∧ cw_tc r = cw_md (r / 16 / 256) 20 := by
  exact ⟨by unfold cw_tl; simp only [h]; simp, by unfold cw_ta; simp only [h]; simp, by unfold cw_tb; simp only [h]; simp, by unfold cw_tc; simp only [h]; simp⟩
theorem cw_tn_11 {r : Int32} (h : cw_md r 16 = 11) : cw_tl r = 102 ∧ cw_ta r = cw_md (r / 16) 6 ∧ cw_tb r = cw_md (r / 16 / 8) 20 ∧ cw_tc r = cw_md (r / 16 / 256) 20 := by
  exact ⟨by unfold cw_tl; simp only [h]; simp, by unfold cw_ta; simp only [h]; simp, by unfold cw_tb; simp only [h]; simp, by unfold cw_tc; simp only [h]; simp⟩
theorem cw_tn_12 {r : Int32} (h : cw_md r 16 = 12) : cw_tl r = 102 ∧ cw_ta r = cw_md (r / 16) 6 ∧ cw_tb r = cw_md (r / 16 / 8) 20 ∧ cw_tc r = cw_md (r / 16 / 256) 20 := by
  exact ⟨by unfold cw_tl; simp only [h]; simp, by unfold cw_ta; simp only [h]; simp, by unfold cw_tb; simp only [h]; simp, by unfold cw_tc; simp only [h]; simp⟩
theorem cw_tn_13 {r : Int32} (h : cw_md r 16 = 13) : cw_tl r = 97 ∧ cw_ta r = cw_md (r / 16) 8 ∧ cw_tb r = cw_md (r / 16 / 8) 20 ∧ cw_tc r = cw_md (r / 16 / 256) 20 := by
  exact ⟨by unfold cw_tl; simp only [h]; simp, by unfold cw_ta; simp only [h]; simp, by unfold cw_tb; simp only [h]; simp, by unfold cw_tc; simp only [h]; simp⟩
theorem cw_tn_14 {r : Int32} (h : cw_md r 16 = 14) : cw_tl r = 117 ∧ cw_ta r = 1 + cw_md (r / 16) 999 ∧ cw_tb r = cw_md (r / 16 / 8) 20 ∧ cw_tc r = cw_md (r / 16 / 256) 20 := by
  exact ⟨by unfold cw_tl; simp only [h]; simp, by unfold cw_ta; simp only [h]; simp, by unfold cw_tb; simp only [h]; simp, by unfold cw_tc; simp only [h]; simp⟩
theorem cw_tn_d {r : Int32} (h : (cw_md r 16).toInt < 0 ∨ 14 < (cw_md r 16).toInt) : cw_tl r = 121 ∧ cw_ta r = cw_md (r / 16) 6 ∧ cw_tb r = cw_md (r / 16 / 8) 20 ∧ cw_tc r = cw_md (r / 16 / 256) 20 := by
  have e : ∀ v : Int32, 0 ≤ v.toInt → v.toInt ≤ 14 → ¬ cw_md r 16 = v := fun v h1 h2 q => by rw [q] at h; omega
  have n0 := e 0 (by decide) (by decide)
  have n1 := e 1 (by decide) (by decide)
  have n2 := e 2 (by decide) (by decide)
  have n3 := e 3 (by decide) (by decide)
  have n4 := e 4 (by decide) (by decide)
  have n5 := e 5 (by decide) (by decide)
  have n6 := e 6 (by decide) (by decide)
  have n7 := e 7 (by decide) (by decide)
  have n8 := e 8 (by decide) (by decide)
  have n9 := e 9 (by decide) (by decide)
  have n10 := e 10 (by decide) (by decide)
  have n11 := e 11 (by decide) (by decide)
  have n12 := e 12 (by decide) (by decide)
  have n13 := e 13 (by decide) (by decide)
  have n14 := e 14 (by decide) (by decide)
  exact ⟨by unfold cw_tl; simp [n0, n1, n2, n3, n4, n5, n6, n7, n8, n9, n10, n11, n12, n13, n14], by unfold cw_ta; simp [n0, n1, n2, n3, n4, n5, n6, n7, n8, n9, n10, n11, n12, n13, n14], by unfold cw_tb; simp [n0, n1, n2, n3, n4, n5, n6, n7, n8, n9, n10, n11, n12, n13, n14], by unfold cw_tc; simp [n0, n1, n2, n3, n4, n5, n6, n7, n8, n9, n10, n11, n12, n13, n14]⟩
theorem cw_tn_3 {r : Int32} (h : cw_md r 16 = 3) : cw_tl r = 116 ∧ cw_ta r = cw_md (r / 16) 6 ∧ cw_tb r = cw_md (r / 16 / 8) 20 ∧ cw_tc r = cw_md (r / 16 / 256) 20 := by
  exact ⟨by unfold cw_tl; simp only [h]; simp, by unfold cw_ta; simp only [h]; simp, by unfold cw_tb; simp only [h]; simp, by unfold cw_tc; simp only [h]; simp⟩
theorem cw_tn_4 {r : Int32} (h : cw_md r 16 = 4) : cw_tl r = 116 ∧ cw_ta r = cw_md (r / 16) 6 ∧ cw_tb r = cw_md (r / 16 / 8) 20 ∧ cw_tc r = cw_md (r / 16 / 256) 20 := by
  exact ⟨by unfold cw_tl; simp only [h]; simp, by unfold cw_ta; simp only [h]; simp, by unfold cw_tb; simp only [h]; simp, by unfold cw_tc; simp only [h]; simp⟩
theorem cw_tn_5 {r : Int32} (h : cw_md r 16 = 5) : cw_tl r = 116 ∧ cw_ta r = cw_md (r / 16) 6 ∧ cw_tb r = cw_md (r / 16 / 8) 20 ∧ cw_tc r = cw_md (r / 16 / 256) 20 := by
  exact ⟨by unfold cw_tl; simp only [h]; simp, by unfold cw_ta; simp only [h]; simp, by unfold cw_tb; simp only [h]; simp, by unfold cw_tc; simp only [h]; simp⟩
theorem cw_tn_6 {r : Int32} (h : cw_md r 16 = 6) : cw_tl r = 116 ∧ cw_ta r = cw_md (r / 16) 6 ∧ cw_tb r = cw_md (r / 16 / 8) 20 ∧ cw_tc r = cw_md (r / 16 / 256) 20 := by
  exact ⟨by unfold cw_tl; simp only [h]; simp, by unfold cw_ta; simp only [h]; simp, by unfold cw_tb; simp only [h]; simp, by unfold cw_tc; simp only [h]; simp⟩
theorem cw_tn_7 {r : Int32} (h : cw_md r 16 = 7) : cw_tl r = 98 ∧ cw_ta r = cw_md (r / 16) 6 ∧ cw_tb r = cw_md (r / 16 / 8) 20 ∧ cw_tc r = cw_md (r / 16 / 256) 21 := by
  exact ⟨by unfold cw_tl; simp only [h]; simp, by unfold cw_ta; simp only [h]; simp, by unfold cw_tb; simp only [h]; simp, by unfold cw_tc; simp only [h]; simp⟩
theorem cw_tn_8 {r : Int32} (h : cw_md r 16 = 8) : cw_tl r = 98 ∧ cw_ta r = cw_md (r / 16) 6 ∧ cw_tb r = cw_md (r / 16 / 8) 20 ∧ cw_tc r = cw_md (r / 16 / 256) 21 := by
  exact ⟨by unfold cw_tl; simp only [h]; simp, by unfold cw_ta; simp only [h]; simp, by unfold cw_tb; simp only [h]; simp, by unfold cw_tc; simp only [h]; simp⟩
set_option maxHeartbeats 8000000 in
set_option maxRecDepth 100000 in
theorem ok_X7_turns (r : Int32) (hr : 0 ≤ r.toInt) (u : cw_s) {n m : Nat} (hI : cw_I n m u) (hB : cw_B n (m + 20)) : gw_Ok yX7_turns cX7_turns 3 (some .int) sM 7 [.ref 0, .int r] (fun w => cw_nf (w 1) = cw_nf u) (fun w vr w1 => vr = some (.int (cw_does u (cw_tl r) (cw_ta r) (cw_tb r) (cw_tc r)).1) ∧ cw_nf (w1 1) = cw_nf (cw_turn u r) ∧ (∀ q, q ≠ 0 → q ≠ 1 → w1 q = w q) ∧ ∀ k, (k < 9 ∨ 12 < k) → w1 0 k = w 0 k) := by
  refine gw_of (by decide) (Nat.le_of_ble_eq_true rfl) ?_
  intro X w h C F
  refine g_iload_n C rfl dX7_turns_0 ?_
  refine g_bipush (v := 16) C (by decide) dX7_turns_1 ?_
  refine g_idiv C (by decide) dX7_turns_3 ?_
  refine g_istore_n C (by decide) dX7_turns_4 ?_
  refine g_aload_n C rfl dX7_turns_5 ?_
  refine g_iload_n C rfl dX7_turns_6 ?_
  refine g_bipush (v := 6) C (by decide) dX7_turns_7 ?_
  refine g_irem C (by decide) dX7_turns_9 ?_
  refine g_putf C fl_X7_113 fp_5_10 rfl rfl (rfl) (rfl) dX7_turns_10 ?_
  refine g_aload_n C rfl dX7_turns_13 ?_
  refine g_iload_n C rfl dX7_turns_14 ?_
  refine g_bipush (v := 8) C (by decide) dX7_turns_15 ?_
  refine g_idiv C (by decide) dX7_turns_17 ?_
  refine g_bipush (v := 20) C (by decide) dX7_turns_18 ?_
  refine g_irem C (by decide) dX7_turns_20 ?_
  refine g_putf C fl_X7_122 fp_5_11 rfl rfl (rfl) (rfl) dX7_turns_21 ?_
  refine g_aload_n C rfl dX7_turns_24 ?_
  refine g_iload_n C rfl dX7_turns_25 ?_
  refine g_sipush (v := 256) C (by decide) dX7_turns_26 ?_
  refine g_idiv C (by decide) dX7_turns_29 ?_
  refine g_bipush (v := 20) C (by decide) dX7_turns_30 ?_
  refine g_irem C (by decide) dX7_turns_32 ?_
  refine g_putf C fl_X7_131 fp_5_12 rfl rfl (rfl) (rfl) dX7_turns_33 ?_
  refine g_iload_n C rfl dX7_turns_36 ?_
  refine g_bipush (v := 16) C (by decide) dX7_turns_37 ?_
  refine g_irem C (by decide) dX7_turns_39 ?_
  refine g_top (show _ = cw_md r 16 from rfl) ?_
  have hsw_40 : ((cw_md r 16).toInt < 0 ∨ 14 < (cw_md r 16).toInt) ∨ (cw_md r 16).toInt = 0 ∨ (cw_md r 16).toInt = 1 ∨ (cw_md r 16).toInt = 2 ∨ (cw_md r 16).toInt = 3 ∨ (cw_md r 16).toInt = 4 ∨ (cw_md r 16).toInt = 5 ∨ (cw_md r 16).toInt = 6 ∨ (cw_md r 16).toInt = 7 ∨ (cw_md r 16).toInt = 8 ∨ (cw_md r 16).toInt = 9 ∨ (cw_md r 16).toInt = 10 ∨ (cw_md r 16).toInt = 11 ∨ (cw_md r 16).toInt = 12 ∨ (cw_md r 16).toInt = 13 ∨ (cw_md r 16).toInt = 14 := by omega
  rcases hsw_40 with hsw_40 | hsw_40 | hsw_40 | hsw_40 | hsw_40 | hsw_40 | hsw_40 | hsw_40 | hsw_40 | hsw_40 | hsw_40 | hsw_40 | hsw_40 | hsw_40 | hsw_40 | hsw_40
  · refine g_tabOut (tgt := 286) C hsw_40 (by decide) dX7_turns_40 ?_
    refine g_aload_n C rfl dX7_turns_286 ?_
    refine g_bipush (v := 121) C (by decide) dX7_turns_287 ?_
    refine g_putf C fl_X7_110 fp_5_9 rfl rfl (rfl) (rfl) dX7_turns_289 ?_
    refine g_aload_n C rfl dX7_turns_292 ?_
    obtain ⟨tl, ta, tb, tc⟩ := cw_tn_d hsw_40
    refine g_genP (P := fun v => (∀ q, q ≠ 0 → v q = w q) ∧ v 0 9 = cw_tl r ∧ v 0 10 = cw_ta r ∧ v 0 11 = cw_tb r ∧ v 0 12 = cw_tc r ∧ ∀ k, (k < 9 ∨ 12 < k) → v 0 k = w 0 k) ⟨fun q hq => by repeat rw [gw_set_ne _ _ _ _ hq], by rw [tl]; rfl, by rw [ta]; rfl, by rw [tb]; rfl, by rw [tc]; rfl, fun k hk => by simp only [gw_set]; simp [show k ≠ 9 by omega, show k ≠ 10 by omega, show k ≠ 11 by omega, show k ≠ 12 by omega]⟩ (fun w6 h6 => ?_)
    obtain ⟨d0, d9, d10, d11, d12, dk⟩ := h6
    have e6 : cw_eq (w6 1) u := by show cw_nf _ = _; rw [d0 1 (by decide)]; exact h
    have hI6 := cw_I_cg hI e6
    have h115 : cw_tl r = 115 → cw_isW (cw_ta r) := fun q => (cw_turn_s hr q).1
    have hcg := cw_does_cg hI hB e6 (cw_tl r) (cw_ta r) (cw_tb r) (cw_tc r) h115
    refine g_call C (ok_X7_does (cw_tl r) (cw_ta r) (cw_tb r) (cw_tc r) hI6 hB h115) my_X7_does vi_X7_202 (by decide) ⟨Nat.le_refl _, Nat.le_refl _⟩ rfl rfl rfl (Nat.le_of_ble_eq_true rfl) dX7_turns_293 rfl (⟨rfl, d9, d10, d11, d12⟩) (fun v_293 w_293 hp_293 => ?_)
    obtain ⟨rfl, s293, h293, hn293⟩ := hp_293
    refine g_top (show _ = (cw_does u (cw_tl r) (cw_ta r) (cw_tb r) (cw_tc r)).1 from hcg.1) ?_
    refine g_iret C F dX7_turns_296 ?_
    exact ⟨rfl, by rw [h293, cw_S1, hn293]; unfold cw_turn; rw [cw_nf_nf]; exact hcg.2, fun q a b => (hr_q h293 b).trans (d0 q a), fun k hk => (hr_0 h293).trans (dk k hk)⟩
  · have hsx_40 : (cw_md r 16) = 0 := gw_toInt hsw_40
    refine g_tabIn (off := 76) (tgt := 116) C (by omega) (by omega) (by rw [hsw_40]; rfl) (by decide) dX7_turns_40 ?_
    refine g_aload_n C rfl dX7_turns_116 ?_
    refine g_bipush (v := 111) C (by decide) dX7_turns_117 ?_
    refine g_putf C fl_X7_110 fp_5_9 rfl rfl (rfl) (rfl) dX7_turns_119 ?_
    refine g_aload_n C rfl dX7_turns_122 ?_
    refine g_iconst (v := 1) C (by decide) dX7_turns_123 ?_
    refine g_iload_n C rfl dX7_turns_124 ?_
    refine g_bipush (v := 9) C (by decide) dX7_turns_125 ?_
    refine g_irem C (by decide) dX7_turns_127 ?_
    refine g_iadd C dX7_turns_128 ?_
    refine g_putf C fl_X7_113 fp_5_10 rfl rfl (rfl) (rfl) dX7_turns_129 ?_
    refine g_goto (tgt := 292) C (by decide) dX7_turns_132 ?_
    refine g_aload_n C rfl dX7_turns_292 ?_
    obtain ⟨tl, ta, tb, tc⟩ := cw_tn_0 hsx_40
    refine g_genP (P := fun v => (∀ q, q ≠ 0 → v q = w q) ∧ v 0 9 = cw_tl r ∧ v 0 10 = cw_ta r ∧ v 0 11 = cw_tb r ∧ v 0 12 = cw_tc r ∧ ∀ k, (k < 9 ∨ 12 < k) → v 0 k = w 0 k) ⟨fun q hq => by repeat rw [gw_set_ne _ _ _ _ hq], by rw [tl]; rfl, by rw [ta]; rfl, by rw [tb]; rfl, by rw [tc]; rfl, fun k hk => by simp only [gw_set]; simp [show k ≠ 9 by omega, show k ≠ 10 by omega, show k ≠ 11 by omega, show k ≠ 12 by omega]⟩ (fun w6 h6 => ?_)
    obtain ⟨d0, d9, d10, d11, d12, dk⟩ := h6
    have e6 : cw_eq (w6 1) u := by show cw_nf _ = _; rw [d0 1 (by decide)]; exact h
    have hI6 := cw_I_cg hI e6
    have h115 : cw_tl r = 115 → cw_isW (cw_ta r) := fun q => (cw_turn_s hr q).1
    have hcg := cw_does_cg hI hB e6 (cw_tl r) (cw_ta r) (cw_tb r) (cw_tc r) h115
    refine g_call C (ok_X7_does (cw_tl r) (cw_ta r) (cw_tb r) (cw_tc r) hI6 hB h115) my_X7_does vi_X7_202 (by decide) ⟨Nat.le_refl _, Nat.le_refl _⟩ rfl rfl rfl (Nat.le_of_ble_eq_true rfl) dX7_turns_293 rfl (⟨rfl, d9, d10, d11, d12⟩) (fun v_293 w_293 hp_293 => ?_)
    obtain ⟨rfl, s293, h293, hn293⟩ := hp_293
    refine g_top (show _ = (cw_does u (cw_tl r) (cw_ta r) (cw_tb r) (cw_tc r)).1 from hcg.1) ?_
    refine g_iret C F dX7_turns_296 ?_
    exact ⟨rfl, by rw [h293, cw_S1, hn293]; unfold cw_turn; rw [cw_nf_nf]; exact hcg.2, fun q a b => (hr_q h293 b).trans (d0 q a), fun k hk => (hr_0 h293).trans (dk k hk)⟩
  · have hsx_40 : (cw_md r 16) = 1 := gw_toInt hsw_40
    refine g_tabIn (off := 95) (tgt := 135) C (by omega) (by omega) (by rw [hsw_40]; rfl) (by decide) dX7_turns_40 ?_
    refine g_aload_n C rfl dX7_turns_135 ?_
    refine g_bipush (v := 107) C (by decide) dX7_turns_136 ?_
    refine g_putf C fl_X7_110 fp_5_9 rfl rfl (rfl) (rfl) dX7_turns_138 ?_
    refine g_aload_n C rfl dX7_turns_141 ?_
    refine g_iload_n C rfl dX7_turns_142 ?_
    refine g_bipush (v := 20) C (by decide) dX7_turns_143 ?_
    refine g_irem C (by decide) dX7_turns_145 ?_
    refine g_putf C fl_X7_113 fp_5_10 rfl rfl (rfl) (rfl) dX7_turns_146 ?_
    refine g_aload_n C rfl dX7_turns_149 ?_
    refine g_iconst (v := 1) C (by decide) dX7_turns_150 ?_
    refine g_iload_n C rfl dX7_turns_151 ?_
    refine g_bipush (v := 32) C (by decide) dX7_turns_152 ?_
    refine g_idiv C (by decide) dX7_turns_154 ?_
    refine g_bipush (v := 9) C (by decide) dX7_turns_155 ?_
    refine g_irem C (by decide) dX7_turns_157 ?_
    refine g_iadd C dX7_turns_158 ?_
    refine g_putf C fl_X7_122 fp_5_11 rfl rfl (rfl) (rfl) dX7_turns_159 ?_
    refine g_goto (tgt := 292) C (by decide) dX7_turns_162 ?_
    refine g_aload_n C rfl dX7_turns_292 ?_
    obtain ⟨tl, ta, tb, tc⟩ := cw_tn_1 hsx_40
    refine g_genP (P := fun v => (∀ q, q ≠ 0 → v q = w q) ∧ v 0 9 = cw_tl r ∧ v 0 10 = cw_ta r ∧ v 0 11 = cw_tb r ∧ v 0 12 = cw_tc r ∧ ∀ k, (k < 9 ∨ 12 < k) → v 0 k = w 0 k) ⟨fun q hq => by repeat rw [gw_set_ne _ _ _ _ hq], by rw [tl]; rfl, by rw [ta]; rfl, by rw [tb]; rfl, by rw [tc]; rfl, fun k hk => by simp only [gw_set]; simp [show k ≠ 9 by omega, show k ≠ 10 by omega, show k ≠ 11 by omega, show k ≠ 12 by omega]⟩ (fun w6 h6 => ?_)
    obtain ⟨d0, d9, d10, d11, d12, dk⟩ := h6
    have e6 : cw_eq (w6 1) u := by show cw_nf _ = _; rw [d0 1 (by decide)]; exact h
    have hI6 := cw_I_cg hI e6
    have h115 : cw_tl r = 115 → cw_isW (cw_ta r) := fun q => (cw_turn_s hr q).1
    have hcg := cw_does_cg hI hB e6 (cw_tl r) (cw_ta r) (cw_tb r) (cw_tc r) h115
    refine g_call C (ok_X7_does (cw_tl r) (cw_ta r) (cw_tb r) (cw_tc r) hI6 hB h115) my_X7_does vi_X7_202 (by decide) ⟨Nat.le_refl _, Nat.le_refl _⟩ rfl rfl rfl (Nat.le_of_ble_eq_true rfl) dX7_turns_293 rfl (⟨rfl, d9, d10, d11, d12⟩) (fun v_293 w_293 hp_293 => ?_)
    obtain ⟨rfl, s293, h293, hn293⟩ := hp_293
    refine g_top (show _ = (cw_does u (cw_tl r) (cw_ta r) (cw_tb r) (cw_tc r)).1 from hcg.1) ?_
    refine g_iret C F dX7_turns_296 ?_
    exact ⟨rfl, by rw [h293, cw_S1, hn293]; unfold cw_turn; rw [cw_nf_nf]; exact hcg.2, fun q a b => (hr_q h293 b).trans (d0 q a), fun k hk => (hr_0 h293).trans (dk k hk)⟩
  · have hsx_40 : (cw_md r 16) = 2 := gw_toInt hsw_40
    refine g_tabIn (off := 125) (tgt := 165) C (by omega) (by omega) (by rw [hsw_40]; rfl) (by decide) dX7_turns_40 ?_
    refine g_aload_n C rfl dX7_turns_165 ?_
    refine g_bipush (v := 115) C (by decide) dX7_turns_166 ?_
    refine g_putf C fl_X7_110 fp_5_9 rfl rfl (rfl) (rfl) dX7_turns_168 ?_
    refine g_aload_n C rfl dX7_turns_171 ?_
    refine g_iload_n C rfl dX7_turns_172 ?_
    refine g_bipush (v := 20) C (by decide) dX7_turns_173 ?_
    refine g_irem C (by decide) dX7_turns_175 ?_
    refine g_putf C fl_X7_113 fp_5_10 rfl rfl (rfl) (rfl) dX7_turns_176 ?_
    refine g_aload_n C rfl dX7_turns_179 ?_
    refine g_iload_n C rfl dX7_turns_180 ?_
    refine g_bipush (v := 32) C (by decide) dX7_turns_181 ?_
    refine g_idiv C (by decide) dX7_turns_183 ?_
    refine g_iconst (v := 2) C (by decide) dX7_turns_184 ?_
    refine g_irem C (by decide) dX7_turns_185 ?_
    refine g_putf C fl_X7_122 fp_5_11 rfl rfl (rfl) (rfl) dX7_turns_186 ?_
    refine g_goto (tgt := 292) C (by decide) dX7_turns_189 ?_
    refine g_aload_n C rfl dX7_turns_292 ?_
    obtain ⟨tl, ta, tb, tc⟩ := cw_tn_2 hsx_40
    refine g_genP (P := fun v => (∀ q, q ≠ 0 → v q = w q) ∧ v 0 9 = cw_tl r ∧ v 0 10 = cw_ta r ∧ v 0 11 = cw_tb r ∧ v 0 12 = cw_tc r ∧ ∀ k, (k < 9 ∨ 12 < k) → v 0 k = w 0 k) ⟨fun q hq => by repeat rw [gw_set_ne _ _ _ _ hq], by rw [tl]; rfl, by rw [ta]; rfl, by rw [tb]; rfl, by rw [tc]; rfl, fun k hk => by simp only [gw_set]; simp [show k ≠ 9 by omega, show k ≠ 10 by omega, show k ≠ 11 by omega, show k ≠ 12 by omega]⟩ (fun w6 h6 => ?_)
    obtain ⟨d0, d9, d10, d11, d12, dk⟩ := h6
    have e6 : cw_eq (w6 1) u := by show cw_nf _ = _; rw [d0 1 (by decide)]; exact h
    have hI6 := cw_I_cg hI e6
    have h115 : cw_tl r = 115 → cw_isW (cw_ta r) := fun q => (cw_turn_s hr q).1
    have hcg := cw_does_cg hI hB e6 (cw_tl r) (cw_ta r) (cw_tb r) (cw_tc r) h115
    refine g_call C (ok_X7_does (cw_tl r) (cw_ta r) (cw_tb r) (cw_tc r) hI6 hB h115) my_X7_does vi_X7_202 (by decide) ⟨Nat.le_refl _, Nat.le_refl _⟩ rfl rfl rfl (Nat.le_of_ble_eq_true rfl) dX7_turns_293 rfl (⟨rfl, d9, d10, d11, d12⟩) (fun v_293 w_293 hp_293 => ?_)
    obtain ⟨rfl, s293, h293, hn293⟩ := hp_293
    refine g_top (show _ = (cw_does u (cw_tl r) (cw_ta r) (cw_tb r) (cw_tc r)).1 from hcg.1) ?_
    refine g_iret C F dX7_turns_296 ?_
    exact ⟨rfl, by rw [h293, cw_S1, hn293]; unfold cw_turn; rw [cw_nf_nf]; exact hcg.2, fun q a b => (hr_q h293 b).trans (d0 q a), fun k hk => (hr_0 h293).trans (dk k hk)⟩
  · have hsx_40 : (cw_md r 16) = 3 := gw_toInt hsw_40
    refine g_tabIn (off := 152) (tgt := 192) C (by omega) (by omega) (by rw [hsw_40]; rfl) (by decide) dX7_turns_40 ?_
    refine g_aload_n C rfl dX7_turns_192 ?_
    refine g_bipush (v := 116) C (by decide) dX7_turns_193 ?_
    refine g_putf C fl_X7_110 fp_5_9 rfl rfl (rfl) (rfl) dX7_turns_195 ?_
    refine g_goto (tgt := 292) C (by decide) dX7_turns_198 ?_
    refine g_aload_n C rfl dX7_turns_292 ?_
    obtain ⟨tl, ta, tb, tc⟩ := cw_tn_3 hsx_40
    refine g_genP (P := fun v => (∀ q, q ≠ 0 → v q = w q) ∧ v 0 9 = cw_tl r ∧ v 0 10 = cw_ta r ∧ v 0 11 = cw_tb r ∧ v 0 12 = cw_tc r ∧ ∀ k, (k < 9 ∨ 12 < k) → v 0 k = w 0 k) ⟨fun q hq => by repeat rw [gw_set_ne _ _ _ _ hq], by rw [tl]; rfl, by rw [ta]; rfl, by rw [tb]; rfl, by rw [tc]; rfl, fun k hk => by simp only [gw_set]; simp [show k ≠ 9 by omega, show k ≠ 10 by omega, show k ≠ 11 by omega, show k ≠ 12 by omega]⟩ (fun w6 h6 => ?_)
    obtain ⟨d0, d9, d10, d11, d12, dk⟩ := h6
    have e6 : cw_eq (w6 1) u := by show cw_nf _ = _; rw [d0 1 (by decide)]; exact h
    have hI6 := cw_I_cg hI e6
    have h115 : cw_tl r = 115 → cw_isW (cw_ta r) := fun q => (cw_turn_s hr q).1
    have hcg := cw_does_cg hI hB e6 (cw_tl r) (cw_ta r) (cw_tb r) (cw_tc r) h115
    refine g_call C (ok_X7_does (cw_tl r) (cw_ta r) (cw_tb r) (cw_tc r) hI6 hB h115) my_X7_does vi_X7_202 (by decide) ⟨Nat.le_refl _, Nat.le_refl _⟩ rfl rfl rfl (Nat.le_of_ble_eq_true rfl) dX7_turns_293 rfl (⟨rfl, d9, d10, d11, d12⟩) (fun v_293 w_293 hp_293 => ?_)
    obtain ⟨rfl, s293, h293, hn293⟩ := hp_293
    refine g_top (show _ = (cw_does u (cw_tl r) (cw_ta r) (cw_tb r) (cw_tc r)).1 from hcg.1) ?_
    refine g_iret C F dX7_turns_296 ?_
    exact ⟨rfl, by rw [h293, cw_S1, hn293]; unfold cw_turn; rw [cw_nf_nf]; exact hcg.2, fun q a b => (hr_q h293 b).trans (d0 q a), fun k hk => (hr_0 h293).trans (dk k hk)⟩
  · have hsx_40 : (cw_md r 16) = 4 := gw_toInt hsw_40
    refine g_tabIn (off := 152) (tgt := 192) C (by omega) (by omega) (by rw [hsw_40]; rfl) (by decide) dX7_turns_40 ?_
    refine g_aload_n C rfl dX7_turns_192 ?_
    refine g_bipush (v := 116) C (by decide) dX7_turns_193 ?_
    refine g_putf C fl_X7_110 fp_5_9 rfl rfl (rfl) (rfl) dX7_turns_195 ?_
    refine g_goto (tgt := 292) C (by decide) dX7_turns_198 ?_
    refine g_aload_n C rfl dX7_turns_292 ?_
    obtain ⟨tl, ta, tb, tc⟩ := cw_tn_4 hsx_40
    refine g_genP (P := fun v => (∀ q, q ≠ 0 → v q = w q) ∧ v 0 9 = cw_tl r ∧ v 0 10 = cw_ta r ∧ v 0 11 = cw_tb r ∧ v 0 12 = cw_tc r ∧ ∀ k, (k < 9 ∨ 12 < k) → v 0 k = w 0 k) ⟨fun q hq => by repeat rw [gw_set_ne _ _ _ _ hq], by rw [tl]; rfl, by rw [ta]; rfl, by rw [tb]; rfl, by rw [tc]; rfl, fun k hk => by simp only [gw_set]; simp [show k ≠ 9 by omega, show k ≠ 10 by omega, show k ≠ 11 by omega, show k ≠ 12 by omega]⟩ (fun w6 h6 => ?_)
    obtain ⟨d0, d9, d10, d11, d12, dk⟩ := h6
    have e6 : cw_eq (w6 1) u := by show cw_nf _ = _; rw [d0 1 (by decide)]; exact h
    have hI6 := cw_I_cg hI e6
    have h115 : cw_tl r = 115 → cw_isW (cw_ta r) := fun q => (cw_turn_s hr q).1
    have hcg := cw_does_cg hI hB e6 (cw_tl r) (cw_ta r) (cw_tb r) (cw_tc r) h115
    refine g_call C (ok_X7_does (cw_tl r) (cw_ta r) (cw_tb r) (cw_tc r) hI6 hB h115) my_X7_does vi_X7_202 (by decide) ⟨Nat.le_refl _, Nat.le_refl _⟩ rfl rfl rfl (Nat.le_of_ble_eq_true rfl) dX7_turns_293 rfl (⟨rfl, d9, d10, d11, d12⟩) (fun v_293 w_293 hp_293 => ?_)
    obtain ⟨rfl, s293, h293, hn293⟩ := hp_293
    refine g_top (show _ = (cw_does u (cw_tl r) (cw_ta r) (cw_tb r) (cw_tc r)).1 from hcg.1) ?_
    refine g_iret C F dX7_turns_296 ?_
    exact ⟨rfl, by rw [h293, cw_S1, hn293]; unfold cw_turn; rw [cw_nf_nf]; exact hcg.2, fun q a b => (hr_q h293 b).trans (d0 q a), fun k hk => (hr_0 h293).trans (dk k hk)⟩
  · have hsx_40 : (cw_md r 16) = 5 := gw_toInt hsw_40
    refine g_tabIn (off := 152) (tgt := 192) C (by omega) (by omega) (by rw [hsw_40]; rfl) (by decide) dX7_turns_40 ?_
    refine g_aload_n C rfl dX7_turns_192 ?_
    refine g_bipush (v := 116) C (by decide) dX7_turns_193 ?_
    refine g_putf C fl_X7_110 fp_5_9 rfl rfl (rfl) (rfl) dX7_turns_195 ?_
    refine g_goto (tgt := 292) C (by decide) dX7_turns_198 ?_
    refine g_aload_n C rfl dX7_turns_292 ?_
    obtain ⟨tl, ta, tb, tc⟩ := cw_tn_5 hsx_40
    refine g_genP (P := fun v => (∀ q, q ≠ 0 → v q = w q) ∧ v 0 9 = cw_tl r ∧ v 0 10 = cw_ta r ∧ v 0 11 = cw_tb r ∧ v 0 12 = cw_tc r ∧ ∀ k, (k < 9 ∨ 12 < k) → v 0 k = w 0 k) ⟨fun q hq => by repeat rw [gw_set_ne _ _ _ _ hq], by rw [tl]; rfl, by rw [ta]; rfl, by rw [tb]; rfl, by rw [tc]; rfl, fun k hk => by simp only [gw_set]; simp [show k ≠ 9 by omega, show k ≠ 10 by omega, show k ≠ 11 by omega, show k ≠ 12 by omega]⟩ (fun w6 h6 => ?_)
    obtain ⟨d0, d9, d10, d11, d12, dk⟩ := h6
    have e6 : cw_eq (w6 1) u := by show cw_nf _ = _; rw [d0 1 (by decide)]; exact h
    have hI6 := cw_I_cg hI e6
    have h115 : cw_tl r = 115 → cw_isW (cw_ta r) := fun q => (cw_turn_s hr q).1
    have hcg := cw_does_cg hI hB e6 (cw_tl r) (cw_ta r) (cw_tb r) (cw_tc r) h115
    refine g_call C (ok_X7_does (cw_tl r) (cw_ta r) (cw_tb r) (cw_tc r) hI6 hB h115) my_X7_does vi_X7_202 (by decide) ⟨Nat.le_refl _, Nat.le_refl _⟩ rfl rfl rfl (Nat.le_of_ble_eq_true rfl) dX7_turns_293 rfl (⟨rfl, d9, d10, d11, d12⟩) (fun v_293 w_293 hp_293 => ?_)
    obtain ⟨rfl, s293, h293, hn293⟩ := hp_293
    refine g_top (show _ = (cw_does u (cw_tl r) (cw_ta r) (cw_tb r) (cw_tc r)).1 from hcg.1) ?_
    refine g_iret C F dX7_turns_296 ?_
    exact ⟨rfl, by rw [h293, cw_S1, hn293]; unfold cw_turn; rw [cw_nf_nf]; exact hcg.2, fun q a b => (hr_q h293 b).trans (d0 q a), fun k hk => (hr_0 h293).trans (dk k hk)⟩
  · have hsx_40 : (cw_md r 16) = 6 := gw_toInt hsw_40
    refine g_tabIn (off := 152) (tgt := 192) C (by omega) (by omega) (by rw [hsw_40]; rfl) (by decide) dX7_turns_40 ?_
    refine g_aload_n C rfl dX7_turns_192 ?_
    refine g_bipush (v := 116) C (by decide) dX7_turns_193 ?_
    refine g_putf C fl_X7_110 fp_5_9 rfl rfl (rfl) (rfl) dX7_turns_195 ?_
    refine g_goto (tgt := 292) C (by decide) dX7_turns_198 ?_
    refine g_aload_n C rfl dX7_turns_292 ?_
    obtain ⟨tl, ta, tb, tc⟩ := cw_tn_6 hsx_40
    refine g_genP (P := fun v => (∀ q, q ≠ 0 → v q = w q) ∧ v 0 9 = cw_tl r ∧ v 0 10 = cw_ta r ∧ v 0 11 = cw_tb r ∧ v 0 12 = cw_tc r ∧ ∀ k, (k < 9 ∨ 12 < k) → v 0 k = w 0 k) ⟨fun q hq => by repeat rw [gw_set_ne _ _ _ _ hq], by rw [tl]; rfl, by rw [ta]; rfl, by rw [tb]; rfl, by rw [tc]; rfl, fun k hk => by simp only [gw_set]; simp [show k ≠ 9 by omega, show k ≠ 10 by omega, show k ≠ 11 by omega, show k ≠ 12 by omega]⟩ (fun w6 h6 => ?_)
    obtain ⟨d0, d9, d10, d11, d12, dk⟩ := h6
    have e6 : cw_eq (w6 1) u := by show cw_nf _ = _; rw [d0 1 (by decide)]; exact h
    have hI6 := cw_I_cg hI e6
    have h115 : cw_tl r = 115 → cw_isW (cw_ta r) := fun q => (cw_turn_s hr q).1
    have hcg := cw_does_cg hI hB e6 (cw_tl r) (cw_ta r) (cw_tb r) (cw_tc r) h115
    refine g_call C (ok_X7_does (cw_tl r) (cw_ta r) (cw_tb r) (cw_tc r) hI6 hB h115) my_X7_does vi_X7_202 (by decide) ⟨Nat.le_refl _, Nat.le_refl _⟩ rfl rfl rfl (Nat.le_of_ble_eq_true rfl) dX7_turns_293 rfl (⟨rfl, d9, d10, d11, d12⟩) (fun v_293 w_293 hp_293 => ?_)
    obtain ⟨rfl, s293, h293, hn293⟩ := hp_293
    refine g_top (show _ = (cw_does u (cw_tl r) (cw_ta r) (cw_tb r) (cw_tc r)).1 from hcg.1) ?_
    refine g_iret C F dX7_turns_296 ?_
    exact ⟨rfl, by rw [h293, cw_S1, hn293]; unfold cw_turn; rw [cw_nf_nf]; exact hcg.2, fun q a b => (hr_q h293 b).trans (d0 q a), fun k hk => (hr_0 h293).trans (dk k hk)⟩
  · have hsx_40 : (cw_md r 16) = 7 := gw_toInt hsw_40
    refine g_tabIn (off := 161) (tgt := 201) C (by omega) (by omega) (by rw [hsw_40]; rfl) (by decide) dX7_turns_40 ?_
    refine g_aload_n C rfl dX7_turns_201 ?_
    refine g_bipush (v := 98) C (by decide) dX7_turns_202 ?_
    refine g_putf C fl_X7_110 fp_5_9 rfl rfl (rfl) (rfl) dX7_turns_204 ?_
    refine g_aload_n C rfl dX7_turns_207 ?_
    refine g_iload_n C rfl dX7_turns_208 ?_
    refine g_sipush (v := 256) C (by decide) dX7_turns_209 ?_
    refine g_idiv C (by decide) dX7_turns_212 ?_
    refine g_bipush (v := 21) C (by decide) dX7_turns_213 ?_
    refine g_irem C (by decide) dX7_turns_215 ?_
    refine g_putf C fl_X7_131 fp_5_12 rfl rfl (rfl) (rfl) dX7_turns_216 ?_
    refine g_goto (tgt := 292) C (by decide) dX7_turns_219 ?_
    refine g_aload_n C rfl dX7_turns_292 ?_
    obtain ⟨tl, ta, tb, tc⟩ := cw_tn_7 hsx_40
    refine g_genP (P := fun v => (∀ q, q ≠ 0 → v q = w q) ∧ v 0 9 = cw_tl r ∧ v 0 10 = cw_ta r ∧ v 0 11 = cw_tb r ∧ v 0 12 = cw_tc r ∧ ∀ k, (k < 9 ∨ 12 < k) → v 0 k = w 0 k) ⟨fun q hq => by repeat rw [gw_set_ne _ _ _ _ hq], by rw [tl]; rfl, by rw [ta]; rfl, by rw [tb]; rfl, by rw [tc]; rfl, fun k hk => by simp only [gw_set]; simp [show k ≠ 9 by omega, show k ≠ 10 by omega, show k ≠ 11 by omega, show k ≠ 12 by omega]⟩ (fun w6 h6 => ?_)
    obtain ⟨d0, d9, d10, d11, d12, dk⟩ := h6
    have e6 : cw_eq (w6 1) u := by show cw_nf _ = _; rw [d0 1 (by decide)]; exact h
    have hI6 := cw_I_cg hI e6
    have h115 : cw_tl r = 115 → cw_isW (cw_ta r) := fun q => (cw_turn_s hr q).1
    have hcg := cw_does_cg hI hB e6 (cw_tl r) (cw_ta r) (cw_tb r) (cw_tc r) h115
    refine g_call C (ok_X7_does (cw_tl r) (cw_ta r) (cw_tb r) (cw_tc r) hI6 hB h115) my_X7_does vi_X7_202 (by decide) ⟨Nat.le_refl _, Nat.le_refl _⟩ rfl rfl rfl (Nat.le_of_ble_eq_true rfl) dX7_turns_293 rfl (⟨rfl, d9, d10, d11, d12⟩) (fun v_293 w_293 hp_293 => ?_)
    obtain ⟨rfl, s293, h293, hn293⟩ := hp_293
    refine g_top (show _ = (cw_does u (cw_tl r) (cw_ta r) (cw_tb r) (cw_tc r)).1 from hcg.1) ?_
    refine g_iret C F dX7_turns_296 ?_
    exact ⟨rfl, by rw [h293, cw_S1, hn293]; unfold cw_turn; rw [cw_nf_nf]; exact hcg.2, fun q a b => (hr_q h293 b).trans (d0 q a), fun k hk => (hr_0 h293).trans (dk k hk)⟩
  · have hsx_40 : (cw_md r 16) = 8 := gw_toInt hsw_40
    refine g_tabIn (off := 161) (tgt := 201) C (by omega) (by omega) (by rw [hsw_40]; rfl) (by decide) dX7_turns_40 ?_
    refine g_aload_n C rfl dX7_turns_201 ?_
    refine g_bipush (v := 98) C (by decide) dX7_turns_202 ?_
    refine g_putf C fl_X7_110 fp_5_9 rfl rfl (rfl) (rfl) dX7_turns_204 ?_
    refine g_aload_n C rfl dX7_turns_207 ?_
    refine g_iload_n C rfl dX7_turns_208 ?_
    refine g_sipush (v := 256) C (by decide) dX7_turns_209 ?_
    refine g_idiv C (by decide) dX7_turns_212 ?_
    refine g_bipush (v := 21) C (by decide) dX7_turns_213 ?_
    refine g_irem C (by decide) dX7_turns_215 ?_
    refine g_putf C fl_X7_131 fp_5_12 rfl rfl (rfl) (rfl) dX7_turns_216 ?_
    refine g_goto (tgt := 292) C (by decide) dX7_turns_219 ?_
    refine g_aload_n C rfl dX7_turns_292 ?_
    obtain ⟨tl, ta, tb, tc⟩ := cw_tn_8 hsx_40
    refine g_genP (P := fun v => (∀ q, q ≠ 0 → v q = w q) ∧ v 0 9 = cw_tl r ∧ v 0 10 = cw_ta r ∧ v 0 11 = cw_tb r ∧ v 0 12 = cw_tc r ∧ ∀ k, (k < 9 ∨ 12 < k) → v 0 k = w 0 k) ⟨fun q hq => by repeat rw [gw_set_ne _ _ _ _ hq], by rw [tl]; rfl, by rw [ta]; rfl, by rw [tb]; rfl, by rw [tc]; rfl, fun k hk => by simp only [gw_set]; simp [show k ≠ 9 by omega, show k ≠ 10 by omega, show k ≠ 11 by omega, show k ≠ 12 by omega]⟩ (fun w6 h6 => ?_)
    obtain ⟨d0, d9, d10, d11, d12, dk⟩ := h6
    have e6 : cw_eq (w6 1) u := by show cw_nf _ = _; rw [d0 1 (by decide)]; exact h
    have hI6 := cw_I_cg hI e6
    have h115 : cw_tl r = 115 → cw_isW (cw_ta r) := fun q => (cw_turn_s hr q).1
    have hcg := cw_does_cg hI hB e6 (cw_tl r) (cw_ta r) (cw_tb r) (cw_tc r) h115
    refine g_call C (ok_X7_does (cw_tl r) (cw_ta r) (cw_tb r) (cw_tc r) hI6 hB h115) my_X7_does vi_X7_202 (by decide) ⟨Nat.le_refl _, Nat.le_refl _⟩ rfl rfl rfl (Nat.le_of_ble_eq_true rfl) dX7_turns_293 rfl (⟨rfl, d9, d10, d11, d12⟩) (fun v_293 w_293 hp_293 => ?_)
    obtain ⟨rfl, s293, h293, hn293⟩ := hp_293
    refine g_top (show _ = (cw_does u (cw_tl r) (cw_ta r) (cw_tb r) (cw_tc r)).1 from hcg.1) ?_
    refine g_iret C F dX7_turns_296 ?_
    exact ⟨rfl, by rw [h293, cw_S1, hn293]; unfold cw_turn; rw [cw_nf_nf]; exact hcg.2, fun q a b => (hr_q h293 b).trans (d0 q a), fun k hk => (hr_0 h293).trans (dk k hk)⟩
  · have hsx_40 : (cw_md r 16) = 9 := gw_toInt hsw_40
    refine g_tabIn (off := 182) (tgt := 222) C (by omega) (by omega) (by rw [hsw_40]; rfl) (by decide) dX7_turns_40 ?_
    refine g_aload_n C rfl dX7_turns_222 ?_
    refine g_bipush (v := 101) C (by decide) dX7_turns_223 ?_
    refine g_putf C fl_X7_110 fp_5_9 rfl rfl (rfl) (rfl) dX7_turns_225 ?_
    refine g_goto (tgt := 292) C (by decide) dX7_turns_228 ?_
    refine g_aload_n C rfl dX7_turns_292 ?_
    obtain ⟨tl, ta, tb, tc⟩ := cw_tn_9 hsx_40
    refine g_genP (P := fun v => (∀ q, q ≠ 0 → v q = w q) ∧ v 0 9 = cw_tl r ∧ v 0 10 = cw_ta r ∧ v 0 11 = cw_tb r ∧ v 0 12 = cw_tc r ∧ ∀ k, (k < 9 ∨ 12 < k) → v 0 k = w 0 k) ⟨fun q hq => by repeat rw [gw_set_ne _ _ _ _ hq], by rw [tl]; rfl, by rw [ta]; rfl, by rw [tb]; rfl, by rw [tc]; rfl, fun k hk => by simp only [gw_set]; simp [show k ≠ 9 by omega, show k ≠ 10 by omega, show k ≠ 11 by omega, show k ≠ 12 by omega]⟩ (fun w6 h6 => ?_)
    obtain ⟨d0, d9, d10, d11, d12, dk⟩ := h6
    have e6 : cw_eq (w6 1) u := by show cw_nf _ = _; rw [d0 1 (by decide)]; exact h
    have hI6 := cw_I_cg hI e6
    have h115 : cw_tl r = 115 → cw_isW (cw_ta r) := fun q => (cw_turn_s hr q).1
    have hcg := cw_does_cg hI hB e6 (cw_tl r) (cw_ta r) (cw_tb r) (cw_tc r) h115
    refine g_call C (ok_X7_does (cw_tl r) (cw_ta r) (cw_tb r) (cw_tc r) hI6 hB h115) my_X7_does vi_X7_202 (by decide) ⟨Nat.le_refl _, Nat.le_refl _⟩ rfl rfl rfl (Nat.le_of_ble_eq_true rfl) dX7_turns_293 rfl (⟨rfl, d9, d10, d11, d12⟩) (fun v_293 w_293 hp_293 => ?_)
    obtain ⟨rfl, s293, h293, hn293⟩ := hp_293
    refine g_top (show _ = (cw_does u (cw_tl r) (cw_ta r) (cw_tb r) (cw_tc r)).1 from hcg.1) ?_
    refine g_iret C F dX7_turns_296 ?_
    exact ⟨rfl, by rw [h293, cw_S1, hn293]; unfold cw_turn; rw [cw_nf_nf]; exact hcg.2, fun q a b => (hr_q h293 b).trans (d0 q a), fun k hk => (hr_0 h293).trans (dk k hk)⟩
  · have hsx_40 : (cw_md r 16) = 10 := gw_toInt hsw_40
    refine g_tabIn (off := 191) (tgt := 231) C (by omega) (by omega) (by rw [hsw_40]; rfl) (by decide) dX7_turns_40 ?_
    refine g_aload_n C rfl dX7_turns_231 ?_
    refine g_bipush (v := 114) C (by decide) dX7_turns_232 ?_
    refine g_putf C fl_X7_110 fp_5_9 rfl rfl (rfl) (rfl) dX7_turns_234 ?_
    refine g_goto (tgt := 292) C (by decide) dX7_turns_237 ?_
    refine g_aload_n C rfl dX7_turns_292 ?_
    obtain ⟨tl, ta, tb, tc⟩ := cw_tn_10 hsx_40
    refine g_genP (P := fun v => (∀ q, q ≠ 0 → v q = w q) ∧ v 0 9 = cw_tl r ∧ v 0 10 = cw_ta r ∧ v 0 11 = cw_tb r ∧ v 0 12 = cw_tc r ∧ ∀ k, (k < 9 ∨ 12 < k) → v 0 k = w 0 k) ⟨fun q hq => by repeat rw [gw_set_ne _ _ _ _ hq], by rw [tl]; rfl, by rw [ta]; rfl, by rw [tb]; rfl, by rw [tc]; rfl, fun k hk => by simp only [gw_set]; simp [show k ≠ 9 by omega, show k ≠ 10 by omega, show k ≠ 11 by omega, show k ≠ 12 by omega]⟩ (fun w6 h6 => ?_)
    obtain ⟨d0, d9, d10, d11, d12, dk⟩ := h6
    have e6 : cw_eq (w6 1) u := by show cw_nf _ = _; rw [d0 1 (by decide)]; exact h
    have hI6 := cw_I_cg hI e6
    have h115 : cw_tl r = 115 → cw_isW (cw_ta r) := fun q => (cw_turn_s hr q).1
    have hcg := cw_does_cg hI hB e6 (cw_tl r) (cw_ta r) (cw_tb r) (cw_tc r) h115
    refine g_call C (ok_X7_does (cw_tl r) (cw_ta r) (cw_tb r) (cw_tc r) hI6 hB h115) my_X7_does vi_X7_202 (by decide) ⟨Nat.le_refl _, Nat.le_refl _⟩ rfl rfl rfl (Nat.le_of_ble_eq_true rfl) dX7_turns_293 rfl (⟨rfl, d9, d10, d11, d12⟩) (fun v_293 w_293 hp_293 => ?_)
    obtain ⟨rfl, s293, h293, hn293⟩ := hp_293
    refine g_top (show _ = (cw_does u (cw_tl r) (cw_ta r) (cw_tb r) (cw_tc r)).1 from hcg.1) ?_
    refine g_iret C F dX7_turns_296 ?_
    exact ⟨rfl, by rw [h293, cw_S1, hn293]; unfold cw_turn; rw [cw_nf_nf]; exact hcg.2, fun q a b => (hr_q h293 b).trans (d0 q a), fun k hk => (hr_0 h293).trans (dk k hk)⟩
  · have hsx_40 : (cw_md r 16) = 11 := gw_toInt hsw_40
    refine g_tabIn (off := 200) (tgt := 240) C (by omega) (by omega) (by rw [hsw_40]; rfl) (by decide) dX7_turns_40 ?_
    refine g_aload_n C rfl dX7_turns_240 ?_
    refine g_bipush (v := 102) C (by decide) dX7_turns_241 ?_
    refine g_putf C fl_X7_110 fp_5_9 rfl rfl (rfl) (rfl) dX7_turns_243 ?_
    refine g_goto (tgt := 292) C (by decide) dX7_turns_246 ?_
    refine g_aload_n C rfl dX7_turns_292 ?_
    obtain ⟨tl, ta, tb, tc⟩ := cw_tn_11 hsx_40
    refine g_genP (P := fun v => (∀ q, q ≠ 0 → v q = w q) ∧ v 0 9 = cw_tl r ∧ v 0 10 = cw_ta r ∧ v 0 11 = cw_tb r ∧ v 0 12 = cw_tc r ∧ ∀ k, (k < 9 ∨ 12 < k) → v 0 k = w 0 k) ⟨fun q hq => by repeat rw [gw_set_ne _ _ _ _ hq], by rw [tl]; rfl, by rw [ta]; rfl, by rw [tb]; rfl, by rw [tc]; rfl, fun k hk => by simp only [gw_set]; simp [show k ≠ 9 by omega, show k ≠ 10 by omega, show k ≠ 11 by omega, show k ≠ 12 by omega]⟩ (fun w6 h6 => ?_)
    obtain ⟨d0, d9, d10, d11, d12, dk⟩ := h6
    have e6 : cw_eq (w6 1) u := by show cw_nf _ = _; rw [d0 1 (by decide)]; exact h
    have hI6 := cw_I_cg hI e6
    have h115 : cw_tl r = 115 → cw_isW (cw_ta r) := fun q => (cw_turn_s hr q).1
    have hcg := cw_does_cg hI hB e6 (cw_tl r) (cw_ta r) (cw_tb r) (cw_tc r) h115
    refine g_call C (ok_X7_does (cw_tl r) (cw_ta r) (cw_tb r) (cw_tc r) hI6 hB h115) my_X7_does vi_X7_202 (by decide) ⟨Nat.le_refl _, Nat.le_refl _⟩ rfl rfl rfl (Nat.le_of_ble_eq_true rfl) dX7_turns_293 rfl (⟨rfl, d9, d10, d11, d12⟩) (fun v_293 w_293 hp_293 => ?_)
    obtain ⟨rfl, s293, h293, hn293⟩ := hp_293
    refine g_top (show _ = (cw_does u (cw_tl r) (cw_ta r) (cw_tb r) (cw_tc r)).1 from hcg.1) ?_
    refine g_iret C F dX7_turns_296 ?_
    exact ⟨rfl, by rw [h293, cw_S1, hn293]; unfold cw_turn; rw [cw_nf_nf]; exact hcg.2, fun q a b => (hr_q h293 b).trans (d0 q a), fun k hk => (hr_0 h293).trans (dk k hk)⟩
  · have hsx_40 : (cw_md r 16) = 12 := gw_toInt hsw_40
    refine g_tabIn (off := 200) (tgt := 240) C (by omega) (by omega) (by rw [hsw_40]; rfl) (by decide) dX7_turns_40 ?_
    refine g_aload_n C rfl dX7_turns_240 ?_
    refine g_bipush (v := 102) C (by decide) dX7_turns_241 ?_
    refine g_putf C fl_X7_110 fp_5_9 rfl rfl (rfl) (rfl) dX7_turns_243 ?_
    refine g_goto (tgt := 292) C (by decide) dX7_turns_246 ?_
    refine g_aload_n C rfl dX7_turns_292 ?_
    obtain ⟨tl, ta, tb, tc⟩ := cw_tn_12 hsx_40
    refine g_genP (P := fun v => (∀ q, q ≠ 0 → v q = w q) ∧ v 0 9 = cw_tl r ∧ v 0 10 = cw_ta r ∧ v 0 11 = cw_tb r ∧ v 0 12 = cw_tc r ∧ ∀ k, (k < 9 ∨ 12 < k) → v 0 k = w 0 k) ⟨fun q hq => by repeat rw [gw_set_ne _ _ _ _ hq], by rw [tl]; rfl, by rw [ta]; rfl, by rw [tb]; rfl, by rw [tc]; rfl, fun k hk => by simp only [gw_set]; simp [show k ≠ 9 by omega, show k ≠ 10 by omega, show k ≠ 11 by omega, show k ≠ 12 by omega]⟩ (fun w6 h6 => ?_)
    obtain ⟨d0, d9, d10, d11, d12, dk⟩ := h6
    have e6 : cw_eq (w6 1) u := by show cw_nf _ = _; rw [d0 1 (by decide)]; exact h
    have hI6 := cw_I_cg hI e6
    have h115 : cw_tl r = 115 → cw_isW (cw_ta r) := fun q => (cw_turn_s hr q).1
    have hcg := cw_does_cg hI hB e6 (cw_tl r) (cw_ta r) (cw_tb r) (cw_tc r) h115
    refine g_call C (ok_X7_does (cw_tl r) (cw_ta r) (cw_tb r) (cw_tc r) hI6 hB h115) my_X7_does vi_X7_202 (by decide) ⟨Nat.le_refl _, Nat.le_refl _⟩ rfl rfl rfl (Nat.le_of_ble_eq_true rfl) dX7_turns_293 rfl (⟨rfl, d9, d10, d11, d12⟩) (fun v_293 w_293 hp_293 => ?_)
    obtain ⟨rfl, s293, h293, hn293⟩ := hp_293
    refine g_top (show _ = (cw_does u (cw_tl r) (cw_ta r) (cw_tb r) (cw_tc r)).1 from hcg.1) ?_
    refine g_iret C F dX7_turns_296 ?_
    exact ⟨rfl, by rw [h293, cw_S1, hn293]; unfold cw_turn; rw [cw_nf_nf]; exact hcg.2, fun q a b => (hr_q h293 b).trans (d0 q a), fun k hk => (hr_0 h293).trans (dk k hk)⟩
  · have hsx_40 : (cw_md r 16) = 13 := gw_toInt hsw_40
    refine g_tabIn (off := 209) (tgt := 249) C (by omega) (by omega) (by rw [hsw_40]; rfl) (by decide) dX7_turns_40 ?_
    refine g_aload_n C rfl dX7_turns_249 ?_
    refine g_bipush (v := 97) C (by decide) dX7_turns_250 ?_
    refine g_putf C fl_X7_110 fp_5_9 rfl rfl (rfl) (rfl) dX7_turns_252 ?_
    refine g_aload_n C rfl dX7_turns_255 ?_
    refine g_iload_n C rfl dX7_turns_256 ?_
    refine g_bipush (v := 8) C (by decide) dX7_turns_257 ?_
    refine g_irem C (by decide) dX7_turns_259 ?_
    refine g_putf C fl_X7_113 fp_5_10 rfl rfl (rfl) (rfl) dX7_turns_260 ?_
    refine g_goto (tgt := 292) C (by decide) dX7_turns_263 ?_
    refine g_aload_n C rfl dX7_turns_292 ?_
    obtain ⟨tl, ta, tb, tc⟩ := cw_tn_13 hsx_40
    refine g_genP (P := fun v => (∀ q, q ≠ 0 → v q = w q) ∧ v 0 9 = cw_tl r ∧ v 0 10 = cw_ta r ∧ v 0 11 = cw_tb r ∧ v 0 12 = cw_tc r ∧ ∀ k, (k < 9 ∨ 12 < k) → v 0 k = w 0 k) ⟨fun q hq => by repeat rw [gw_set_ne _ _ _ _ hq], by rw [tl]; rfl, by rw [ta]; rfl, by rw [tb]; rfl, by rw [tc]; rfl, fun k hk => by simp only [gw_set]; simp [show k ≠ 9 by omega, show k ≠ 10 by omega, show k ≠ 11 by omega, show k ≠ 12 by omega]⟩ (fun w6 h6 => ?_)
    obtain ⟨d0, d9, d10, d11, d12, dk⟩ := h6
    have e6 : cw_eq (w6 1) u := by show cw_nf _ = _; rw [d0 1 (by decide)]; exact h
    have hI6 := cw_I_cg hI e6
    have h115 : cw_tl r = 115 → cw_isW (cw_ta r) := fun q => (cw_turn_s hr q).1
    have hcg := cw_does_cg hI hB e6 (cw_tl r) (cw_ta r) (cw_tb r) (cw_tc r) h115
    refine g_call C (ok_X7_does (cw_tl r) (cw_ta r) (cw_tb r) (cw_tc r) hI6 hB h115) my_X7_does vi_X7_202 (by decide) ⟨Nat.le_refl _, Nat.le_refl _⟩ rfl rfl rfl (Nat.le_of_ble_eq_true rfl) dX7_turns_293 rfl (⟨rfl, d9, d10, d11, d12⟩) (fun v_293 w_293 hp_293 => ?_)
    obtain ⟨rfl, s293, h293, hn293⟩ := hp_293
    refine g_top (show _ = (cw_does u (cw_tl r) (cw_ta r) (cw_tb r) (cw_tc r)).1 from hcg.1) ?_
    refine g_iret C F dX7_turns_296 ?_
    exact ⟨rfl, by rw [h293, cw_S1, hn293]; unfold cw_turn; rw [cw_nf_nf]; exact hcg.2, fun q a b => (hr_q h293 b).trans (d0 q a), fun k hk => (hr_0 h293).trans (dk k hk)⟩
  · have hsx_40 : (cw_md r 16) = 14 := gw_toInt hsw_40
    refine g_tabIn (off := 226) (tgt := 266) C (by omega) (by omega) (by rw [hsw_40]; rfl) (by decide) dX7_turns_40 ?_
    refine g_aload_n C rfl dX7_turns_266 ?_
    refine g_bipush (v := 117) C (by decide) dX7_turns_267 ?_
    refine g_putf C fl_X7_110 fp_5_9 rfl rfl (rfl) (rfl) dX7_turns_269 ?_
    refine g_aload_n C rfl dX7_turns_272 ?_
    refine g_iconst (v := 1) C (by decide) dX7_turns_273 ?_
    refine g_iload_n C rfl dX7_turns_274 ?_
    refine g_sipush (v := 999) C (by decide) dX7_turns_275 ?_
    refine g_irem C (by decide) dX7_turns_278 ?_
    refine g_iadd C dX7_turns_279 ?_
    refine g_putf C fl_X7_113 fp_5_10 rfl rfl (rfl) (rfl) dX7_turns_280 ?_
    refine g_goto (tgt := 292) C (by decide) dX7_turns_283 ?_
    refine g_aload_n C rfl dX7_turns_292 ?_
    obtain ⟨tl, ta, tb, tc⟩ := cw_tn_14 hsx_40
    refine g_genP (P := fun v => (∀ q, q ≠ 0 → v q = w q) ∧ v 0 9 = cw_tl r ∧ v 0 10 = cw_ta r ∧ v 0 11 = cw_tb r ∧ v 0 12 = cw_tc r ∧ ∀ k, (k < 9 ∨ 12 < k) → v 0 k = w 0 k) ⟨fun q hq => by repeat rw [gw_set_ne _ _ _ _ hq], by rw [tl]; rfl, by rw [ta]; rfl, by rw [tb]; rfl, by rw [tc]; rfl, fun k hk => by simp only [gw_set]; simp [show k ≠ 9 by omega, show k ≠ 10 by omega, show k ≠ 11 by omega, show k ≠ 12 by omega]⟩ (fun w6 h6 => ?_)
    obtain ⟨d0, d9, d10, d11, d12, dk⟩ := h6
    have e6 : cw_eq (w6 1) u := by show cw_nf _ = _; rw [d0 1 (by decide)]; exact h
    have hI6 := cw_I_cg hI e6
    have h115 : cw_tl r = 115 → cw_isW (cw_ta r) := fun q => (cw_turn_s hr q).1
    have hcg := cw_does_cg hI hB e6 (cw_tl r) (cw_ta r) (cw_tb r) (cw_tc r) h115
    refine g_call C (ok_X7_does (cw_tl r) (cw_ta r) (cw_tb r) (cw_tc r) hI6 hB h115) my_X7_does vi_X7_202 (by decide) ⟨Nat.le_refl _, Nat.le_refl _⟩ rfl rfl rfl (Nat.le_of_ble_eq_true rfl) dX7_turns_293 rfl (⟨rfl, d9, d10, d11, d12⟩) (fun v_293 w_293 hp_293 => ?_)
    obtain ⟨rfl, s293, h293, hn293⟩ := hp_293
    refine g_top (show _ = (cw_does u (cw_tl r) (cw_ta r) (cw_tb r) (cw_tc r)).1 from hcg.1) ?_
    refine g_iret C F dX7_turns_296 ?_
    exact ⟨rfl, by rw [h293, cw_S1, hn293]; unfold cw_turn; rw [cw_nf_nf]; exact hcg.2, fun q a b => (hr_q h293 b).trans (d0 q a), fun k hk => (hr_0 h293).trans (dk k hk)⟩

set_option maxHeartbeats 8000000 in
set_option maxRecDepth 100000 in
theorem ok_X7_simulates (N : Nat) (hN : N ≤ 60) (sd : Int64) (u : cw_s) {n m : Nat} (hI : cw_I n m u) (hB : cw_B (n + 21600) (m + 2400)) : gw_Ok yX7_simulates cX7_simulates 8 (some .int) sM 8 [.ref 0, .long sd, .int (nI N)] (fun w => cw_nf (w 1) = cw_nf u) (fun w vr w1 => vr = some (.int (10000 * cw_held (cw_sim u sd N).2 (-1) + cw_points (cw_sim u sd N).2)) ∧ (∀ q, q ≠ 0 → q ≠ 1 → q ≠ 2 → w1 q = w q) ∧ (∀ k, (k < 9 ∨ 12 < k) → w1 0 k = w 0 k) ∧ ∀ p, p < 242 → w1 1 p = w 1 p) := by
  refine gw_of (by decide) (Nat.le_of_ble_eq_true rfl) ?_
  intro X w h C F
  refine g_aload_n C rfl dX7_simulates_0 ?_
  refine g_call C (ok_X7_putAside) my_X7_putAside vi_X7_249 (by decide) ⟨Nat.le_refl _, Nat.le_refl _⟩ rfl rfl rfl (Nat.le_of_ble_eq_true rfl) dX7_simulates_1 rfl (trivial) (fun v_1 w_1 hp_1 => ?_)
  obtain ⟨rfl, hp1, hq1⟩ := hp_1
  refine g_lload_n C rfl dX7_simulates_4 ?_
  refine g_lstore C (by decide) dX7_simulates_5 ?_
  refine g_iconst (v := 0) C (by decide) dX7_simulates_7 ?_
  refine g_istore C (by decide) dX7_simulates_8 ?_
  refine g_iconst (v := 0) C (by decide) dX7_simulates_10 ?_
  refine g_istore C (by decide) dX7_simulates_11 ?_
  refine g_sub rfl (g_for (α := Int64) (N) (fun i9 x => [(0, .ref 0), (1, .long sd), (3, .int (nI N)), (4, .long x), (7, .int (nI i9))]) (fun i9 x w1 => x = (cw_sim u sd i9).1 ∧ cw_nf (w1 1) = cw_nf (cw_sim u sd i9).2 ∧ (∀ q, q ≠ 0 → q ≠ 1 → q ≠ 2 → w1 q = w q) ∧ (∀ k, (k < 9 ∨ 12 < k) → w1 0 k = w 0 k) ∧ ∀ p, p < 242 → w1 2 p = w 1 p) 0 sd _ (Nat.zero_le _) (⟨rfl, by rw [hp1 1 (by decide)]; exact h, fun q _ _ b => hp1 q b, fun k _ => by rw [hp1 0 (by decide)], hq1⟩) (fun i9 x w1 hi1 hR1 ih1 => ?_) (fun x w1 hR1 => ?_))
  · obtain ⟨hx1, hn1, hf1, hk1, hs1⟩ := hR1
    have hIi := cw_sim_I hI hB sd i9 (by omega)
    refine g_iload C rfl dX7_simulates_13 ?_
    refine g_iload_n C rfl dX7_simulates_15 ?_
    refine g_cmp_ge (tgt := 49) C (by decide) dX7_simulates_16 (fun c_16 => absurd c_16 (nI_ge hi1 (by omega))) (fun c_16 => ?_)
    refine g_lload C rfl dX7_simulates_19 ?_
    refine g_ldc2 C kl_X7_279 dX7_simulates_21 ?_
    refine g_lmul C dX7_simulates_24 ?_
    refine g_ldc2 C kl_X7_281 dX7_simulates_25 ?_
    refine g_ladd C dX7_simulates_28 ?_
    refine g_topl (show _ = cw_sx x from rfl) ?_
    refine g_lstore C (by decide) dX7_simulates_29 ?_
    refine g_aload_n C rfl dX7_simulates_31 ?_
    refine g_lload C rfl dX7_simulates_32 ?_
    refine g_bipush (v := 33) C (by decide) dX7_simulates_34 ?_
    refine g_lushr C dX7_simulates_36 ?_
    refine g_l2i C dX7_simulates_37 ?_
    refine g_top (show _ = cw_sr (cw_sim u sd i9).1 by rw [← hx1]; rfl) ?_
    refine g_call C (ok_X7_turns _ (cw_sr_pos _) _ hIi (cw_B_le2 hB (by omega) (by omega))) my_X7_turns vi_X7_283 (by decide) ⟨Nat.le_refl _, Nat.le_refl _⟩ rfl rfl rfl (Nat.le_of_ble_eq_true rfl) dX7_simulates_38 rfl (hn1) (fun v_38 w_38 hp_38 => ?_)
    obtain ⟨rfl, hn38, hq38, hk38⟩ := hp_38
    refine g_istore C (by decide) dX7_simulates_41 ?_
    refine g_iinc (v := nI (i9 + 1)) C rfl (nI_1 i9) (by decide) dX7_simulates_43 ?_
    refine g_goto (tgt := 13) C (by decide) dX7_simulates_46 ?_
    exact g_sub rfl (ih1 _ _ ⟨by rw [cw_sim_1, hx1], by rw [cw_sim_1]; exact hn38, fun q h0 h1 h2 => (hq38 q h0 h1).trans (hf1 q h0 h1 h2), fun k hk => (hk38 k hk).trans (hk1 k hk), fun p hp => by rw [hq38 2 (by decide) (by decide)]; exact hs1 p hp⟩)
  obtain ⟨hx1, hn1, hf1, hk1, hs1⟩ := hR1
  have hIi := cw_sim_I hI hB sd N (by omega)
  have hIw := cw_I_cg hIi hn1
  have hm6 := hIi.m.2
  refine g_iload C rfl dX7_simulates_13 ?_
  refine g_iload_n C rfl dX7_simulates_15 ?_
  refine g_cmp_ge (tgt := 49) C (by decide) dX7_simulates_16 (fun c_16 => ?_) (fun c_16 => absurd (nI_le (Nat.le_refl _) (by omega)) c_16)
  refine g_sipush (v := 10000) C (by decide) dX7_simulates_49 ?_
  refine g_aload_n C rfl dX7_simulates_52 ?_
  refine g_iconst (v := (-1)) C (by decide) dX7_simulates_53 ?_
  refine g_call C (ok_X7_held _) my_X7_held vi_X7_57 (by decide) ⟨Nat.le_refl _, Nat.le_refl _⟩ rfl rfl rfl (Nat.le_of_ble_eq_true rfl) dX7_simulates_54 rfl (rfl) (fun v_54 w_54 hp_54 => ?_)
  obtain ⟨rfl, hw_54⟩ := hp_54
  have hw_54 := hw_54.symm; subst hw_54
  refine g_top (cw_held_cg hn1 (-1)) ?_
  refine g_imul C dX7_simulates_57 ?_
  refine g_aload_n C rfl dX7_simulates_58 ?_
  refine g_call C (ok_X7_points hIw.m) my_X7_points vi_X7_212 (by decide) ⟨Nat.le_refl _, Nat.le_refl _⟩ rfl rfl rfl (Nat.le_of_ble_eq_true rfl) dX7_simulates_59 rfl (rfl) (fun v_59 w_59 hp_59 => ?_)
  obtain ⟨rfl, hw_59⟩ := hp_59
  have hw_59 := hw_59.symm; subst hw_59
  refine g_top (cw_points_cg hn1 hm6) ?_
  refine g_iadd C dX7_simulates_62 ?_
  refine g_istore C (by decide) dX7_simulates_63 ?_
  refine g_aload_n C rfl dX7_simulates_65 ?_
  refine g_call C (ok_X7_putBack) my_X7_putBack vi_X7_252 (by decide) ⟨Nat.le_refl _, Nat.le_refl _⟩ rfl rfl rfl (Nat.le_of_ble_eq_true rfl) dX7_simulates_66 rfl (trivial) (fun v_66 w_66 hp_66 => ?_)
  obtain ⟨rfl, hp66, hq66⟩ := hp_66
  refine g_iload C rfl dX7_simulates_69 ?_
  refine g_iret C F dX7_simulates_71 ?_
  exact ⟨rfl, fun q h0 h1 h2 => (hp66 q h1).trans (hf1 q h0 h1 h2), fun k hk => by rw [hp66 0 (by decide)]; exact hk1 k hk, fun p hp => (hq66 p hp).trans (hs1 p hp)⟩

