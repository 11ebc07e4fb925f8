theorem cw_01n {x : Int32} (h : cw_r 0 1 x) (hn : ¬ x = 1) : 0 = x := by
  obtain ⟨k, -, h1, rfl⟩ := h
  have : k = 0 ∨ k = 1 := by omega
  rcases this with rfl | rfl
  · rfl
  · exact absurd rfl hn

set_option maxHeartbeats 8000000 in
set_option maxRecDepth 100000 in
theorem ok_X4_turn {t : cw_s} (r : Int32) (hr : 0 ≤ r.toInt) {u : cw_s} {n m : Nat} (hI : cw_I n m u) (hB : cw_B n (m + 20)) (e : cw_eqq t u) : gw_Ok yX4_turn cX4_turn 3 none sH 6 [.ref 0, .int r] (fun w => ho w = t) (fun _ vr w1 => vr = none ∧ cw_eqq (ho w1) (cw_turn u r)) := by
  refine gw_of (by decide) (Nat.le_of_ble_eq_true rfl) ?_
  intro X w h C F
  have hIt := cw_Iq hI e
  refine g_iload_n C rfl dX4_turn_0 ?_
  refine g_bipush (v := 16) C (by decide) dX4_turn_1 ?_
  refine g_idiv C (by decide) dX4_turn_3 ?_
  refine g_istore_n C (by decide) dX4_turn_4 ?_
  refine g_iload_n C rfl dX4_turn_5 ?_
  refine g_bipush (v := 16) C (by decide) dX4_turn_6 ?_
  refine g_irem C (by decide) dX4_turn_8 ?_
  refine g_top (show _ = cw_md r 16 from rfl) ?_
  have hsw_9 : ((cw_md r 16).toInt < 0 ∨ 14 < (cw_md r 16).toInt) ∨ (cw_md r 16).toInt = 0 ∨ (cw_md r 16).toInt = 1 ∨ (cw_md r 16).toInt = 2 ∨ (cw_md r 16).toInt = 3 ∨ (cw_md r 16).toInt = 4 ∨ (cw_md r 16).toInt = 5 ∨ (cw_md r 16).toInt = 6 ∨ (cw_md r 16).toInt = 7 ∨ (cw_md r 16).toInt = 8 ∨ (cw_md r 16).toInt = 9 ∨ (cw_md r 16).toInt = 10 ∨ (cw_md r 16).toInt = 11 ∨ (cw_md r 16).toInt = 12 ∨ (cw_md r 16).toInt = 13 ∨ (cw_md r 16).toInt = 14 := by omega
  rcases hsw_9 with hsw_9 | hsw_9 | hsw_9 | hsw_9 | hsw_9 | hsw_9 | hsw_9 | hsw_9 | hsw_9 | hsw_9 | hsw_9 | hsw_9 | hsw_9 | hsw_9 | hsw_9 | hsw_9
  · refine g_tabOut (tgt := 273) C hsw_9 (by decide) dX4_turn_9 ?_
    refine g_aload_n C rfl dX4_turn_273 ?_
    obtain ⟨tl, ta, tb, tc⟩ := cw_tn_d hsw_9
    have hy : cw_does u 121 (cw_md (r / 16) 6) (cw_md (r / 16 / 8) 20) (cw_md (r / 16 / 256) 20) = cw_oYear u := cw_does_y u _ _ _ (by decide) (by decide) (by decide) (by decide) (by decide) (by decide) (by decide) (by decide) (by decide) (by decide)
    have dq := cw_year_cgq e hI.m.2
    rw [← hy] at dq
    refine g_call C (ok_X1_beginYear (by first | assumption)) my_X1_beginYear vi_X4_44 (by decide) ⟨Nat.le_refl _, Nat.le_refl _⟩ rfl rfl rfl (Nat.le_of_ble_eq_true rfl) dX4_turn_274 rfl (h) (fun v_274 w_274 hp_274 => ?_)
    obtain ⟨rfl, h_274⟩ := hp_274
    refine g_pop C rfl dX4_turn_277 ?_
    refine g_vret C F dX4_turn_278 ?_
    exact ⟨rfl, by unfold cw_turn; rw [tl, ta, tb, tc]; apply cw_eqq_r; rw [h_274]; exact dq.2⟩
  · have hsx_9 : (cw_md r 16) = 0 := gw_toInt hsw_9
    refine g_tabIn (off := 75) (tgt := 84) C (by omega) (by omega) (by rw [hsw_9]; rfl) (by decide) dX4_turn_9 ?_
    refine g_aload_n C rfl dX4_turn_84 ?_
    refine g_iconst (v := 1) C (by decide) dX4_turn_85 ?_
    refine g_iload_n C rfl dX4_turn_86 ?_
    refine g_bipush (v := 9) C (by decide) dX4_turn_87 ?_
    refine g_irem C (by decide) dX4_turn_89 ?_
    refine g_iadd C dX4_turn_90 ?_
    obtain ⟨tl, ta, tb, tc⟩ := cw_tn_0 hsx_9
    have dq := cw_does_cgq hI hB e 111 (1 + cw_md (r / 16) 9) (cw_md (r / 16 / 8) 20) (cw_md (r / 16 / 256) 20) (fun q => absurd q (by decide))
    rw [cw_does_111 t] at dq
    refine g_call C (ok_X1_addOwner _ (by first | assumption)) my_X1_addOwner vi_X4_7 (by decide) ⟨Nat.le_refl _, Nat.le_refl _⟩ rfl rfl rfl (Nat.le_of_ble_eq_true rfl) dX4_turn_91 rfl (h) (fun v_91 w_91 hp_91 => ?_)
    obtain ⟨rfl, h_91⟩ := hp_91
    refine g_pop C rfl dX4_turn_94 ?_
    refine g_goto (tgt := 278) C (by decide) dX4_turn_95 ?_
    refine g_vret C F dX4_turn_278 ?_
    exact ⟨rfl, by unfold cw_turn; rw [tl, ta, tb, tc]; apply cw_eqq_r; rw [h_91]; exact dq.2⟩
  · have hsx_9 : (cw_md r 16) = 1 := gw_toInt hsw_9
    refine g_tabIn (off := 89) (tgt := 98) C (by omega) (by omega) (by rw [hsw_9]; rfl) (by decide) dX4_turn_9 ?_
    refine g_aload_n C rfl dX4_turn_98 ?_
    refine g_iload_n C rfl dX4_turn_99 ?_
    refine g_bipush (v := 20) C (by decide) dX4_turn_100 ?_
    refine g_irem C (by decide) dX4_turn_102 ?_
    refine g_iconst (v := 1) C (by decide) dX4_turn_103 ?_
    refine g_iload_n C rfl dX4_turn_104 ?_
    refine g_bipush (v := 32) C (by decide) dX4_turn_105 ?_
    refine g_idiv C (by decide) dX4_turn_107 ?_
    refine g_bipush (v := 9) C (by decide) dX4_turn_108 ?_
    refine g_irem C (by decide) dX4_turn_110 ?_
    refine g_iadd C dX4_turn_111 ?_
    obtain ⟨tl, ta, tb, tc⟩ := cw_tn_1 hsx_9
    have dq := cw_does_cgq hI hB e 107 (cw_md (r / 16) 20) (1 + cw_md (r / 16 / 32) 9) (cw_md (r / 16 / 256) 20) (fun q => absurd q (by decide))
    rw [cw_does_107 t] at dq
    refine g_call C (ok_X1_changeCost _ _ (by first | assumption)) my_X1_changeCost vi_X4_13 (by decide) ⟨Nat.le_refl _, Nat.le_refl _⟩ rfl rfl rfl (Nat.le_of_ble_eq_true rfl) dX4_turn_112 rfl (h) (fun v_112 w_112 hp_112 => ?_)
    obtain ⟨rfl, h_112⟩ := hp_112
    refine g_pop C rfl dX4_turn_115 ?_
    refine g_goto (tgt := 278) C (by decide) dX4_turn_116 ?_
    refine g_vret C F dX4_turn_278 ?_
    exact ⟨rfl, by unfold cw_turn; rw [tl, ta, tb, tc]; apply cw_eqq_r; rw [h_112]; exact dq.2⟩
  · have hsx_9 : (cw_md r 16) = 2 := gw_toInt hsw_9
    refine g_tabIn (off := 110) (tgt := 119) C (by omega) (by omega) (by rw [hsw_9]; rfl) (by decide) dX4_turn_9 ?_
    obtain ⟨tl, ta, tb, tc⟩ := cw_tn_2 hsx_9
    obtain ⟨hw, h01⟩ := cw_turn_s hr tl
    rw [ta] at hw
    rw [tb] at h01
    have dq := cw_does_cgq hI hB e 115 (cw_md (r / 16) 20) (cw_md (r / 16 / 32) 2) (cw_md (r / 16 / 256) 20) (fun _ => hw)
    rw [cw_does_115 t] at dq
    refine g_aload_n C rfl dX4_turn_119 ?_
    refine g_iload_n C rfl dX4_turn_120 ?_
    refine g_bipush (v := 20) C (by decide) dX4_turn_121 ?_
    refine g_irem C (by decide) dX4_turn_123 ?_
    refine g_iload_n C rfl dX4_turn_124 ?_
    refine g_bipush (v := 32) C (by decide) dX4_turn_125 ?_
    refine g_idiv C (by decide) dX4_turn_127 ?_
    refine g_iconst (v := 2) C (by decide) dX4_turn_128 ?_
    refine g_irem C (by decide) dX4_turn_129 ?_
    refine g_iconst (v := 1) C (by decide) dX4_turn_130 ?_
    refine g_join2 139 (cw_md (r / 16 / 32) 2) (fun k_139 => ?_) ?_
    · refine g_cmp_ne (tgt := 138) C (by decide) dX4_turn_131 (fun c_131 => ?_) (fun c_131 => ?_)
      · refine g_iconst (v := 0) C (by decide) dX4_turn_138 ?_
        exact k_139 _ (cw_01n h01 c_131)
      · refine g_iconst (v := 1) C (by decide) dX4_turn_134 ?_
        refine g_goto (tgt := 139) C (by decide) dX4_turn_135 ?_
        exact k_139 _ ((show cw_md (r / 16 / 32) 2 = 1 from c_131).symm)
    refine g_call C (ok_X1_markSchool _ _ (by first | assumption) (by first | assumption)) my_X1_markSchool vi_X4_17 (by decide) ⟨Nat.le_refl _, Nat.le_refl _⟩ rfl rfl rfl (Nat.le_of_ble_eq_true rfl) dX4_turn_139 rfl (h) (fun v_139 w_139 hp_139 => ?_)
    obtain ⟨rfl, h_139⟩ := hp_139
    refine g_pop C rfl dX4_turn_142 ?_
    refine g_goto (tgt := 278) C (by decide) dX4_turn_143 ?_
    refine g_vret C F dX4_turn_278 ?_
    have hm : ho w_139 = cw_if (cw_isW (cw_md (r / 16) 20)) (upd t (25 + 3 * cw_x (cw_md (r / 16) 20) + 1) (cw_md (r / 16 / 32) 2)) t := h_139
    rw [cw_it hw] at hm
    exact ⟨rfl, by unfold cw_turn; rw [tl, ta, tb, tc]; apply cw_eqq_r; rw [hm]; exact dq.2⟩
  · have hsx_9 : (cw_md r 16) = 3 := gw_toInt hsw_9
    refine g_tabIn (off := 137) (tgt := 146) C (by omega) (by omega) (by rw [hsw_9]; rfl) (by decide) dX4_turn_9 ?_
    refine g_aload_n C rfl dX4_turn_146 ?_
    refine g_iload_n C rfl dX4_turn_147 ?_
    refine g_bipush (v := 6) C (by decide) dX4_turn_148 ?_
    refine g_irem C (by decide) dX4_turn_150 ?_
    refine g_iload_n C rfl dX4_turn_151 ?_
    refine g_bipush (v := 8) C (by decide) dX4_turn_152 ?_
    refine g_idiv C (by decide) dX4_turn_154 ?_
    refine g_bipush (v := 20) C (by decide) dX4_turn_155 ?_
    refine g_irem C (by decide) dX4_turn_157 ?_
    obtain ⟨tl, ta, tb, tc⟩ := cw_tn_3 hsx_9
    have dq := cw_takeR_q hI e (cw_md (r / 16) 6) (cw_md (r / 16 / 8) 20)
    rw [← cw_does_116 u (cw_md (r / 16) 6) (cw_md (r / 16 / 8) 20) (cw_md (r / 16 / 256) 20)] at dq
    refine g_call C (ok_X1_takeWeek _ _ (by first | assumption)) my_X1_takeWeek vi_X4_21 (by decide) ⟨Nat.le_refl _, Nat.le_refl _⟩ rfl rfl rfl (Nat.le_of_ble_eq_true rfl) dX4_turn_158 rfl (h) (fun v_158 w_158 hp_158 => ?_)
    obtain ⟨rfl, h_158⟩ := hp_158
    refine g_pop C rfl dX4_turn_161 ?_
    refine g_goto (tgt := 278) C (by decide) dX4_turn_162 ?_
    refine g_vret C F dX4_turn_278 ?_
    exact ⟨rfl, by unfold cw_turn; rw [tl, ta, tb, tc]; apply cw_eqq_r; rw [h_158]; exact dq.2⟩
  · have hsx_9 : (cw_md r 16) = 4 := gw_toInt hsw_9
    refine g_tabIn (off := 137) (tgt := 146) C (by omega) (by omega) (by rw [hsw_9]; rfl) (by decide) dX4_turn_9 ?_
    refine g_aload_n C rfl dX4_turn_146 ?_
    refine g_iload_n C rfl dX4_turn_147 ?_
    refine g_bipush (v := 6) C (by decide) dX4_turn_148 ?_
    refine g_irem C (by decide) dX4_turn_150 ?_
    refine g_iload_n C rfl dX4_turn_151 ?_
    refine g_bipush (v := 8) C (by decide) dX4_turn_152 ?_
    refine g_idiv C (by decide) dX4_turn_154 ?_
    refine g_bipush (v := 20) C (by decide) dX4_turn_155 ?_
    refine g_irem C (by decide) dX4_turn_157 ?_
    obtain ⟨tl, ta, tb, tc⟩ := cw_tn_4 hsx_9
    have dq := cw_takeR_q hI e (cw_md (r / 16) 6) (cw_md (r / 16 / 8) 20)
    rw [← cw_does_116 u (cw_md (r / 16) 6) (cw_md (r / 16 / 8) 20) (cw_md (r / 16 / 256) 20)] at dq
    refine g_call C (ok_X1_takeWeek _ _ (by first | assumption)) my_X1_takeWeek vi_X4_21 (by decide) ⟨Nat.le_refl _, Nat.le_refl _⟩ rfl rfl rfl (Nat.le_of_ble_eq_true rfl) dX4_turn_158 rfl (h) (fun v_158 w_158 hp_158 => ?_)
    obtain ⟨rfl, h_158⟩ := hp_158
    refine g_pop C rfl dX4_turn_161 ?_
    refine g_goto (tgt := 278) C (by decide) dX4_turn_162 ?_
    refine g_vret C F dX4_turn_278 ?_
    exact ⟨rfl, by unfold cw_turn; rw [tl, ta, tb, tc]; apply cw_eqq_r; rw [h_158]; exact dq.2⟩
  · have hsx_9 : (cw_md r 16) = 5 := gw_toInt hsw_9
    refine g_tabIn (off := 137) (tgt := 146) C (by omega) (by omega) (by rw [hsw_9]; rfl) (by decide) dX4_turn_9 ?_
    refine g_aload_n C rfl dX4_turn_146 ?_
    refine g_iload_n C rfl dX4_turn_147 ?_
    refine g_bipush (v := 6) C (by decide) dX4_turn_148 ?_
    refine g_irem C (by decide) dX4_turn_150 ?_
    refine g_iload_n C rfl dX4_turn_151 ?_
    refine g_bipush (v := 8) C (by decide) dX4_turn_152 ?_
    refine g_idiv C (by decide) dX4_turn_154 ?_
    refine g_bipush (v := 20) C (by decide) dX4_turn_155 ?_
    refine g_irem C (by decide) dX4_turn_157 ?_
    obtain ⟨tl, ta, tb, tc⟩ := cw_tn_5 hsx_9
    have dq := cw_takeR_q hI e (cw_md (r / 16) 6) (cw_md (r / 16 / 8) 20)
    rw [← cw_does_116 u (cw_md (r / 16) 6) (cw_md (r / 16 / 8) 20) (cw_md (r / 16 / 256) 20)] at dq
    refine g_call C (ok_X1_takeWeek _ _ (by first | assumption)) my_X1_takeWeek vi_X4_21 (by decide) ⟨Nat.le_refl _, Nat.le_refl _⟩ rfl rfl rfl (Nat.le_of_ble_eq_true rfl) dX4_turn_158 rfl (h) (fun v_158 w_158 hp_158 => ?_)
    obtain ⟨rfl, h_158⟩ := hp_158
    refine g_pop C rfl dX4_turn_161 ?_
    refine g_goto (tgt := 278) C (by decide) dX4_turn_162 ?_
    refine g_vret C F dX4_turn_278 ?_
    exact ⟨rfl, by unfold cw_turn; rw [tl, ta, tb, tc]; apply cw_eqq_r; rw [h_158]; exact dq.2⟩
  · have hsx_9 : (cw_md r 16) = 6 := gw_toInt hsw_9
    refine g_tabIn (off := 137) (tgt := 146) C (by omega) (by omega) (by rw [hsw_9]; rfl) (by decide) dX4_turn_9 ?_
    refine g_aload_n C rfl dX4_turn_146 ?_
    refine g_iload_n C rfl dX4_turn_147 ?_
    refine g_bipush (v := 6) C (by decide) dX4_turn_148 ?_
    refine g_irem C (by decide) dX4_turn_150 ?_
    refine g_iload_n C rfl dX4_turn_151 ?_
    refine g_bipush (v := 8) C (by decide) dX4_turn_152 ?_
    refine g_idiv C (by decide) dX4_turn_154 ?_
    refine g_bipush (v := 20) C (by decide) dX4_turn_155 ?_
    refine g_irem C (by decide) dX4_turn_157 ?_
    obtain ⟨tl, ta, tb, tc⟩ := cw_tn_6 hsx_9
    have dq := cw_takeR_q hI e (cw_md (r / 16) 6) (cw_md (r / 16 / 8) 20)
    rw [← cw_does_116 u (cw_md (r / 16) 6) (cw_md (r / 16 / 8) 20) (cw_md (r / 16 / 256) 20)] at dq
    refine g_call C (ok_X1_takeWeek _ _ (by first | assumption)) my_X1_takeWeek vi_X4_21 (by decide) ⟨Nat.le_refl _, Nat.le_refl _⟩ rfl rfl rfl (Nat.le_of_ble_eq_true rfl) dX4_turn_158 rfl (h) (fun v_158 w_158 hp_158 => ?_)
    obtain ⟨rfl, h_158⟩ := hp_158
    refine g_pop C rfl dX4_turn_161 ?_
    refine g_goto (tgt := 278) C (by decide) dX4_turn_162 ?_
    refine g_vret C F dX4_turn_278 ?_
    exact ⟨rfl, by unfold cw_turn; rw [tl, ta, tb, tc]; apply cw_eqq_r; rw [h_158]; exact dq.2⟩
  · have hsx_9 : (cw_md r 16) = 7 := gw_toInt hsw_9
    refine g_tabIn (off := 156) (tgt := 165) C (by omega) (by omega) (by rw [hsw_9]; rfl) (by decide) dX4_turn_9 ?_
    refine g_aload_n C rfl dX4_turn_165 ?_
    refine g_iload_n C rfl dX4_turn_166 ?_
    refine g_bipush (v := 6) C (by decide) dX4_turn_167 ?_
    refine g_irem C (by decide) dX4_turn_169 ?_
    refine g_iload_n C rfl dX4_turn_170 ?_
    refine g_bipush (v := 8) C (by decide) dX4_turn_171 ?_
    refine g_idiv C (by decide) dX4_turn_173 ?_
    refine g_bipush (v := 20) C (by decide) dX4_turn_174 ?_
    refine g_irem C (by decide) dX4_turn_176 ?_
    refine g_iload_n C rfl dX4_turn_177 ?_
    refine g_sipush (v := 256) C (by decide) dX4_turn_178 ?_
    refine g_idiv C (by decide) dX4_turn_181 ?_
    refine g_bipush (v := 21) C (by decide) dX4_turn_182 ?_
    refine g_irem C (by decide) dX4_turn_184 ?_
    obtain ⟨tl, ta, tb, tc⟩ := cw_tn_7 hsx_9
    have dq := cw_does_cgq hI hB e 98 (cw_md (r / 16) 6) (cw_md (r / 16 / 8) 20) (cw_md (r / 16 / 256) 21) (fun q => absurd q (by decide))
    rw [cw_does_98 t] at dq
    refine g_call C (ok_X1_placeBid _ _ _ (by first | assumption)) my_X1_placeBid vi_X4_24 (by decide) ⟨Nat.le_refl _, Nat.le_refl _⟩ rfl rfl rfl (Nat.le_of_ble_eq_true rfl) dX4_turn_185 rfl (h) (fun v_185 w_185 hp_185 => ?_)
    obtain ⟨rfl, h_185⟩ := hp_185
    refine g_pop C rfl dX4_turn_188 ?_
    refine g_goto (tgt := 278) C (by decide) dX4_turn_189 ?_
    refine g_vret C F dX4_turn_278 ?_
    exact ⟨rfl, by unfold cw_turn; rw [tl, ta, tb, tc]; apply cw_eqq_r; rw [h_185]; exact dq.2⟩
  · have hsx_9 : (cw_md r 16) = 8 := gw_toInt hsw_9
    refine g_tabIn (off := 156) (tgt := 165) C (by omega) (by omega) (by rw [hsw_9]; rfl) (by decide) dX4_turn_9 ?_
    refine g_aload_n C rfl dX4_turn_165 ?_
    refine g_iload_n C rfl dX4_turn_166 ?_
    refine g_bipush (v := 6) C (by decide) dX4_turn_167 ?_
    refine g_irem C (by decide) dX4_turn_169 ?_
    refine g_iload_n C rfl dX4_turn_170 ?_
    refine g_bipush (v := 8) C (by decide) dX4_turn_171 ?_
    refine g_idiv C (by decide) dX4_turn_173 ?_
    refine g_bipush (v := 20) C (by decide) dX4_turn_174 ?_
    refine g_irem C (by decide) dX4_turn_176 ?_
    refine g_iload_n C rfl dX4_turn_177 ?_
    refine g_sipush (v := 256) C (by decide) dX4_turn_178 ?_
    refine g_idiv C (by decide) dX4_turn_181 ?_
    refine g_bipush (v := 21) C (by decide) dX4_turn_182 ?_
    refine g_irem C (by decide) dX4_turn_184 ?_
    obtain ⟨tl, ta, tb, tc⟩ := cw_tn_8 hsx_9
    have dq := cw_does_cgq hI hB e 98 (cw_md (r / 16) 6) (cw_md (r / 16 / 8) 20) (cw_md (r / 16 / 256) 21) (fun q => absurd q (by decide))
    rw [cw_does_98 t] at dq
    refine g_call C (ok_X1_placeBid _ _ _ (by first | assumption)) my_X1_placeBid vi_X4_24 (by decide) ⟨Nat.le_refl _, Nat.le_refl _⟩ rfl rfl rfl (Nat.le_of_ble_eq_true rfl) dX4_turn_185 rfl (h) (fun v_185 w_185 hp_185 => ?_)
    obtain ⟨rfl, h_185⟩ := hp_185
    refine g_pop C rfl dX4_turn_188 ?_
    refine g_goto (tgt := 278) C (by decide) dX4_turn_189 ?_
    refine g_vret C F dX4_turn_278 ?_
    exact ⟨rfl, by unfold cw_turn; rw [tl, ta, tb, tc]; apply cw_eqq_r; rw [h_185]; exact dq.2⟩
  · have hsx_9 : (cw_md r 16) = 9 := gw_toInt hsw_9
    refine g_tabIn (off := 183) (tgt := 192) C (by omega) (by omega) (by rw [hsw_9]; rfl) (by decide) dX4_turn_9 ?_
    refine g_aload_n C rfl dX4_turn_192 ?_
    obtain ⟨tl, ta, tb, tc⟩ := cw_tn_9 hsx_9
    have dq := cw_does_cgq hI hB e 101 (cw_md (r / 16) 6) (cw_md (r / 16 / 8) 20) (cw_md (r / 16 / 256) 20) (fun q => absurd q (by decide))
    rw [cw_does_101 t] at dq
    refine g_call C (ok_X1_settleBids (by first | assumption) (by first | assumption)) my_X1_settleBids vi_X4_28 (by decide) ⟨Nat.le_refl _, Nat.le_refl _⟩ rfl rfl rfl (Nat.le_of_ble_eq_true rfl) dX4_turn_193 rfl (h) (fun v_193 w_193 hp_193 => ?_)
    obtain ⟨rfl, h_193⟩ := hp_193
    refine g_pop C rfl dX4_turn_196 ?_
    refine g_goto (tgt := 278) C (by decide) dX4_turn_197 ?_
    refine g_vret C F dX4_turn_278 ?_
    exact ⟨rfl, by unfold cw_turn; rw [tl, ta, tb, tc]; apply cw_eqq_r; rw [h_193]; exact dq.2⟩
  · have hsx_9 : (cw_md r 16) = 10 := gw_toInt hsw_9
    refine g_tabIn (off := 191) (tgt := 200) C (by omega) (by omega) (by rw [hsw_9]; rfl) (by decide) dX4_turn_9 ?_
    refine g_aload_n C rfl dX4_turn_200 ?_
    refine g_iload_n C rfl dX4_turn_201 ?_
    refine g_bipush (v := 6) C (by decide) dX4_turn_202 ?_
    refine g_irem C (by decide) dX4_turn_204 ?_
    refine g_iload_n C rfl dX4_turn_205 ?_
    refine g_bipush (v := 8) C (by decide) dX4_turn_206 ?_
    refine g_idiv C (by decide) dX4_turn_208 ?_
    refine g_bipush (v := 20) C (by decide) dX4_turn_209 ?_
    refine g_irem C (by decide) dX4_turn_211 ?_
    obtain ⟨tl, ta, tb, tc⟩ := cw_tn_10 hsx_9
    have dq := cw_does_cgq hI hB e 114 (cw_md (r / 16) 6) (cw_md (r / 16 / 8) 20) (cw_md (r / 16 / 256) 20) (fun q => absurd q (by decide))
    rw [cw_does_114 t] at dq
    refine g_call C (ok_X1_giveBack _ _ (by first | assumption)) my_X1_giveBack vi_X4_32 (by decide) ⟨Nat.le_refl _, Nat.le_refl _⟩ rfl rfl rfl (Nat.le_of_ble_eq_true rfl) dX4_turn_212 rfl (h) (fun v_212 w_212 hp_212 => ?_)
    obtain ⟨rfl, h_212⟩ := hp_212
    refine g_pop C rfl dX4_turn_215 ?_
    refine g_goto (tgt := 278) C (by decide) dX4_turn_216 ?_
    refine g_vret C F dX4_turn_278 ?_
    exact ⟨rfl, by unfold cw_turn; rw [tl, ta, tb, tc]; apply cw_eqq_r; rw [h_212]; exact dq.2⟩
  · have hsx_9 : (cw_md r 16) = 11 := gw_toInt hsw_9
    refine g_tabIn (off := 210) (tgt := 219) C (by omega) (by omega) (by rw [hsw_9]; rfl) (by decide) dX4_turn_9 ?_
    refine g_aload_n C rfl dX4_turn_219 ?_
    refine g_iload_n C rfl dX4_turn_220 ?_
    refine g_bipush (v := 6) C (by decide) dX4_turn_221 ?_
    refine g_irem C (by decide) dX4_turn_223 ?_
    refine g_iload_n C rfl dX4_turn_224 ?_
    refine g_bipush (v := 8) C (by decide) dX4_turn_225 ?_
    refine g_idiv C (by decide) dX4_turn_227 ?_
    refine g_bipush (v := 20) C (by decide) dX4_turn_228 ?_
    refine g_irem C (by decide) dX4_turn_230 ?_
    refine g_iload_n C rfl dX4_turn_231 ?_
    refine g_sipush (v := 256) C (by decide) dX4_turn_232 ?_
    refine g_idiv C (by decide) dX4_turn_235 ?_
    refine g_bipush (v := 20) C (by decide) dX4_turn_236 ?_
    refine g_irem C (by decide) dX4_turn_238 ?_
    obtain ⟨tl, ta, tb, tc⟩ := cw_tn_11 hsx_9
    have dq := cw_does_cgq hI hB e 102 (cw_md (r / 16) 6) (cw_md (r / 16 / 8) 20) (cw_md (r / 16 / 256) 20) (fun q => absurd q (by decide))
    rw [cw_does_102 t] at dq
    refine g_call C (ok_X1_placeOffer _ _ _ (by first | assumption)) my_X1_placeOffer vi_X4_35 (by decide) ⟨Nat.le_refl _, Nat.le_refl _⟩ rfl rfl rfl (Nat.le_of_ble_eq_true rfl) dX4_turn_239 rfl (h) (fun v_239 w_239 hp_239 => ?_)
    obtain ⟨rfl, h_239⟩ := hp_239
    refine g_pop C rfl dX4_turn_242 ?_
    refine g_goto (tgt := 278) C (by decide) dX4_turn_243 ?_
    refine g_vret C F dX4_turn_278 ?_
    exact ⟨rfl, by unfold cw_turn; rw [tl, ta, tb, tc]; apply cw_eqq_r; rw [h_239]; exact dq.2⟩
  · have hsx_9 : (cw_md r 16) = 12 := gw_toInt hsw_9
    refine g_tabIn (off := 210) (tgt := 219) C (by omega) (by omega) (by rw [hsw_9]; rfl) (by decide) dX4_turn_9 ?_
    refine g_aload_n C rfl dX4_turn_219 ?_
    refine g_iload_n C rfl dX4_turn_220 ?_
    refine g_bipush (v := 6) C (by decide) dX4_turn_221 ?_
    refine g_irem C (by decide) dX4_turn_223 ?_
    refine g_iload_n C rfl dX4_turn_224 ?_
    refine g_bipush (v := 8) C (by decide) dX4_turn_225 ?_
    refine g_idiv C (by decide) dX4_turn_227 ?_
    refine g_bipush (v := 20) C (by decide) dX4_turn_228 ?_
    refine g_irem C (by decide) dX4_turn_230 ?_
    refine g_iload_n C rfl dX4_turn_231 ?_
    refine g_sipush (v := 256) C (by decide) dX4_turn_232 ?_
    refine g_idiv C (by decide) dX4_turn_235 ?_
    refine g_bipush (v := 20) C (by decide) dX4_turn_236 ?_
    refine g_irem C (by decide) dX4_turn_238 ?_
    obtain ⟨tl, ta, tb, tc⟩ := cw_tn_12 hsx_9
    have dq := cw_does_cgq hI hB e 102 (cw_md (r / 16) 6) (cw_md (r / 16 / 8) 20) (cw_md (r / 16 / 256) 20) (fun q => absurd q (by decide))
    rw [cw_does_102 t] at dq
    refine g_call C (ok_X1_placeOffer _ _ _ (by first | assumption)) my_X1_placeOffer vi_X4_35 (by decide) ⟨Nat.le_refl _, Nat.le_refl _⟩ rfl rfl rfl (Nat.le_of_ble_eq_true rfl) dX4_turn_239 rfl (h) (fun v_239 w_239 hp_239 => ?_)
    obtain ⟨rfl, h_239⟩ := hp_239
    refine g_pop C rfl dX4_turn_242 ?_
    refine g_goto (tgt := 278) C (by decide) dX4_turn_243 ?_
    refine g_vret C F dX4_turn_278 ?_
    exact ⟨rfl, by unfold cw_turn; rw [tl, ta, tb, tc]; apply cw_eqq_r; rw [h_239]; exact dq.2⟩
  · have hsx_9 : (cw_md r 16) = 13 := gw_toInt hsw_9
    refine g_tabIn (off := 237) (tgt := 246) C (by omega) (by omega) (by rw [hsw_9]; rfl) (by decide) dX4_turn_9 ?_
    refine g_aload_n C rfl dX4_turn_246 ?_
    refine g_iload_n C rfl dX4_turn_247 ?_
    refine g_bipush (v := 8) C (by decide) dX4_turn_248 ?_
    refine g_irem C (by decide) dX4_turn_250 ?_
    obtain ⟨tl, ta, tb, tc⟩ := cw_tn_13 hsx_9
    have dq := cw_does_cgq hI hB e 97 (cw_md (r / 16) 8) (cw_md (r / 16 / 8) 20) (cw_md (r / 16 / 256) 20) (fun q => absurd q (by decide))
    rw [cw_does_97 t] at dq
    refine g_call C (ok_X1_acceptOffer _ (by first | assumption)) my_X1_acceptOffer vi_X4_38 (by decide) ⟨Nat.le_refl _, Nat.le_refl _⟩ rfl rfl rfl (Nat.le_of_ble_eq_true rfl) dX4_turn_251 rfl (h) (fun v_251 w_251 hp_251 => ?_)
    obtain ⟨rfl, h_251⟩ := hp_251
    refine g_pop C rfl dX4_turn_254 ?_
    refine g_goto (tgt := 278) C (by decide) dX4_turn_255 ?_
    refine g_vret C F dX4_turn_278 ?_
    have dn := cw_eqq_of h_251
    exact ⟨rfl, by unfold cw_turn; rw [tl, ta, tb, tc]; apply cw_eqq_r; exact dn.trans dq.2⟩
  · have hsx_9 : (cw_md r 16) = 14 := gw_toInt hsw_9
    refine g_tabIn (off := 249) (tgt := 258) C (by omega) (by omega) (by rw [hsw_9]; rfl) (by decide) dX4_turn_9 ?_
    refine g_aload_n C rfl dX4_turn_258 ?_
    refine g_iconst (v := 1) C (by decide) dX4_turn_259 ?_
    refine g_iload_n C rfl dX4_turn_260 ?_
    refine g_sipush (v := 999) C (by decide) dX4_turn_261 ?_
    refine g_irem C (by decide) dX4_turn_264 ?_
    refine g_iadd C dX4_turn_265 ?_
    obtain ⟨tl, ta, tb, tc⟩ := cw_tn_14 hsx_9
    have dq := cw_does_cgq hI hB e 117 (1 + cw_md (r / 16) 999) (cw_md (r / 16 / 8) 20) (cw_md (r / 16 / 256) 20) (fun q => absurd q (by decide))
    rw [cw_does_117 t] at dq
    refine g_call C (ok_X1_payUpkeep _ (by first | assumption)) my_X1_payUpkeep vi_X4_41 (by decide) ⟨Nat.le_refl _, Nat.le_refl _⟩ rfl rfl rfl (Nat.le_of_ble_eq_true rfl) dX4_turn_266 rfl (h) (fun v_266 w_266 hp_266 => ?_)
    obtain ⟨rfl, h_266⟩ := hp_266
    refine g_pop C rfl dX4_turn_269 ?_
    refine g_goto (tgt := 278) C (by decide) dX4_turn_270 ?_
    refine g_vret C F dX4_turn_278 ?_
    exact ⟨rfl, by unfold cw_turn; rw [tl, ta, tb, tc]; apply cw_eqq_r; rw [h_266]; exact dq.2⟩

