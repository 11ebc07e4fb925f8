set_option maxHeartbeats 8000000 in
set_option maxRecDepth 100000 in
theorem ok_X3_succeeds {t : cw_s} (g : Int32) {u : cw_s} {n m : Nat} (hI : cw_I n m u) (hB : cw_B n (m + 20)) (e : cw_eqq t u) : gw_Ok yX3_succeeds cX3_succeeds 5 (some .boolean) sH 6 [.ref 0, .int g] (fun w => ho w = t) (fun _ vr w1 => vr = some (.int (cw_succ u g).1) ∧ cw_eqq (ho w1) (cw_succ u g).2) := by
  refine gw_of (by decide) (Nat.le_of_ble_eq_true rfl) ?_
  intro X w h C F
  have hIt := cw_Iq hI e
  refine g_iload_n C rfl dX3_succeeds_0 ?_
  refine g_sipush (v := 10000) C (by decide) dX3_succeeds_1 ?_
  refine g_idiv C (by decide) dX3_succeeds_4 ?_
  refine g_bipush (v := 10) C (by decide) dX3_succeeds_5 ?_
  refine g_irem C (by decide) dX3_succeeds_7 ?_
  refine g_top (show _ = cw_ga g from rfl) ?_
  refine g_istore_n C (by decide) dX3_succeeds_8 ?_
  refine g_iload_n C rfl dX3_succeeds_9 ?_
  refine g_bipush (v := 100) C (by decide) dX3_succeeds_10 ?_
  refine g_idiv C (by decide) dX3_succeeds_12 ?_
  refine g_bipush (v := 100) C (by decide) dX3_succeeds_13 ?_
  refine g_irem C (by decide) dX3_succeeds_15 ?_
  refine g_top (show _ = cw_gb g from rfl) ?_
  refine g_istore_n C (by decide) dX3_succeeds_16 ?_
  refine g_iload_n C rfl dX3_succeeds_17 ?_
  refine g_bipush (v := 100) C (by decide) dX3_succeeds_18 ?_
  refine g_irem C (by decide) dX3_succeeds_20 ?_
  refine g_top (show _ = cw_gc g from (cw_gc1 g).symm) ?_
  refine g_istore C (by decide) dX3_succeeds_21 ?_
  refine g_iload_n C rfl dX3_succeeds_23 ?_
  refine g_ldc C kc_X3_9 dX3_succeeds_24 ?_
  refine g_idiv C (by decide) dX3_succeeds_26 ?_
  have hsw_27 : ((g / 100000).toInt < 1 ∨ 9 < (g / 100000).toInt) ∨ (g / 100000).toInt = 1 ∨ (g / 100000).toInt = 2 ∨ (g / 100000).toInt = 3 ∨ (g / 100000).toInt = 4 ∨ (g / 100000).toInt = 5 ∨ (g / 100000).toInt = 6 ∨ (g / 100000).toInt = 7 ∨ (g / 100000).toInt = 8 ∨ (g / 100000).toInt = 9 := by omega
  rcases hsw_27 with hsw_27 | hsw_27 | hsw_27 | hsw_27 | hsw_27 | hsw_27 | hsw_27 | hsw_27 | hsw_27 | hsw_27
  · refine g_tabOut (tgt := 269) C hsw_27 (by decide) dX3_succeeds_27 ?_
    refine g_iconst (v := 0) C (by decide) dX3_succeeds_269 ?_
    refine g_zret C F (rfl) dX3_succeeds_270 ?_
    have hd := cw_succ_no u g hsw_27
    exact ⟨by rw [hd], by rw [hd]; exact (by rw [h]; exact e)⟩
  · have hsx_27 : (g / 100000) = 1 := gw_toInt hsw_27
    refine g_tabIn (off := 49) (tgt := 76) C (by omega) (by omega) (by rw [hsw_27]; rfl) (by decide) dX3_succeeds_27 ?_
    refine g_iload C rfl dX3_succeeds_76 ?_
    refine g_if_ne (tgt := 94) C (by decide) dX3_succeeds_78 (fun c_78 => ?_) (fun c_78 => ?_)
    · refine g_iconst (v := 0) C (by decide) dX3_succeeds_94 ?_
      refine g_zret C F (rfl) dX3_succeeds_95 ?_
      have hd := cw_succ_1 (u := u) hsx_27
      exact ⟨by rw [hd, cw_ie c_78], by rw [hd, cw_ie c_78]; exact (by rw [h]; exact e)⟩
    · refine g_aload_n C rfl dX3_succeeds_81 ?_
      refine g_iload_n C rfl dX3_succeeds_82 ?_
      refine g_iload_n C rfl dX3_succeeds_83 ?_
      have dq := cw_takeR_q hI e (cw_ga g) (cw_gb g)
      rw [← cw_does_116 u (cw_ga g) (cw_gb g) (cw_gc g)] at dq
      refine g_call C (ok_X1_takeWeek _ _ (by first | assumption)) my_X1_takeWeek vi_X3_10 (by decide) ⟨Nat.le_refl _, Nat.le_refl _⟩ rfl rfl rfl (Nat.le_of_ble_eq_true rfl) dX3_succeeds_84 rfl (h) (fun v_84 w_84 hp_84 => ?_)
      obtain ⟨rfl, h_84⟩ := hp_84
      refine g_top (show _ = cw_re (cw_dd u g 116).1 from congrArg cw_re dq.1) ?_
      refine g_if_ne (tgt := 94) C (by decide) dX3_succeeds_87 (fun c_87 => ?_) (fun c_87 => ?_)
      · refine g_iconst (v := 0) C (by decide) dX3_succeeds_94 ?_
        refine g_zret C F (rfl) dX3_succeeds_95 ?_
        have hd := cw_succ_1 (u := u) hsx_27
        exact ⟨by rw [hd, cw_it c_78]; exact cw_q0 (fun q => c_87 (cw_re0.mpr q)), by rw [hd, cw_it c_78]; apply cw_eqq_r; rw [h_84]; exact dq.2⟩
      · refine g_iconst (v := 1) C (by decide) dX3_succeeds_90 ?_
        refine g_goto (tgt := 95) C (by decide) dX3_succeeds_91 ?_
        refine g_zret C F (rfl) dX3_succeeds_95 ?_
        have hd := cw_succ_1 (u := u) hsx_27
        exact ⟨by rw [hd, cw_it c_78]; exact cw_q1 (cw_re0.mp c_87), by rw [hd, cw_it c_78]; apply cw_eqq_r; rw [h_84]; exact dq.2⟩
  · have hsx_27 : (g / 100000) = 2 := gw_toInt hsw_27
    refine g_tabIn (off := 69) (tgt := 96) C (by omega) (by omega) (by rw [hsw_27]; rfl) (by decide) dX3_succeeds_27 ?_
    refine g_aload_n C rfl dX3_succeeds_96 ?_
    refine g_iload_n C rfl dX3_succeeds_97 ?_
    refine g_iload_n C rfl dX3_succeeds_98 ?_
    refine g_iload C rfl dX3_succeeds_99 ?_
    have dq := cw_does_cgq hI hB e 98 (cw_ga g) (cw_gb g) (cw_gc g) (fun q => absurd q (by decide))
    rw [cw_does_98 t] at dq
    refine g_call C (ok_X1_placeBid _ _ _ (by first | assumption)) my_X1_placeBid vi_X3_16 (by decide) ⟨Nat.le_refl _, Nat.le_refl _⟩ rfl rfl rfl (Nat.le_of_ble_eq_true rfl) dX3_succeeds_101 rfl (h) (fun v_101 w_101 hp_101 => ?_)
    obtain ⟨rfl, h_101⟩ := hp_101
    refine g_top (show _ = cw_re (cw_dd u g 98).1 from congrArg cw_re dq.1) ?_
    refine g_bipush (v := (-2)) C (by decide) dX3_succeeds_104 ?_
    refine g_cmp_eq (tgt := 113) C (by decide) dX3_succeeds_106 (fun c_106 => ?_) (fun c_106 => ?_)
    · refine g_iconst (v := 0) C (by decide) dX3_succeeds_113 ?_
      refine g_zret C F (rfl) dX3_succeeds_114 ?_
      have n2 : ¬ (cw_dd u g 98).1 = -2 := by show ¬ (cw_does u 98 _ _ _).1 = -2; rw [cw_does_98 u]; exact cw_2bid hI _ _ _
      have hd := cw_succ_2 (u := u) hsx_27
      exact ⟨by rw [hd]; exact cw_q0 (fun q => q ((cw_re2 n2).mp c_106)), by rw [hd]; apply cw_eqq_r; rw [h_101]; exact dq.2⟩
    · refine g_iconst (v := 1) C (by decide) dX3_succeeds_109 ?_
      refine g_goto (tgt := 114) C (by decide) dX3_succeeds_110 ?_
      refine g_zret C F (rfl) dX3_succeeds_114 ?_
      have n2 : ¬ (cw_dd u g 98).1 = -2 := by show ¬ (cw_does u 98 _ _ _).1 = -2; rw [cw_does_98 u]; exact cw_2bid hI _ _ _
      have hd := cw_succ_2 (u := u) hsx_27
      exact ⟨by rw [hd]; exact cw_q1 (fun q => c_106 ((cw_re2 n2).mpr q)), by rw [hd]; apply cw_eqq_r; rw [h_101]; exact dq.2⟩
  · have hsx_27 : (g / 100000) = 3 := gw_toInt hsw_27
    refine g_tabIn (off := 88) (tgt := 115) C (by omega) (by omega) (by rw [hsw_27]; rfl) (by decide) dX3_succeeds_27 ?_
    have hg := cw_gn hsw_27 (by decide)
    refine g_iload_n C rfl dX3_succeeds_115 ?_
    refine g_bipush (v := 10) C (by decide) dX3_succeeds_116 ?_
    refine g_idiv C (by decide) dX3_succeeds_118 ?_
    refine g_sipush (v := 10000) C (by decide) dX3_succeeds_119 ?_
    refine g_irem C (by decide) dX3_succeeds_122 ?_
    refine g_top (show _ = cw_md (g / 10) 10000 from rfl) ?_
    refine g_if_ne (tgt := 141) C (by decide) dX3_succeeds_123 (fun c_123 => ?_) (fun c_123 => ?_)
    · refine g_iconst (v := 0) C (by decide) dX3_succeeds_141 ?_
      refine g_zret C F (rfl) dX3_succeeds_142 ?_
      have hd := cw_succ_3 (u := u) hsx_27
      exact ⟨by rw [hd, cw_ie (fun q => c_123 ((cw_g3 hg).1.mpr q))], by rw [hd, cw_ie (fun q => c_123 ((cw_g3 hg).1.mpr q))]; exact (by rw [h]; exact e)⟩
    · refine g_aload_n C rfl dX3_succeeds_126 ?_
      have dq := cw_settles_cgq hI hB e
      refine g_call C (ok_X1_settleBids (by first | assumption) (by first | assumption)) my_X1_settleBids vi_X3_20 (by decide) ⟨Nat.le_refl _, Nat.le_refl _⟩ rfl rfl rfl (Nat.le_of_ble_eq_true rfl) dX3_succeeds_127 rfl (h) (fun v_127 w_127 hp_127 => ?_)
      obtain ⟨rfl, h_127⟩ := hp_127
      refine g_top dq.1 ?_
      refine g_iload_n C rfl dX3_succeeds_130 ?_
      refine g_bipush (v := 10) C (by decide) dX3_succeeds_131 ?_
      refine g_irem C (by decide) dX3_succeeds_133 ?_
      refine g_top (show _ = cw_gc g from (cw_g3 hg).2 c_123) ?_
      refine g_cmp_lt (tgt := 141) C (by decide) dX3_succeeds_134 (fun c_134 => ?_) (fun c_134 => ?_)
      · refine g_iconst (v := 0) C (by decide) dX3_succeeds_141 ?_
        refine g_zret C F (rfl) dX3_succeeds_142 ?_
        have hd := cw_succ_3 (u := u) hsx_27
        exact ⟨by rw [hd, cw_it ((cw_g3 hg).1.mp c_123)]; exact cw_q0 (fun q => q c_134), by rw [hd, cw_it ((cw_g3 hg).1.mp c_123)]; apply cw_eqq_r; rw [h_127]; exact dq.2⟩
      · refine g_iconst (v := 1) C (by decide) dX3_succeeds_137 ?_
        refine g_goto (tgt := 142) C (by decide) dX3_succeeds_138 ?_
        refine g_zret C F (rfl) dX3_succeeds_142 ?_
        have hd := cw_succ_3 (u := u) hsx_27
        exact ⟨by rw [hd, cw_it ((cw_g3 hg).1.mp c_123)]; exact cw_q1 c_134, by rw [hd, cw_it ((cw_g3 hg).1.mp c_123)]; apply cw_eqq_r; rw [h_127]; exact dq.2⟩
  · have hsx_27 : (g / 100000) = 4 := gw_toInt hsw_27
    refine g_tabIn (off := 116) (tgt := 143) C (by omega) (by omega) (by rw [hsw_27]; rfl) (by decide) dX3_succeeds_27 ?_
    refine g_iload C rfl dX3_succeeds_143 ?_
    refine g_if_ne (tgt := 163) C (by decide) dX3_succeeds_145 (fun c_145 => ?_) (fun c_145 => ?_)
    · refine g_iconst (v := 0) C (by decide) dX3_succeeds_163 ?_
      refine g_zret C F (rfl) dX3_succeeds_164 ?_
      have hd := cw_succ_4 (u := u) hsx_27
      exact ⟨by rw [hd, cw_ie c_145], by rw [hd, cw_ie c_145]; exact (by rw [h]; exact e)⟩
    · refine g_aload_n C rfl dX3_succeeds_148 ?_
      refine g_iload_n C rfl dX3_succeeds_149 ?_
      refine g_iload_n C rfl dX3_succeeds_150 ?_
      have dq := cw_does_cgq hI hB e 114 (cw_ga g) (cw_gb g) (cw_gc g) (fun q => absurd q (by decide))
      rw [cw_does_114 t] at dq
      refine g_call C (ok_X1_giveBack _ _ (by first | assumption)) my_X1_giveBack vi_X3_24 (by decide) ⟨Nat.le_refl _, Nat.le_refl _⟩ rfl rfl rfl (Nat.le_of_ble_eq_true rfl) dX3_succeeds_151 rfl (h) (fun v_151 w_151 hp_151 => ?_)
      obtain ⟨rfl, h_151⟩ := hp_151
      refine g_top (show _ = cw_re (cw_dd u g 114).1 from congrArg cw_re dq.1) ?_
      refine g_bipush (v := (-2)) C (by decide) dX3_succeeds_154 ?_
      refine g_cmp_eq (tgt := 163) C (by decide) dX3_succeeds_156 (fun c_156 => ?_) (fun c_156 => ?_)
      · refine g_iconst (v := 0) C (by decide) dX3_succeeds_163 ?_
        refine g_zret C F (rfl) dX3_succeeds_164 ?_
        have n2 : ¬ (cw_dd u g 114).1 = -2 := by show ¬ (cw_does u 114 _ _ _).1 = -2; rw [cw_does_114 u]; exact cw_2rel hI _ _
        have hd := cw_succ_4 (u := u) hsx_27
        exact ⟨by rw [hd, cw_it c_145]; exact cw_q0 (fun q => q ((cw_re2 n2).mp c_156)), by rw [hd, cw_it c_145]; apply cw_eqq_r; rw [h_151]; exact dq.2⟩
      · refine g_iconst (v := 1) C (by decide) dX3_succeeds_159 ?_
        refine g_goto (tgt := 164) C (by decide) dX3_succeeds_160 ?_
        refine g_zret C F (rfl) dX3_succeeds_164 ?_
        have n2 : ¬ (cw_dd u g 114).1 = -2 := by show ¬ (cw_does u 114 _ _ _).1 = -2; rw [cw_does_114 u]; exact cw_2rel hI _ _
        have hd := cw_succ_4 (u := u) hsx_27
        exact ⟨by rw [hd, cw_it c_145]; exact cw_q1 (fun q => c_156 ((cw_re2 n2).mpr q)), by rw [hd, cw_it c_145]; apply cw_eqq_r; rw [h_151]; exact dq.2⟩
  · have hsx_27 : (g / 100000) = 5 := gw_toInt hsw_27
    refine g_tabIn (off := 138) (tgt := 165) C (by omega) (by omega) (by rw [hsw_27]; rfl) (by decide) dX3_succeeds_27 ?_
    refine g_aload_n C rfl dX3_succeeds_165 ?_
    refine g_iload_n C rfl dX3_succeeds_166 ?_
    refine g_iload_n C rfl dX3_succeeds_167 ?_
    refine g_iload C rfl dX3_succeeds_168 ?_
    have dq := cw_does_cgq hI hB e 102 (cw_ga g) (cw_gb g) (cw_gc g) (fun q => absurd q (by decide))
    rw [cw_does_102 t] at dq
    refine g_call C (ok_X1_placeOffer _ _ _ (by first | assumption)) my_X1_placeOffer vi_X3_27 (by decide) ⟨Nat.le_refl _, Nat.le_refl _⟩ rfl rfl rfl (Nat.le_of_ble_eq_true rfl) dX3_succeeds_170 rfl (h) (fun v_170 w_170 hp_170 => ?_)
    obtain ⟨rfl, h_170⟩ := hp_170
    refine g_top (show _ = cw_re (cw_dd u g 102).1 from congrArg cw_re dq.1) ?_
    refine g_bipush (v := (-2)) C (by decide) dX3_succeeds_173 ?_
    refine g_cmp_eq (tgt := 182) C (by decide) dX3_succeeds_175 (fun c_175 => ?_) (fun c_175 => ?_)
    · refine g_iconst (v := 0) C (by decide) dX3_succeeds_182 ?_
      refine g_zret C F (rfl) dX3_succeeds_183 ?_
      have n2 : ¬ (cw_dd u g 102).1 = -2 := by show ¬ (cw_does u 102 _ _ _).1 = -2; rw [cw_does_102 u]; exact cw_2off hI _ _ _
      have hd := cw_succ_5 (u := u) hsx_27
      exact ⟨by rw [hd]; exact cw_q0 (fun q => q ((cw_re2 n2).mp c_175)), by rw [hd]; apply cw_eqq_r; rw [h_170]; exact dq.2⟩
    · refine g_iconst (v := 1) C (by decide) dX3_succeeds_178 ?_
      refine g_goto (tgt := 183) C (by decide) dX3_succeeds_179 ?_
      refine g_zret C F (rfl) dX3_succeeds_183 ?_
      have n2 : ¬ (cw_dd u g 102).1 = -2 := by show ¬ (cw_does u 102 _ _ _).1 = -2; rw [cw_does_102 u]; exact cw_2off hI _ _ _
      have hd := cw_succ_5 (u := u) hsx_27
      exact ⟨by rw [hd]; exact cw_q1 (fun q => c_175 ((cw_re2 n2).mpr q)), by rw [hd]; apply cw_eqq_r; rw [h_170]; exact dq.2⟩
  · have hsx_27 : (g / 100000) = 6 := gw_toInt hsw_27
    refine g_tabIn (off := 157) (tgt := 184) C (by omega) (by omega) (by rw [hsw_27]; rfl) (by decide) dX3_succeeds_27 ?_
    have hg := cw_gn hsw_27 (by decide)
    refine g_iload_n C rfl dX3_succeeds_184 ?_
    refine g_sipush (v := 10000) C (by decide) dX3_succeeds_185 ?_
    refine g_irem C (by decide) dX3_succeeds_188 ?_
    refine g_top (show _ = cw_md g 10000 from rfl) ?_
    refine g_if_ne (tgt := 205) C (by decide) dX3_succeeds_189 (fun c_189 => ?_) (fun c_189 => ?_)
    · refine g_iconst (v := 0) C (by decide) dX3_succeeds_205 ?_
      refine g_zret C F (rfl) dX3_succeeds_206 ?_
      have hd := cw_succ_6 (u := u) hsx_27
      exact ⟨by rw [hd, cw_ie (fun q => c_189 ((cw_g6 hg).mpr q))], by rw [hd, cw_ie (fun q => c_189 ((cw_g6 hg).mpr q))]; exact (by rw [h]; exact e)⟩
    · refine g_aload_n C rfl dX3_succeeds_192 ?_
      refine g_iload_n C rfl dX3_succeeds_193 ?_
      have dq := cw_does_cgq hI hB e 97 (cw_ga g) (cw_gb g) (cw_gc g) (fun q => absurd q (by decide))
      rw [cw_does_97 t] at dq
      refine g_call C (ok_X1_acceptOffer _ (by first | assumption)) my_X1_acceptOffer vi_X3_30 (by decide) ⟨Nat.le_refl _, Nat.le_refl _⟩ rfl rfl rfl (Nat.le_of_ble_eq_true rfl) dX3_succeeds_194 rfl (h) (fun v_194 w_194 hp_194 => ?_)
      obtain ⟨rfl, h_194⟩ := hp_194
      refine g_top (show _ = cw_re (cw_dd u g 97).1 from congrArg cw_re dq.1) ?_
      refine g_iconst (v := 1) C (by decide) dX3_succeeds_197 ?_
      refine g_cmp_ne (tgt := 205) C (by decide) dX3_succeeds_198 (fun c_198 => ?_) (fun c_198 => ?_)
      · refine g_iconst (v := 0) C (by decide) dX3_succeeds_205 ?_
        refine g_zret C F (rfl) dX3_succeeds_206 ?_
        have hd := cw_succ_6 (u := u) hsx_27
        have dn := cw_eqq_of h_194
        exact ⟨by rw [hd, cw_it ((cw_g6 hg).mp c_189)]; exact cw_q0 (fun q => c_198 (cw_re1.mpr q)), by rw [hd, cw_it ((cw_g6 hg).mp c_189)]; apply cw_eqq_r; exact dn.trans dq.2⟩
      · refine g_iconst (v := 1) C (by decide) dX3_succeeds_201 ?_
        refine g_goto (tgt := 206) C (by decide) dX3_succeeds_202 ?_
        refine g_zret C F (rfl) dX3_succeeds_206 ?_
        have hd := cw_succ_6 (u := u) hsx_27
        have dn := cw_eqq_of h_194
        exact ⟨by rw [hd, cw_it ((cw_g6 hg).mp c_189)]; exact cw_q1 (cw_re1.mp c_198), by rw [hd, cw_it ((cw_g6 hg).mp c_189)]; apply cw_eqq_r; exact dn.trans dq.2⟩
  · have hsx_27 : (g / 100000) = 7 := gw_toInt hsw_27
    refine g_tabIn (off := 180) (tgt := 207) C (by omega) (by omega) (by rw [hsw_27]; rfl) (by decide) dX3_succeeds_27 ?_
    refine g_iload_n C rfl dX3_succeeds_207 ?_
    refine g_ldc C kc_X3_9 dX3_succeeds_208 ?_
    refine g_irem C (by decide) dX3_succeeds_210 ?_
    refine g_top (show _ = cw_md g 100000 from rfl) ?_
    refine g_if_ne (tgt := 227) C (by decide) dX3_succeeds_211 (fun c_211 => ?_) (fun c_211 => ?_)
    · refine g_iconst (v := 0) C (by decide) dX3_succeeds_227 ?_
      refine g_zret C F (rfl) dX3_succeeds_228 ?_
      have hd := cw_succ_7 (u := u) hsx_27
      exact ⟨by rw [hd, cw_ie (fun q => c_211 ((cw_g7 hsw_27).mpr q))], by rw [hd, cw_ie (fun q => c_211 ((cw_g7 hsw_27).mpr q))]; exact (by rw [h]; exact e)⟩
    · refine g_aload_n C rfl dX3_succeeds_214 ?_
      have hy : cw_dd u g 121 = cw_oYear u := cw_does_y u _ _ _ (by decide) (by decide) (by decide) (by decide) (by decide) (by decide) (by decide) (by decide) (by decide) (by decide)
      have dq := cw_year_cgq e hI.m.2
      rw [← hy] at dq
      refine g_call C (ok_X1_beginYear (by first | assumption)) my_X1_beginYear vi_X3_34 (by decide) ⟨Nat.le_refl _, Nat.le_refl _⟩ rfl rfl rfl (Nat.le_of_ble_eq_true rfl) dX3_succeeds_215 rfl (h) (fun v_215 w_215 hp_215 => ?_)
      obtain ⟨rfl, h_215⟩ := hp_215
      refine g_top dq.1 ?_
      refine g_bipush (v := (-2)) C (by decide) dX3_succeeds_218 ?_
      refine g_cmp_eq (tgt := 227) C (by decide) dX3_succeeds_220 (fun c_220 => ?_) (fun c_220 => ?_)
      · refine g_iconst (v := 0) C (by decide) dX3_succeeds_227 ?_
        refine g_zret C F (rfl) dX3_succeeds_228 ?_
        have hr := cw_year_r hI hB
        rw [← hy] at hr
        have n2 := cw_r_2 hr.1 hr.2
        have n9 := cw_r_9 hr.1 hr.2
        exact absurd c_220 n2
      · refine g_iconst (v := 1) C (by decide) dX3_succeeds_223 ?_
        refine g_goto (tgt := 228) C (by decide) dX3_succeeds_224 ?_
        refine g_zret C F (rfl) dX3_succeeds_228 ?_
        have hr := cw_year_r hI hB
        rw [← hy] at hr
        have n2 := cw_r_2 hr.1 hr.2
        have n9 := cw_r_9 hr.1 hr.2
        have hd := cw_succ_7 (u := u) hsx_27
        exact ⟨by rw [hd, cw_it ((cw_g7 hsw_27).mp c_211)]; exact cw_q1 n9, by rw [hd, cw_it ((cw_g7 hsw_27).mp c_211)]; apply cw_eqq_r; rw [h_215]; exact dq.2⟩
  · have hsx_27 : (g / 100000) = 8 := gw_toInt hsw_27
    refine g_tabIn (off := 202) (tgt := 229) C (by omega) (by omega) (by rw [hsw_27]; rfl) (by decide) dX3_succeeds_27 ?_
    refine g_iload_n C rfl dX3_succeeds_229 ?_
    refine g_if_ne (tgt := 247) C (by decide) dX3_succeeds_230 (fun c_230 => ?_) (fun c_230 => ?_)
    · refine g_iconst (v := 0) C (by decide) dX3_succeeds_247 ?_
      refine g_zret C F (rfl) dX3_succeeds_248 ?_
      have hd := cw_succ_8 (u := u) hsx_27
      exact ⟨by rw [hd]; exact cw_q0 (fun q => c_230 q.1), by rw [hd]; exact (by rw [h]; exact e)⟩
    · refine g_aload_n C rfl dX3_succeeds_233 ?_
      refine g_iload_n C rfl dX3_succeeds_234 ?_
      refine g_iload C rfl dX3_succeeds_235 ?_
      refine g_call C (ok_X1_hasAtLeast _ _ (by first | assumption)) my_X1_hasAtLeast vi_X3_37 (by decide) ⟨Nat.le_refl _, Nat.le_refl _⟩ rfl rfl rfl (Nat.le_of_ble_eq_true rfl) dX3_succeeds_237 rfl (h) (fun v_237 w_237 hp_237 => ?_)
      obtain ⟨rfl, hw_237⟩ := hp_237
      have hw_237 := hw_237.symm; subst hw_237
      refine g_top (cw_has_q hI e _ _) ?_
      refine g_if_eq (tgt := 247) C (by decide) dX3_succeeds_240 (fun c_240 => ?_) (fun c_240 => ?_)
      · refine g_iconst (v := 0) C (by decide) dX3_succeeds_247 ?_
        refine g_zret C F (rfl) dX3_succeeds_248 ?_
        have hd := cw_succ_8 (u := u) hsx_27
        exact ⟨by rw [hd]; exact cw_q0 (fun q => cw_b0.mp c_240 q.2), by rw [hd]; exact (by rw [h]; exact e)⟩
      · refine g_iconst (v := 1) C (by decide) dX3_succeeds_243 ?_
        refine g_goto (tgt := 248) C (by decide) dX3_succeeds_244 ?_
        refine g_zret C F (rfl) dX3_succeeds_248 ?_
        have hd := cw_succ_8 (u := u) hsx_27
        exact ⟨by rw [hd]; exact cw_q1 ⟨c_230, cw_bn c_240⟩, by rw [hd]; exact (by rw [h]; exact e)⟩
  · have hsx_27 : (g / 100000) = 9 := gw_toInt hsw_27
    refine g_tabIn (off := 222) (tgt := 249) C (by omega) (by omega) (by rw [hsw_27]; rfl) (by decide) dX3_succeeds_27 ?_
    refine g_iload C rfl dX3_succeeds_249 ?_
    refine g_if_ne (tgt := 267) C (by decide) dX3_succeeds_251 (fun c_251 => ?_) (fun c_251 => ?_)
    · refine g_iconst (v := 0) C (by decide) dX3_succeeds_267 ?_
      refine g_zret C F (rfl) dX3_succeeds_268 ?_
      have hd := cw_succ_9 (u := u) hsx_27
      exact ⟨by rw [hd]; exact cw_q0 (fun q => c_251 q.1), by rw [hd]; exact (by rw [h]; exact e)⟩
    · refine g_aload_n C rfl dX3_succeeds_254 ?_
      refine g_iload_n C rfl dX3_succeeds_255 ?_
      refine g_iload_n C rfl dX3_succeeds_256 ?_
      refine g_call C (ok_X1_holds _ _ (by first | assumption)) my_X1_holds vi_X3_41 (by decide) ⟨Nat.le_refl _, Nat.le_refl _⟩ rfl rfl rfl (Nat.le_of_ble_eq_true rfl) dX3_succeeds_257 rfl (h) (fun v_257 w_257 hp_257 => ?_)
      obtain ⟨rfl, hw_257⟩ := hp_257
      have hw_257 := hw_257.symm; subst hw_257
      refine g_top (cw_hol_q hI e _ _) ?_
      refine g_if_eq (tgt := 267) C (by decide) dX3_succeeds_260 (fun c_260 => ?_) (fun c_260 => ?_)
      · refine g_iconst (v := 0) C (by decide) dX3_succeeds_267 ?_
        refine g_zret C F (rfl) dX3_succeeds_268 ?_
        have hd := cw_succ_9 (u := u) hsx_27
        exact ⟨by rw [hd]; exact cw_q0 (fun q => cw_b0.mp c_260 q.2), by rw [hd]; exact (by rw [h]; exact e)⟩
      · refine g_iconst (v := 1) C (by decide) dX3_succeeds_263 ?_
        refine g_goto (tgt := 268) C (by decide) dX3_succeeds_264 ?_
        refine g_zret C F (rfl) dX3_succeeds_268 ?_
        have hd := cw_succ_9 (u := u) hsx_27
        exact ⟨by rw [hd]; exact cw_q1 ⟨c_251, cw_bn c_260⟩, by rw [hd]; exact (by rw [h]; exact e)⟩

