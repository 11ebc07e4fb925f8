/-! ISWINSO, the walk -/
theorem pw_exs {Q : Nat → Prop} {i : Nat} (h : ∃ q, q < i ∧ Q q) : ∃ q, q < i + 1 ∧ Q q := by
  obtain ⟨q, a, b⟩ := h
  exact ⟨q, by omega, b⟩
theorem pw_exn {Q : Nat → Prop} {i : Nat} (h : ¬ ∃ q, q < i ∧ Q q) (hi : ¬ Q i) : ¬ ∃ q, q < i + 1 ∧ Q q := by
  rintro ⟨q, a, b⟩
  by_cases z : q = i
  · exact hi (z ▸ b)
  · exact h ⟨q, by omega, b⟩

set_option maxHeartbeats 8000000 in
set_option maxRecDepth 100000 in
theorem ok_L_isWinSo (A : cw_A) {n m : Nat} (hA : cw_IA n m A) (hB : cw_B (n + 108000) (m + 12000)) {j k : Nat} (hj : j < cw_no A.1) (hk : k < 20) : gw_Ok yL_isWinSo cL_isWinSo 12 (some .boolean) sCO 14 [.ref 252, .int (nI j), .int (nI k), .ref 263] (fun w => cw_RC A w) (fun _ vr w1 => vr = some (.int 1) ∧ ∃ T, cw_IA (n + 64800) (m + 7200) (A.1, T) ∧ cw_RC (A.1, T) w1) := by
  refine gw_of (by decide) (Nat.le_of_ble_eq_true rfl) ?_
  intro X w h C F
  have hI := hA.1
  have h6 := hI.m.2
  have hB2 : cw_B n (m + 20) := cw_B_le2 hB (by omega) (by omega)
  have hB9 : cw_IA (n + 21600) (m + 2400) (cw_acts A 101 0 0 0).2 := ia_acts hA (cw_B_le2 hB (by omega) (by omega)) 101 0 0 0 (fun q => absurd q (by decide))
  have H1 : pw_H1 (cw_acts A 101 0 0 0).2 A.1 := pw_rem1 hA.2.2.2.1 _
  refine g_aload_n C rfl dL_isWinSo_0 ?_
  refine g_iload_n C rfl dL_isWinSo_1 ?_
  refine g_callW C cw_emb_CO (ok_X6_winner A hA hB2 (nI k) (cw_isW_nI hk)) my_X6_winner vi_L_95 (by decide) ⟨Nat.le_refl _, Nat.le_refl _⟩ rfl ((cw_emb_CO.1 252 (by decide))) rfl (cw_wpc w) (cw_wpc_i) (cw_wpc_o) (w) (fun _ _ => rfl) (Nat.le_of_ble_eq_true rfl) dL_isWinSo_2 rfl (h) (fun v_2 w_2 hp_2 => ?_)
  obtain ⟨rfl, hr2⟩ := hp_2
  refine g_genP (P := cw_RC A) (hr2.low (fun q hq => if_pos hq)) (fun w2n h2n => ?_)
  refine g_top (show _ = cw_wins A.1 k by rw [cw_xn (show k < 1000 by omega)]) ?_
  refine g_istore C (by decide) dL_isWinSo_5 ?_
  refine g_aload_n C rfl dL_isWinSo_7 ?_
  refine g_iload_n C rfl dL_isWinSo_8 ?_
  refine g_iconst (v := 1) C (by decide) dL_isWinSo_9 ?_
  refine g_callW C cw_emb_CO (ok_X6_weekOf A hA (nI k) 1 (cw_isW_nI hk) (by decide)) my_X6_weekOf vi_L_79 (by decide) ⟨Nat.le_refl _, Nat.le_refl _⟩ rfl ((cw_emb_CO.1 252 (by decide))) rfl (cw_wpc w2n) (cw_wpc_i) (cw_wpc_o) (w2n) (fun _ _ => rfl) (Nat.le_of_ble_eq_true rfl) dL_isWinSo_10 rfl (h2n) (fun v_10 w_10 hp_10 => ?_)
  obtain ⟨rfl, hr10⟩ := hp_10
  refine g_genP (P := cw_RC A) (hr10.low (fun q hq => if_pos hq)) (fun w10n h10n => ?_)
  refine g_top (pw_W1 A.1 (show k < 1000 by omega)) ?_
  refine g_iconst (v := 1) C (by decide) dL_isWinSo_13 ?_
  refine g_joinW2 32 (cw_b (cw_open A.1 k)) (cw_RC A) (fun k_32 => ?_) (fun w32j h32j => ?_)
  · refine g_cmp_ne (tgt := 31) C (by decide) dL_isWinSo_14 (fun c_14 => ?_) (fun c_14 => ?_)
    · refine g_iconst (v := 0) C (by decide) dL_isWinSo_31 ?_
      exact k_32 _ _ ((cw_bf (fun q => c_14 q.1)).symm) h10n
    · refine g_aload_n C rfl dL_isWinSo_17 ?_
      refine g_iload_n C rfl dL_isWinSo_18 ?_
      refine g_iconst (v := 2) C (by decide) dL_isWinSo_19 ?_
      refine g_callW C cw_emb_CO (ok_X6_weekOf A hA (nI k) 2 (cw_isW_nI hk) (by decide)) my_X6_weekOf vi_L_79 (by decide) ⟨Nat.le_refl _, Nat.le_refl _⟩ rfl ((cw_emb_CO.1 252 (by decide))) rfl (cw_wpc w10n) (cw_wpc_i) (cw_wpc_o) (w10n) (fun _ _ => rfl) (Nat.le_of_ble_eq_true rfl) dL_isWinSo_20 rfl (h10n) (fun v_20 w_20 hp_20 => ?_)
      obtain ⟨rfl, hr20⟩ := hp_20
      refine g_genP (P := cw_RC A) (hr20.low (fun q hq => if_pos hq)) (fun w20n h20n => ?_)
      refine g_top (pw_W2 A.1 (show k < 1000 by omega)) ?_
      refine g_iconst (v := (-1)) C (by decide) dL_isWinSo_23 ?_
      refine g_cmp_ne (tgt := 31) C (by decide) dL_isWinSo_24 (fun c_24 => ?_) (fun c_24 => ?_)
      · refine g_iconst (v := 0) C (by decide) dL_isWinSo_31 ?_
        exact k_32 _ _ ((cw_bf (fun q => c_24 q.2)).symm) h20n
      · refine g_iconst (v := 1) C (by decide) dL_isWinSo_27 ?_
        refine g_goto (tgt := 32) C (by decide) dL_isWinSo_28 ?_
        exact k_32 _ _ ((cw_b1 ⟨c_14, c_24⟩).symm) h20n
  refine g_istore C (by decide) dL_isWinSo_32 ?_
  refine g_aload_n C rfl dL_isWinSo_34 ?_
  refine g_iload_n C rfl dL_isWinSo_35 ?_
  refine g_iload_n C rfl dL_isWinSo_36 ?_
  refine g_callW C cw_emb_CO (ok_X6_leastBid A hA hB2 (nI j) (nI k) ⟨cw_isO_nI hI.m hj, cw_isW_nI hk⟩) my_X6_leastBid vi_L_98 (by decide) ⟨Nat.le_refl _, Nat.le_refl _⟩ rfl ((cw_emb_CO.1 252 (by decide))) rfl (cw_wpc w32j) (cw_wpc_i) (cw_wpc_o) (w32j) (fun _ _ => rfl) (Nat.le_of_ble_eq_true rfl) dL_isWinSo_37 rfl (h32j) (fun v_37 w_37 hp_37 => ?_)
  obtain ⟨rfl, hr37⟩ := hp_37
  refine g_genP (P := cw_RC A) (hr37.low (fun q hq => if_pos hq)) (fun w37n h37n => ?_)
  refine g_top (show _ = cw_least A.1 j k by rw [cw_xn (show j < 1000 by omega), cw_xn (show k < 1000 by omega)]) ?_
  refine g_istore C (by decide) dL_isWinSo_40 ?_
  refine g_aload_n C rfl dL_isWinSo_42 ?_
  refine g_iconst (v := 0) C (by decide) dL_isWinSo_43 ?_
  refine g_callW C cw_emb_CO (ok_X6_could A hA 0 (by decide)) my_X6_could vi_L_101 (by decide) ⟨Nat.le_refl _, Nat.le_refl _⟩ rfl ((cw_emb_CO.1 252 (by decide))) rfl (cw_wpc w37n) (cw_wpc_i) (cw_wpc_o) (w37n) (fun _ _ => rfl) (Nat.le_of_ble_eq_true rfl) dL_isWinSo_44 rfl (h37n) (fun v_44 w_44 hp_44 => ?_)
  obtain ⟨rfl, hr44⟩ := hp_44
  refine g_genP (P := cw_RC A) (hr44.low (fun q hq => if_pos hq)) (fun w44n h44n => ?_)
  refine g_istore C (by decide) dL_isWinSo_47 ?_
  refine g_iconst (v := 0) C (by decide) dL_isWinSo_49 ?_
  refine g_istore C (by decide) dL_isWinSo_50 ?_
  refine g_iconst (v := 0) C (by decide) dL_isWinSo_52 ?_
  refine g_istore C (by decide) dL_isWinSo_53 ?_
  refine g_sub rfl (g_for (α := Unit) (cw_no A.1) (fun i1 x1 => [(0, .ref 252), (1, .int (nI j)), (2, .int (nI k)), (3, .ref 263), (4, .int (cw_wins A.1 k)), (5, .int (cw_b (cw_open A.1 k))), (6, .int (cw_least A.1 j k)), (7, .int (cw_most A.1)), (8, .int (pw_SM A.1 i1)), (9, .int (nI i1))]) (fun i1 x1 w1 => cw_RC A w1) 0 () _ (Nat.zero_le _) (h44n) (fun i1 x1 w1 hi1 hR1 ih1 => ?_) (fun x1 w1 hR1 => ?_))
  · skip
    have hi1 := hi1
    refine g_iload C rfl dL_isWinSo_55 ?_
    refine g_aload_n C rfl dL_isWinSo_57 ?_
    refine g_iconst (v := 0) C (by decide) dL_isWinSo_58 ?_
    refine g_callW C cw_emb_CO (ok_X6_about A hA 0 (by decide)) my_X6_about vi_L_59 (by decide) ⟨Nat.le_refl _, Nat.le_refl _⟩ rfl ((cw_emb_CO.1 252 (by decide))) rfl (cw_wpc w1) (cw_wpc_i) (cw_wpc_o) (w1) (fun _ _ => rfl) (Nat.le_of_ble_eq_true rfl) dL_isWinSo_59 rfl (hR1) (fun v_59 w_59 hp_59 => ?_)
    obtain ⟨rfl, hr59⟩ := hp_59
    refine g_genP (P := cw_RC A) (hr59.low (fun q hq => if_pos hq)) (fun w59n h59n => ?_)
    refine g_top (show _ = nI (cw_no A.1) from hI.m.1) ?_
    refine g_cmp_ge (tgt := 128) C (by decide) dL_isWinSo_62 (fun c_62 => absurd c_62 (pw_nge hi1 (by omega))) (fun c_62 => ?_)
    refine g_iconst (v := 0) C (by decide) dL_isWinSo_65 ?_
    refine g_top (show (0 : Int32) = cw_b (∃ q, q < 0 ∧ cw_hind A.1 i1 q = 0) from (cw_bf (fun ⟨q, hq, _⟩ => absurd hq (Nat.not_lt_zero _))).symm) ?_
    refine g_istore C (by decide) dL_isWinSo_66 ?_
    refine g_iconst (v := 0) C (by decide) dL_isWinSo_68 ?_
    refine g_istore C (by decide) dL_isWinSo_69 ?_
    refine g_sub rfl (g_for (α := Unit) 20 (fun i2 x2 => [(0, .ref 252), (1, .int (nI j)), (2, .int (nI k)), (3, .ref 263), (4, .int (cw_wins A.1 k)), (5, .int (cw_b (cw_open A.1 k))), (6, .int (cw_least A.1 j k)), (7, .int (cw_most A.1)), (8, .int (pw_SM A.1 i1)), (9, .int (nI i1)), (10, .int (cw_b (∃ q, q < i2 ∧ cw_hind A.1 i1 q = 0))), (11, .int (nI i2))]) (fun i2 x2 w2 => cw_RC A w2) 0 () _ (Nat.zero_le _) (h59n) (fun i2 x2 w2 hi2 hR2 ih2 => ?_) (fun x2 w2 hR2 => ?_))
    · skip
      refine g_iload C rfl dL_isWinSo_71 ?_
      refine g_bipush (v := 20) C (by decide) dL_isWinSo_73 ?_
      refine g_cmp_ge (tgt := 107) C (by decide) dL_isWinSo_75 (fun c_75 => absurd c_75 (nI_ge hi2 (by decide))) (fun c_75 => ?_)
      refine g_iload C rfl dL_isWinSo_78 ?_
      refine g_joinW1 99 (cw_b (∃ q, q < i2 + 1 ∧ cw_hind A.1 i1 q = 0)) (cw_RC A) (fun k_99 => ?_) (fun w99j h99j => ?_)
      · refine g_if_ne (tgt := 94) C (by decide) dL_isWinSo_80 (fun c_80 => ?_) (fun c_80 => ?_)
        · refine g_iconst (v := 1) C (by decide) dL_isWinSo_94 ?_
          refine g_goto (tgt := 99) C (by decide) dL_isWinSo_95 ?_
          exact k_99 _ _ ((cw_b1 (pw_exs (cw_bn c_80))).symm) hR2
        · refine g_aload_n C rfl dL_isWinSo_83 ?_
          refine g_iload C rfl dL_isWinSo_84 ?_
          refine g_iload C rfl dL_isWinSo_86 ?_
          refine g_callW C cw_emb_CO (ok_X6_why A hA (nI i1) (nI i2) ⟨cw_isO_nI hI.m hi1, cw_isW_nI (by omega)⟩) my_X6_why vi_L_92 (by decide) ⟨Nat.le_refl _, Nat.le_refl _⟩ rfl ((cw_emb_CO.1 252 (by decide))) rfl (cw_wpc w2) (cw_wpc_i) (cw_wpc_o) (w2) (fun _ _ => rfl) (Nat.le_of_ble_eq_true rfl) dL_isWinSo_88 rfl (hR2) (fun v_88 w_88 hp_88 => ?_)
          obtain ⟨rfl, hr88⟩ := hp_88
          refine g_genP (P := cw_RC A) (hr88.low (fun q hq => if_pos hq)) (fun w88n h88n => ?_)
          refine g_top (show _ = cw_hind A.1 i1 i2 by rw [cw_xn (by omega), cw_xn (by omega)]) ?_
          refine g_if_ne (tgt := 98) C (by decide) dL_isWinSo_91 (fun c_91 => ?_) (fun c_91 => ?_)
          · refine g_iconst (v := 0) C (by decide) dL_isWinSo_98 ?_
            exact k_99 _ _ ((cw_bf (pw_exn (cw_b0.mp c_80) c_91)).symm) h88n
          · refine g_iconst (v := 1) C (by decide) dL_isWinSo_94 ?_
            refine g_goto (tgt := 99) C (by decide) dL_isWinSo_95 ?_
            exact k_99 _ _ ((cw_b1 ⟨i2, Nat.lt_succ_self i2, c_91⟩).symm) h88n
      refine g_istore C (by decide) dL_isWinSo_99 ?_
      refine g_iinc (v := nI (i2 + 1)) C rfl (nI_1 i2) (by decide) dL_isWinSo_101 ?_
      refine g_goto (tgt := 71) C (by decide) dL_isWinSo_104 ?_
      exact g_sub rfl (ih2 () _ h99j)
    skip
    refine g_iload C rfl dL_isWinSo_71 ?_
    refine g_bipush (v := 20) C (by decide) dL_isWinSo_73 ?_
    refine g_cmp_ge (tgt := 107) C (by decide) dL_isWinSo_75 (fun c_75 => ?_) (fun c_75 => absurd (by decide) c_75)
    refine g_iload C rfl dL_isWinSo_107 ?_
    refine g_iload C rfl dL_isWinSo_109 ?_
    refine g_join1 119 (cw_b (∃ q, q < 20 ∧ cw_hind A.1 i1 q = 0)) (fun k_119 => ?_) ?_
    · refine g_if_eq (tgt := 118) C (by decide) dL_isWinSo_111 (fun c_111 => ?_) (fun c_111 => ?_)
      · refine g_iconst (v := 0) C (by decide) dL_isWinSo_118 ?_
        exact k_119 _ (c_111.symm)
      · refine g_iconst (v := 1) C (by decide) dL_isWinSo_114 ?_
        refine g_goto (tgt := 119) C (by decide) dL_isWinSo_115 ?_
        exact k_119 _ ((cw_b1 (cw_bn c_111)).symm)
    refine g_iadd C dL_isWinSo_119 ?_
    refine g_istore C (by decide) dL_isWinSo_120 ?_
    refine g_iinc (v := nI (i1 + 1)) C rfl (nI_1 i1) (by decide) dL_isWinSo_122 ?_
    refine g_goto (tgt := 55) C (by decide) dL_isWinSo_125 ?_
    exact g_sub (by rw [pw_SM_1]; rfl) (ih1 () _ hR2)
  skip
  refine g_iload C rfl dL_isWinSo_55 ?_
  refine g_aload_n C rfl dL_isWinSo_57 ?_
  refine g_iconst (v := 0) C (by decide) dL_isWinSo_58 ?_
  refine g_callW C cw_emb_CO (ok_X6_about A hA 0 (by decide)) my_X6_about vi_L_59 (by decide) ⟨Nat.le_refl _, Nat.le_refl _⟩ rfl ((cw_emb_CO.1 252 (by decide))) rfl (cw_wpc w1) (cw_wpc_i) (cw_wpc_o) (w1) (fun _ _ => rfl) (Nat.le_of_ble_eq_true rfl) dL_isWinSo_59 rfl (hR1) (fun v_59 w_59 hp_59 => ?_)
  obtain ⟨rfl, hr59⟩ := hp_59
  refine g_genP (P := cw_RC A) (hr59.low (fun q hq => if_pos hq)) (fun w59n h59n => ?_)
  refine g_top (show _ = nI (cw_no A.1) from hI.m.1) ?_
  refine g_cmp_ge (tgt := 128) C (by decide) dL_isWinSo_62 (fun c_62 => ?_) (fun c_62 => absurd (Int32.le_refl _) c_62)
  refine g_aload_n C rfl dL_isWinSo_128 ?_
  refine g_iconst (v := 1) C (by decide) dL_isWinSo_129 ?_
  refine g_callW C cw_emb_CO (ok_X6_could A hA 1 (by decide)) my_X6_could vi_L_101 (by decide) ⟨Nat.le_refl _, Nat.le_refl _⟩ rfl ((cw_emb_CO.1 252 (by decide))) rfl (cw_wpc w59n) (cw_wpc_i) (cw_wpc_o) (w59n) (fun _ _ => rfl) (Nat.le_of_ble_eq_true rfl) dL_isWinSo_130 rfl (h59n) (fun v_130 w_130 hp_130 => ?_)
  obtain ⟨rfl, hr130⟩ := hp_130
  refine g_genP (P := cw_RC A) (hr130.low (fun q hq => if_pos hq)) (fun w130n h130n => ?_)
  refine g_iload C rfl dL_isWinSo_133 ?_
  refine g_cmp_ne (tgt := 212) C (by decide) dL_isWinSo_135 (fun c_135 => absurd (rfl) c_135) (fun c_135 => ?_)
  refine g_iload C rfl dL_isWinSo_138 ?_
  refine g_iload C rfl dL_isWinSo_140 ?_
  refine g_cmp_gt (tgt := 212) C (by decide) dL_isWinSo_142 (fun c_142 => absurd c_142 (pw_could1 h6)) (fun c_142 => ?_)
  refine g_iload C rfl dL_isWinSo_145 ?_
  refine g_join1 155 (cw_b (¬ cw_most A.1 ≤ 0)) (fun k_155 => ?_) ?_
  · refine g_if_le (tgt := 154) C (by decide) dL_isWinSo_147 (fun c_147 => ?_) (fun c_147 => ?_)
    · refine g_iconst (v := 0) C (by decide) dL_isWinSo_154 ?_
      exact k_155 _ ((cw_bf (fun q => q c_147)).symm)
    · refine g_iconst (v := 1) C (by decide) dL_isWinSo_150 ?_
      refine g_goto (tgt := 155) C (by decide) dL_isWinSo_151 ?_
      exact k_155 _ ((cw_b1 c_147).symm)
  refine g_iload C rfl dL_isWinSo_155 ?_
  refine g_join1 165 (cw_b (¬ cw_most A.1 ≤ 0)) (fun k_165 => ?_) ?_
  · refine g_if_le (tgt := 164) C (by decide) dL_isWinSo_157 (fun c_157 => ?_) (fun c_157 => ?_)
    · refine g_iconst (v := 0) C (by decide) dL_isWinSo_164 ?_
      exact k_165 _ ((cw_bf (fun q => q ((pw_could2 h6).mpr c_157))).symm)
    · refine g_iconst (v := 1) C (by decide) dL_isWinSo_160 ?_
      refine g_goto (tgt := 165) C (by decide) dL_isWinSo_161 ?_
      exact k_165 _ ((cw_b1 (fun q => c_157 ((pw_could2 h6).mp q))).symm)
  refine g_cmp_ne (tgt := 212) C (by decide) dL_isWinSo_165 (fun c_165 => absurd (rfl) c_165) (fun c_165 => ?_)
  refine g_iload C rfl dL_isWinSo_168 ?_
  refine g_joinW1 213 (1) (cw_RC A) (fun k_213 => ?_) (fun w213j h213j => ?_)
  · refine g_if_ne (tgt := 185) C (by decide) dL_isWinSo_170 (fun c_170 => ?_) (fun c_170 => ?_)
    · refine g_iload C rfl dL_isWinSo_185 ?_
      refine g_bipush (v := 21) C (by decide) dL_isWinSo_187 ?_
      refine g_cmp_ge (tgt := 212) C (by decide) dL_isWinSo_189 (fun c_189 => absurd c_189 (pw_least_lt A.1 j k)) (fun c_189 => ?_)
      refine g_iload C rfl dL_isWinSo_192 ?_
      refine g_iconst (v := (-1)) C (by decide) dL_isWinSo_194 ?_
      refine g_cmp_eq (tgt := 208) C (by decide) dL_isWinSo_195 (fun c_195 => ?_) (fun c_195 => ?_)
      · refine g_iconst (v := 1) C (by decide) dL_isWinSo_208 ?_
        refine g_goto (tgt := 213) C (by decide) dL_isWinSo_209 ?_
        exact k_213 _ _ (rfl) h130n
      · refine g_aload_n C rfl dL_isWinSo_198 ?_
        refine g_iload C rfl dL_isWinSo_199 ?_
        refine g_iload_n C rfl dL_isWinSo_201 ?_
        refine g_callW C cw_emb_CO (ok_X6_bidOf A hA (cw_wins A.1 k) (nI k) (pw_wins_th hI hB2 hk c_195)) my_X6_bidOf vi_L_89 (by decide) ⟨Nat.le_refl _, Nat.le_refl _⟩ rfl ((cw_emb_CO.1 252 (by decide))) rfl (cw_wpc w130n) (cw_wpc_i) (cw_wpc_o) (w130n) (fun _ _ => rfl) (Nat.le_of_ble_eq_true rfl) dL_isWinSo_202 rfl (h130n) (fun v_202 w_202 hp_202 => ?_)
        obtain ⟨rfl, hr202⟩ := hp_202
        refine g_genP (P := cw_RC A) (hr202.low (fun q hq => if_pos hq)) (fun w202n h202n => ?_)
        refine g_top (show _ = A.1 (85 + 20 * cw_x (cw_wins A.1 k) + k) by rw [cw_xn (show k < 1000 by omega)]) ?_
        refine g_if_lt (tgt := 212) C (by decide) dL_isWinSo_205 (fun c_205 => absurd c_205 (pw_wins_bid hI hB2 hk c_195)) (fun c_205 => ?_)
        refine g_iconst (v := 1) C (by decide) dL_isWinSo_208 ?_
        refine g_goto (tgt := 213) C (by decide) dL_isWinSo_209 ?_
        exact k_213 _ _ (rfl) h202n
    · refine g_iload C rfl dL_isWinSo_173 ?_
      refine g_iconst (v := (-1)) C (by decide) dL_isWinSo_175 ?_
      refine g_cmp_ne (tgt := 212) C (by decide) dL_isWinSo_176 (fun c_176 => absurd (pw_wins_no hI hB2 hk (cw_b0.mp c_170)) c_176) (fun c_176 => ?_)
      refine g_iload C rfl dL_isWinSo_179 ?_
      refine g_iconst (v := (-1)) C (by decide) dL_isWinSo_181 ?_
      refine g_cmp_ne (tgt := 212) C (by decide) dL_isWinSo_182 (fun c_182 => absurd (pw_least_no (cw_b0.mp c_170)) c_182) (fun c_182 => ?_)
      refine g_iload C rfl dL_isWinSo_185 ?_
      refine g_bipush (v := 21) C (by decide) dL_isWinSo_187 ?_
      refine g_cmp_ge (tgt := 212) C (by decide) dL_isWinSo_189 (fun c_189 => absurd c_189 (pw_least_lt A.1 j k)) (fun c_189 => ?_)
      refine g_iload C rfl dL_isWinSo_192 ?_
      refine g_iconst (v := (-1)) C (by decide) dL_isWinSo_194 ?_
      refine g_cmp_eq (tgt := 208) C (by decide) dL_isWinSo_195 (fun c_195 => ?_) (fun c_195 => ?_)
      · refine g_iconst (v := 1) C (by decide) dL_isWinSo_208 ?_
        refine g_goto (tgt := 213) C (by decide) dL_isWinSo_209 ?_
        exact k_213 _ _ (rfl) h130n
      · refine g_aload_n C rfl dL_isWinSo_198 ?_
        refine g_iload C rfl dL_isWinSo_199 ?_
        refine g_iload_n C rfl dL_isWinSo_201 ?_
        refine g_callW C cw_emb_CO (ok_X6_bidOf A hA (cw_wins A.1 k) (nI k) (pw_wins_th hI hB2 hk c_195)) my_X6_bidOf vi_L_89 (by decide) ⟨Nat.le_refl _, Nat.le_refl _⟩ rfl ((cw_emb_CO.1 252 (by decide))) rfl (cw_wpc w130n) (cw_wpc_i) (cw_wpc_o) (w130n) (fun _ _ => rfl) (Nat.le_of_ble_eq_true rfl) dL_isWinSo_202 rfl (h130n) (fun v_202 w_202 hp_202 => ?_)
        obtain ⟨rfl, hr202⟩ := hp_202
        refine g_genP (P := cw_RC A) (hr202.low (fun q hq => if_pos hq)) (fun w202n h202n => ?_)
        refine g_top (show _ = A.1 (85 + 20 * cw_x (cw_wins A.1 k) + k) by rw [cw_xn (show k < 1000 by omega)]) ?_
        refine g_if_lt (tgt := 212) C (by decide) dL_isWinSo_205 (fun c_205 => absurd c_205 (pw_wins_bid hI hB2 hk c_195)) (fun c_205 => ?_)
        refine g_iconst (v := 1) C (by decide) dL_isWinSo_208 ?_
        refine g_goto (tgt := 213) C (by decide) dL_isWinSo_209 ?_
        exact k_213 _ _ (rfl) h202n
  refine g_istore C (by decide) dL_isWinSo_213 ?_
  refine g_aload_n C rfl dL_isWinSo_215 ?_
  refine g_callW C cw_emb_CO (ok_X6_settle A hA hB2) my_X6_settle vi_L_73 (by decide) ⟨Nat.le_refl _, Nat.le_refl _⟩ rfl ((cw_emb_CO.1 252 (by decide))) rfl (cw_wpc w213j) (cw_wpc_i) (cw_wpc_o) (w213j) (fun _ _ => rfl) (Nat.le_of_ble_eq_true rfl) dL_isWinSo_216 rfl (h213j) (fun v_216 w_216 hp_216 => ?_)
  obtain ⟨rfl, hr216⟩ := hp_216
  refine g_genP (P := cw_RC (cw_acts A 101 0 0 0).2) (hr216.low (fun q hq => if_pos hq)) (fun w216n h216n => ?_)
  refine g_istore C (by decide) dL_isWinSo_219 ?_
  refine g_iload C rfl dL_isWinSo_221 ?_
  refine g_if_eq (tgt := 274) C (by decide) dL_isWinSo_223 (fun c_223 => absurd c_223 (by decide)) (fun c_223 => ?_)
  refine g_iload C rfl dL_isWinSo_226 ?_
  refine g_joinW1 275 (1) (cw_RC (pw_un (cw_acts A 101 0 0 0).2)) (fun k_275 => ?_) (fun w275j h275j => ?_)
  · refine g_if_eq (tgt := 242) C (by decide) dL_isWinSo_228 (fun c_228 => ?_) (fun c_228 => ?_)
    · refine g_iload C rfl dL_isWinSo_242 ?_
      refine g_iconst (v := (-1)) C (by decide) dL_isWinSo_244 ?_
      refine g_cmp_eq (tgt := 253) C (by decide) dL_isWinSo_245 (fun c_245 => ?_) (fun c_245 => ?_)
      · refine g_aload_n C rfl dL_isWinSo_253 ?_
        refine g_bipush (v := 8) C (by decide) dL_isWinSo_254 ?_
        refine g_callW C cw_emb_CO (ok_X6_about (cw_acts A 101 0 0 0).2 hB9 8 (by decide)) my_X6_about vi_L_59 (by decide) ⟨Nat.le_refl _, Nat.le_refl _⟩ rfl ((cw_emb_CO.1 252 (by decide))) rfl (cw_wpc w216n) (cw_wpc_i) (cw_wpc_o) (w216n) (fun _ _ => rfl) (Nat.le_of_ble_eq_true rfl) dL_isWinSo_256 rfl (h216n) (fun v_256 w_256 hp_256 => ?_)
        obtain ⟨rfl, hr256⟩ := hp_256
        refine g_genP (P := cw_RC (cw_acts A 101 0 0 0).2) (hr256.low (fun q hq => if_pos hq)) (fun w256n h256n => ?_)
        refine g_top (show _ = (0 : Int32) from pw_nobids hI hB2) ?_
        refine g_if_ne (tgt := 274) C (by decide) dL_isWinSo_259 (fun c_259 => absurd (rfl) c_259) (fun c_259 => ?_)
        refine g_aload_n C rfl dL_isWinSo_262 ?_
        refine g_aload_n C rfl dL_isWinSo_263 ?_
        refine g_callN C (gw_emb_id sCO) (ok_L_undoes (cw_acts A 101 0 0 0).2 hB9 (Nat.pos_iff_ne_zero.mp H1.1)) my_L_undoes si_L_104 (by decide) ⟨Nat.le_refl _, Nat.le_refl _⟩ rfl (fun w1 => w1) (fun _ _ _ => rfl) (fun w1 j hj h => absurd rfl (h j hj)) w256n (fun _ _ => rfl) (Nat.le_of_ble_eq_true rfl) dL_isWinSo_264 rfl h256n (fun v_264 w_264 hp_264 => ?_)
        obtain ⟨rfl, -, hr264⟩ := hp_264
        refine g_if_ne (tgt := 274) C (by decide) dL_isWinSo_267 (fun c_267 => absurd (rfl) c_267) (fun c_267 => ?_)
        refine g_iconst (v := 1) C (by decide) dL_isWinSo_270 ?_
        refine g_goto (tgt := 275) C (by decide) dL_isWinSo_271 ?_
        exact k_275 _ _ (rfl) hr264
      · refine g_iload C rfl dL_isWinSo_248 ?_
        refine g_if_le (tgt := 274) C (by decide) dL_isWinSo_250 (fun c_250 => absurd c_250 (pw_settle_n hI hB2 hk c_245)) (fun c_250 => ?_)
        refine g_aload_n C rfl dL_isWinSo_253 ?_
        refine g_bipush (v := 8) C (by decide) dL_isWinSo_254 ?_
        refine g_callW C cw_emb_CO (ok_X6_about (cw_acts A 101 0 0 0).2 hB9 8 (by decide)) my_X6_about vi_L_59 (by decide) ⟨Nat.le_refl _, Nat.le_refl _⟩ rfl ((cw_emb_CO.1 252 (by decide))) rfl (cw_wpc w216n) (cw_wpc_i) (cw_wpc_o) (w216n) (fun _ _ => rfl) (Nat.le_of_ble_eq_true rfl) dL_isWinSo_256 rfl (h216n) (fun v_256 w_256 hp_256 => ?_)
        obtain ⟨rfl, hr256⟩ := hp_256
        refine g_genP (P := cw_RC (cw_acts A 101 0 0 0).2) (hr256.low (fun q hq => if_pos hq)) (fun w256n h256n => ?_)
        refine g_top (show _ = (0 : Int32) from pw_nobids hI hB2) ?_
        refine g_if_ne (tgt := 274) C (by decide) dL_isWinSo_259 (fun c_259 => absurd (rfl) c_259) (fun c_259 => ?_)
        refine g_aload_n C rfl dL_isWinSo_262 ?_
        refine g_aload_n C rfl dL_isWinSo_263 ?_
        refine g_callN C (gw_emb_id sCO) (ok_L_undoes (cw_acts A 101 0 0 0).2 hB9 (Nat.pos_iff_ne_zero.mp H1.1)) my_L_undoes si_L_104 (by decide) ⟨Nat.le_refl _, Nat.le_refl _⟩ rfl (fun w1 => w1) (fun _ _ _ => rfl) (fun w1 j hj h => absurd rfl (h j hj)) w256n (fun _ _ => rfl) (Nat.le_of_ble_eq_true rfl) dL_isWinSo_264 rfl h256n (fun v_264 w_264 hp_264 => ?_)
        obtain ⟨rfl, -, hr264⟩ := hp_264
        refine g_if_ne (tgt := 274) C (by decide) dL_isWinSo_267 (fun c_267 => absurd (rfl) c_267) (fun c_267 => ?_)
        refine g_iconst (v := 1) C (by decide) dL_isWinSo_270 ?_
        refine g_goto (tgt := 275) C (by decide) dL_isWinSo_271 ?_
        exact k_275 _ _ (rfl) hr264
    · refine g_aload_n C rfl dL_isWinSo_231 ?_
      refine g_iload_n C rfl dL_isWinSo_232 ?_
      refine g_iconst (v := 2) C (by decide) dL_isWinSo_233 ?_
      refine g_callW C cw_emb_CO (ok_X6_weekOf (cw_acts A 101 0 0 0).2 hB9 (nI k) 2 (cw_isW_nI hk) (by decide)) my_X6_weekOf vi_L_79 (by decide) ⟨Nat.le_refl _, Nat.le_refl _⟩ rfl ((cw_emb_CO.1 252 (by decide))) rfl (cw_wpc w216n) (cw_wpc_i) (cw_wpc_o) (w216n) (fun _ _ => rfl) (Nat.le_of_ble_eq_true rfl) dL_isWinSo_234 rfl (h216n) (fun v_234 w_234 hp_234 => ?_)
      obtain ⟨rfl, hr234⟩ := hp_234
      refine g_genP (P := cw_RC (cw_acts A 101 0 0 0).2) (hr234.low (fun q hq => if_pos hq)) (fun w234n h234n => ?_)
      refine g_top ((pw_W2 _ (show k < 1000 by omega)).trans (pw_settled2 hI hB2 hk (cw_bn c_228))) ?_
      refine g_iload C rfl dL_isWinSo_237 ?_
      refine g_cmp_ne (tgt := 274) C (by decide) dL_isWinSo_239 (fun c_239 => absurd (rfl) c_239) (fun c_239 => ?_)
      refine g_iload C rfl dL_isWinSo_242 ?_
      refine g_iconst (v := (-1)) C (by decide) dL_isWinSo_244 ?_
      refine g_cmp_eq (tgt := 253) C (by decide) dL_isWinSo_245 (fun c_245 => ?_) (fun c_245 => ?_)
      · refine g_aload_n C rfl dL_isWinSo_253 ?_
        refine g_bipush (v := 8) C (by decide) dL_isWinSo_254 ?_
        refine g_callW C cw_emb_CO (ok_X6_about (cw_acts A 101 0 0 0).2 hB9 8 (by decide)) my_X6_about vi_L_59 (by decide) ⟨Nat.le_refl _, Nat.le_refl _⟩ rfl ((cw_emb_CO.1 252 (by decide))) rfl (cw_wpc w234n) (cw_wpc_i) (cw_wpc_o) (w234n) (fun _ _ => rfl) (Nat.le_of_ble_eq_true rfl) dL_isWinSo_256 rfl (h234n) (fun v_256 w_256 hp_256 => ?_)
        obtain ⟨rfl, hr256⟩ := hp_256
        refine g_genP (P := cw_RC (cw_acts A 101 0 0 0).2) (hr256.low (fun q hq => if_pos hq)) (fun w256n h256n => ?_)
        refine g_top (show _ = (0 : Int32) from pw_nobids hI hB2) ?_
        refine g_if_ne (tgt := 274) C (by decide) dL_isWinSo_259 (fun c_259 => absurd (rfl) c_259) (fun c_259 => ?_)
        refine g_aload_n C rfl dL_isWinSo_262 ?_
        refine g_aload_n C rfl dL_isWinSo_263 ?_
        refine g_callN C (gw_emb_id sCO) (ok_L_undoes (cw_acts A 101 0 0 0).2 hB9 (Nat.pos_iff_ne_zero.mp H1.1)) my_L_undoes si_L_104 (by decide) ⟨Nat.le_refl _, Nat.le_refl _⟩ rfl (fun w1 => w1) (fun _ _ _ => rfl) (fun w1 j hj h => absurd rfl (h j hj)) w256n (fun _ _ => rfl) (Nat.le_of_ble_eq_true rfl) dL_isWinSo_264 rfl h256n (fun v_264 w_264 hp_264 => ?_)
        obtain ⟨rfl, -, hr264⟩ := hp_264
        refine g_if_ne (tgt := 274) C (by decide) dL_isWinSo_267 (fun c_267 => absurd (rfl) c_267) (fun c_267 => ?_)
        refine g_iconst (v := 1) C (by decide) dL_isWinSo_270 ?_
        refine g_goto (tgt := 275) C (by decide) dL_isWinSo_271 ?_
        exact k_275 _ _ (rfl) hr264
      · refine g_iload C rfl dL_isWinSo_248 ?_
        refine g_if_le (tgt := 274) C (by decide) dL_isWinSo_250 (fun c_250 => absurd c_250 (pw_settle_n hI hB2 hk c_245)) (fun c_250 => ?_)
        refine g_aload_n C rfl dL_isWinSo_253 ?_
        refine g_bipush (v := 8) C (by decide) dL_isWinSo_254 ?_
        refine g_callW C cw_emb_CO (ok_X6_about (cw_acts A 101 0 0 0).2 hB9 8 (by decide)) my_X6_about vi_L_59 (by decide) ⟨Nat.le_refl _, Nat.le_refl _⟩ rfl ((cw_emb_CO.1 252 (by decide))) rfl (cw_wpc w234n) (cw_wpc_i) (cw_wpc_o) (w234n) (fun _ _ => rfl) (Nat.le_of_ble_eq_true rfl) dL_isWinSo_256 rfl (h234n) (fun v_256 w_256 hp_256 => ?_)
        obtain ⟨rfl, hr256⟩ := hp_256
        refine g_genP (P := cw_RC (cw_acts A 101 0 0 0).2) (hr256.low (fun q hq => if_pos hq)) (fun w256n h256n => ?_)
        refine g_top (show _ = (0 : Int32) from pw_nobids hI hB2) ?_
        refine g_if_ne (tgt := 274) C (by decide) dL_isWinSo_259 (fun c_259 => absurd (rfl) c_259) (fun c_259 => ?_)
        refine g_aload_n C rfl dL_isWinSo_262 ?_
        refine g_aload_n C rfl dL_isWinSo_263 ?_
        refine g_callN C (gw_emb_id sCO) (ok_L_undoes (cw_acts A 101 0 0 0).2 hB9 (Nat.pos_iff_ne_zero.mp H1.1)) my_L_undoes si_L_104 (by decide) ⟨Nat.le_refl _, Nat.le_refl _⟩ rfl (fun w1 => w1) (fun _ _ _ => rfl) (fun w1 j hj h => absurd rfl (h j hj)) w256n (fun _ _ => rfl) (Nat.le_of_ble_eq_true rfl) dL_isWinSo_264 rfl h256n (fun v_264 w_264 hp_264 => ?_)
        obtain ⟨rfl, -, hr264⟩ := hp_264
        refine g_if_ne (tgt := 274) C (by decide) dL_isWinSo_267 (fun c_267 => absurd (rfl) c_267) (fun c_267 => ?_)
        refine g_iconst (v := 1) C (by decide) dL_isWinSo_270 ?_
        refine g_goto (tgt := 275) C (by decide) dL_isWinSo_271 ?_
        exact k_275 _ _ (rfl) hr264
  refine g_istore C (by decide) dL_isWinSo_275 ?_
  obtain ⟨T1, hT1, h275⟩ := pw_ex (A := A) (B := pw_un (cw_acts A 101 0 0 0).2) (pw_un1 H1) (pw_un_IA hB9 H1.1) h275j
  refine g_iload C rfl dL_isWinSo_277 ?_
  refine g_if_lt (tgt := 322) C (by decide) dL_isWinSo_279 (fun c_279 => ?_) (fun c_279 => ?_)
  · refine g_iload C rfl dL_isWinSo_322 ?_
    refine g_if_le (tgt := 369) C (by decide) dL_isWinSo_324 (fun c_324 => ?_) (fun c_324 => absurd (Int32.le_of_lt c_279) c_324)
    refine g_iload C rfl dL_isWinSo_369 ?_
    refine g_zret C F (rfl) dL_isWinSo_371 ?_
    exact ⟨rfl, T1, hT1.mono (by omega) (by omega), h275⟩
  · obtain ⟨ho, e9, he9, el, hw1, hw2⟩ := (pw_least A.1 j k).resolve_left (fun q => c_279 (by rw [q]; decide))
    refine g_iload C rfl dL_isWinSo_282 ?_
    refine g_if_eq (tgt := 319) C (by decide) dL_isWinSo_284 (fun c_284 => absurd c_284 (by decide)) (fun c_284 => ?_)
    refine g_aload_n C rfl dL_isWinSo_287 ?_
    refine g_iload_n C rfl dL_isWinSo_288 ?_
    refine g_iload_n C rfl dL_isWinSo_289 ?_
    refine g_iload C rfl dL_isWinSo_290 ?_
    refine g_callW C cw_emb_CO (ok_X6_bid (A.1, T1) hT1 (cw_B_le2 hB (by omega) (by omega)) (nI j) (nI k) (cw_least A.1 j k) ⟨cw_isO_nI hI.m hj, cw_isW_nI hk⟩ (by rw [el]; exact pw_in (l := 0) (u := 20) (Nat.zero_le _) he9 (by omega)) (by rw [cw_xn (show k < 1000 by omega)]; exact ho)) my_X6_bid vi_L_43 (by decide) ⟨Nat.le_refl _, Nat.le_refl _⟩ rfl ((cw_emb_CO.1 252 (by decide))) rfl (cw_wpc w275j) (cw_wpc_i) (cw_wpc_o) (w275j) (fun _ _ => rfl) (Nat.le_of_ble_eq_true rfl) dL_isWinSo_292 rfl (h275) (fun v_292 w_292 hp_292 => ?_)
    obtain ⟨rfl, hr292⟩ := hp_292
    refine g_genP (P := cw_RC (cw_acts (A.1, T1) 98 (nI j) (nI k) (cw_least A.1 j k)).2) (hr292.low (fun q hq => if_pos hq)) (fun w292n h292n => ?_)
    refine g_top (show _ = cw_bidsFor (upd A.1 (85 + 20 * j + k) (nI e9)) k by show (cw_does A.1 98 (nI j) (nI k) (cw_least A.1 j k)).1 = _; rw [el, (pw_bidded hI hj hk ho he9).1]) ?_
    refine g_if_le (tgt := 319) C (by decide) dL_isWinSo_295 (fun c_295 => absurd c_295 ((pw_bidded hI hj hk ho he9).2)) (fun c_295 => ?_)
    refine g_aload_n C rfl dL_isWinSo_298 ?_
    refine g_iload_n C rfl dL_isWinSo_299 ?_
    have hD1 : cw_IA (n + 43200) (m + 4800) (cw_acts (A.1, T1) 98 (nI j) (nI k) (cw_least A.1 j k)).2 := (ia_acts hT1 (cw_B_le2 hB (by omega) (by omega)) 98 (nI j) (nI k) (cw_least A.1 j k) (fun q => absurd q (by decide))).mono (by omega) (by omega)
    have HD1 : pw_H1 (cw_acts (A.1, T1) 98 (nI j) (nI k) (cw_least A.1 j k)).2 A.1 := pw_rem1 hT1.2.2.2.1 _
    refine g_callW C cw_emb_CO (ok_X6_winner (cw_acts (A.1, T1) 98 (nI j) (nI k) (cw_least A.1 j k)).2 hD1 (cw_B_le2 hB (by omega) (by omega)) (nI k) (cw_isW_nI hk)) my_X6_winner vi_L_95 (by decide) ⟨Nat.le_refl _, Nat.le_refl _⟩ rfl ((cw_emb_CO.1 252 (by decide))) rfl (cw_wpc w292n) (cw_wpc_i) (cw_wpc_o) (w292n) (fun _ _ => rfl) (Nat.le_of_ble_eq_true rfl) dL_isWinSo_300 rfl (h292n) (fun v_300 w_300 hp_300 => ?_)
    obtain ⟨rfl, hr300⟩ := hp_300
    refine g_genP (P := cw_RC (cw_acts (A.1, T1) 98 (nI j) (nI k) (cw_least A.1 j k)).2) (hr300.low (fun q hq => if_pos hq)) (fun w300n h300n => ?_)
    refine g_top (show _ = nI j by rw [cw_xn (show k < 1000 by omega)]; show cw_wins (cw_nf (cw_does A.1 98 (nI j) (nI k) (cw_least A.1 j k)).2) k = nI j; rw [el, pw_bid_wins hI hB2 hj hk ho he9]; exact hw1) ?_
    refine g_iload_n C rfl dL_isWinSo_303 ?_
    refine g_cmp_ne (tgt := 319) C (by decide) dL_isWinSo_304 (fun c_304 => absurd (rfl) c_304) (fun c_304 => ?_)
    refine g_aload_n C rfl dL_isWinSo_307 ?_
    refine g_aload_n C rfl dL_isWinSo_308 ?_
    refine g_callN C (gw_emb_id sCO) (ok_L_undoes (cw_acts (A.1, T1) 98 (nI j) (nI k) (cw_least A.1 j k)).2 hD1 (Nat.pos_iff_ne_zero.mp HD1.1)) my_L_undoes si_L_104 (by decide) ⟨Nat.le_refl _, Nat.le_refl _⟩ rfl (fun w1 => w1) (fun _ _ _ => rfl) (fun w1 j hj h => absurd rfl (h j hj)) w300n (fun _ _ => rfl) (Nat.le_of_ble_eq_true rfl) dL_isWinSo_309 rfl h300n (fun v_309 w_309 hp_309 => ?_)
    obtain ⟨rfl, -, hr309⟩ := hp_309
    refine g_if_ne (tgt := 319) C (by decide) dL_isWinSo_312 (fun c_312 => absurd (rfl) c_312) (fun c_312 => ?_)
    refine g_iconst (v := 1) C (by decide) dL_isWinSo_315 ?_
    refine g_goto (tgt := 320) C (by decide) dL_isWinSo_316 ?_
    refine g_istore C (by decide) dL_isWinSo_320 ?_
    obtain ⟨T2, hT2, h320⟩ := pw_ex (A := A) (B := pw_un (cw_acts (A.1, T1) 98 (nI j) (nI k) (cw_least A.1 j k)).2) (pw_un1 HD1) (pw_un_IA hD1 HD1.1) hr309
    refine g_iload C rfl dL_isWinSo_322 ?_
    refine g_if_le (tgt := 369) C (by decide) dL_isWinSo_324 (fun c_324 => ?_) (fun c_324 => ?_)
    · refine g_iload C rfl dL_isWinSo_369 ?_
      refine g_zret C F (rfl) dL_isWinSo_371 ?_
      exact ⟨rfl, T2, hT2.mono (by omega) (by omega), h320⟩
    · have he1 : 1 ≤ e9 := by
        have q := c_324
        rw [el, cw_le, cw_ni (by omega)] at q
        have z : (0 : Int32).toInt = 0 := rfl
        omega
      refine g_iload C rfl dL_isWinSo_327 ?_
      refine g_if_eq (tgt := 366) C (by decide) dL_isWinSo_329 (fun c_329 => absurd c_329 (by decide)) (fun c_329 => ?_)
      refine g_aload_n C rfl dL_isWinSo_332 ?_
      refine g_iload_n C rfl dL_isWinSo_333 ?_
      refine g_iload_n C rfl dL_isWinSo_334 ?_
      refine g_iload C rfl dL_isWinSo_335 ?_
      refine g_iconst (v := 1) C (by decide) dL_isWinSo_337 ?_
      refine g_isub C dL_isWinSo_338 ?_
      refine g_top (show _ = nI (e9 - 1) by rw [el]; exact cw_sub_1 (by omega)) ?_
      refine g_callW C cw_emb_CO (ok_X6_bid (A.1, T2) hT2 (cw_B_le2 hB (by omega) (by omega)) (nI j) (nI k) (nI (e9 - 1)) ⟨cw_isO_nI hI.m hj, cw_isW_nI hk⟩ (pw_in (l := 0) (u := 20) (Nat.zero_le _) (by omega) (by omega)) (by rw [cw_xn (show k < 1000 by omega)]; exact ho)) my_X6_bid vi_L_43 (by decide) ⟨Nat.le_refl _, Nat.le_refl _⟩ rfl ((cw_emb_CO.1 252 (by decide))) rfl (cw_wpc w_309) (cw_wpc_i) (cw_wpc_o) (w_309) (fun _ _ => rfl) (Nat.le_of_ble_eq_true rfl) dL_isWinSo_339 rfl (h320) (fun v_339 w_339 hp_339 => ?_)
      obtain ⟨rfl, hr339⟩ := hp_339
      refine g_genP (P := cw_RC (cw_acts (A.1, T2) 98 (nI j) (nI k) (nI (e9 - 1))).2) (hr339.low (fun q hq => if_pos hq)) (fun w339n h339n => ?_)
      refine g_top (show _ = cw_bidsFor (upd A.1 (85 + 20 * j + k) (nI (e9 - 1))) k by show (cw_does A.1 98 (nI j) (nI k) (nI (e9 - 1))).1 = _; rw [(pw_bidded hI hj hk ho (show e9 - 1 ≤ 20 by omega)).1]) ?_
      refine g_if_le (tgt := 366) C (by decide) dL_isWinSo_342 (fun c_342 => absurd c_342 ((pw_bidded hI hj hk ho (show e9 - 1 ≤ 20 by omega)).2)) (fun c_342 => ?_)
      refine g_aload_n C rfl dL_isWinSo_345 ?_
      refine g_iload_n C rfl dL_isWinSo_346 ?_
      have hD2 : cw_IA (n + 64800) (m + 7200) (cw_acts (A.1, T2) 98 (nI j) (nI k) (nI (e9 - 1))).2 := (ia_acts hT2 (cw_B_le2 hB (by omega) (by omega)) 98 (nI j) (nI k) (nI (e9 - 1)) (fun q => absurd q (by decide))).mono (by omega) (by omega)
      have HD2 : pw_H1 (cw_acts (A.1, T2) 98 (nI j) (nI k) (nI (e9 - 1))).2 A.1 := pw_rem1 hT2.2.2.2.1 _
      refine g_callW C cw_emb_CO (ok_X6_winner (cw_acts (A.1, T2) 98 (nI j) (nI k) (nI (e9 - 1))).2 hD2 (cw_B_le2 hB (by omega) (by omega)) (nI k) (cw_isW_nI hk)) my_X6_winner vi_L_95 (by decide) ⟨Nat.le_refl _, Nat.le_refl _⟩ rfl ((cw_emb_CO.1 252 (by decide))) rfl (cw_wpc w339n) (cw_wpc_i) (cw_wpc_o) (w339n) (fun _ _ => rfl) (Nat.le_of_ble_eq_true rfl) dL_isWinSo_347 rfl (h339n) (fun v_347 w_347 hp_347 => ?_)
      obtain ⟨rfl, hr347⟩ := hp_347
      refine g_genP (P := cw_RC (cw_acts (A.1, T2) 98 (nI j) (nI k) (nI (e9 - 1))).2) (hr347.low (fun q hq => if_pos hq)) (fun w347n h347n => ?_)
      refine g_top (show _ = cw_wins (upd A.1 (85 + 20 * j + k) (nI (e9 - 1))) k by rw [cw_xn (show k < 1000 by omega)]; exact pw_bid_wins hI hB2 hj hk ho (show e9 - 1 ≤ 20 by omega)) ?_
      refine g_iload_n C rfl dL_isWinSo_350 ?_
      refine g_cmp_eq (tgt := 366) C (by decide) dL_isWinSo_351 (fun c_351 => absurd c_351 (hw2 (e9 - 1) (by omega))) (fun c_351 => ?_)
      refine g_aload_n C rfl dL_isWinSo_354 ?_
      refine g_aload_n C rfl dL_isWinSo_355 ?_
      refine g_callN C (gw_emb_id sCO) (ok_L_undoes (cw_acts (A.1, T2) 98 (nI j) (nI k) (nI (e9 - 1))).2 hD2 (Nat.pos_iff_ne_zero.mp HD2.1)) my_L_undoes si_L_104 (by decide) ⟨Nat.le_refl _, Nat.le_refl _⟩ rfl (fun w1 => w1) (fun _ _ _ => rfl) (fun w1 j hj h => absurd rfl (h j hj)) w347n (fun _ _ => rfl) (Nat.le_of_ble_eq_true rfl) dL_isWinSo_356 rfl h347n (fun v_356 w_356 hp_356 => ?_)
      obtain ⟨rfl, -, hr356⟩ := hp_356
      refine g_if_ne (tgt := 366) C (by decide) dL_isWinSo_359 (fun c_359 => absurd (rfl) c_359) (fun c_359 => ?_)
      refine g_iconst (v := 1) C (by decide) dL_isWinSo_362 ?_
      refine g_goto (tgt := 367) C (by decide) dL_isWinSo_363 ?_
      refine g_istore C (by decide) dL_isWinSo_367 ?_
      refine g_iload C rfl dL_isWinSo_369 ?_
      refine g_zret C F (rfl) dL_isWinSo_371 ?_
      exact ⟨rfl, pw_ex (A := A) (B := pw_un (cw_acts (A.1, T2) 98 (nI j) (nI k) (nI (e9 - 1))).2) (pw_un1 HD2) (pw_un_IA hD2 HD2.1) hr356⟩

