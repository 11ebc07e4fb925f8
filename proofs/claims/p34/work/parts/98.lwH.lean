/-! UPKEEP, as the law takes it -/
def pw_SS (u : cw_s) (i : Nat) : Int32 := cw_fold (fun o x => x + u (1 + 4 * o + 0)) 0 i 0
def pw_SQ (u : cw_s) (c : Int32) (i : Nat) : Int32 := cw_fold (fun j x => x + cw_partOf u j c) 0 i 0
def pw_MX (u : cw_s) (c : Int32) (i : Nat) : Int32 := cw_fold (fun j x => if x < cw_partOf u j c then cw_partOf u j c else x) 0 i 0
theorem pw_SS_1 (u : cw_s) (i : Nat) : pw_SS u (i + 1) = pw_SS u i + u (1 + 4 * i + 0) := cw_fold0 _ i 0
theorem pw_SQ_1 (u : cw_s) (c : Int32) (i : Nat) : pw_SQ u c (i + 1) = pw_SQ u c i + cw_partOf u i c := cw_fold0 _ i 0
theorem pw_MX_1 (u : cw_s) (c : Int32) (i : Nat) : pw_MX u c (i + 1) = if pw_MX u c i < cw_partOf u i c then cw_partOf u i c else pw_MX u c i := cw_fold0 _ i 0
theorem pw_ups {n m : Nat} {u : cw_s} (hI : cw_I n m u) {c : Int32} (hc : 1 ≤ c ∧ c ≤ 999) (h0 : ¬ u 0 = 0) : (cw_does u 117 c 0 0).1 = pw_MX u c (cw_no u) ∧ cw_nf (cw_does u 117 c 0 0).2 241 = u 241 + c := by
  rw [cw_does_117]
  unfold cw_oUpkeep
  rw [cw_it ⟨hc, h0⟩]
  have key : ∀ i, (cw_fold (cw_pays u c) 0 i (0, u)).1 = pw_MX u c i ∧ (cw_fold (cw_pays u c) 0 i (0, u)).2 241 = u 241 ∨ 6 < i := by
    intro i
    induction i with
    | zero => exact Or.inl ⟨rfl, rfl⟩
    | succ i ih =>
      rcases ih with ⟨a, b⟩ | h
      · by_cases q : 6 < i + 1
        · exact Or.inr q
        · refine Or.inl ⟨?_, ?_⟩
          · rw [cw_fold0, pw_MX_1, ← a]; rfl
          · rw [cw_fold0]
            exact (cw_upn _ _ (by omega)).trans b
      · exact Or.inr (by omega)
  have h6 := hI.m.2
  obtain ⟨a, b⟩ := (key (cw_no u)).resolve_right (by omega)
  refine ⟨a, ?_⟩
  rw [cw_nf_rd _ (by omega) (by omega)]
  show upd (cw_fold (cw_pays u c) 0 (cw_no u) (0, u)).2 241 ((cw_fold (cw_pays u c) 0 (cw_no u) (0, u)).2 241 + c) 241 = _
  rw [cw_ups, b]
theorem pw_0le {k : Nat} (h : k < 1000) : ¬ nI k < 0 := by
  rw [cw_lt, cw_ni h]
  have z : (0 : Int32).toInt = 0 := rfl
  omega

set_option maxHeartbeats 8000000 in
set_option maxRecDepth 100000 in
theorem ok_L_isUpkeepSo (A : cw_A) {n m : Nat} (hA : cw_IA n m A) (hB : cw_B (n + 43200) (m + 4800)) (c : Int32) (hc : 1 ≤ c ∧ c ≤ 999) (h0 : ¬ A.1 0 = 0) : gw_Ok yL_isUpkeepSo cL_isUpkeepSo 9 (some .boolean) sC 14 [.ref 252, .int c] (fun w => cw_RC A w) (fun _ vr w1 => vr = some (.int 1) ∧ ∃ T, cw_IA (n + 43200) (m + 4800) (A.1, T) ∧ cw_RC (A.1, T) w1) := by
  refine gw_of (by decide) (Nat.le_of_ble_eq_true rfl) ?_
  intro X w h C F
  have hI := hA.1
  obtain ⟨k9, k9a, k9b, rfl⟩ := pw_c_nI hc
  have h6 := hI.m.2
  have hno : 0 < cw_no A.1 := by
    by_cases z : cw_no A.1 = 0
    · exact absurd (by rw [hI.m.1, z]; rfl) h0
    · omega
  have hs0 : ¬ cw_shares A.1 = 0 := by
    have hs := pw_shares_r hI hno
    rw [pw_shares hI]
    intro q
    have q := congrArg Int32.toInt q
    rw [cw_ni (by omega)] at q
    have z : (0 : Int32).toInt = 0 := rfl
    omega
  have hA2 : cw_IA (n + 21600) (m + 2400) (cw_acts A 117 (nI k9) 0 0).2 := ia_acts hA (cw_B_le2 hB (by omega) (by omega)) 117 (nI k9) 0 0 (fun q => absurd q (by decide))
  have H1 : pw_H1 (cw_acts A 117 (nI k9) 0 0).2 A.1 := pw_rem1 hA.2.2.2.1 _
  refine g_iconst (v := 0) C (by decide) dL_isUpkeepSo_0 ?_
  refine g_istore_n C (by decide) dL_isUpkeepSo_1 ?_
  refine g_iconst (v := 0) C (by decide) dL_isUpkeepSo_2 ?_
  refine g_istore_n C (by decide) dL_isUpkeepSo_3 ?_
  refine g_iconst (v := 0) C (by decide) dL_isUpkeepSo_4 ?_
  refine g_istore C (by decide) dL_isUpkeepSo_5 ?_
  refine g_iconst (v := 1) C (by decide) dL_isUpkeepSo_7 ?_
  refine g_istore C (by decide) dL_isUpkeepSo_8 ?_
  refine g_iconst (v := 0) C (by decide) dL_isUpkeepSo_10 ?_
  refine g_istore C (by decide) dL_isUpkeepSo_11 ?_
  refine g_sub rfl (g_for (α := Unit) (cw_no A.1) (fun i1 x1 => [(0, .ref 252), (1, .int (nI k9)), (2, .int (pw_SS A.1 i1)), (3, .int 0), (4, .int 0), (5, .int 1), (6, .int (nI i1))]) (fun i1 x1 w1 => cw_RC A w1) 0 () _ (Nat.zero_le _) (h) (fun i1 x1 w1 hi1 hR1 ih1 => ?_) (fun x1 w1 hR1 => ?_))
  · skip
    have hi1 := hi1
    refine g_iload C rfl dL_isUpkeepSo_13 ?_
    refine g_aload_n C rfl dL_isUpkeepSo_15 ?_
    refine g_iconst (v := 0) C (by decide) dL_isUpkeepSo_16 ?_
    refine g_call C (ok_X6_about A hA 0 (by decide)) my_X6_about vi_L_59 (by decide) ⟨Nat.le_refl _, Nat.le_refl _⟩ rfl rfl rfl (Nat.le_of_ble_eq_true rfl) dL_isUpkeepSo_17 rfl (hR1) (fun v_17 w_17 hp_17 => ?_)
    obtain ⟨rfl, hr17⟩ := hp_17
    refine g_top (show _ = nI (cw_no A.1) from hI.m.1) ?_
    refine g_cmp_ge (tgt := 39) C (by decide) dL_isUpkeepSo_20 (fun c_20 => absurd c_20 (pw_nge hi1 (by omega))) (fun c_20 => ?_)
    refine g_iload_n C rfl dL_isUpkeepSo_23 ?_
    refine g_aload_n C rfl dL_isUpkeepSo_24 ?_
    refine g_iload C rfl dL_isUpkeepSo_25 ?_
    refine g_iconst (v := 0) C (by decide) dL_isUpkeepSo_27 ?_
    refine g_call C (ok_X6_ownerOf A hA (nI i1) 0 (cw_isO_nI hI.m hi1) (by decide)) my_X6_ownerOf vi_L_66 (by decide) ⟨Nat.le_refl _, Nat.le_refl _⟩ rfl rfl rfl (Nat.le_of_ble_eq_true rfl) dL_isUpkeepSo_28 rfl (hr17) (fun v_28 w_28 hp_28 => ?_)
    obtain ⟨rfl, hr28⟩ := hp_28
    refine g_top (pw_O0 A.1 (by omega)) ?_
    refine g_iadd C dL_isUpkeepSo_31 ?_
    refine g_istore_n C (by decide) dL_isUpkeepSo_32 ?_
    refine g_iinc (v := nI (i1 + 1)) C rfl (nI_1 i1) (by decide) dL_isUpkeepSo_33 ?_
    refine g_goto (tgt := 13) C (by decide) dL_isUpkeepSo_36 ?_
    exact g_sub (by rw [pw_SS_1]; rfl) (ih1 () _ hr28)
  skip
  refine g_iload C rfl dL_isUpkeepSo_13 ?_
  refine g_aload_n C rfl dL_isUpkeepSo_15 ?_
  refine g_iconst (v := 0) C (by decide) dL_isUpkeepSo_16 ?_
  refine g_call C (ok_X6_about A hA 0 (by decide)) my_X6_about vi_L_59 (by decide) ⟨Nat.le_refl _, Nat.le_refl _⟩ rfl rfl rfl (Nat.le_of_ble_eq_true rfl) dL_isUpkeepSo_17 rfl (hR1) (fun v_17 w_17 hp_17 => ?_)
  obtain ⟨rfl, hr17⟩ := hp_17
  refine g_top (show _ = nI (cw_no A.1) from hI.m.1) ?_
  refine g_cmp_ge (tgt := 39) C (by decide) dL_isUpkeepSo_20 (fun c_20 => ?_) (fun c_20 => absurd (Int32.le_refl _) c_20)
  refine g_iconst (v := 0) C (by decide) dL_isUpkeepSo_39 ?_
  refine g_istore C (by decide) dL_isUpkeepSo_40 ?_
  refine g_sub rfl (g_for (α := Unit) (cw_no A.1) (fun i1 x2 => [(0, .ref 252), (1, .int (nI k9)), (2, .int (cw_shares A.1)), (3, .int (pw_SQ A.1 (nI k9) i1)), (4, .int (pw_MX A.1 (nI k9) i1)), (5, .int 1), (6, .int (nI i1))]) (fun i1 x2 w2 => cw_RC A w2) 0 () _ (Nat.zero_le _) (hr17) (fun i1 x2 w2 hi2 hR2 ih2 => ?_) (fun x2 w2 hR2 => ?_))
  · skip
    have hi1 := hi2
    refine g_iload C rfl dL_isUpkeepSo_42 ?_
    refine g_aload_n C rfl dL_isUpkeepSo_44 ?_
    refine g_iconst (v := 0) C (by decide) dL_isUpkeepSo_45 ?_
    refine g_call C (ok_X6_about A hA 0 (by decide)) my_X6_about vi_L_59 (by decide) ⟨Nat.le_refl _, Nat.le_refl _⟩ rfl rfl rfl (Nat.le_of_ble_eq_true rfl) dL_isUpkeepSo_46 rfl (hR2) (fun v_46 w_46 hp_46 => ?_)
    obtain ⟨rfl, hr46⟩ := hp_46
    refine g_top (show _ = nI (cw_no A.1) from hI.m.1) ?_
    refine g_cmp_ge (tgt := 143) C (by decide) dL_isUpkeepSo_49 (fun c_49 => absurd c_49 (pw_nge hi2 (by omega))) (fun c_49 => ?_)
    refine g_aload_n C rfl dL_isUpkeepSo_52 ?_
    refine g_iload C rfl dL_isUpkeepSo_53 ?_
    refine g_iload_n C rfl dL_isUpkeepSo_55 ?_
    refine g_call C (ok_X6_ifUpkeep A hA (nI i1) (nI k9) (cw_isO_nI hI.m hi1) hc) my_X6_ifUpkeep vi_L_108 (by decide) ⟨Nat.le_refl _, Nat.le_refl _⟩ rfl rfl rfl (Nat.le_of_ble_eq_true rfl) dL_isUpkeepSo_56 rfl (hr46) (fun v_56 w_56 hp_56 => ?_)
    obtain ⟨rfl, hr56⟩ := hp_56
    refine g_top (show _ = cw_partOf A.1 i1 (nI k9) by rw [cw_xn (by omega)]) ?_
    refine g_istore C (by decide) dL_isUpkeepSo_59 ?_
    refine g_iload_n C rfl dL_isUpkeepSo_61 ?_
    refine g_aload_n C rfl dL_isUpkeepSo_62 ?_
    refine g_iload C rfl dL_isUpkeepSo_63 ?_
    refine g_iconst (v := 0) C (by decide) dL_isUpkeepSo_65 ?_
    refine g_call C (ok_X6_ownerOf A hA (nI i1) 0 (cw_isO_nI hI.m hi1) (by decide)) my_X6_ownerOf vi_L_66 (by decide) ⟨Nat.le_refl _, Nat.le_refl _⟩ rfl rfl rfl (Nat.le_of_ble_eq_true rfl) dL_isUpkeepSo_66 rfl (hr56) (fun v_66 w_66 hp_66 => ?_)
    obtain ⟨rfl, hr66⟩ := hp_66
    refine g_top (pw_O0 A.1 (by omega)) ?_
    refine g_imul C dL_isUpkeepSo_69 ?_
    refine g_iload_n C rfl dL_isUpkeepSo_70 ?_
    refine g_idiv C (hs0) dL_isUpkeepSo_71 ?_
    refine g_istore C (by decide) dL_isUpkeepSo_72 ?_
    refine g_iload_n C rfl dL_isUpkeepSo_74 ?_
    refine g_iload C rfl dL_isUpkeepSo_75 ?_
    refine g_iadd C dL_isUpkeepSo_77 ?_
    refine g_istore_n C (by decide) dL_isUpkeepSo_78 ?_
    refine g_iload C rfl dL_isUpkeepSo_79 ?_
    refine g_iload C rfl dL_isUpkeepSo_81 ?_
    refine g_join2 93 (pw_MX A.1 (nI k9) (i1 + 1)) (fun k_93 => ?_) ?_
    · refine g_cmp_le (tgt := 91) C (by decide) dL_isUpkeepSo_83 (fun c_83 => ?_) (fun c_83 => ?_)
      · refine g_iload C rfl dL_isUpkeepSo_91 ?_
        exact k_93 _ (((pw_MX_1 _ _ _).trans (if_neg (Int32.not_lt.mpr c_83))).symm)
      · refine g_iload C rfl dL_isUpkeepSo_86 ?_
        refine g_goto (tgt := 93) C (by decide) dL_isUpkeepSo_88 ?_
        exact k_93 _ (((pw_MX_1 _ _ _).trans (if_pos (Int32.not_le.mp c_83))).symm)
    refine g_istore C (by decide) dL_isUpkeepSo_93 ?_
    refine g_iload C rfl dL_isUpkeepSo_95 ?_
    refine g_if_eq (tgt := 134) C (by decide) dL_isUpkeepSo_97 (fun c_97 => absurd c_97 (by decide)) (fun c_97 => ?_)
    refine g_iload C rfl dL_isUpkeepSo_100 ?_
    refine g_iload C rfl dL_isUpkeepSo_102 ?_
    refine g_joinW2 135 (1) (cw_RC A) (fun k_135 => ?_) (fun w135j h135j => ?_)
    · refine g_cmp_eq (tgt := 130) C (by decide) dL_isUpkeepSo_104 (fun c_104 => ?_) (fun c_104 => ?_)
      · refine g_iconst (v := 1) C (by decide) dL_isUpkeepSo_130 ?_
        refine g_goto (tgt := 135) C (by decide) dL_isUpkeepSo_131 ?_
        exact k_135 _ _ (rfl) hr66
      · refine g_iload C rfl dL_isUpkeepSo_107 ?_
        refine g_iload C rfl dL_isUpkeepSo_109 ?_
        refine g_iconst (v := 1) C (by decide) dL_isUpkeepSo_111 ?_
        refine g_iadd C dL_isUpkeepSo_112 ?_
        refine g_cmp_ne (tgt := 134) C (by decide) dL_isUpkeepSo_113 (fun c_113 => absurd (((pw_part2 hI (c := k9) (j := i1) (by omega) hi1).resolve_left c_104).1) c_113) (fun c_113 => ?_)
        refine g_iload_n C rfl dL_isUpkeepSo_116 ?_
        refine g_aload_n C rfl dL_isUpkeepSo_117 ?_
        refine g_iload C rfl dL_isUpkeepSo_118 ?_
        refine g_iconst (v := 0) C (by decide) dL_isUpkeepSo_120 ?_
        refine g_call C (ok_X6_ownerOf A hA (nI i1) 0 (cw_isO_nI hI.m hi1) (by decide)) my_X6_ownerOf vi_L_66 (by decide) ⟨Nat.le_refl _, Nat.le_refl _⟩ rfl rfl rfl (Nat.le_of_ble_eq_true rfl) dL_isUpkeepSo_121 rfl (hr66) (fun v_121 w_121 hp_121 => ?_)
        obtain ⟨rfl, hr121⟩ := hp_121
        refine g_top (pw_O0 A.1 (by omega)) ?_
        refine g_imul C dL_isUpkeepSo_124 ?_
        refine g_iload_n C rfl dL_isUpkeepSo_125 ?_
        refine g_irem C (hs0) dL_isUpkeepSo_126 ?_
        refine g_top (show _ = cw_md (nI k9 * A.1 (1 + 4 * i1 + 0)) (cw_shares A.1) from rfl) ?_
        refine g_if_le (tgt := 134) C (by decide) dL_isUpkeepSo_127 (fun c_127 => absurd c_127 (Int32.not_le.mpr ((pw_part2 hI (c := k9) (j := i1) (by omega) hi1).resolve_left c_104).2)) (fun c_127 => ?_)
        refine g_iconst (v := 1) C (by decide) dL_isUpkeepSo_130 ?_
        refine g_goto (tgt := 135) C (by decide) dL_isUpkeepSo_131 ?_
        exact k_135 _ _ (rfl) hr121
    refine g_istore C (by decide) dL_isUpkeepSo_135 ?_
    refine g_iinc (v := nI (i1 + 1)) C rfl (nI_1 i1) (by decide) dL_isUpkeepSo_137 ?_
    refine g_goto (tgt := 42) C (by decide) dL_isUpkeepSo_140 ?_
    exact g_sub (by rw [pw_SQ_1]; rfl) (ih2 () _ h135j)
  skip
  refine g_iload C rfl dL_isUpkeepSo_42 ?_
  refine g_aload_n C rfl dL_isUpkeepSo_44 ?_
  refine g_iconst (v := 0) C (by decide) dL_isUpkeepSo_45 ?_
  refine g_call C (ok_X6_about A hA 0 (by decide)) my_X6_about vi_L_59 (by decide) ⟨Nat.le_refl _, Nat.le_refl _⟩ rfl rfl rfl (Nat.le_of_ble_eq_true rfl) dL_isUpkeepSo_46 rfl (hR2) (fun v_46 w_46 hp_46 => ?_)
  obtain ⟨rfl, hr46⟩ := hp_46
  refine g_top (show _ = nI (cw_no A.1) from hI.m.1) ?_
  refine g_cmp_ge (tgt := 143) C (by decide) dL_isUpkeepSo_49 (fun c_49 => ?_) (fun c_49 => absurd (Int32.le_refl _) c_49)
  refine g_aload_n C rfl dL_isUpkeepSo_143 ?_
  refine g_bipush (v := 13) C (by decide) dL_isUpkeepSo_144 ?_
  refine g_call C (ok_X6_about A hA 13 (by decide)) my_X6_about vi_L_59 (by decide) ⟨Nat.le_refl _, Nat.le_refl _⟩ rfl rfl rfl (Nat.le_of_ble_eq_true rfl) dL_isUpkeepSo_146 rfl (hr46) (fun v_146 w_146 hp_146 => ?_)
  obtain ⟨rfl, hr146⟩ := hp_146
  refine g_top (show _ = A.1 241 from rfl) ?_
  refine g_istore C (by decide) dL_isUpkeepSo_149 ?_
  refine g_iload C rfl dL_isUpkeepSo_151 ?_
  refine g_if_eq (tgt := 195) C (by decide) dL_isUpkeepSo_153 (fun c_153 => absurd c_153 (by decide)) (fun c_153 => ?_)
  refine g_iload_n C rfl dL_isUpkeepSo_156 ?_
  refine g_iload_n C rfl dL_isUpkeepSo_157 ?_
  refine g_cmp_ne (tgt := 195) C (by decide) dL_isUpkeepSo_158 (fun c_158 => absurd (pw_parts hI k9b hno) c_158) (fun c_158 => ?_)
  refine g_aload_n C rfl dL_isUpkeepSo_161 ?_
  refine g_iload_n C rfl dL_isUpkeepSo_162 ?_
  refine g_call C (ok_X6_upkeep A hA (cw_B_le2 hB (by omega) (by omega)) (nI k9) hc h0) my_X6_upkeep vi_L_24 (by decide) ⟨Nat.le_refl _, Nat.le_refl _⟩ rfl rfl rfl (Nat.le_of_ble_eq_true rfl) dL_isUpkeepSo_163 rfl (hr146) (fun v_163 w_163 hp_163 => ?_)
  obtain ⟨rfl, hr163⟩ := hp_163
  refine g_top (show _ = pw_MX A.1 (nI k9) (cw_no A.1) from (pw_ups hI hc h0).1) ?_
  refine g_iload C rfl dL_isUpkeepSo_166 ?_
  refine g_cmp_ne (tgt := 195) C (by decide) dL_isUpkeepSo_168 (fun c_168 => absurd (rfl) c_168) (fun c_168 => ?_)
  refine g_aload_n C rfl dL_isUpkeepSo_171 ?_
  refine g_bipush (v := 13) C (by decide) dL_isUpkeepSo_172 ?_
  refine g_call C (ok_X6_about (cw_acts A 117 (nI k9) 0 0).2 hA2 13 (by decide)) my_X6_about vi_L_59 (by decide) ⟨Nat.le_refl _, Nat.le_refl _⟩ rfl rfl rfl (Nat.le_of_ble_eq_true rfl) dL_isUpkeepSo_174 rfl (hr163) (fun v_174 w_174 hp_174 => ?_)
  obtain ⟨rfl, hr174⟩ := hp_174
  refine g_top (show _ = A.1 241 + nI k9 from (pw_ups hI hc h0).2) ?_
  refine g_iload C rfl dL_isUpkeepSo_177 ?_
  refine g_iload_n C rfl dL_isUpkeepSo_179 ?_
  refine g_iadd C dL_isUpkeepSo_180 ?_
  refine g_cmp_ne (tgt := 195) C (by decide) dL_isUpkeepSo_181 (fun c_181 => absurd (rfl) c_181) (fun c_181 => ?_)
  refine g_aload_n C rfl dL_isUpkeepSo_184 ?_
  refine g_call C (ok_X6_undo (cw_acts A 117 (nI k9) 0 0).2 hA2 (Nat.pos_iff_ne_zero.mp H1.1)) my_X6_undo vi_L_50 (by decide) ⟨Nat.le_refl _, Nat.le_refl _⟩ rfl rfl rfl (Nat.le_of_ble_eq_true rfl) dL_isUpkeepSo_185 rfl (hr174) (fun v_185 w_185 hp_185 => ?_)
  obtain ⟨rfl, hr185⟩ := hp_185
  skip
  refine g_if_lt (tgt := 195) C (by decide) dL_isUpkeepSo_188 (fun c_188 => absurd c_188 (pw_0le (by have := hA2.2.2.2.1; omega))) (fun c_188 => ?_)
  refine g_iconst (v := 1) C (by decide) dL_isUpkeepSo_191 ?_
  refine g_goto (tgt := 196) C (by decide) dL_isUpkeepSo_192 ?_
  refine g_zret C F (rfl) dL_isUpkeepSo_196 ?_
  exact ⟨rfl, pw_ex (B := pw_un (cw_acts A 117 (nI k9) 0 0).2) (pw_un1 H1) ((pw_un_IA hA2 H1.1).mono (by omega) (by omega)) hr185⟩

