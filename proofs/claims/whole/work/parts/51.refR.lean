theorem cw_nI0 {i : Nat} (h : i < 1000) (e : nI i = 0) : i = 0 := by
  have q := cw_ni h
  rw [e] at q
  have z : (0 : Int32).toInt = 0 := rfl
  omega
set_option maxHeartbeats 8000000 in
set_option maxRecDepth 100000 in
theorem ok_X7_mostAtOnce {s : cw_s} (hm : cw_m s) : gw_Ok yX7_mostAtOnce cX7_mostAtOnce 5 (some .int) sM 4 [.ref 0] (fun w => w 1 = s) (fun w vr w1 => vr = some (.int (cw_most s)) ∧ ∀ q, q ≠ 6 → w1 q = w q) := by
  refine gw_of (by decide) (Nat.le_of_ble_eq_true rfl) ?_
  intro X w h C F
  have h6 := hm.2
  refine g_iconst (v := 0) C (by decide) dX7_mostAtOnce_0 ?_
  refine g_istore_n C (by decide) dX7_mostAtOnce_1 ?_
  refine g_sub rfl (g_for (α := Unit) 64 (fun i9 x1 => [(0, .ref 0), (1, .int (nI i9))]) (fun i9 x1 w1 => (∀ q, q ≠ 6 → w1 q = w q) ∧ ∀ S, S < i9 → w1 6 S = cw_b (S = 0)) 0 () _ (Nat.zero_le _) (⟨fun _ _ => rfl, fun S hS => absurd hS (Nat.not_lt_zero _)⟩) (fun i9 x1 w1 hi1 hR1 ih1 => ?_) (fun x1 w1 hR1 => ?_))
  · obtain ⟨hf1, hs1⟩ := hR1
    refine g_iload_n C rfl dX7_mostAtOnce_2 ?_
    refine g_bipush (v := 64) C (by decide) dX7_mostAtOnce_3 ?_
    refine g_cmp_ge (tgt := 29) C (by decide) dX7_mostAtOnce_5 (fun c_5 => absurd c_5 (nI_ge hi1 (by decide))) (fun c_5 => ?_)
    refine g_aload_n C rfl dX7_mostAtOnce_8 ?_
    refine g_getr C fl_X7_25 rfl rfl dX7_mostAtOnce_9 ?_
    refine g_iload_n C rfl dX7_mostAtOnce_12 ?_
    refine g_iload_n C rfl dX7_mostAtOnce_13 ?_
    refine g_if_ne (tgt := 21) C (by decide) dX7_mostAtOnce_14 (fun c_14 => ?_) (fun c_14 => ?_)
    · refine g_iconst (v := 0) C (by decide) dX7_mostAtOnce_21 ?_
      refine g_zast (j := i9) C rfl (rfl) (by omega) (by decide) (rfl) dX7_mostAtOnce_22 ?_
      refine g_iinc (v := nI (i9 + 1)) C rfl (nI_1 i9) (by decide) dX7_mostAtOnce_23 ?_
      refine g_goto (tgt := 2) C (by decide) dX7_mostAtOnce_26 ?_
      exact g_sub rfl (ih1 () _ ⟨fun q hq => by rw [gw_set_ne _ _ _ _ hq]; exact hf1 q hq, cw_s6a (P := fun S => S = 0) hs1 (cw_bf (fun q => c_14 (by rw [q]; rfl))).symm⟩)
    · refine g_iconst (v := 1) C (by decide) dX7_mostAtOnce_17 ?_
      refine g_goto (tgt := 22) C (by decide) dX7_mostAtOnce_18 ?_
      refine g_zast (j := i9) C rfl (rfl) (by omega) (by decide) (rfl) dX7_mostAtOnce_22 ?_
      refine g_iinc (v := nI (i9 + 1)) C rfl (nI_1 i9) (by decide) dX7_mostAtOnce_23 ?_
      refine g_goto (tgt := 2) C (by decide) dX7_mostAtOnce_26 ?_
      exact g_sub rfl (ih1 () _ ⟨fun q hq => by rw [gw_set_ne _ _ _ _ hq]; exact hf1 q hq, cw_s6a (P := fun S => S = 0) hs1 (cw_b1 (cw_nI0 (by omega) c_14)).symm⟩)
  obtain ⟨hf1, hs1⟩ := hR1
  refine g_iload_n C rfl dX7_mostAtOnce_2 ?_
  refine g_bipush (v := 64) C (by decide) dX7_mostAtOnce_3 ?_
  refine g_cmp_ge (tgt := 29) C (by decide) dX7_mostAtOnce_5 (fun c_5 => ?_) (fun c_5 => absurd (by decide) c_5)
  refine g_iconst (v := 0) C (by decide) dX7_mostAtOnce_29 ?_
  refine g_istore_n C (by decide) dX7_mostAtOnce_30 ?_
  refine g_sub rfl (g_for (α := Unit) 20 (fun k9 x2 => [(0, .ref 0), (1, .int (nI k9))]) (fun k9 x2 w2 => (∀ q, q ≠ 6 → w2 q = w q) ∧ ∀ S, S < 64 → w2 6 S = cw_b (cw_rch s k9 S)) 0 () _ (Nat.zero_le _) (⟨hf1, hs1⟩) (fun k9 x2 w2 hi2 hR2 ih2 => ?_) (fun x2 w2 hR2 => ?_))
  · obtain ⟨hf2, hs2⟩ := hR2
    refine g_iload_n C rfl dX7_mostAtOnce_31 ?_
    refine g_bipush (v := 20) C (by decide) dX7_mostAtOnce_32 ?_
    refine g_cmp_ge (tgt := 127) C (by decide) dX7_mostAtOnce_34 (fun c_34 => absurd c_34 (nI_ge hi2 (by decide))) (fun c_34 => ?_)
    refine g_bipush (v := 63) C (by decide) dX7_mostAtOnce_37 ?_
    refine g_istore_n C (by decide) dX7_mostAtOnce_39 ?_
    refine g_sub rfl (g_for (α := Unit) 64 (fun t9 x3 => [(0, .ref 0), (1, .int (nI k9)), (2, .int (63 - nI t9))]) (fun t9 x3 w3 => (∀ q, q ≠ 6 → w3 q = w q) ∧ ∀ S, S < 64 → w3 6 S = cw_b (cw_ru s k9 t9 S)) 0 () _ (Nat.zero_le _) (⟨hf2, fun S hS => by rw [hs2 S hS]; exact cw_b_eq (cw_ru0 s k9 hS).symm⟩) (fun t9 x3 w3 hi3 hR3 ih3 => ?_) (fun x3 w3 hR3 => ?_))
    · obtain ⟨hf3, hs3⟩ := hR3
      have h63 : (63 : Int32) - nI t9 = nI (63 - t9) := cw_63 (by omega)
      refine g_sub (lv' := [(0, .ref 0), (1, .int (nI k9)), (2, .int (nI (63 - t9)))]) (by rw [← h63]; rfl) ?_
      refine g_iload_n C rfl dX7_mostAtOnce_40 ?_
      refine g_if_lt (tgt := 121) C (by decide) dX7_mostAtOnce_41 (fun c_41 => absurd c_41 (by rw [cw_lt, cw_ni (by omega)]; have z : (0 : Int32).toInt = 0 := rfl; omega)) (fun c_41 => ?_)
      refine g_iconst (v := 0) C (by decide) dX7_mostAtOnce_44 ?_
      refine g_istore_n C (by decide) dX7_mostAtOnce_45 ?_
      refine g_sub rfl (g_for (α := Unit) (cw_no s) (fun j9 x4 => [(0, .ref 0), (1, .int (nI k9)), (2, .int (nI (63 - t9))), (3, .int (nI j9))]) (fun j9 x4 w4 => (∀ q, q ≠ 6 → w4 q = w q) ∧ ∀ S, S < 64 → w4 6 S = cw_b (cw_rq s k9 t9 j9 S)) 0 () _ (Nat.zero_le _) (⟨hf3, fun S hS => by rw [hs3 S hS]; exact cw_b_eq (cw_rq0 s k9 t9 S).symm⟩) (fun j9 x4 w4 hi4 hR4 ih4 => ?_) (fun x4 w4 hR4 => ?_))
      · obtain ⟨hf4, hs4⟩ := hR4
        refine g_iload_n C rfl dX7_mostAtOnce_46 ?_
        refine g_aload_n C rfl dX7_mostAtOnce_47 ?_
        refine g_getr C fl_X7_7 rfl rfl dX7_mostAtOnce_48 ?_
        refine g_iconst (v := 0) C (by decide) dX7_mostAtOnce_51 ?_
        refine g_iald (j := 0) C rfl (rfl) (by decide) (by decide) dX7_mostAtOnce_52 ?_
        refine g_top (show _ = s 0 by rw [hf4 1 (by decide), h]) ?_
        refine g_cmp_ge (tgt := 115) C (by decide) dX7_mostAtOnce_53 (fun c_53 => absurd c_53 (cw_liml hm hi4)) (fun c_53 => ?_)
        refine g_aload_n C rfl dX7_mostAtOnce_56 ?_
        refine g_getr C fl_X7_25 rfl rfl dX7_mostAtOnce_57 ?_
        refine g_iload_n C rfl dX7_mostAtOnce_60 ?_
        refine g_zald (j := 63 - t9) C rfl (rfl) (by omega) (by decide) dX7_mostAtOnce_61 ?_
        refine g_top (show _ = cw_b (cw_rch s k9 (63 - t9)) by rw [hs4 _ (by omega)]; exact cw_b_eq (cw_rqi s k9 hi3 h6)) ?_
        refine g_if_eq (tgt := 115) C (by decide) dX7_mostAtOnce_62 (fun c_62 => ?_) (fun c_62 => ?_)
        · refine g_iinc (v := 63 - nI (t9 + 1)) C rfl (cw_631 (by omega)) (by decide) dX7_mostAtOnce_115 ?_
          refine g_goto (tgt := 40) C (by decide) dX7_mostAtOnce_118 ?_
          exact g_sub rfl (ih3 () _ ⟨hf4, fun S hS => by rw [hs4 S hS]; exact cw_b_eq (cw_rqx s k9 hi3 (cw_b0.mp c_62))⟩)
        · have hr := cw_bn c_62
          refine g_iload_n C rfl dX7_mostAtOnce_65 ?_
          refine g_iload_n C rfl dX7_mostAtOnce_66 ?_
          refine g_ishr C dX7_mostAtOnce_67 ?_
          refine g_iconst (v := 1) C (by decide) dX7_mostAtOnce_68 ?_
          refine g_iand C dX7_mostAtOnce_69 ?_
          refine g_top (cw_bit3 (by omega) (by omega)) ?_
          refine g_join1 87 (cw_b (cw_can s k9 (63 - t9) j9)) (fun k_87 => ?_) ?_
          · refine g_if_ne (tgt := 86) C (by decide) dX7_mostAtOnce_70 (fun c_70 => ?_) (fun c_70 => ?_)
            · refine g_iconst (v := 0) C (by decide) dX7_mostAtOnce_86 ?_
              exact k_87 _ ((cw_bf (fun q => c_70 (cw_bf (by rw [q.1]; decide)))).symm)
            · refine g_aload_n C rfl dX7_mostAtOnce_73 ?_
              refine g_iload_n C rfl dX7_mostAtOnce_74 ?_
              refine g_iload_n C rfl dX7_mostAtOnce_75 ?_
              refine g_call C (ok_X7_hindrance (s := s) _ _ j9 k9 rfl rfl (by omega) hi2) my_X7_hindrance vi_X7_65 (by decide) ⟨Nat.le_refl _, Nat.le_refl _⟩ rfl rfl rfl (Nat.le_of_ble_eq_true rfl) dX7_mostAtOnce_76 rfl ((hf4 1 (by decide)).trans h) (fun v_76 w_76 hp_76 => ?_)
              obtain ⟨rfl, hw_76⟩ := hp_76
              have hw_76 := hw_76.symm; subst hw_76
              refine g_if_ne (tgt := 86) C (by decide) dX7_mostAtOnce_79 (fun c_79 => ?_) (fun c_79 => ?_)
              · refine g_iconst (v := 0) C (by decide) dX7_mostAtOnce_86 ?_
                exact k_87 _ ((cw_bf (fun q => c_79 q.2)).symm)
              · refine g_iconst (v := 1) C (by decide) dX7_mostAtOnce_82 ?_
                refine g_goto (tgt := 87) C (by decide) dX7_mostAtOnce_83 ?_
                exact k_87 _ ((cw_b1 ⟨Bool.not_eq_true _ ▸ cw_b0.mp c_70, c_79⟩).symm)
          refine g_istore C (by decide) dX7_mostAtOnce_87 ?_
          refine g_aload_n C rfl dX7_mostAtOnce_89 ?_
          refine g_getr C fl_X7_25 rfl rfl dX7_mostAtOnce_90 ?_
          refine g_iload_n C rfl dX7_mostAtOnce_93 ?_
          refine g_iload C rfl dX7_mostAtOnce_94 ?_
          refine g_if_eq (tgt := 105) C (by decide) dX7_mostAtOnce_96 (fun c_96 => ?_) (fun c_96 => ?_)
          · refine g_iconst (v := 0) C (by decide) dX7_mostAtOnce_105 ?_
            refine g_ior C dX7_mostAtOnce_106 ?_
            refine g_top (show _ = nI (63 - t9) from Int32.or_zero) ?_
            refine g_iconst (v := 1) C (by decide) dX7_mostAtOnce_107 ?_
            refine g_zast (j := 63 - t9) C rfl (rfl) (by omega) (by decide) (rfl) dX7_mostAtOnce_108 ?_
            refine g_iinc (v := nI (j9 + 1)) C rfl (nI_1 j9) (by decide) dX7_mostAtOnce_109 ?_
            refine g_goto (tgt := 46) C (by decide) dX7_mostAtOnce_112 ?_
            exact g_sub rfl (ih4 () _ ⟨fun q hq => by rw [gw_set_ne _ _ _ _ hq]; exact hf4 q hq, cw_s6b (P := cw_rq s k9 t9 j9) (Q := cw_rq s k9 t9 (j9 + 1)) hs4 (fun S hS => ⟨fun q => Or.inl (((cw_rqs s k9 hi3 hi4 h6 hS hr).mp q).resolve_right (fun z => cw_b0.mp c_96 z.1)), fun q => (cw_rqs s k9 hi3 hi4 h6 hS hr).mpr (q.elim Or.inl (fun z => Or.inl (by rw [z]; exact (cw_rqi s k9 hi3 h6).mpr hr)))⟩)⟩)
          · refine g_iconst (v := 1) C (by decide) dX7_mostAtOnce_99 ?_
            refine g_iload_n C rfl dX7_mostAtOnce_100 ?_
            refine g_ishl C dX7_mostAtOnce_101 ?_
            refine g_goto (tgt := 106) C (by decide) dX7_mostAtOnce_102 ?_
            refine g_ior C dX7_mostAtOnce_106 ?_
            refine g_top (cw_bit4 (by omega) (by omega) (cw_bn c_96).1) ?_
            refine g_iconst (v := 1) C (by decide) dX7_mostAtOnce_107 ?_
            refine g_zast (j := 63 - t9 + 2 ^ j9) C rfl (rfl) ((cw_bit2 (by omega) (by omega) (cw_bn c_96).1).2) (by decide) (rfl) dX7_mostAtOnce_108 ?_
            refine g_iinc (v := nI (j9 + 1)) C rfl (nI_1 j9) (by decide) dX7_mostAtOnce_109 ?_
            refine g_goto (tgt := 46) C (by decide) dX7_mostAtOnce_112 ?_
            exact g_sub rfl (ih4 () _ ⟨fun q hq => by rw [gw_set_ne _ _ _ _ hq]; exact hf4 q hq, cw_s6b (P := cw_rq s k9 t9 j9) (Q := cw_rq s k9 t9 (j9 + 1)) hs4 (fun S hS => (cw_rqs s k9 hi3 hi4 h6 hS hr).trans (or_congr Iff.rfl ⟨fun z => z.2, fun z => ⟨cw_bn c_96, z⟩⟩))⟩)
      obtain ⟨hf4, hs4⟩ := hR4
      refine g_iload_n C rfl dX7_mostAtOnce_46 ?_
      refine g_aload_n C rfl dX7_mostAtOnce_47 ?_
      refine g_getr C fl_X7_7 rfl rfl dX7_mostAtOnce_48 ?_
      refine g_iconst (v := 0) C (by decide) dX7_mostAtOnce_51 ?_
      refine g_iald (j := 0) C rfl (rfl) (by decide) (by decide) dX7_mostAtOnce_52 ?_
      refine g_top (show _ = s 0 by rw [hf4 1 (by decide), h]) ?_
      refine g_cmp_ge (tgt := 115) C (by decide) dX7_mostAtOnce_53 (fun c_53 => ?_) (fun c_53 => absurd (cw_lim hm) c_53)
      refine g_iinc (v := 63 - nI (t9 + 1)) C rfl (cw_631 (by omega)) (by decide) dX7_mostAtOnce_115 ?_
      refine g_goto (tgt := 40) C (by decide) dX7_mostAtOnce_118 ?_
      exact g_sub rfl (ih3 () _ ⟨hf4, fun S hS => by rw [hs4 S hS]; exact cw_b_eq (cw_rqN s k9 t9 S)⟩)
    obtain ⟨hf3, hs3⟩ := hR3
    refine g_iload_n C rfl dX7_mostAtOnce_40 ?_
    refine g_if_lt (tgt := 121) C (by decide) dX7_mostAtOnce_41 (fun c_41 => ?_) (fun c_41 => absurd (by decide) c_41)
    refine g_iinc (v := nI (k9 + 1)) C rfl (nI_1 k9) (by decide) dX7_mostAtOnce_121 ?_
    refine g_goto (tgt := 31) C (by decide) dX7_mostAtOnce_124 ?_
    exact g_sub rfl (ih2 () _ ⟨hf3, fun S hS => by rw [hs3 S hS]; exact cw_b_eq (cw_ru64 s k9 S)⟩)
  obtain ⟨hf2, hs2⟩ := hR2
  refine g_iload_n C rfl dX7_mostAtOnce_31 ?_
  refine g_bipush (v := 20) C (by decide) dX7_mostAtOnce_32 ?_
  refine g_cmp_ge (tgt := 127) C (by decide) dX7_mostAtOnce_34 (fun c_34 => ?_) (fun c_34 => absurd (by decide) c_34)
  refine g_iconst (v := 0) C (by decide) dX7_mostAtOnce_127 ?_
  refine g_istore_n C (by decide) dX7_mostAtOnce_128 ?_
  refine g_iconst (v := 0) C (by decide) dX7_mostAtOnce_129 ?_
  refine g_istore_n C (by decide) dX7_mostAtOnce_130 ?_
  refine g_sub rfl (g_for (α := Int32) 64 (fun i9 x => [(0, .ref 0), (1, .int x), (2, .int (nI i9))]) (fun i9 x w5 => x = cw_fold (fun S x => cw_if (cw_rch s 20 S ∧ x < nI (cw_pop S)) (nI (cw_pop S)) x) 0 i9 0 ∧ (∀ q, q ≠ 6 → w5 q = w q) ∧ ∀ S, S < 64 → w5 6 S = cw_b (cw_rch s 20 S)) 0 0 _ (Nat.zero_le _) (⟨rfl, hf2, hs2⟩) (fun i9 x w5 hi5 hR5 ih5 => ?_) (fun x w5 hR5 => ?_))
  · obtain ⟨hx5, hf5, hs5⟩ := hR5
    refine g_iload_n C rfl dX7_mostAtOnce_131 ?_
    refine g_bipush (v := 64) C (by decide) dX7_mostAtOnce_132 ?_
    refine g_cmp_ge (tgt := 197) C (by decide) dX7_mostAtOnce_134 (fun c_134 => absurd c_134 (nI_ge hi5 (by decide))) (fun c_134 => ?_)
    refine g_iload_n C rfl dX7_mostAtOnce_137 ?_
    refine g_iconst (v := 1) C (by decide) dX7_mostAtOnce_138 ?_
    refine g_iand C dX7_mostAtOnce_139 ?_
    refine g_iload_n C rfl dX7_mostAtOnce_140 ?_
    refine g_iconst (v := 1) C (by decide) dX7_mostAtOnce_141 ?_
    refine g_ishr C dX7_mostAtOnce_142 ?_
    refine g_iconst (v := 1) C (by decide) dX7_mostAtOnce_143 ?_
    refine g_iand C dX7_mostAtOnce_144 ?_
    refine g_iadd C dX7_mostAtOnce_145 ?_
    refine g_iload_n C rfl dX7_mostAtOnce_146 ?_
    refine g_iconst (v := 2) C (by decide) dX7_mostAtOnce_147 ?_
    refine g_ishr C dX7_mostAtOnce_148 ?_
    refine g_iconst (v := 1) C (by decide) dX7_mostAtOnce_149 ?_
    refine g_iand C dX7_mostAtOnce_150 ?_
    refine g_iadd C dX7_mostAtOnce_151 ?_
    refine g_iload_n C rfl dX7_mostAtOnce_152 ?_
    refine g_iconst (v := 3) C (by decide) dX7_mostAtOnce_153 ?_
    refine g_ishr C dX7_mostAtOnce_154 ?_
    refine g_iconst (v := 1) C (by decide) dX7_mostAtOnce_155 ?_
    refine g_iand C dX7_mostAtOnce_156 ?_
    refine g_iadd C dX7_mostAtOnce_157 ?_
    refine g_iload_n C rfl dX7_mostAtOnce_158 ?_
    refine g_iconst (v := 4) C (by decide) dX7_mostAtOnce_159 ?_
    refine g_ishr C dX7_mostAtOnce_160 ?_
    refine g_iconst (v := 1) C (by decide) dX7_mostAtOnce_161 ?_
    refine g_iand C dX7_mostAtOnce_162 ?_
    refine g_iadd C dX7_mostAtOnce_163 ?_
    refine g_iload_n C rfl dX7_mostAtOnce_164 ?_
    refine g_iconst (v := 5) C (by decide) dX7_mostAtOnce_165 ?_
    refine g_ishr C dX7_mostAtOnce_166 ?_
    refine g_iconst (v := 1) C (by decide) dX7_mostAtOnce_167 ?_
    refine g_iand C dX7_mostAtOnce_168 ?_
    refine g_iadd C dX7_mostAtOnce_169 ?_
    refine g_top (cw_tb5 ⟨i9, hi5⟩) ?_
    refine g_istore_n C (by decide) dX7_mostAtOnce_170 ?_
    refine g_aload_n C rfl dX7_mostAtOnce_171 ?_
    refine g_getr C fl_X7_25 rfl rfl dX7_mostAtOnce_172 ?_
    refine g_iload_n C rfl dX7_mostAtOnce_175 ?_
    refine g_zald (j := i9) C rfl (rfl) (by omega) (by decide) dX7_mostAtOnce_176 ?_
    refine g_top (hs5 _ hi5) ?_
    refine g_join1 190 (cw_if (cw_rch s 20 i9 ∧ x < nI (cw_pop i9)) (nI (cw_pop i9)) x) (fun k_190 => ?_) ?_
    · refine g_if_eq (tgt := 189) C (by decide) dX7_mostAtOnce_177 (fun c_177 => ?_) (fun c_177 => ?_)
      · refine g_iload_n C rfl dX7_mostAtOnce_189 ?_
        exact k_190 _ ((cw_ie (fun q => cw_b0.mp c_177 q.1)).symm)
      · refine g_iload_n C rfl dX7_mostAtOnce_180 ?_
        refine g_iload_n C rfl dX7_mostAtOnce_181 ?_
        refine g_cmp_le (tgt := 189) C (by decide) dX7_mostAtOnce_182 (fun c_182 => ?_) (fun c_182 => ?_)
        · refine g_iload_n C rfl dX7_mostAtOnce_189 ?_
          exact k_190 _ ((cw_ie (fun q => absurd c_182 (Int32.not_le.mpr q.2))).symm)
        · refine g_iload_n C rfl dX7_mostAtOnce_185 ?_
          refine g_goto (tgt := 190) C (by decide) dX7_mostAtOnce_186 ?_
          exact k_190 _ ((cw_it ⟨cw_bn c_177, Int32.not_le.mp c_182⟩).symm)
    refine g_istore_n C (by decide) dX7_mostAtOnce_190 ?_
    refine g_iinc (v := nI (i9 + 1)) C rfl (nI_1 i9) (by decide) dX7_mostAtOnce_191 ?_
    refine g_goto (tgt := 131) C (by decide) dX7_mostAtOnce_194 ?_
    exact g_sub rfl (ih5 _ _ ⟨by rw [cw_fold0, ← hx5], hf5, hs5⟩)
  obtain ⟨hx5, hf5, hs5⟩ := hR5
  refine g_iload_n C rfl dX7_mostAtOnce_131 ?_
  refine g_bipush (v := 64) C (by decide) dX7_mostAtOnce_132 ?_
  refine g_cmp_ge (tgt := 197) C (by decide) dX7_mostAtOnce_134 (fun c_134 => ?_) (fun c_134 => absurd (by decide) c_134)
  refine g_iload_n C rfl dX7_mostAtOnce_197 ?_
  refine g_iret C F dX7_mostAtOnce_198 ?_
  exact ⟨by rw [hx5]; rfl, hf5⟩

set_option maxHeartbeats 8000000 in
set_option maxRecDepth 100000 in
theorem ok_X7_could (k : Int32) (A : cw_A) {n m : Nat} (hI : cw_I n m A.1) (hB : cw_B n (m + 20)) : gw_Ok yX7_could cX7_could 2 (some .int) sM 5 [.ref 0, .int k] (fun w => cw_RM A w) (fun _ vr w1 => cw_FP (sp_could A k) vr w1) := by
  refine gw_of (by decide) (Nat.le_of_ble_eq_true rfl) ?_
  intro X w h C F
  have es := cw_es h
  have h6 := hI.m.2
  have hIw : cw_I n m (w 1) := cw_I_cg hI es
  refine g_aload_n C rfl dX7_could_0 ?_
  refine g_iload_n C rfl dX7_could_1 ?_
  refine g_iconst (v := 0) C (by decide) dX7_could_2 ?_
  refine g_iconst (v := 1) C (by decide) dX7_could_3 ?_
  refine g_callS C (ok_X7_in _ _ _) my_X7_in si_X7_40 (by decide) ⟨Nat.le_refl _, Nat.le_refl _⟩ rfl (Nat.le_of_ble_eq_true rfl) dX7_could_4 rfl (trivial) (fun v_4 w_4 hp_4 => ?_)
  obtain ⟨rfl, hw_4⟩ := hp_4
  have hw_4 := hw_4.symm; subst hw_4
  refine g_join1 15 (cw_if (0 ≤ k ∧ k ≤ 1) 0 1) (fun k_15 => ?_) ?_
  · refine g_if_eq (tgt := 14) C (by decide) dX7_could_7 (fun c_7 => ?_) (fun c_7 => ?_)
    · refine g_iconst (v := 1) C (by decide) dX7_could_14 ?_
      exact k_15 _ (by rw [cw_ie (cw_b0.mp c_7)])
    · refine g_iconst (v := 0) C (by decide) dX7_could_10 ?_
      refine g_goto (tgt := 15) C (by decide) dX7_could_11 ?_
      exact k_15 _ (by rw [cw_it (cw_bn c_7)])
  refine g_call C (ok_X7_holds _) my_X7_holds vi_X7_174 (by decide) ⟨Nat.le_refl _, Nat.le_refl _⟩ rfl rfl rfl (Nat.le_of_ble_eq_true rfl) dX7_could_15 rfl (trivial) (fun v_15 w_15 hp_15 => ?_)
  obtain ⟨rfl, hw_15⟩ := hp_15
  have es2 : cw_eq (w_15 1) A.1 := by rw [hw_15, gw_set_ne _ _ _ _ (by decide)]; exact es
  have hI2 : cw_I n m (w_15 1) := cw_I_cg hI es2
  have hr2 : cw_RM A w_15 := by rw [hw_15]; exact cw_RM_thr h
  refine g_if_eq (tgt := 28) C (by decide) dX7_could_18 (fun c_18 => ?_) (fun c_18 => ?_)
  · refine g_iconst (v := 0) C (by decide) dX7_could_28 ?_
    refine g_iret C F dX7_could_29 ?_
    exact cw_fin1 h hw_15 (cw_b0.mp c_18)
  · have hE := cw_bn c_18
    have ht2 : w_15 0 0 = 0 := by rw [hw_15, gw_set_self, cw_ups]; exact hE
    refine g_aload_n C rfl dX7_could_21 ?_
    refine g_call C (ok_X7_mostAtOnce hI2.m) my_X7_mostAtOnce vi_X7_246 (by decide) ⟨Nat.le_refl _, Nat.le_refl _⟩ rfl rfl rfl (Nat.le_of_ble_eq_true rfl) dX7_could_22 rfl (rfl) (fun v_22 w_22 hp_22 => ?_)
    obtain ⟨rfl, hf22⟩ := hp_22
    refine g_goto (tgt := 29) C (by decide) dX7_could_25 ?_
    refine g_iret C F dX7_could_29 ?_
    exact cw_fin0 hE (cw_most_cg es2 h6) (by rw [hf22 0 (by decide)]; exact ht2) (hr2.cg (by rw [hf22 1 (by decide)]) (hf22 3 (by decide)) (hf22 4 (by decide)) (hf22 5 (by decide)) (by rw [hf22 0 (by decide)]) (by rw [hf22 0 (by decide)]) (by rw [hf22 0 (by decide)]))

