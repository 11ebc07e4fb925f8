/-! THE LAW'S BODY, piece by piece -/
abbrev pw_T : Type := (Nat × (Nat → cw_s)) × (Nat → Option cw_s) × (Nat × (Nat → Int32))
def pw_tw2 (u : cw_s) (T1 T2 : pw_T) (told : Int32) (w : gw_M) : Prop := pw_two (u, T1) (u, T2) w ∧ w 263 0 = told
theorem pw_le13 {k : Nat} (h : k ≤ 14) : ¬ (13 : Int32) < nI (k - 1) := by
  rw [cw_lt, cw_ni (by omega)]
  have z : (13 : Int32).toInt = 13 := rfl
  omega

set_option maxHeartbeats 8000000 in
set_option maxRecDepth 100000 in
theorem law_cell {X : gw_X} (C : gw_ok X RL cL_law 9 20 600130 7301080) {L : Nat} {xs : Nat → Int32} (hX : gw_lx X L xs) (hL : L ≤ 260) {k n e9 : Nat} (hk : k ≤ 600130 ∧ n ≤ 7301080) (he : e9 < 56) {w : gw_M} (K : ∀ v : Int32, gw_G X sP 9 k n 78 [(0, .ref 527), (1, .ref 252), (2, .ref 516), (3, .ref 263), (4, .int (nI e9)), (5, .int v)] [] w) : gw_G X sP 9 k n 30 [(0, .ref 527), (1, .ref 252), (2, .ref 516), (3, .ref 263), (4, .int (nI e9))] [] w := by
  refine g_iload C rfl dL_law_30 ?_
  refine g_iconst (v := 3) C (by decide) dL_law_32 ?_
  refine g_cmp_ge (tgt := 48) C (by decide) dL_law_33 (fun c_33 => ?_) (fun c_33 => ?_)
  · refine g_iload C rfl dL_law_48 ?_
    refine g_bipush (v := 6) C (by decide) dL_law_50 ?_
    refine g_cmp_ge (tgt := 70) C (by decide) dL_law_52 (fun c_52 => ?_) (fun c_52 => ?_)
    · refine g_aload_n C rfl dL_law_70 ?_
      refine g_iload C rfl dL_law_71 ?_
      refine g_callX C hX (ok_L_cell xs (by omega) e9 (by omega)) my_L_cell si_L_112 (by decide) ⟨by omega, by omega⟩ rfl (Nat.le_of_ble_eq_true rfl) dL_law_73 rfl (fun v_73 hp_73 => ?_)
      subst hp_73
      refine g_istore C (by decide) dL_law_76 ?_
      exact g_sub rfl (K _)
    · refine g_aload_n C rfl dL_law_55 ?_
      refine g_iload C rfl dL_law_56 ?_
      refine g_callX C hX (ok_L_cell xs (by omega) e9 (by omega)) my_L_cell si_L_112 (by decide) ⟨by omega, by omega⟩ rfl (Nat.le_of_ble_eq_true rfl) dL_law_58 rfl (fun v_58 hp_58 => ?_)
      subst hp_58
      refine g_bipush (v := (-32)) C (by decide) dL_law_61 ?_
      refine g_iand C dL_law_63 ?_
      refine g_bipush (v := 27) C (by decide) dL_law_64 ?_
      refine g_ior C dL_law_66 ?_
      refine g_goto (tgt := 76) C (by decide) dL_law_67 ?_
      refine g_istore C (by decide) dL_law_76 ?_
      exact g_sub rfl (K _)
  · refine g_aload_n C rfl dL_law_36 ?_
    refine g_iload C rfl dL_law_37 ?_
    refine g_callX C hX (ok_L_cell xs (by omega) e9 (by omega)) my_L_cell si_L_112 (by decide) ⟨by omega, by omega⟩ rfl (Nat.le_of_ble_eq_true rfl) dL_law_39 rfl (fun v_39 hp_39 => ?_)
    subst hp_39
    refine g_bipush (v := (-32)) C (by decide) dL_law_42 ?_
    refine g_iand C dL_law_44 ?_
    refine g_goto (tgt := 76) C (by decide) dL_law_45 ?_
    refine g_istore C (by decide) dL_law_76 ?_
    exact g_sub rfl (K _)

set_option maxHeartbeats 8000000 in
set_option maxRecDepth 100000 in
theorem law_thrown {X : gw_X} (C : gw_ok X RL cL_law 9 20 600130 7301080) (hst : X.2.1.stackTraces = false) {k n e9 : Nat} (hk : k + 3 ≤ 600130 ∧ n + 18 ≤ 7301080) (u : cw_s) (T1 T2 : pw_T) (v : Int32) {na ma nb mb : Nat} (hA : cw_IA na ma (u, T1)) (hA2 : cw_IA nb mb (u, T2)) (hB : cw_B (na + 43200) (ma + 4800)) {w : gw_M} (h2 : pw_two (u, T1) (u, T2) w) (e t9 : Int32) (g9 : cw_s) (hs : ∀ T : pw_T, (e = 0 → pw_run (u, T) (pw_op u v) = (0, t9, (g9, (cw_rem (u, T)).2))) ∧ (¬ e = 0 → pw_run (u, T) (pw_op u v) = (e, 0, (u, T)))) (he : ¬ e = 0) (K : ∀ (w1 : gw_M) (told : Int32), pw_two (u, T1) (u, T2) w1 → gw_G X sP 9 (k + 2) (n + 12) 170 [(0, .ref 527), (1, .ref 252), (2, .ref 516), (3, .ref 263), (4, .int (nI e9)), (5, .int v), (6, .int e), (7, .int told)] [] w1) : gw_G X sP 9 k n 78 [(0, .ref 527), (1, .ref 252), (2, .ref 516), (3, .ref 263), (4, .int (nI e9)), (5, .int v)] [] w := by
  refine g_aload_n C rfl dL_law_78 ?_
  refine g_iload C rfl dL_law_79 ?_
  refine g_aload_n C rfl dL_law_81 ?_
  refine g_callR C hst cw_emb_PO (ok_L_act (u, T1) hA (cw_B_le2 hB (by omega) (by omega)) v) my_L_act si_L_116 (by decide) ⟨by omega, by omega⟩ rfl (pw_wpo w) pw_wpo_i pw_wpo_o w (fun _ _ => rfl) (Nat.le_of_ble_eq_true rfl) dL_law_82 rfl (h2.1) (fun v_82 w_82 hp_82 => ?_)
  have hq82 : cw_LW (pw_run (u, T1) (pw_op u v)) v_82 w_82 := hp_82
  rw [(hs T1).2 he] at hq82
  obtain ⟨rfl, -, hc82⟩ := hq82
  refine g_genP (P := pw_two (u, T1) (u, T2)) (pw_to2 h2 hc82) (fun w82n h82n => ?_)
  refine g_istore C (by decide) dL_law_85 ?_
  refine g_aload_n C rfl dL_law_87 ?_
  refine g_iconst (v := 0) C (by decide) dL_law_88 ?_
  refine g_iald (j := 0) C rfl (rfl) (by decide) (by decide) dL_law_89 ?_
  refine g_istore C (by decide) dL_law_90 ?_
  refine g_iload C rfl dL_law_92 ?_
  refine g_if_eq (tgt := 107) C (by decide) dL_law_94 (fun c_94 => absurd c_94 (he)) (fun c_94 => ?_)
  refine g_aload_n C rfl dL_law_97 ?_
  refine g_aload_n C rfl dL_law_98 ?_
  refine g_callS C (ok_L_areAlike u T1 T2 hA hA2) my_L_areAlike si_L_120 (by decide) ⟨by omega, by omega⟩ rfl (Nat.le_of_ble_eq_true rfl) dL_law_99 rfl (h82n) (fun v_99 w_99 hp_99 => ?_)
  obtain ⟨rfl, h99⟩ := hp_99
  refine g_if_ne (tgt := 107) C (by decide) dL_law_102 (fun c_102 => ?_) (fun c_102 => absurd c_102 (by decide))
  refine g_iload C rfl dL_law_107 ?_
  refine g_if_ne (tgt := 170) C (by decide) dL_law_109 (fun c_109 => ?_) (fun c_109 => absurd c_109 (he))
  exact g_widen (by omega) (by omega) (g_sub rfl (K _ _ h99))

set_option maxHeartbeats 8000000 in
set_option maxRecDepth 100000 in
theorem law_done {X : gw_X} (C : gw_ok X RL cL_law 9 20 600130 7301080) (hst : X.2.1.stackTraces = false) {k n e9 : Nat} (hk : k + 3 ≤ 600130 ∧ n + 18 ≤ 7301080) (u : cw_s) (T1 T2 : pw_T) (v : Int32) {na ma nb mb : Nat} (hA : cw_IA na ma (u, T1)) (hA2 : cw_IA nb mb (u, T2)) (hB : cw_B (na + 43200) (ma + 4800)) {w : gw_M} (h2 : pw_two (u, T1) (u, T2) w) (e t9 : Int32) (g9 : cw_s) (hs : ∀ T : pw_T, (e = 0 → pw_run (u, T) (pw_op u v) = (0, t9, (g9, (cw_rem (u, T)).2))) ∧ (¬ e = 0 → pw_run (u, T) (pw_op u v) = (e, 0, (u, T)))) (he : e = 0) (K : ∀ (T : pw_T) (w1 : gw_M), cw_IA (na + 43200) (ma + 4800) (g9, T) → pw_two (g9, T) (u, T2) w1 → gw_G X sP 9 (k + 2) (n + 12) 170 [(0, .ref 527), (1, .ref 252), (2, .ref 516), (3, .ref 263), (4, .int (nI e9)), (5, .int v), (6, .int 0), (7, .int t9)] [] w1) : gw_G X sP 9 k n 78 [(0, .ref 527), (1, .ref 252), (2, .ref 516), (3, .ref 263), (4, .int (nI e9)), (5, .int v)] [] w := by
  have hG : cw_IA (na + 21600) (ma + 2400) (g9, (cw_rem (u, T1)).2) := by
    have q := pw_IA_run hA (cw_B_le2 hB (by omega) (by omega)) (pw_op u v)
    rw [(hs T1).1 he] at q
    exact q
  have HG : pw_H1 (g9, (cw_rem (u, T1)).2) u := pw_rem1 hA.2.2.2.1 _
  refine g_aload_n C rfl dL_law_78 ?_
  refine g_iload C rfl dL_law_79 ?_
  refine g_aload_n C rfl dL_law_81 ?_
  refine g_callR C hst cw_emb_PO (ok_L_act (u, T1) hA (cw_B_le2 hB (by omega) (by omega)) v) my_L_act si_L_116 (by decide) ⟨by omega, by omega⟩ rfl (pw_wpo w) pw_wpo_i pw_wpo_o w (fun _ _ => rfl) (Nat.le_of_ble_eq_true rfl) dL_law_82 rfl (h2.1) (fun v_82 w_82 hp_82 => ?_)
  have hq82 : cw_LW (pw_run (u, T1) (pw_op u v)) v_82 w_82 := hp_82
  rw [(hs T1).1 he] at hq82
  obtain ⟨rfl, hv82, hc82⟩ := hq82
  have hv82 := hv82 rfl
  refine g_genP (P := fun z => pw_two (g9, (cw_rem (u, T1)).2) (u, T2) z ∧ z 263 0 = t9) ⟨pw_to2 h2 hc82, hv82⟩ (fun w82n h82n => ?_)
  refine g_istore C (by decide) dL_law_85 ?_
  refine g_aload_n C rfl dL_law_87 ?_
  refine g_iconst (v := 0) C (by decide) dL_law_88 ?_
  refine g_iald (j := 0) C rfl (rfl) (by decide) (by decide) dL_law_89 ?_
  refine g_top h82n.2 ?_
  refine g_istore C (by decide) dL_law_90 ?_
  refine g_iload C rfl dL_law_92 ?_
  refine g_if_eq (tgt := 107) C (by decide) dL_law_94 (fun c_94 => ?_) (fun c_94 => absurd (rfl) c_94)
  refine g_iload C rfl dL_law_107 ?_
  refine g_if_ne (tgt := 170) C (by decide) dL_law_109 (fun c_109 => absurd (rfl) c_109) (fun c_109 => ?_)
  refine g_iload C rfl dL_law_112 ?_
  refine g_bipush (v := 9) C (by decide) dL_law_114 ?_
  refine g_ishr C dL_law_116 ?_
  refine g_iconst (v := 1) C (by decide) dL_law_117 ?_
  refine g_iand C dL_law_118 ?_
  refine g_if_ne (tgt := 170) C (by decide) dL_law_119 (fun c_119 => ?_) (fun c_119 => ?_)
  · exact g_widen (by omega) (by omega) (g_sub rfl (K (cw_rem (u, T1)).2 _ (hG.mono (by omega) (by omega)) h82n.1))
  · refine g_aload_n C rfl dL_law_122 ?_
    refine g_aload_n C rfl dL_law_123 ?_
    refine g_callN C cw_emb_PO (ok_L_undoes (g9, (cw_rem (u, T1)).2) hG (Nat.pos_iff_ne_zero.mp HG.1)) my_L_undoes si_L_104 (by decide) ⟨by omega, by omega⟩ rfl (pw_wpo w82n) pw_wpo_i pw_wpo_o w82n (fun _ _ => rfl) (Nat.le_of_ble_eq_true rfl) dL_law_124 rfl (h82n.1.1) (fun v_124 w_124 hp_124 => ?_)
    obtain ⟨rfl, ho124, hc124⟩ := hp_124
    obtain ⟨T3, hT3, hr3⟩ := pw_ex (A := (u, T1)) (B := pw_un (g9, (cw_rem (u, T1)).2)) (pw_un1 HG) (pw_un_IA hG HG.1) hc124
    refine g_genP (P := fun z => pw_two (u, T3) (u, T2) z ∧ z 263 0 = nI ((g9, (cw_rem (u, T1)).2).2.1.1 - 1)) ⟨pw_to2 h82n.1 hr3, ho124⟩ (fun w124n h124n => ?_)
    refine g_istore C (by decide) dL_law_127 ?_
    refine g_iload C rfl dL_law_129 ?_
    refine g_if_ne (tgt := 168) C (by decide) dL_law_131 (fun c_131 => absurd (rfl) c_131) (fun c_131 => ?_)
    refine g_aload_n C rfl dL_law_134 ?_
    refine g_iconst (v := 0) C (by decide) dL_law_135 ?_
    refine g_iald (j := 0) C rfl (rfl) (by decide) (by decide) dL_law_136 ?_
    refine g_top h124n.2 ?_
    refine g_bipush (v := 13) C (by decide) dL_law_137 ?_
    refine g_cmp_gt (tgt := 168) C (by decide) dL_law_139 (fun c_139 => absurd c_139 (pw_le13 hG.2.2.2.1)) (fun c_139 => ?_)
    refine g_aload_n C rfl dL_law_142 ?_
    refine g_aload_n C rfl dL_law_143 ?_
    refine g_callS C (ok_L_areAlike u T3 T2 hT3 hA2) my_L_areAlike si_L_120 (by decide) ⟨by omega, by omega⟩ rfl (Nat.le_of_ble_eq_true rfl) dL_law_144 rfl (h124n.1) (fun v_144 w_144 hp_144 => ?_)
    obtain ⟨rfl, h144⟩ := hp_144
    refine g_if_eq (tgt := 168) C (by decide) dL_law_147 (fun c_147 => absurd c_147 (by decide)) (fun c_147 => ?_)
    refine g_aload_n C rfl dL_law_150 ?_
    refine g_iload C rfl dL_law_151 ?_
    refine g_aload_n C rfl dL_law_153 ?_
    refine g_callR C hst cw_emb_PO (ok_L_act (u, T3) hT3 (cw_B_le2 hB (by omega) (by omega)) v) my_L_act si_L_116 (by decide) ⟨by omega, by omega⟩ rfl (pw_wpo w_144) pw_wpo_i pw_wpo_o w_144 (fun _ _ => rfl) (Nat.le_of_ble_eq_true rfl) dL_law_154 rfl (h144.1) (fun v_154 w_154 hp_154 => ?_)
    have hq154 : cw_LW (pw_run (u, T3) (pw_op u v)) v_154 w_154 := hp_154
    rw [(hs T3).1 he] at hq154
    obtain ⟨rfl, hv154, hc154⟩ := hq154
    have hv154 := hv154 rfl
    refine g_genP (P := fun z => pw_two (g9, (cw_rem (u, T3)).2) (u, T2) z ∧ z 263 0 = t9) ⟨pw_to2 h144 hc154, hv154⟩ (fun w154n h154n => ?_)
    have hG3 : cw_IA (na + 43200) (ma + 4800) (g9, (cw_rem (u, T3)).2) := by
      have q := pw_IA_run hT3 (cw_B_le2 hB (by omega) (by omega)) (pw_op u v)
      rw [(hs T3).1 he] at q
      exact q.mono (by omega) (by omega)
    refine g_if_ne (tgt := 168) C (by decide) dL_law_157 (fun c_157 => absurd (rfl) c_157) (fun c_157 => ?_)
    refine g_aload_n C rfl dL_law_160 ?_
    refine g_iconst (v := 0) C (by decide) dL_law_161 ?_
    refine g_iald (j := 0) C rfl (rfl) (by decide) (by decide) dL_law_162 ?_
    refine g_top h154n.2 ?_
    refine g_iload C rfl dL_law_163 ?_
    refine g_cmp_eq (tgt := 170) C (by decide) dL_law_165 (fun c_165 => ?_) (fun c_165 => absurd (rfl) c_165)
    exact g_widen (by omega) (by omega) (g_sub rfl (K (cw_rem (u, T3)).2 _ (hG3.mono (by omega) (by omega)) h154n.1))

set_option maxHeartbeats 8000000 in
set_option maxRecDepth 100000 in
theorem law_both_thrown {X : gw_X} (C : gw_ok X RL cL_law 9 20 600130 7301080) (hst : X.2.1.stackTraces = false) {k n e9 : Nat} (hk : k + 1 ≤ 600130 ∧ n + 6 ≤ 7301080) (u : cw_s) (T1 T2 : pw_T) (v : Int32) {na ma nb mb : Nat} (hA2 : cw_IA nb mb (u, T2)) (hB2 : cw_B (nb + 21600) (mb + 2400)) {w : gw_M} (e t9 : Int32) (g9 : cw_s) (hs : ∀ T : pw_T, (e = 0 → pw_run (u, T) (pw_op u v) = (0, t9, (g9, (cw_rem (u, T)).2))) ∧ (¬ e = 0 → pw_run (u, T) (pw_op u v) = (e, 0, (u, T)))) (hA : cw_IA na ma (u, T1)) (he : ¬ e = 0) (told : Int32) (h2 : pw_two (u, T1) (u, T2) w) (K : ∀ (w1 : gw_M), pw_two (u, T1) (u, T2) w1 → gw_G X sP 9 (k + 1) (n + 6) 205 [(0, .ref 527), (1, .ref 252), (2, .ref 516), (3, .ref 263), (4, .int (nI e9)), (5, .int v)] [] w1) : gw_G X sP 9 k n 170 [(0, .ref 527), (1, .ref 252), (2, .ref 516), (3, .ref 263), (4, .int (nI e9)), (5, .int v), (6, .int e), (7, .int told)] [] w := by
  refine g_aload_n C rfl dL_law_170 ?_
  refine g_iload C rfl dL_law_171 ?_
  refine g_aload_n C rfl dL_law_173 ?_
  refine g_callR C hst cw_emb_PR (ok_L_act (u, T2) hA2 (cw_B_le2 hB2 (by omega) (by omega)) v) my_L_act si_L_116 (by decide) ⟨by omega, by omega⟩ rfl (pw_wpr w) pw_wpr_i pw_wpr_o (pw_q w) (fun _ _ => rfl) (Nat.le_of_ble_eq_true rfl) dL_law_174 rfl (h2.2) (fun v_174 w_174 hp_174 => ?_)
  have hq174 : cw_LW (pw_run (u, T2) (pw_op u v)) v_174 w_174 := hp_174
  rw [(hs T2).2 he] at hq174
  obtain ⟨rfl, -, hc174⟩ := hq174
  refine g_genP (P := pw_two (u, T1) (u, T2)) (pw_tr h2 hc174) (fun w174n h174n => ?_)
  refine g_iload C rfl dL_law_177 ?_
  refine g_cmp_ne (tgt := 203) C (by decide) dL_law_179 (fun c_179 => absurd (rfl) c_179) (fun c_179 => ?_)
  refine g_iload C rfl dL_law_182 ?_
  refine g_if_ne (tgt := 195) C (by decide) dL_law_184 (fun c_184 => ?_) (fun c_184 => absurd c_184 (he))
  refine g_aload_n C rfl dL_law_195 ?_
  refine g_aload_n C rfl dL_law_196 ?_
  refine g_callS C (ok_L_areAlike u T1 T2 hA hA2) my_L_areAlike si_L_120 (by decide) ⟨by omega, by omega⟩ rfl (Nat.le_of_ble_eq_true rfl) dL_law_197 rfl (h174n) (fun v_197 w_197 hp_197 => ?_)
  obtain ⟨rfl, h197⟩ := hp_197
  refine g_if_ne (tgt := 205) C (by decide) dL_law_200 (fun c_200 => ?_) (fun c_200 => absurd c_200 (by decide))
  exact g_sub rfl (K _ h197)

set_option maxHeartbeats 8000000 in
set_option maxRecDepth 100000 in
theorem law_both_done {X : gw_X} (C : gw_ok X RL cL_law 9 20 600130 7301080) (hst : X.2.1.stackTraces = false) {k n e9 : Nat} (hk : k + 1 ≤ 600130 ∧ n + 6 ≤ 7301080) (u : cw_s) (T1 T2 : pw_T) (v : Int32) {na ma nb mb : Nat} (hA2 : cw_IA nb mb (u, T2)) (hB2 : cw_B (nb + 21600) (mb + 2400)) {w : gw_M} (e t9 : Int32) (g9 : cw_s) (hs : ∀ T : pw_T, (e = 0 → pw_run (u, T) (pw_op u v) = (0, t9, (g9, (cw_rem (u, T)).2))) ∧ (¬ e = 0 → pw_run (u, T) (pw_op u v) = (e, 0, (u, T)))) (hA : cw_IA na ma (g9, T1)) (he : e = 0) (h2 : pw_two (g9, T1) (u, T2) w) (K : ∀ (T : pw_T) (w1 : gw_M), cw_IA (nb + 21600) (mb + 2400) (g9, T) → pw_two (g9, T1) (g9, T) w1 → gw_G X sP 9 (k + 1) (n + 6) 205 [(0, .ref 527), (1, .ref 252), (2, .ref 516), (3, .ref 263), (4, .int (nI e9)), (5, .int v)] [] w1) : gw_G X sP 9 k n 170 [(0, .ref 527), (1, .ref 252), (2, .ref 516), (3, .ref 263), (4, .int (nI e9)), (5, .int v), (6, .int 0), (7, .int t9)] [] w := by
  have hG2 : cw_IA (nb + 21600) (mb + 2400) (g9, (cw_rem (u, T2)).2) := by
    have q := pw_IA_run hA2 hB2 (pw_op u v)
    rw [(hs T2).1 he] at q
    exact q
  refine g_aload_n C rfl dL_law_170 ?_
  refine g_iload C rfl dL_law_171 ?_
  refine g_aload_n C rfl dL_law_173 ?_
  refine g_callR C hst cw_emb_PR (ok_L_act (u, T2) hA2 (cw_B_le2 hB2 (by omega) (by omega)) v) my_L_act si_L_116 (by decide) ⟨by omega, by omega⟩ rfl (pw_wpr w) pw_wpr_i pw_wpr_o (pw_q w) (fun _ _ => rfl) (Nat.le_of_ble_eq_true rfl) dL_law_174 rfl (h2.2) (fun v_174 w_174 hp_174 => ?_)
  have hq174 : cw_LW (pw_run (u, T2) (pw_op u v)) v_174 w_174 := hp_174
  rw [(hs T2).1 he] at hq174
  obtain ⟨rfl, hv174, hc174⟩ := hq174
  have hv174 := hv174 rfl
  refine g_genP (P := fun z => pw_two (g9, T1) (g9, (cw_rem (u, T2)).2) z ∧ z 263 0 = t9) ⟨pw_tr h2 hc174, hv174⟩ (fun w174n h174n => ?_)
  refine g_iload C rfl dL_law_177 ?_
  refine g_cmp_ne (tgt := 203) C (by decide) dL_law_179 (fun c_179 => absurd (rfl) c_179) (fun c_179 => ?_)
  refine g_iload C rfl dL_law_182 ?_
  refine g_if_ne (tgt := 195) C (by decide) dL_law_184 (fun c_184 => absurd (rfl) c_184) (fun c_184 => ?_)
  refine g_aload_n C rfl dL_law_187 ?_
  refine g_iconst (v := 0) C (by decide) dL_law_188 ?_
  refine g_iald (j := 0) C rfl (rfl) (by decide) (by decide) dL_law_189 ?_
  refine g_top h174n.2 ?_
  refine g_iload C rfl dL_law_190 ?_
  refine g_cmp_ne (tgt := 203) C (by decide) dL_law_192 (fun c_192 => absurd (rfl) c_192) (fun c_192 => ?_)
  refine g_aload_n C rfl dL_law_195 ?_
  refine g_aload_n C rfl dL_law_196 ?_
  refine g_callS C (ok_L_areAlike g9 T1 (cw_rem (u, T2)).2 hA hG2) my_L_areAlike si_L_120 (by decide) ⟨by omega, by omega⟩ rfl (Nat.le_of_ble_eq_true rfl) dL_law_197 rfl (h174n.1) (fun v_197 w_197 hp_197 => ?_)
  obtain ⟨rfl, h197⟩ := hp_197
  refine g_if_ne (tgt := 205) C (by decide) dL_law_200 (fun c_200 => ?_) (fun c_200 => absurd c_200 (by decide))
  exact g_sub rfl (K (cw_rem (u, T2)).2 _ hG2 h197)

theorem pw_low_n {v n : Int32} (hn : 0 < n.toInt) (h2 : n.toInt ≤ 1000) : ∃ k, k < n.toInt.toNat ∧ pw_low v n = nI k := by
  have r := pw_low_r v hn
  exact ⟨(pw_low v n).toInt.toNat, by omega, by apply Int32.toInt_inj.mp; rw [nI_toInt (by omega)]; omega⟩
theorem pw_low_ix {n m : Nat} {u : cw_s} (hI : cw_I n m u) {v : Int32} (hup : 0 < (u 0).toInt) : ∃ j, j < cw_no u ∧ pw_low v (u 0) = nI j := by
  obtain ⟨h0, h6⟩ := hI.no
  obtain ⟨k, hk, e⟩ := pw_low_n (v := v) hup (by omega)
  exact ⟨k, by omega, e⟩

set_option maxHeartbeats 8000000 in
set_option maxRecDepth 100000 in
theorem law_tests {X : gw_X} (C : gw_ok X RL cL_law 9 20 600130 7301080) {k n e9 : Nat} (hk : k ≤ 600130 ∧ n ≤ 7301080) (he9 : e9 < 56) (u : cw_s) (T1 T2 : pw_T) (v : Int32) {na ma nb mb : Nat} (hA : cw_IA na ma (u, T1)) (hA2 : cw_IA nb mb (u, T2)) (hB : cw_B (na + 216000) (ma + 24000)) (hJ : pw_J u) {w : gw_M} (h2 : pw_two (u, T1) (u, T2) w) (K : ∀ (T : pw_T) (w1 : gw_M), cw_IA (na + 151200) (ma + 16800) (u, T) → pw_two (u, T) (u, T2) w1 → gw_G X sP 9 k n 297 [(0, .ref 527), (1, .ref 252), (2, .ref 516), (3, .ref 263), (4, .int (nI e9))] [] w1) : gw_G X sP 9 k n 205 [(0, .ref 527), (1, .ref 252), (2, .ref 516), (3, .ref 263), (4, .int (nI e9)), (5, .int v)] [] w := by
  have hI : cw_I na ma u := hA.1
  refine g_iload C rfl dL_law_205 ?_
  refine g_iconst (v := 3) C (by decide) dL_law_207 ?_
  refine g_irem C (by decide) dL_law_208 ?_
  refine g_top (pw_dv (by omega) 3 rfl (by decide) (by decide)).2 ?_
  refine g_iconst (v := 2) C (by decide) dL_law_209 ?_
  refine g_cmp_ne (tgt := 222) C (by decide) dL_law_210 (fun c_210 => ?_) (fun c_210 => ?_)
  · refine g_iload C rfl dL_law_222 ?_
    refine g_iconst (v := 3) C (by decide) dL_law_224 ?_
    refine g_irem C (by decide) dL_law_225 ?_
    refine g_top (pw_dv (by omega) 3 rfl (by decide) (by decide)).2 ?_
    refine g_iconst (v := 2) C (by decide) dL_law_226 ?_
    refine g_cmp_ne (tgt := 297) C (by decide) dL_law_227 (fun c_227 => ?_) (fun c_227 => absurd c_227 (c_210))
    exact g_sub rfl (K T1 _ (hA.mono (by omega) (by omega)) h2)
  · refine g_aload_n C rfl dL_law_213 ?_
    refine g_callSW C cw_emb_PC (ok_L_areSums (u, T1) hA (cw_B_le2 hB (by omega) (by omega)) hJ) my_L_areSums si_L_124 (by decide) ⟨by omega, by omega⟩ rfl (cw_wpc w) cw_wpc_i cw_wpc_o w (fun _ _ => rfl) (Nat.le_of_ble_eq_true rfl) dL_law_214 rfl (h2.1) (fun v_214 w_214 hp_214 => ?_)
    obtain ⟨rfl, T3, hT3, hr214⟩ := hp_214
    refine g_genP (P := pw_two (u, T3) (u, T2)) (pw_tc h2 hr214) (fun w214n h214n => ?_)
    refine g_if_ne (tgt := 222) C (by decide) dL_law_217 (fun c_217 => ?_) (fun c_217 => absurd c_217 (by decide))
    refine g_iload C rfl dL_law_222 ?_
    refine g_iconst (v := 3) C (by decide) dL_law_224 ?_
    refine g_irem C (by decide) dL_law_225 ?_
    refine g_top (pw_dv (by omega) 3 rfl (by decide) (by decide)).2 ?_
    refine g_iconst (v := 2) C (by decide) dL_law_226 ?_
    refine g_cmp_ne (tgt := 297) C (by decide) dL_law_227 (fun c_227 => absurd (c_210) c_227) (fun c_227 => ?_)
    refine g_aload_n C rfl dL_law_230 ?_
    refine g_iconst (v := 0) C (by decide) dL_law_231 ?_
    refine g_callW C cw_emb_PC (ok_X6_about (u, T3) hT3 0 (by decide)) my_X6_about vi_L_59 (by decide) ⟨by omega, by omega⟩ rfl ((cw_emb_PC.1 252 (by decide))) rfl (cw_wpc w214n) (cw_wpc_i) (cw_wpc_o) (w214n) (fun _ _ => rfl) (Nat.le_of_ble_eq_true rfl) dL_law_232 rfl (h214n.1) (fun v_232 w_232 hp_232 => ?_)
    obtain ⟨rfl, hr232⟩ := hp_232
    refine g_genP (P := pw_two (u, T3) (u, T2)) (pw_tc h214n hr232) (fun w232n h232n => ?_)
    refine g_top (show _ = u 0 from rfl) ?_
    refine g_if_le (tgt := 297) C (by decide) dL_law_235 (fun c_235 => ?_) (fun c_235 => ?_)
    · exact g_sub rfl (K T3 _ (hT3.mono (by omega) (by omega)) h232n)
    · have hu0 : ¬ u 0 = 0 := fun q => c_235 (by rw [q]; exact Int32.le_refl 0)
      have hup : 0 < (u 0).toInt := by
        rw [cw_le] at c_235
        have z : (0 : Int32).toInt = 0 := rfl
        omega
      have z8 : (8 : Int32).toInt = 8 := rfl
      have z999 : (999 : Int32).toInt = 999 := rfl
      obtain ⟨j9, hj9, ej9⟩ := pw_low_ix (v := v >>> ((5 : Int32) &&& 31)) hI hup
      obtain ⟨k9, hk9, ek9⟩ := pw_low_n (v := v >>> ((7 : Int32) &&& 31)) (n := 8) (by decide) (by decide)
      obtain ⟨c9, hc9, ec9⟩ := pw_low_n (v := v >>> ((4 : Int32) &&& 31)) (n := 999) (by decide) (by decide)
      refine g_aload_n C rfl dL_law_238 ?_
      refine g_iload C rfl dL_law_239 ?_
      refine g_iconst (v := 5) C (by decide) dL_law_241 ?_
      refine g_ishr C dL_law_242 ?_
      refine g_aload_n C rfl dL_law_243 ?_
      refine g_iconst (v := 0) C (by decide) dL_law_244 ?_
      refine g_callW C cw_emb_PC (ok_X6_about (u, T3) hT3 0 (by decide)) my_X6_about vi_L_59 (by decide) ⟨by omega, by omega⟩ rfl ((cw_emb_PC.1 252 (by decide))) rfl (cw_wpc w232n) (cw_wpc_i) (cw_wpc_o) (w232n) (fun _ _ => rfl) (Nat.le_of_ble_eq_true rfl) dL_law_245 rfl (h232n.1) (fun v_245 w_245 hp_245 => ?_)
      obtain ⟨rfl, hr245⟩ := hp_245
      refine g_genP (P := pw_two (u, T3) (u, T2)) (pw_tc h232n hr245) (fun w245n h245n => ?_)
      refine g_top (show _ = u 0 from rfl) ?_
      refine g_callSW C (cw_emb_Z sP) (ok_L_low (v >>> ((5 : Int32) &&& 31)) (u 0) (hu0)) my_L_low si_L_54 (by decide) ⟨by omega, by omega⟩ rfl (fun _ => w245n) (fun _ _ hi => absurd hi (Nat.not_lt_zero _)) (fun _ _ _ _ => rfl) w245n (fun _ hi => absurd hi (Nat.not_lt_zero _)) (Nat.le_of_ble_eq_true rfl) dL_law_248 rfl trivial (fun v_248 w_248 hp_248 => ?_)
      obtain ⟨rfl, -⟩ := hp_248
      refine g_top ej9 ?_
      refine g_iload C rfl dL_law_251 ?_
      refine g_bipush (v := 7) C (by decide) dL_law_253 ?_
      refine g_ishr C dL_law_255 ?_
      refine g_bipush (v := 8) C (by decide) dL_law_256 ?_
      refine g_callSW C (cw_emb_Z sP) (ok_L_low (v >>> ((7 : Int32) &&& 31)) (8) (by decide)) my_L_low si_L_54 (by decide) ⟨by omega, by omega⟩ rfl (fun _ => w245n) (fun _ _ hi => absurd hi (Nat.not_lt_zero _)) (fun _ _ _ _ => rfl) w245n (fun _ hi => absurd hi (Nat.not_lt_zero _)) (Nat.le_of_ble_eq_true rfl) dL_law_258 rfl trivial (fun v_258 w_258 hp_258 => ?_)
      obtain ⟨rfl, -⟩ := hp_258
      refine g_top ek9 ?_
      refine g_aload_n C rfl dL_law_261 ?_
      refine g_callSW C cw_emb_PO (ok_L_isWinSo (u, T3) hT3 (cw_B_le2 hB (by omega) (by omega)) hj9 (by omega)) my_L_isWinSo si_L_128 (by decide) ⟨by omega, by omega⟩ rfl (pw_wpo w245n) pw_wpo_i pw_wpo_o w245n (fun _ _ => rfl) (Nat.le_of_ble_eq_true rfl) dL_law_262 rfl (h245n.1) (fun v_262 w_262 hp_262 => ?_)
      obtain ⟨rfl, T4, hT4, hr262⟩ := hp_262
      refine g_genP (P := pw_two (u, T4) (u, T2)) (pw_to2 h245n hr262) (fun w262n h262n => ?_)
      refine g_if_eq (tgt := 295) C (by decide) dL_law_265 (fun c_265 => absurd c_265 (by decide)) (fun c_265 => ?_)
      refine g_aload_n C rfl dL_law_268 ?_
      refine g_iconst (v := 1) C (by decide) dL_law_269 ?_
      refine g_iload C rfl dL_law_270 ?_
      refine g_iconst (v := 4) C (by decide) dL_law_272 ?_
      refine g_ishr C dL_law_273 ?_
      refine g_sipush (v := 999) C (by decide) dL_law_274 ?_
      refine g_callSW C (cw_emb_Z sP) (ok_L_low (v >>> ((4 : Int32) &&& 31)) (999) (by decide)) my_L_low si_L_54 (by decide) ⟨by omega, by omega⟩ rfl (fun _ => w262n) (fun _ _ hi => absurd hi (Nat.not_lt_zero _)) (fun _ _ _ _ => rfl) w262n (fun _ hi => absurd hi (Nat.not_lt_zero _)) (Nat.le_of_ble_eq_true rfl) dL_law_277 rfl trivial (fun v_277 w_277 hp_277 => ?_)
      obtain ⟨rfl, -⟩ := hp_277
      refine g_top ec9 ?_
      refine g_iadd C dL_law_280 ?_
      refine g_top (show _ = nI (1 + c9) from nI_add 1 c9) ?_
      refine g_callSW C cw_emb_PC (ok_L_isUpkeepSo (u, T4) hT4 (cw_B_le2 hB (by omega) (by omega)) (nI (1 + c9)) (pw_in (l := 1) (u := 999) (by omega) (by omega) (by omega)) hu0) my_L_isUpkeepSo si_L_132 (by decide) ⟨by omega, by omega⟩ rfl (cw_wpc w262n) cw_wpc_i cw_wpc_o w262n (fun _ _ => rfl) (Nat.le_of_ble_eq_true rfl) dL_law_281 rfl (h262n.1) (fun v_281 w_281 hp_281 => ?_)
      obtain ⟨rfl, T5, hT5, hr281⟩ := hp_281
      refine g_genP (P := pw_two (u, T5) (u, T2)) (pw_tc h262n hr281) (fun w281n h281n => ?_)
      refine g_if_eq (tgt := 295) C (by decide) dL_law_284 (fun c_284 => absurd c_284 (by decide)) (fun c_284 => ?_)
      refine g_aload_n C rfl dL_law_287 ?_
      refine g_aload_n C rfl dL_law_288 ?_
      refine g_callS C (ok_L_areAlike u T5 T2 hT5 hA2) my_L_areAlike si_L_120 (by decide) ⟨by omega, by omega⟩ rfl (Nat.le_of_ble_eq_true rfl) dL_law_289 rfl (h281n) (fun v_289 w_289 hp_289 => ?_)
      obtain ⟨rfl, h289⟩ := hp_289
      refine g_if_ne (tgt := 297) C (by decide) dL_law_292 (fun c_292 => ?_) (fun c_292 => absurd c_292 (by decide))
      exact g_sub rfl (K T5 _ (hT5.mono (by omega) (by omega)) h289)

set_option maxHeartbeats 8000000 in
set_option maxRecDepth 100000 in
/-- THE LAW'S LOOP: at its head both objects are in one state, and what adds up adds up -/
theorem law_loop {X : gw_X} (C : gw_ok X RL cL_law 9 20 600130 7301080) (hst : X.2.1.stackTraces = false) {L : Nat} {xs : Nat → Int32} (hX : gw_lx X L xs) (hL : L ≤ 260) {k0 n0 : Nat} (hk : k0 + 168 ≤ 600130 ∧ n0 + 1008 ≤ 7301080)
    (K : ∀ (k n : Nat) (lv : gw_LV) (w : gw_M), k ≤ 600130 → n ≤ 7301080 → gw_G X sP 9 k n 307 lv [.int 1] w) :
    ∀ (r e9 : Nat), e9 + r = 56 → ∀ (u : cw_s) (T1 T2 : pw_T) (w : gw_M), cw_IA (194400 * e9) (21600 * e9) (u, T1) → cw_IA (194400 * e9) (21600 * e9) (u, T2) → pw_J u → pw_two (u, T1) (u, T2) w → gw_G X sP 9 (k0 + 3 * e9) (n0 + 18 * e9) 23 [(0, .ref 527), (1, .ref 252), (2, .ref 516), (3, .ref 263), (4, .int (nI e9))] [] w := by
  intro r
  induction r with
  | zero =>
    intro e9 he u T1 T2 w hA hA2 hJ h2
    obtain rfl : e9 = 56 := by omega
    refine g_iload C rfl dL_law_23 ?_
    refine g_bipush (v := 56) C (by decide) dL_law_25 ?_
    refine g_cmp_ge (tgt := 303) C (by decide) dL_law_27 (fun _ => ?_) (fun c => absurd (by decide) c)
    refine g_aload_n C rfl dL_law_303 ?_
    refine g_callSW C cw_emb_PC (ok_L_areSums (u, T1) hA ⟨by omega, by omega⟩ hJ) my_L_areSums si_L_124 (by decide) ⟨by omega, by omega⟩ rfl (cw_wpc w) cw_wpc_i cw_wpc_o w (fun _ _ => rfl) (Nat.le_of_ble_eq_true rfl) dL_law_304 rfl (h2.1) (fun v_304 w_304 hp_304 => ?_)
    obtain ⟨rfl, -⟩ := hp_304
    exact K _ _ _ _ (by omega) (by omega)
  | succ r ih =>
    intro e9 he u T1 T2 w hA hA2 hJ h2
    have he9 : e9 < 56 := by omega
    refine g_iload C rfl dL_law_23 ?_
    refine g_bipush (v := 56) C (by decide) dL_law_25 ?_
    refine g_cmp_ge (tgt := 303) C (by decide) dL_law_27 (fun c => absurd c (show ¬ (56 : Int32) ≤ nI e9 from pw_nge (N := 56) he9 (by decide))) (fun c => ?_)
    refine law_cell C hX hL ⟨by omega, by omega⟩ he9 (fun v => ?_)
    obtain ⟨e, t, g, hs⟩ := pw_shaped (pw_op u v)
    have hs2 : ∀ T : pw_T, (e u = 0 → pw_run (u, T) (pw_op u v) = (0, t u, (g u, (cw_rem (u, T)).2))) ∧ (¬ e u = 0 → pw_run (u, T) (pw_op u v) = (e u, 0, (u, T))) := fun T => hs (u, T)
    have cont : ∀ (u1 : cw_s) (Ta Tb : pw_T) (w1 : gw_M), cw_IA (194400 * e9 + 43200) (21600 * e9 + 4800) (u1, Ta) → cw_IA (194400 * e9 + 21600) (21600 * e9 + 2400) (u1, Tb) → pw_J u1 → pw_two (u1, Ta) (u1, Tb) w1 → gw_G X sP 9 (k0 + 3 * e9 + 2 + 1) (n0 + 18 * e9 + 12 + 6) 205 [(0, .ref 527), (1, .ref 252), (2, .ref 516), (3, .ref 263), (4, .int (nI e9)), (5, .int v)] [] w1 := fun u1 Ta Tb w1 a1 a2 a3 a4 => by
      refine law_tests C ⟨by omega, by omega⟩ he9 u1 Ta Tb v a1 a2 ⟨by omega, by omega⟩ a3 a4 (fun Tc w2 b1 b2 => ?_)
      refine g_iinc (v := nI (e9 + 1)) C rfl (nI_1 e9) (by decide) dL_law_297 ?_
      refine g_goto (tgt := 23) C (by decide) dL_law_300 ?_
      exact g_sub rfl (g_widen (k' := k0 + 3 * (e9 + 1)) (n' := n0 + 18 * (e9 + 1)) (by omega) (by omega) (ih (e9 + 1) (by omega) u1 Tc Tb w2 (b1.mono (by omega) (by omega)) (a2.mono (by omega) (by omega)) a3 b2))
    by_cases h0 : e u = 0
    · have hJ2 : pw_J (g u) := by
        have q := pw_J_run hA ⟨by omega, by omega⟩ hJ (pw_op u v)
        rw [(hs2 T1).1 h0] at q
        exact q
      refine law_done C hst ⟨by omega, by omega⟩ u T1 T2 v hA hA2 ⟨by omega, by omega⟩ h2 (e u) (t u) (g u) hs2 h0 (fun Ta w1 a1 a2 => ?_)
      refine law_both_done C hst ⟨by omega, by omega⟩ u Ta T2 v hA2 ⟨by omega, by omega⟩ (e u) (t u) (g u) hs2 a1 h0 a2 (fun Tb w2 b1 b2 => ?_)
      exact cont (g u) Ta Tb w2 a1 b1 hJ2 b2
    · refine law_thrown C hst ⟨by omega, by omega⟩ u T1 T2 v hA hA2 ⟨by omega, by omega⟩ h2 (e u) (t u) (g u) hs2 h0 (fun w1 told a2 => ?_)
      refine law_both_thrown C hst ⟨by omega, by omega⟩ u T1 T2 v hA2 ⟨by omega, by omega⟩ (e u) (t u) (g u) hs2 hA h0 told a2 (fun w2 b2 => ?_)
      exact cont u T1 T2 w2 (hA.mono (by omega) (by omega)) (hA2.mono (by omega) (by omega)) hJ b2

