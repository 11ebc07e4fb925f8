/-! THE LAW'S CASES -/
def cw_lg (a b : Int32) : Int64 := (a.toInt64 <<< ((32 : Int32).toInt64 &&& 63)) ||| (b.toInt64 &&& 4294967295)

set_option maxHeartbeats 8000000 in
set_option maxRecDepth 100000 in
theorem law_0 {X : gw_X} (C : gw_ok X RL cL_law 7 20 601024 7293034) {L : Nat} {xs : Nat → Int32} (hX : gw_lx X L xs) {k n j9 : Nat} (hj : 4 * j9 + 3 < L) (hL : L ≤ 2048) (hk : k + 1 ≤ 601024 ∧ n + 6 ≤ 7293034) (A : cw_A) {na ma : Nat} (hA : cw_IA na ma A) (hB : cw_B (na + 21600) (ma + 2400)) {w : gw_M} (hc : cw_RC A w) (hm : cw_RM A (cw_ws 264 w))
    (K : ∀ (B : cw_A) (w1 : gw_M), cw_IA (na + 21600) (ma + 2400) B → cw_RC B w1 → cw_RM B (cw_ws 264 w1) → gw_G X sL 7 (k + 1) (n + 6) 2012 [(0, .ref 271), (1, .ref 252), (2, .ref 264), (3, .ref 263), (4, .int (nI (4 * j9)))] [] w1) : gw_G X sL 7 k n 176 [(0, .ref 271), (1, .ref 252), (2, .ref 264), (3, .ref 263), (4, .int (nI (4 * j9)))] [] w := by
  refine g_aload_n C rfl dL_law_176 ?_
  refine g_aload_n C rfl dL_law_177 ?_
  refine g_iload C rfl dL_law_178 ?_
  refine g_iconst (v := 1) C (by decide) dL_law_180 ?_
  refine g_iadd C dL_law_181 ?_
  refine g_scr C hX (j := 4 * j9 + 1) (nI_add (4 * j9) 1) (by omega) (by omega) dL_law_182 ?_
  refine g_aload_n C rfl dL_law_183 ?_
  refine g_callL C (gw_lx_st hX) cw_emb_LO (ok_L_append A hA hB (xs (4 * j9 + 1))) my_L_append si_L_107 (by decide) ⟨by omega, by omega⟩ rfl (cw_wpo w) cw_wpo_i cw_wpo_o w (fun _ _ => rfl) (Nat.le_of_ble_eq_true rfl) dL_law_184 rfl hc (fun v_184 w_184 hp_184 => ?_)
  obtain ⟨rfl, hv1, hc1⟩ := hp_184
  have hcA : cw_RC (sp_append A (xs (4 * j9 + 1))).2.2 (cw_wpo w w_184) := hc1.low (fun q hq => if_pos (by omega))
  have hmA : cw_RM A (cw_ws 264 (cw_wpo w w_184)) := cw_RM_low hm (fun q hq => if_neg (by omega))
  have hvA : (sp_append A (xs (4 * j9 + 1))).1 = 0 → cw_wpo w w_184 263 0 = (sp_append A (xs (4 * j9 + 1))).2.1 := fun z => (congrFun (cw_wpo_i (w := w) w_184 263 (by decide)) 0).trans (hv1 z)
  obtain ⟨wa, ewa⟩ : ∃ z, z = cw_wpo w w_184 := ⟨_, rfl⟩
  rw [← ewa] at hcA hmA hvA ⊢
  refine g_istore C (by decide) dL_law_187 ?_
  refine g_aload_n C rfl dL_law_189 ?_
  refine g_aload_n C rfl dL_law_190 ?_
  refine g_iload C rfl dL_law_191 ?_
  refine g_iconst (v := 1) C (by decide) dL_law_193 ?_
  refine g_iadd C dL_law_194 ?_
  refine g_scr C hX (j := 4 * j9 + 1) (nI_add (4 * j9) 1) (by omega) (by omega) dL_law_195 ?_
  refine g_callW C cw_emb_LM (ok_X7_append (xs (4 * j9 + 1)) A hA.1 (cw_B_le2 hB (by omega) (by omega))) my_X7_append vi_L_112 (by decide) ⟨by omega, by omega⟩ rfl ((cw_emb_LM.1 0 (by decide))) rfl (cw_wp 264 7 wa) (cw_wp_i) (cw_wp_o) (cw_ws 264 wa) (fun i _ => rfl) (Nat.le_of_ble_eq_true rfl) dL_law_196 rfl (hmA) (fun v_196 w_196 hp_196 => ?_)
  obtain ⟨rfl, ht196, hm196⟩ := hp_196
  have hcB : cw_RC (sp_append A (xs (4 * j9 + 1))).2.2 (cw_wp 264 7 wa w_196) := hcA.low (fun q hq => cw_wp_out _ _ (by omega))
  have hmB : cw_RM (sp_append A (xs (4 * j9 + 1))).2.2 (cw_ws 264 (cw_wp 264 7 wa w_196)) := cw_RM_low hm196 (fun q hq => cw_wp_i _ q hq)
  have htB : cw_wp 264 7 wa w_196 264 0 = (sp_append A (xs (4 * j9 + 1))).1 := (congrFun (cw_wp_i (b := 264) (n := 7) (w := wa) w_196 0 (by decide)) 0).trans ht196
  have hvB : (sp_append A (xs (4 * j9 + 1))).1 = 0 → cw_wp 264 7 wa w_196 263 0 = (sp_append A (xs (4 * j9 + 1))).2.1 := fun z => (congrFun (cw_wp_out (b := 264) (n := 7) wa w_196 (q := 263) (by decide)) 0).trans (hvA z)
  obtain ⟨wb, ewb⟩ : ∃ z, z = cw_wp 264 7 wa w_196 := ⟨_, rfl⟩
  rw [← ewb] at hcB hmB htB hvB ⊢
  refine g_istore C (by decide) dL_law_199 ?_
  refine g_aload_n C rfl dL_law_201 ?_
  refine g_callW C cw_emb_LM (ok_X7_thrown) my_X7_thrown vi_L_113 (by decide) ⟨by omega, by omega⟩ rfl ((cw_emb_LM.1 0 (by decide))) rfl (cw_wp 264 7 wb) (cw_wp_i) (cw_wp_o) (cw_ws 264 wb) (fun i _ => rfl) (Nat.le_of_ble_eq_true rfl) dL_law_202 rfl (trivial) (fun v_202 w_202 hp_202 => ?_)
  obtain ⟨rfl, hw_202⟩ := hp_202
  have hw_202 := hw_202.symm; subst hw_202
  rw [cw_wp_ws]
  refine g_top htB ?_
  refine g_iload C rfl dL_law_205 ?_
  refine g_cmp_eq (tgt := 212) C (by decide) dL_law_207 (fun c_207 => ?_) (fun c_207 => absurd (rfl) c_207)
  refine g_iload C rfl dL_law_212 ?_
  refine g_if_ne (tgt := 229) C (by decide) dL_law_214 (fun c_214 => ?_) (fun c_214 => ?_)
  · refine g_goto (tgt := 2012) C (by decide) dL_law_229 ?_
    exact g_sub rfl (K _ _ (ia_append hA hB (xs (4 * j9 + 1))) hcB hmB)
  · refine g_aload_n C rfl dL_law_217 ?_
    refine g_iconst (v := 0) C (by decide) dL_law_218 ?_
    refine g_lald (j := 0) C rfl (rfl) (by decide) (by decide) dL_law_219 ?_
    refine g_topl (congrArg Int32.toInt64 (hvB c_214)) ?_
    refine g_iload C rfl dL_law_220 ?_
    refine g_i2l C dL_law_222 ?_
    refine g_lcmp C dL_law_223 ?_
    refine g_if_eq (tgt := 229) C (by decide) dL_law_224 (fun c_224 => ?_) (fun c_224 => absurd ((cw_cmp0 _ _).mpr rfl) c_224)
    refine g_goto (tgt := 2012) C (by decide) dL_law_229 ?_
    exact g_sub rfl (K _ _ (ia_append hA hB (xs (4 * j9 + 1))) hcB hmB)

set_option maxHeartbeats 8000000 in
set_option maxRecDepth 100000 in
theorem law_1 {X : gw_X} (C : gw_ok X RL cL_law 7 20 601024 7293034) {L : Nat} {xs : Nat → Int32} (hX : gw_lx X L xs) {k n j9 : Nat} (hj : 4 * j9 + 3 < L) (hL : L ≤ 2048) (hk : k + 1 ≤ 601024 ∧ n + 6 ≤ 7293034) (A : cw_A) {na ma : Nat} (hA : cw_IA na ma A) (hB : cw_B (na + 21600) (ma + 2400)) {w : gw_M} (hc : cw_RC A w) (hm : cw_RM A (cw_ws 264 w))
    (K : ∀ (B : cw_A) (w1 : gw_M), cw_IA (na + 21600) (ma + 2400) B → cw_RC B w1 → cw_RM B (cw_ws 264 w1) → gw_G X sL 7 (k + 1) (n + 6) 2012 [(0, .ref 271), (1, .ref 252), (2, .ref 264), (3, .ref 263), (4, .int (nI (4 * j9)))] [] w1) : gw_G X sL 7 k n 232 [(0, .ref 271), (1, .ref 252), (2, .ref 264), (3, .ref 263), (4, .int (nI (4 * j9)))] [] w := by
  refine g_aload_n C rfl dL_law_232 ?_
  refine g_callW C cw_emb_LC (ok_X6_clearText A hA) my_X6_clearText vi_L_116 (by decide) ⟨by omega, by omega⟩ rfl ((cw_emb_LC.1 252 (by decide))) rfl (cw_wpc w) (cw_wpc_i) (cw_wpc_o) (w) (fun _ _ => rfl) (Nat.le_of_ble_eq_true rfl) dL_law_233 rfl (hc) (fun v_233 w_233 hp_233 => ?_)
  obtain ⟨rfl, hr233⟩ := hp_233
  have hcA : cw_RC (sp_clearText A).2.2 (cw_wpc w w_233) := hr233.low (fun q hq => if_pos hq)
  have hmA : cw_RM A (cw_ws 264 (cw_wpc w w_233)) := cw_RM_low hm (fun q hq => if_neg (by omega))
  obtain ⟨wa, ewa⟩ : ∃ z, z = cw_wpc w w_233 := ⟨_, rfl⟩
  rw [← ewa] at hcA hmA ⊢
  refine g_aload_n C rfl dL_law_236 ?_
  refine g_callW C cw_emb_LM (ok_X7_clearText A hA.1 (cw_B_le2 hB (by omega) (by omega))) my_X7_clearText vi_L_119 (by decide) ⟨by omega, by omega⟩ rfl ((cw_emb_LM.1 0 (by decide))) rfl (cw_wp 264 7 wa) (cw_wp_i) (cw_wp_o) (cw_ws 264 wa) (fun i _ => rfl) (Nat.le_of_ble_eq_true rfl) dL_law_237 rfl (hmA) (fun v_237 w_237 hp_237 => ?_)
  obtain ⟨rfl, ht237, hm237⟩ := hp_237
  have hcB : cw_RC (sp_clearText A).2.2 (cw_wp 264 7 wa w_237) := hcA.low (fun q hq => cw_wp_out _ _ (by omega))
  have hmB : cw_RM (sp_clearText A).2.2 (cw_ws 264 (cw_wp 264 7 wa w_237)) := cw_RM_low hm237 (fun q hq => cw_wp_i _ q hq)
  have htB : cw_wp 264 7 wa w_237 264 0 = (sp_clearText A).1 := (congrFun (cw_wp_i (b := 264) (n := 7) (w := wa) w_237 0 (by decide)) 0).trans ht237
  obtain ⟨wb, ewb⟩ : ∃ z, z = cw_wp 264 7 wa w_237 := ⟨_, rfl⟩
  rw [← ewb] at hcB hmB htB ⊢
  refine g_cmp_eq (tgt := 2012) C (by decide) dL_law_240 (fun c_240 => ?_) (fun c_240 => absurd (rfl) c_240)
  exact g_widen (by omega) (by omega) (g_sub rfl (K _ _ (ia_clearText hA hB) hcB hmB))

set_option maxHeartbeats 8000000 in
set_option maxRecDepth 100000 in
theorem law_2 {X : gw_X} (C : gw_ok X RL cL_law 7 20 601024 7293034) {L : Nat} {xs : Nat → Int32} (hX : gw_lx X L xs) {k n j9 : Nat} (hj : 4 * j9 + 3 < L) (hL : L ≤ 2048) (hk : k + 1 ≤ 601024 ∧ n + 6 ≤ 7293034) (A : cw_A) {na ma : Nat} (hA : cw_IA na ma A) (hB : cw_B (na + 21600) (ma + 2400)) {w : gw_M} (hc : cw_RC A w) (hm : cw_RM A (cw_ws 264 w))
    (K : ∀ (B : cw_A) (w1 : gw_M), cw_IA (na + 21600) (ma + 2400) B → cw_RC B w1 → cw_RM B (cw_ws 264 w1) → gw_G X sL 7 (k + 1) (n + 6) 2012 [(0, .ref 271), (1, .ref 252), (2, .ref 264), (3, .ref 263), (4, .int (nI (4 * j9)))] [] w1) : gw_G X sL 7 k n 245 [(0, .ref 271), (1, .ref 252), (2, .ref 264), (3, .ref 263), (4, .int (nI (4 * j9)))] [] w := by
  refine g_aload_n C rfl dL_law_245 ?_
  refine g_callW C cw_emb_LC (ok_X6_errorPosition A hA) my_X6_errorPosition vi_L_120 (by decide) ⟨by omega, by omega⟩ rfl ((cw_emb_LC.1 252 (by decide))) rfl (cw_wpc w) (cw_wpc_i) (cw_wpc_o) (w) (fun _ _ => rfl) (Nat.le_of_ble_eq_true rfl) dL_law_246 rfl (hc) (fun v_246 w_246 hp_246 => ?_)
  obtain ⟨rfl, hr246⟩ := hp_246
  have hcA : cw_RC (sp_errorPosition A).2.2 (cw_wpc w w_246) := hr246.low (fun q hq => if_pos hq)
  have hmA : cw_RM A (cw_ws 264 (cw_wpc w w_246)) := cw_RM_low hm (fun q hq => if_neg (by omega))
  obtain ⟨wa, ewa⟩ : ∃ z, z = cw_wpc w w_246 := ⟨_, rfl⟩
  rw [← ewa] at hcA hmA ⊢
  refine g_aload_n C rfl dL_law_249 ?_
  refine g_callW C cw_emb_LM (ok_X7_errorPosition A hA.1 (cw_B_le2 hB (by omega) (by omega))) my_X7_errorPosition vi_L_123 (by decide) ⟨by omega, by omega⟩ rfl ((cw_emb_LM.1 0 (by decide))) rfl (cw_wp 264 7 wa) (cw_wp_i) (cw_wp_o) (cw_ws 264 wa) (fun i _ => rfl) (Nat.le_of_ble_eq_true rfl) dL_law_250 rfl (hmA) (fun v_250 w_250 hp_250 => ?_)
  obtain ⟨rfl, ht250, hm250⟩ := hp_250
  have hcB : cw_RC (sp_errorPosition A).2.2 (cw_wp 264 7 wa w_250) := hcA.low (fun q hq => cw_wp_out _ _ (by omega))
  have hmB : cw_RM (sp_errorPosition A).2.2 (cw_ws 264 (cw_wp 264 7 wa w_250)) := cw_RM_low hm250 (fun q hq => cw_wp_i _ q hq)
  have htB : cw_wp 264 7 wa w_250 264 0 = (sp_errorPosition A).1 := (congrFun (cw_wp_i (b := 264) (n := 7) (w := wa) w_250 0 (by decide)) 0).trans ht250
  obtain ⟨wb, ewb⟩ : ∃ z, z = cw_wp 264 7 wa w_250 := ⟨_, rfl⟩
  rw [← ewb] at hcB hmB htB ⊢
  refine g_cmp_eq (tgt := 2012) C (by decide) dL_law_253 (fun c_253 => ?_) (fun c_253 => absurd (rfl) c_253)
  exact g_widen (by omega) (by omega) (g_sub rfl (K _ _ (ia_errorPosition hA hB) hcB hmB))

set_option maxHeartbeats 8000000 in
set_option maxRecDepth 100000 in
theorem law_3 {X : gw_X} (C : gw_ok X RL cL_law 7 20 601024 7293034) {L : Nat} {xs : Nat → Int32} (hX : gw_lx X L xs) {k n j9 : Nat} (hj : 4 * j9 + 3 < L) (hL : L ≤ 2048) (hk : k + 1 ≤ 601024 ∧ n + 6 ≤ 7293034) (A : cw_A) {na ma : Nat} (hA : cw_IA na ma A) (hB : cw_B (na + 21600) (ma + 2400)) {w : gw_M} (hc : cw_RC A w) (hm : cw_RM A (cw_ws 264 w))
    (K : ∀ (B : cw_A) (w1 : gw_M), cw_IA (na + 21600) (ma + 2400) B → cw_RC B w1 → cw_RM B (cw_ws 264 w1) → gw_G X sL 7 (k + 1) (n + 6) 2012 [(0, .ref 271), (1, .ref 252), (2, .ref 264), (3, .ref 263), (4, .int (nI (4 * j9)))] [] w1) : gw_G X sL 7 k n 258 [(0, .ref 271), (1, .ref 252), (2, .ref 264), (3, .ref 263), (4, .int (nI (4 * j9)))] [] w := by
  refine g_aload_n C rfl dL_law_258 ?_
  refine g_aload_n C rfl dL_law_259 ?_
  refine g_callL C (gw_lx_st hX) cw_emb_LO (ok_L_load A hA hB) my_L_load si_L_124 (by decide) ⟨by omega, by omega⟩ rfl (cw_wpo w) cw_wpo_i cw_wpo_o w (fun _ _ => rfl) (Nat.le_of_ble_eq_true rfl) dL_law_260 rfl hc (fun v_260 w_260 hp_260 => ?_)
  obtain ⟨rfl, hv1, hc1⟩ := hp_260
  have hcA : cw_RC (sp_load A).2.2 (cw_wpo w w_260) := hc1.low (fun q hq => if_pos (by omega))
  have hmA : cw_RM A (cw_ws 264 (cw_wpo w w_260)) := cw_RM_low hm (fun q hq => if_neg (by omega))
  have hvA : (sp_load A).1 = 0 → cw_wpo w w_260 263 0 = (sp_load A).2.1 := fun z => (congrFun (cw_wpo_i (w := w) w_260 263 (by decide)) 0).trans (hv1 z)
  obtain ⟨wa, ewa⟩ : ∃ z, z = cw_wpo w w_260 := ⟨_, rfl⟩
  rw [← ewa] at hcA hmA hvA ⊢
  refine g_istore C (by decide) dL_law_263 ?_
  refine g_aload_n C rfl dL_law_265 ?_
  refine g_callW C cw_emb_LM (ok_X7_load A hA.1 (cw_B_le2 hB (by omega) (by omega))) my_X7_load vi_L_127 (by decide) ⟨by omega, by omega⟩ rfl ((cw_emb_LM.1 0 (by decide))) rfl (cw_wp 264 7 wa) (cw_wp_i) (cw_wp_o) (cw_ws 264 wa) (fun i _ => rfl) (Nat.le_of_ble_eq_true rfl) dL_law_266 rfl (hmA) (fun v_266 w_266 hp_266 => ?_)
  obtain ⟨rfl, ht266, hm266⟩ := hp_266
  have hcB : cw_RC (sp_load A).2.2 (cw_wp 264 7 wa w_266) := hcA.low (fun q hq => cw_wp_out _ _ (by omega))
  have hmB : cw_RM (sp_load A).2.2 (cw_ws 264 (cw_wp 264 7 wa w_266)) := cw_RM_low hm266 (fun q hq => cw_wp_i _ q hq)
  have htB : cw_wp 264 7 wa w_266 264 0 = (sp_load A).1 := (congrFun (cw_wp_i (b := 264) (n := 7) (w := wa) w_266 0 (by decide)) 0).trans ht266
  have hvB : (sp_load A).1 = 0 → cw_wp 264 7 wa w_266 263 0 = (sp_load A).2.1 := fun z => (congrFun (cw_wp_out (b := 264) (n := 7) wa w_266 (q := 263) (by decide)) 0).trans (hvA z)
  obtain ⟨wb, ewb⟩ : ∃ z, z = cw_wp 264 7 wa w_266 := ⟨_, rfl⟩
  rw [← ewb] at hcB hmB htB hvB ⊢
  refine g_istore C (by decide) dL_law_269 ?_
  refine g_aload_n C rfl dL_law_271 ?_
  refine g_callW C cw_emb_LM (ok_X7_thrown) my_X7_thrown vi_L_113 (by decide) ⟨by omega, by omega⟩ rfl ((cw_emb_LM.1 0 (by decide))) rfl (cw_wp 264 7 wb) (cw_wp_i) (cw_wp_o) (cw_ws 264 wb) (fun i _ => rfl) (Nat.le_of_ble_eq_true rfl) dL_law_272 rfl (trivial) (fun v_272 w_272 hp_272 => ?_)
  obtain ⟨rfl, hw_272⟩ := hp_272
  have hw_272 := hw_272.symm; subst hw_272
  rw [cw_wp_ws]
  refine g_top htB ?_
  refine g_iload C rfl dL_law_275 ?_
  refine g_cmp_eq (tgt := 282) C (by decide) dL_law_277 (fun c_277 => ?_) (fun c_277 => absurd (rfl) c_277)
  refine g_iload C rfl dL_law_282 ?_
  refine g_if_ne (tgt := 299) C (by decide) dL_law_284 (fun c_284 => ?_) (fun c_284 => ?_)
  · refine g_goto (tgt := 2012) C (by decide) dL_law_299 ?_
    exact g_sub rfl (K _ _ (ia_load hA hB) hcB hmB)
  · refine g_aload_n C rfl dL_law_287 ?_
    refine g_iconst (v := 0) C (by decide) dL_law_288 ?_
    refine g_lald (j := 0) C rfl (rfl) (by decide) (by decide) dL_law_289 ?_
    refine g_topl (congrArg Int32.toInt64 (hvB c_284)) ?_
    refine g_iload C rfl dL_law_290 ?_
    refine g_i2l C dL_law_292 ?_
    refine g_lcmp C dL_law_293 ?_
    refine g_if_eq (tgt := 299) C (by decide) dL_law_294 (fun c_294 => ?_) (fun c_294 => absurd ((cw_cmp0 _ _).mpr rfl) c_294)
    refine g_goto (tgt := 2012) C (by decide) dL_law_299 ?_
    exact g_sub rfl (K _ _ (ia_load hA hB) hcB hmB)

set_option maxHeartbeats 8000000 in
set_option maxRecDepth 100000 in
theorem law_4 {X : gw_X} (C : gw_ok X RL cL_law 7 20 601024 7293034) {L : Nat} {xs : Nat → Int32} (hX : gw_lx X L xs) {k n j9 : Nat} (hj : 4 * j9 + 3 < L) (hL : L ≤ 2048) (hk : k + 1 ≤ 601024 ∧ n + 6 ≤ 7293034) (A : cw_A) {na ma : Nat} (hA : cw_IA na ma A) (hB : cw_B (na + 21600) (ma + 2400)) {w : gw_M} (hc : cw_RC A w) (hm : cw_RM A (cw_ws 264 w))
    (K : ∀ (B : cw_A) (w1 : gw_M), cw_IA (na + 21600) (ma + 2400) B → cw_RC B w1 → cw_RM B (cw_ws 264 w1) → gw_G X sL 7 (k + 1) (n + 6) 2012 [(0, .ref 271), (1, .ref 252), (2, .ref 264), (3, .ref 263), (4, .int (nI (4 * j9)))] [] w1) : gw_G X sL 7 k n 302 [(0, .ref 271), (1, .ref 252), (2, .ref 264), (3, .ref 263), (4, .int (nI (4 * j9)))] [] w := by
  refine g_aload_n C rfl dL_law_302 ?_
  refine g_aload_n C rfl dL_law_303 ?_
  refine g_iload C rfl dL_law_304 ?_
  refine g_iconst (v := 1) C (by decide) dL_law_306 ?_
  refine g_iadd C dL_law_307 ?_
  refine g_scr C hX (j := 4 * j9 + 1) (nI_add (4 * j9) 1) (by omega) (by omega) dL_law_308 ?_
  refine g_aload_n C rfl dL_law_309 ?_
  refine g_callL C (gw_lx_st hX) cw_emb_LO (ok_L_about A hA hB (xs (4 * j9 + 1))) my_L_about si_L_128 (by decide) ⟨by omega, by omega⟩ rfl (cw_wpo w) cw_wpo_i cw_wpo_o w (fun _ _ => rfl) (Nat.le_of_ble_eq_true rfl) dL_law_310 rfl hc (fun v_310 w_310 hp_310 => ?_)
  obtain ⟨rfl, hv1, hc1⟩ := hp_310
  have hcA : cw_RC (sp_about A (xs (4 * j9 + 1))).2.2 (cw_wpo w w_310) := hc1.low (fun q hq => if_pos (by omega))
  have hmA : cw_RM A (cw_ws 264 (cw_wpo w w_310)) := cw_RM_low hm (fun q hq => if_neg (by omega))
  have hvA : (sp_about A (xs (4 * j9 + 1))).1 = 0 → cw_wpo w w_310 263 0 = (sp_about A (xs (4 * j9 + 1))).2.1 := fun z => (congrFun (cw_wpo_i (w := w) w_310 263 (by decide)) 0).trans (hv1 z)
  obtain ⟨wa, ewa⟩ : ∃ z, z = cw_wpo w w_310 := ⟨_, rfl⟩
  rw [← ewa] at hcA hmA hvA ⊢
  refine g_istore C (by decide) dL_law_313 ?_
  refine g_aload_n C rfl dL_law_315 ?_
  refine g_aload_n C rfl dL_law_316 ?_
  refine g_iload C rfl dL_law_317 ?_
  refine g_iconst (v := 1) C (by decide) dL_law_319 ?_
  refine g_iadd C dL_law_320 ?_
  refine g_scr C hX (j := 4 * j9 + 1) (nI_add (4 * j9) 1) (by omega) (by omega) dL_law_321 ?_
  refine g_callW C cw_emb_LM (ok_X7_about (xs (4 * j9 + 1)) A hA.1 (cw_B_le2 hB (by omega) (by omega))) my_X7_about vi_L_130 (by decide) ⟨by omega, by omega⟩ rfl ((cw_emb_LM.1 0 (by decide))) rfl (cw_wp 264 7 wa) (cw_wp_i) (cw_wp_o) (cw_ws 264 wa) (fun i _ => rfl) (Nat.le_of_ble_eq_true rfl) dL_law_322 rfl (hmA) (fun v_322 w_322 hp_322 => ?_)
  obtain ⟨rfl, ht322, hm322⟩ := hp_322
  have hcB : cw_RC (sp_about A (xs (4 * j9 + 1))).2.2 (cw_wp 264 7 wa w_322) := hcA.low (fun q hq => cw_wp_out _ _ (by omega))
  have hmB : cw_RM (sp_about A (xs (4 * j9 + 1))).2.2 (cw_ws 264 (cw_wp 264 7 wa w_322)) := cw_RM_low hm322 (fun q hq => cw_wp_i _ q hq)
  have htB : cw_wp 264 7 wa w_322 264 0 = (sp_about A (xs (4 * j9 + 1))).1 := (congrFun (cw_wp_i (b := 264) (n := 7) (w := wa) w_322 0 (by decide)) 0).trans ht322
  have hvB : (sp_about A (xs (4 * j9 + 1))).1 = 0 → cw_wp 264 7 wa w_322 263 0 = (sp_about A (xs (4 * j9 + 1))).2.1 := fun z => (congrFun (cw_wp_out (b := 264) (n := 7) wa w_322 (q := 263) (by decide)) 0).trans (hvA z)
  obtain ⟨wb, ewb⟩ : ∃ z, z = cw_wp 264 7 wa w_322 := ⟨_, rfl⟩
  rw [← ewb] at hcB hmB htB hvB ⊢
  refine g_istore C (by decide) dL_law_325 ?_
  refine g_aload_n C rfl dL_law_327 ?_
  refine g_callW C cw_emb_LM (ok_X7_thrown) my_X7_thrown vi_L_113 (by decide) ⟨by omega, by omega⟩ rfl ((cw_emb_LM.1 0 (by decide))) rfl (cw_wp 264 7 wb) (cw_wp_i) (cw_wp_o) (cw_ws 264 wb) (fun i _ => rfl) (Nat.le_of_ble_eq_true rfl) dL_law_328 rfl (trivial) (fun v_328 w_328 hp_328 => ?_)
  obtain ⟨rfl, hw_328⟩ := hp_328
  have hw_328 := hw_328.symm; subst hw_328
  rw [cw_wp_ws]
  refine g_top htB ?_
  refine g_iload C rfl dL_law_331 ?_
  refine g_cmp_eq (tgt := 338) C (by decide) dL_law_333 (fun c_333 => ?_) (fun c_333 => absurd (rfl) c_333)
  refine g_iload C rfl dL_law_338 ?_
  refine g_if_ne (tgt := 355) C (by decide) dL_law_340 (fun c_340 => ?_) (fun c_340 => ?_)
  · refine g_goto (tgt := 2012) C (by decide) dL_law_355 ?_
    exact g_sub rfl (K _ _ (ia_about hA hB (xs (4 * j9 + 1))) hcB hmB)
  · refine g_aload_n C rfl dL_law_343 ?_
    refine g_iconst (v := 0) C (by decide) dL_law_344 ?_
    refine g_lald (j := 0) C rfl (rfl) (by decide) (by decide) dL_law_345 ?_
    refine g_topl (congrArg Int32.toInt64 (hvB c_340)) ?_
    refine g_iload C rfl dL_law_346 ?_
    refine g_i2l C dL_law_348 ?_
    refine g_lcmp C dL_law_349 ?_
    refine g_if_eq (tgt := 355) C (by decide) dL_law_350 (fun c_350 => ?_) (fun c_350 => absurd ((cw_cmp0 _ _).mpr rfl) c_350)
    refine g_goto (tgt := 2012) C (by decide) dL_law_355 ?_
    exact g_sub rfl (K _ _ (ia_about hA hB (xs (4 * j9 + 1))) hcB hmB)

set_option maxHeartbeats 8000000 in
set_option maxRecDepth 100000 in
theorem law_5 {X : gw_X} (C : gw_ok X RL cL_law 7 20 601024 7293034) {L : Nat} {xs : Nat → Int32} (hX : gw_lx X L xs) {k n j9 : Nat} (hj : 4 * j9 + 3 < L) (hL : L ≤ 2048) (hk : k + 1 ≤ 601024 ∧ n + 6 ≤ 7293034) (A : cw_A) {na ma : Nat} (hA : cw_IA na ma A) (hB : cw_B (na + 21600) (ma + 2400)) {w : gw_M} (hc : cw_RC A w) (hm : cw_RM A (cw_ws 264 w))
    (K : ∀ (B : cw_A) (w1 : gw_M), cw_IA (na + 21600) (ma + 2400) B → cw_RC B w1 → cw_RM B (cw_ws 264 w1) → gw_G X sL 7 (k + 1) (n + 6) 2012 [(0, .ref 271), (1, .ref 252), (2, .ref 264), (3, .ref 263), (4, .int (nI (4 * j9)))] [] w1) : gw_G X sL 7 k n 358 [(0, .ref 271), (1, .ref 252), (2, .ref 264), (3, .ref 263), (4, .int (nI (4 * j9)))] [] w := by
  refine g_aload_n C rfl dL_law_358 ?_
  refine g_aload_n C rfl dL_law_359 ?_
  refine g_iload C rfl dL_law_360 ?_
  refine g_iconst (v := 1) C (by decide) dL_law_362 ?_
  refine g_iadd C dL_law_363 ?_
  refine g_scr C hX (j := 4 * j9 + 1) (nI_add (4 * j9) 1) (by omega) (by omega) dL_law_364 ?_
  refine g_aload_n C rfl dL_law_365 ?_
  refine g_iload C rfl dL_law_366 ?_
  refine g_iconst (v := 2) C (by decide) dL_law_368 ?_
  refine g_iadd C dL_law_369 ?_
  refine g_scr C hX (j := 4 * j9 + 2) (nI_add (4 * j9) 2) (by omega) (by omega) dL_law_370 ?_
  refine g_aload_n C rfl dL_law_371 ?_
  refine g_callL C (gw_lx_st hX) cw_emb_LO (ok_L_ownerOf A hA hB (xs (4 * j9 + 1)) (xs (4 * j9 + 2))) my_L_ownerOf si_L_131 (by decide) ⟨by omega, by omega⟩ rfl (cw_wpo w) cw_wpo_i cw_wpo_o w (fun _ _ => rfl) (Nat.le_of_ble_eq_true rfl) dL_law_372 rfl hc (fun v_372 w_372 hp_372 => ?_)
  obtain ⟨rfl, hv1, hc1⟩ := hp_372
  have hcA : cw_RC (sp_ownerOf A (xs (4 * j9 + 1)) (xs (4 * j9 + 2))).2.2 (cw_wpo w w_372) := hc1.low (fun q hq => if_pos (by omega))
  have hmA : cw_RM A (cw_ws 264 (cw_wpo w w_372)) := cw_RM_low hm (fun q hq => if_neg (by omega))
  have hvA : (sp_ownerOf A (xs (4 * j9 + 1)) (xs (4 * j9 + 2))).1 = 0 → cw_wpo w w_372 263 0 = (sp_ownerOf A (xs (4 * j9 + 1)) (xs (4 * j9 + 2))).2.1 := fun z => (congrFun (cw_wpo_i (w := w) w_372 263 (by decide)) 0).trans (hv1 z)
  obtain ⟨wa, ewa⟩ : ∃ z, z = cw_wpo w w_372 := ⟨_, rfl⟩
  rw [← ewa] at hcA hmA hvA ⊢
  refine g_istore C (by decide) dL_law_375 ?_
  refine g_aload_n C rfl dL_law_377 ?_
  refine g_aload_n C rfl dL_law_378 ?_
  refine g_iload C rfl dL_law_379 ?_
  refine g_iconst (v := 1) C (by decide) dL_law_381 ?_
  refine g_iadd C dL_law_382 ?_
  refine g_scr C hX (j := 4 * j9 + 1) (nI_add (4 * j9) 1) (by omega) (by omega) dL_law_383 ?_
  refine g_aload_n C rfl dL_law_384 ?_
  refine g_iload C rfl dL_law_385 ?_
  refine g_iconst (v := 2) C (by decide) dL_law_387 ?_
  refine g_iadd C dL_law_388 ?_
  refine g_scr C hX (j := 4 * j9 + 2) (nI_add (4 * j9) 2) (by omega) (by omega) dL_law_389 ?_
  refine g_callW C cw_emb_LM (ok_X7_ownerOf (xs (4 * j9 + 1)) (xs (4 * j9 + 2)) A hA.1 (cw_B_le2 hB (by omega) (by omega))) my_X7_ownerOf vi_L_134 (by decide) ⟨by omega, by omega⟩ rfl ((cw_emb_LM.1 0 (by decide))) rfl (cw_wp 264 7 wa) (cw_wp_i) (cw_wp_o) (cw_ws 264 wa) (fun i _ => rfl) (Nat.le_of_ble_eq_true rfl) dL_law_390 rfl (hmA) (fun v_390 w_390 hp_390 => ?_)
  obtain ⟨rfl, ht390, hm390⟩ := hp_390
  have hcB : cw_RC (sp_ownerOf A (xs (4 * j9 + 1)) (xs (4 * j9 + 2))).2.2 (cw_wp 264 7 wa w_390) := hcA.low (fun q hq => cw_wp_out _ _ (by omega))
  have hmB : cw_RM (sp_ownerOf A (xs (4 * j9 + 1)) (xs (4 * j9 + 2))).2.2 (cw_ws 264 (cw_wp 264 7 wa w_390)) := cw_RM_low hm390 (fun q hq => cw_wp_i _ q hq)
  have htB : cw_wp 264 7 wa w_390 264 0 = (sp_ownerOf A (xs (4 * j9 + 1)) (xs (4 * j9 + 2))).1 := (congrFun (cw_wp_i (b := 264) (n := 7) (w := wa) w_390 0 (by decide)) 0).trans ht390
  have hvB : (sp_ownerOf A (xs (4 * j9 + 1)) (xs (4 * j9 + 2))).1 = 0 → cw_wp 264 7 wa w_390 263 0 = (sp_ownerOf A (xs (4 * j9 + 1)) (xs (4 * j9 + 2))).2.1 := fun z => (congrFun (cw_wp_out (b := 264) (n := 7) wa w_390 (q := 263) (by decide)) 0).trans (hvA z)
  obtain ⟨wb, ewb⟩ : ∃ z, z = cw_wp 264 7 wa w_390 := ⟨_, rfl⟩
  rw [← ewb] at hcB hmB htB hvB ⊢
  refine g_istore C (by decide) dL_law_393 ?_
  refine g_aload_n C rfl dL_law_395 ?_
  refine g_callW C cw_emb_LM (ok_X7_thrown) my_X7_thrown vi_L_113 (by decide) ⟨by omega, by omega⟩ rfl ((cw_emb_LM.1 0 (by decide))) rfl (cw_wp 264 7 wb) (cw_wp_i) (cw_wp_o) (cw_ws 264 wb) (fun i _ => rfl) (Nat.le_of_ble_eq_true rfl) dL_law_396 rfl (trivial) (fun v_396 w_396 hp_396 => ?_)
  obtain ⟨rfl, hw_396⟩ := hp_396
  have hw_396 := hw_396.symm; subst hw_396
  rw [cw_wp_ws]
  refine g_top htB ?_
  refine g_iload C rfl dL_law_399 ?_
  refine g_cmp_eq (tgt := 406) C (by decide) dL_law_401 (fun c_401 => ?_) (fun c_401 => absurd (rfl) c_401)
  refine g_iload C rfl dL_law_406 ?_
  refine g_if_ne (tgt := 423) C (by decide) dL_law_408 (fun c_408 => ?_) (fun c_408 => ?_)
  · refine g_goto (tgt := 2012) C (by decide) dL_law_423 ?_
    exact g_sub rfl (K _ _ (ia_ownerOf hA hB (xs (4 * j9 + 1)) (xs (4 * j9 + 2))) hcB hmB)
  · refine g_aload_n C rfl dL_law_411 ?_
    refine g_iconst (v := 0) C (by decide) dL_law_412 ?_
    refine g_lald (j := 0) C rfl (rfl) (by decide) (by decide) dL_law_413 ?_
    refine g_topl (congrArg Int32.toInt64 (hvB c_408)) ?_
    refine g_iload C rfl dL_law_414 ?_
    refine g_i2l C dL_law_416 ?_
    refine g_lcmp C dL_law_417 ?_
    refine g_if_eq (tgt := 423) C (by decide) dL_law_418 (fun c_418 => ?_) (fun c_418 => absurd ((cw_cmp0 _ _).mpr rfl) c_418)
    refine g_goto (tgt := 2012) C (by decide) dL_law_423 ?_
    exact g_sub rfl (K _ _ (ia_ownerOf hA hB (xs (4 * j9 + 1)) (xs (4 * j9 + 2))) hcB hmB)

set_option maxHeartbeats 8000000 in
set_option maxRecDepth 100000 in
theorem law_6 {X : gw_X} (C : gw_ok X RL cL_law 7 20 601024 7293034) {L : Nat} {xs : Nat → Int32} (hX : gw_lx X L xs) {k n j9 : Nat} (hj : 4 * j9 + 3 < L) (hL : L ≤ 2048) (hk : k + 1 ≤ 601024 ∧ n + 6 ≤ 7293034) (A : cw_A) {na ma : Nat} (hA : cw_IA na ma A) (hB : cw_B (na + 21600) (ma + 2400)) {w : gw_M} (hc : cw_RC A w) (hm : cw_RM A (cw_ws 264 w))
    (K : ∀ (B : cw_A) (w1 : gw_M), cw_IA (na + 21600) (ma + 2400) B → cw_RC B w1 → cw_RM B (cw_ws 264 w1) → gw_G X sL 7 (k + 1) (n + 6) 2012 [(0, .ref 271), (1, .ref 252), (2, .ref 264), (3, .ref 263), (4, .int (nI (4 * j9)))] [] w1) : gw_G X sL 7 k n 426 [(0, .ref 271), (1, .ref 252), (2, .ref 264), (3, .ref 263), (4, .int (nI (4 * j9)))] [] w := by
  refine g_aload_n C rfl dL_law_426 ?_
  refine g_aload_n C rfl dL_law_427 ?_
  refine g_iload C rfl dL_law_428 ?_
  refine g_iconst (v := 1) C (by decide) dL_law_430 ?_
  refine g_iadd C dL_law_431 ?_
  refine g_scr C hX (j := 4 * j9 + 1) (nI_add (4 * j9) 1) (by omega) (by omega) dL_law_432 ?_
  refine g_aload_n C rfl dL_law_433 ?_
  refine g_iload C rfl dL_law_434 ?_
  refine g_iconst (v := 2) C (by decide) dL_law_436 ?_
  refine g_iadd C dL_law_437 ?_
  refine g_scr C hX (j := 4 * j9 + 2) (nI_add (4 * j9) 2) (by omega) (by omega) dL_law_438 ?_
  refine g_aload_n C rfl dL_law_439 ?_
  refine g_callL C (gw_lx_st hX) cw_emb_LO (ok_L_weekOf A hA hB (xs (4 * j9 + 1)) (xs (4 * j9 + 2))) my_L_weekOf si_L_135 (by decide) ⟨by omega, by omega⟩ rfl (cw_wpo w) cw_wpo_i cw_wpo_o w (fun _ _ => rfl) (Nat.le_of_ble_eq_true rfl) dL_law_440 rfl hc (fun v_440 w_440 hp_440 => ?_)
  obtain ⟨rfl, hv1, hc1⟩ := hp_440
  have hcA : cw_RC (sp_weekOf A (xs (4 * j9 + 1)) (xs (4 * j9 + 2))).2.2 (cw_wpo w w_440) := hc1.low (fun q hq => if_pos (by omega))
  have hmA : cw_RM A (cw_ws 264 (cw_wpo w w_440)) := cw_RM_low hm (fun q hq => if_neg (by omega))
  have hvA : (sp_weekOf A (xs (4 * j9 + 1)) (xs (4 * j9 + 2))).1 = 0 → cw_wpo w w_440 263 0 = (sp_weekOf A (xs (4 * j9 + 1)) (xs (4 * j9 + 2))).2.1 := fun z => (congrFun (cw_wpo_i (w := w) w_440 263 (by decide)) 0).trans (hv1 z)
  obtain ⟨wa, ewa⟩ : ∃ z, z = cw_wpo w w_440 := ⟨_, rfl⟩
  rw [← ewa] at hcA hmA hvA ⊢
  refine g_istore C (by decide) dL_law_443 ?_
  refine g_aload_n C rfl dL_law_445 ?_
  refine g_aload_n C rfl dL_law_446 ?_
  refine g_iload C rfl dL_law_447 ?_
  refine g_iconst (v := 1) C (by decide) dL_law_449 ?_
  refine g_iadd C dL_law_450 ?_
  refine g_scr C hX (j := 4 * j9 + 1) (nI_add (4 * j9) 1) (by omega) (by omega) dL_law_451 ?_
  refine g_aload_n C rfl dL_law_452 ?_
  refine g_iload C rfl dL_law_453 ?_
  refine g_iconst (v := 2) C (by decide) dL_law_455 ?_
  refine g_iadd C dL_law_456 ?_
  refine g_scr C hX (j := 4 * j9 + 2) (nI_add (4 * j9) 2) (by omega) (by omega) dL_law_457 ?_
  refine g_callW C cw_emb_LM (ok_X7_weekOf (xs (4 * j9 + 1)) (xs (4 * j9 + 2)) A hA.1 (cw_B_le2 hB (by omega) (by omega))) my_X7_weekOf vi_L_137 (by decide) ⟨by omega, by omega⟩ rfl ((cw_emb_LM.1 0 (by decide))) rfl (cw_wp 264 7 wa) (cw_wp_i) (cw_wp_o) (cw_ws 264 wa) (fun i _ => rfl) (Nat.le_of_ble_eq_true rfl) dL_law_458 rfl (hmA) (fun v_458 w_458 hp_458 => ?_)
  obtain ⟨rfl, ht458, hm458⟩ := hp_458
  have hcB : cw_RC (sp_weekOf A (xs (4 * j9 + 1)) (xs (4 * j9 + 2))).2.2 (cw_wp 264 7 wa w_458) := hcA.low (fun q hq => cw_wp_out _ _ (by omega))
  have hmB : cw_RM (sp_weekOf A (xs (4 * j9 + 1)) (xs (4 * j9 + 2))).2.2 (cw_ws 264 (cw_wp 264 7 wa w_458)) := cw_RM_low hm458 (fun q hq => cw_wp_i _ q hq)
  have htB : cw_wp 264 7 wa w_458 264 0 = (sp_weekOf A (xs (4 * j9 + 1)) (xs (4 * j9 + 2))).1 := (congrFun (cw_wp_i (b := 264) (n := 7) (w := wa) w_458 0 (by decide)) 0).trans ht458
  have hvB : (sp_weekOf A (xs (4 * j9 + 1)) (xs (4 * j9 + 2))).1 = 0 → cw_wp 264 7 wa w_458 263 0 = (sp_weekOf A (xs (4 * j9 + 1)) (xs (4 * j9 + 2))).2.1 := fun z => (congrFun (cw_wp_out (b := 264) (n := 7) wa w_458 (q := 263) (by decide)) 0).trans (hvA z)
  obtain ⟨wb, ewb⟩ : ∃ z, z = cw_wp 264 7 wa w_458 := ⟨_, rfl⟩
  rw [← ewb] at hcB hmB htB hvB ⊢
  refine g_istore C (by decide) dL_law_461 ?_
  refine g_aload_n C rfl dL_law_463 ?_
  refine g_callW C cw_emb_LM (ok_X7_thrown) my_X7_thrown vi_L_113 (by decide) ⟨by omega, by omega⟩ rfl ((cw_emb_LM.1 0 (by decide))) rfl (cw_wp 264 7 wb) (cw_wp_i) (cw_wp_o) (cw_ws 264 wb) (fun i _ => rfl) (Nat.le_of_ble_eq_true rfl) dL_law_464 rfl (trivial) (fun v_464 w_464 hp_464 => ?_)
  obtain ⟨rfl, hw_464⟩ := hp_464
  have hw_464 := hw_464.symm; subst hw_464
  rw [cw_wp_ws]
  refine g_top htB ?_
  refine g_iload C rfl dL_law_467 ?_
  refine g_cmp_eq (tgt := 474) C (by decide) dL_law_469 (fun c_469 => ?_) (fun c_469 => absurd (rfl) c_469)
  refine g_iload C rfl dL_law_474 ?_
  refine g_if_ne (tgt := 491) C (by decide) dL_law_476 (fun c_476 => ?_) (fun c_476 => ?_)
  · refine g_goto (tgt := 2012) C (by decide) dL_law_491 ?_
    exact g_sub rfl (K _ _ (ia_weekOf hA hB (xs (4 * j9 + 1)) (xs (4 * j9 + 2))) hcB hmB)
  · refine g_aload_n C rfl dL_law_479 ?_
    refine g_iconst (v := 0) C (by decide) dL_law_480 ?_
    refine g_lald (j := 0) C rfl (rfl) (by decide) (by decide) dL_law_481 ?_
    refine g_topl (congrArg Int32.toInt64 (hvB c_476)) ?_
    refine g_iload C rfl dL_law_482 ?_
    refine g_i2l C dL_law_484 ?_
    refine g_lcmp C dL_law_485 ?_
    refine g_if_eq (tgt := 491) C (by decide) dL_law_486 (fun c_486 => ?_) (fun c_486 => absurd ((cw_cmp0 _ _).mpr rfl) c_486)
    refine g_goto (tgt := 2012) C (by decide) dL_law_491 ?_
    exact g_sub rfl (K _ _ (ia_weekOf hA hB (xs (4 * j9 + 1)) (xs (4 * j9 + 2))) hcB hmB)

set_option maxHeartbeats 8000000 in
set_option maxRecDepth 100000 in
theorem law_7 {X : gw_X} (C : gw_ok X RL cL_law 7 20 601024 7293034) {L : Nat} {xs : Nat → Int32} (hX : gw_lx X L xs) {k n j9 : Nat} (hj : 4 * j9 + 3 < L) (hL : L ≤ 2048) (hk : k + 1 ≤ 601024 ∧ n + 6 ≤ 7293034) (A : cw_A) {na ma : Nat} (hA : cw_IA na ma A) (hB : cw_B (na + 21600) (ma + 2400)) {w : gw_M} (hc : cw_RC A w) (hm : cw_RM A (cw_ws 264 w))
    (K : ∀ (B : cw_A) (w1 : gw_M), cw_IA (na + 21600) (ma + 2400) B → cw_RC B w1 → cw_RM B (cw_ws 264 w1) → gw_G X sL 7 (k + 1) (n + 6) 2012 [(0, .ref 271), (1, .ref 252), (2, .ref 264), (3, .ref 263), (4, .int (nI (4 * j9)))] [] w1) : gw_G X sL 7 k n 494 [(0, .ref 271), (1, .ref 252), (2, .ref 264), (3, .ref 263), (4, .int (nI (4 * j9)))] [] w := by
  refine g_aload_n C rfl dL_law_494 ?_
  refine g_aload_n C rfl dL_law_495 ?_
  refine g_iload C rfl dL_law_496 ?_
  refine g_iconst (v := 1) C (by decide) dL_law_498 ?_
  refine g_iadd C dL_law_499 ?_
  refine g_scr C hX (j := 4 * j9 + 1) (nI_add (4 * j9) 1) (by omega) (by omega) dL_law_500 ?_
  refine g_aload_n C rfl dL_law_501 ?_
  refine g_iload C rfl dL_law_502 ?_
  refine g_iconst (v := 2) C (by decide) dL_law_504 ?_
  refine g_iadd C dL_law_505 ?_
  refine g_scr C hX (j := 4 * j9 + 2) (nI_add (4 * j9) 2) (by omega) (by omega) dL_law_506 ?_
  refine g_aload_n C rfl dL_law_507 ?_
  refine g_callL C (gw_lx_st hX) cw_emb_LO (ok_L_bidOf A hA hB (xs (4 * j9 + 1)) (xs (4 * j9 + 2))) my_L_bidOf si_L_138 (by decide) ⟨by omega, by omega⟩ rfl (cw_wpo w) cw_wpo_i cw_wpo_o w (fun _ _ => rfl) (Nat.le_of_ble_eq_true rfl) dL_law_508 rfl hc (fun v_508 w_508 hp_508 => ?_)
  obtain ⟨rfl, hv1, hc1⟩ := hp_508
  have hcA : cw_RC (sp_bidOf A (xs (4 * j9 + 1)) (xs (4 * j9 + 2))).2.2 (cw_wpo w w_508) := hc1.low (fun q hq => if_pos (by omega))
  have hmA : cw_RM A (cw_ws 264 (cw_wpo w w_508)) := cw_RM_low hm (fun q hq => if_neg (by omega))
  have hvA : (sp_bidOf A (xs (4 * j9 + 1)) (xs (4 * j9 + 2))).1 = 0 → cw_wpo w w_508 263 0 = (sp_bidOf A (xs (4 * j9 + 1)) (xs (4 * j9 + 2))).2.1 := fun z => (congrFun (cw_wpo_i (w := w) w_508 263 (by decide)) 0).trans (hv1 z)
  obtain ⟨wa, ewa⟩ : ∃ z, z = cw_wpo w w_508 := ⟨_, rfl⟩
  rw [← ewa] at hcA hmA hvA ⊢
  refine g_istore C (by decide) dL_law_511 ?_
  refine g_aload_n C rfl dL_law_513 ?_
  refine g_aload_n C rfl dL_law_514 ?_
  refine g_iload C rfl dL_law_515 ?_
  refine g_iconst (v := 1) C (by decide) dL_law_517 ?_
  refine g_iadd C dL_law_518 ?_
  refine g_scr C hX (j := 4 * j9 + 1) (nI_add (4 * j9) 1) (by omega) (by omega) dL_law_519 ?_
  refine g_aload_n C rfl dL_law_520 ?_
  refine g_iload C rfl dL_law_521 ?_
  refine g_iconst (v := 2) C (by decide) dL_law_523 ?_
  refine g_iadd C dL_law_524 ?_
  refine g_scr C hX (j := 4 * j9 + 2) (nI_add (4 * j9) 2) (by omega) (by omega) dL_law_525 ?_
  refine g_callW C cw_emb_LM (ok_X7_bidOf (xs (4 * j9 + 1)) (xs (4 * j9 + 2)) A hA.1 (cw_B_le2 hB (by omega) (by omega))) my_X7_bidOf vi_L_140 (by decide) ⟨by omega, by omega⟩ rfl ((cw_emb_LM.1 0 (by decide))) rfl (cw_wp 264 7 wa) (cw_wp_i) (cw_wp_o) (cw_ws 264 wa) (fun i _ => rfl) (Nat.le_of_ble_eq_true rfl) dL_law_526 rfl (hmA) (fun v_526 w_526 hp_526 => ?_)
  obtain ⟨rfl, ht526, hm526⟩ := hp_526
  have hcB : cw_RC (sp_bidOf A (xs (4 * j9 + 1)) (xs (4 * j9 + 2))).2.2 (cw_wp 264 7 wa w_526) := hcA.low (fun q hq => cw_wp_out _ _ (by omega))
  have hmB : cw_RM (sp_bidOf A (xs (4 * j9 + 1)) (xs (4 * j9 + 2))).2.2 (cw_ws 264 (cw_wp 264 7 wa w_526)) := cw_RM_low hm526 (fun q hq => cw_wp_i _ q hq)
  have htB : cw_wp 264 7 wa w_526 264 0 = (sp_bidOf A (xs (4 * j9 + 1)) (xs (4 * j9 + 2))).1 := (congrFun (cw_wp_i (b := 264) (n := 7) (w := wa) w_526 0 (by decide)) 0).trans ht526
  have hvB : (sp_bidOf A (xs (4 * j9 + 1)) (xs (4 * j9 + 2))).1 = 0 → cw_wp 264 7 wa w_526 263 0 = (sp_bidOf A (xs (4 * j9 + 1)) (xs (4 * j9 + 2))).2.1 := fun z => (congrFun (cw_wp_out (b := 264) (n := 7) wa w_526 (q := 263) (by decide)) 0).trans (hvA z)
  obtain ⟨wb, ewb⟩ : ∃ z, z = cw_wp 264 7 wa w_526 := ⟨_, rfl⟩
  rw [← ewb] at hcB hmB htB hvB ⊢
  refine g_istore C (by decide) dL_law_529 ?_
  refine g_aload_n C rfl dL_law_531 ?_
  refine g_callW C cw_emb_LM (ok_X7_thrown) my_X7_thrown vi_L_113 (by decide) ⟨by omega, by omega⟩ rfl ((cw_emb_LM.1 0 (by decide))) rfl (cw_wp 264 7 wb) (cw_wp_i) (cw_wp_o) (cw_ws 264 wb) (fun i _ => rfl) (Nat.le_of_ble_eq_true rfl) dL_law_532 rfl (trivial) (fun v_532 w_532 hp_532 => ?_)
  obtain ⟨rfl, hw_532⟩ := hp_532
  have hw_532 := hw_532.symm; subst hw_532
  rw [cw_wp_ws]
  refine g_top htB ?_
  refine g_iload C rfl dL_law_535 ?_
  refine g_cmp_eq (tgt := 542) C (by decide) dL_law_537 (fun c_537 => ?_) (fun c_537 => absurd (rfl) c_537)
  refine g_iload C rfl dL_law_542 ?_
  refine g_if_ne (tgt := 559) C (by decide) dL_law_544 (fun c_544 => ?_) (fun c_544 => ?_)
  · refine g_goto (tgt := 2012) C (by decide) dL_law_559 ?_
    exact g_sub rfl (K _ _ (ia_bidOf hA hB (xs (4 * j9 + 1)) (xs (4 * j9 + 2))) hcB hmB)
  · refine g_aload_n C rfl dL_law_547 ?_
    refine g_iconst (v := 0) C (by decide) dL_law_548 ?_
    refine g_lald (j := 0) C rfl (rfl) (by decide) (by decide) dL_law_549 ?_
    refine g_topl (congrArg Int32.toInt64 (hvB c_544)) ?_
    refine g_iload C rfl dL_law_550 ?_
    refine g_i2l C dL_law_552 ?_
    refine g_lcmp C dL_law_553 ?_
    refine g_if_eq (tgt := 559) C (by decide) dL_law_554 (fun c_554 => ?_) (fun c_554 => absurd ((cw_cmp0 _ _).mpr rfl) c_554)
    refine g_goto (tgt := 2012) C (by decide) dL_law_559 ?_
    exact g_sub rfl (K _ _ (ia_bidOf hA hB (xs (4 * j9 + 1)) (xs (4 * j9 + 2))) hcB hmB)

set_option maxHeartbeats 8000000 in
set_option maxRecDepth 100000 in
theorem law_8 {X : gw_X} (C : gw_ok X RL cL_law 7 20 601024 7293034) {L : Nat} {xs : Nat → Int32} (hX : gw_lx X L xs) {k n j9 : Nat} (hj : 4 * j9 + 3 < L) (hL : L ≤ 2048) (hk : k + 1 ≤ 601024 ∧ n + 6 ≤ 7293034) (A : cw_A) {na ma : Nat} (hA : cw_IA na ma A) (hB : cw_B (na + 21600) (ma + 2400)) {w : gw_M} (hc : cw_RC A w) (hm : cw_RM A (cw_ws 264 w))
    (K : ∀ (B : cw_A) (w1 : gw_M), cw_IA (na + 21600) (ma + 2400) B → cw_RC B w1 → cw_RM B (cw_ws 264 w1) → gw_G X sL 7 (k + 1) (n + 6) 2012 [(0, .ref 271), (1, .ref 252), (2, .ref 264), (3, .ref 263), (4, .int (nI (4 * j9)))] [] w1) : gw_G X sL 7 k n 562 [(0, .ref 271), (1, .ref 252), (2, .ref 264), (3, .ref 263), (4, .int (nI (4 * j9)))] [] w := by
  refine g_aload_n C rfl dL_law_562 ?_
  refine g_aload_n C rfl dL_law_563 ?_
  refine g_iload C rfl dL_law_564 ?_
  refine g_iconst (v := 1) C (by decide) dL_law_566 ?_
  refine g_iadd C dL_law_567 ?_
  refine g_scr C hX (j := 4 * j9 + 1) (nI_add (4 * j9) 1) (by omega) (by omega) dL_law_568 ?_
  refine g_aload_n C rfl dL_law_569 ?_
  refine g_iload C rfl dL_law_570 ?_
  refine g_iconst (v := 2) C (by decide) dL_law_572 ?_
  refine g_iadd C dL_law_573 ?_
  refine g_scr C hX (j := 4 * j9 + 2) (nI_add (4 * j9) 2) (by omega) (by omega) dL_law_574 ?_
  refine g_aload_n C rfl dL_law_575 ?_
  refine g_callL C (gw_lx_st hX) cw_emb_LO (ok_L_offerOf A hA hB (xs (4 * j9 + 1)) (xs (4 * j9 + 2))) my_L_offerOf si_L_141 (by decide) ⟨by omega, by omega⟩ rfl (cw_wpo w) cw_wpo_i cw_wpo_o w (fun _ _ => rfl) (Nat.le_of_ble_eq_true rfl) dL_law_576 rfl hc (fun v_576 w_576 hp_576 => ?_)
  obtain ⟨rfl, hv1, hc1⟩ := hp_576
  have hcA : cw_RC (sp_offerOf A (xs (4 * j9 + 1)) (xs (4 * j9 + 2))).2.2 (cw_wpo w w_576) := hc1.low (fun q hq => if_pos (by omega))
  have hmA : cw_RM A (cw_ws 264 (cw_wpo w w_576)) := cw_RM_low hm (fun q hq => if_neg (by omega))
  have hvA : (sp_offerOf A (xs (4 * j9 + 1)) (xs (4 * j9 + 2))).1 = 0 → cw_wpo w w_576 263 0 = (sp_offerOf A (xs (4 * j9 + 1)) (xs (4 * j9 + 2))).2.1 := fun z => (congrFun (cw_wpo_i (w := w) w_576 263 (by decide)) 0).trans (hv1 z)
  obtain ⟨wa, ewa⟩ : ∃ z, z = cw_wpo w w_576 := ⟨_, rfl⟩
  rw [← ewa] at hcA hmA hvA ⊢
  refine g_istore C (by decide) dL_law_579 ?_
  refine g_aload_n C rfl dL_law_581 ?_
  refine g_aload_n C rfl dL_law_582 ?_
  refine g_iload C rfl dL_law_583 ?_
  refine g_iconst (v := 1) C (by decide) dL_law_585 ?_
  refine g_iadd C dL_law_586 ?_
  refine g_scr C hX (j := 4 * j9 + 1) (nI_add (4 * j9) 1) (by omega) (by omega) dL_law_587 ?_
  refine g_aload_n C rfl dL_law_588 ?_
  refine g_iload C rfl dL_law_589 ?_
  refine g_iconst (v := 2) C (by decide) dL_law_591 ?_
  refine g_iadd C dL_law_592 ?_
  refine g_scr C hX (j := 4 * j9 + 2) (nI_add (4 * j9) 2) (by omega) (by omega) dL_law_593 ?_
  refine g_callW C cw_emb_LM (ok_X7_offerOf (xs (4 * j9 + 1)) (xs (4 * j9 + 2)) A hA.1 (cw_B_le2 hB (by omega) (by omega))) my_X7_offerOf vi_L_143 (by decide) ⟨by omega, by omega⟩ rfl ((cw_emb_LM.1 0 (by decide))) rfl (cw_wp 264 7 wa) (cw_wp_i) (cw_wp_o) (cw_ws 264 wa) (fun i _ => rfl) (Nat.le_of_ble_eq_true rfl) dL_law_594 rfl (hmA) (fun v_594 w_594 hp_594 => ?_)
  obtain ⟨rfl, ht594, hm594⟩ := hp_594
  have hcB : cw_RC (sp_offerOf A (xs (4 * j9 + 1)) (xs (4 * j9 + 2))).2.2 (cw_wp 264 7 wa w_594) := hcA.low (fun q hq => cw_wp_out _ _ (by omega))
  have hmB : cw_RM (sp_offerOf A (xs (4 * j9 + 1)) (xs (4 * j9 + 2))).2.2 (cw_ws 264 (cw_wp 264 7 wa w_594)) := cw_RM_low hm594 (fun q hq => cw_wp_i _ q hq)
  have htB : cw_wp 264 7 wa w_594 264 0 = (sp_offerOf A (xs (4 * j9 + 1)) (xs (4 * j9 + 2))).1 := (congrFun (cw_wp_i (b := 264) (n := 7) (w := wa) w_594 0 (by decide)) 0).trans ht594
  have hvB : (sp_offerOf A (xs (4 * j9 + 1)) (xs (4 * j9 + 2))).1 = 0 → cw_wp 264 7 wa w_594 263 0 = (sp_offerOf A (xs (4 * j9 + 1)) (xs (4 * j9 + 2))).2.1 := fun z => (congrFun (cw_wp_out (b := 264) (n := 7) wa w_594 (q := 263) (by decide)) 0).trans (hvA z)
  obtain ⟨wb, ewb⟩ : ∃ z, z = cw_wp 264 7 wa w_594 := ⟨_, rfl⟩
  rw [← ewb] at hcB hmB htB hvB ⊢
  refine g_istore C (by decide) dL_law_597 ?_
  refine g_aload_n C rfl dL_law_599 ?_
  refine g_callW C cw_emb_LM (ok_X7_thrown) my_X7_thrown vi_L_113 (by decide) ⟨by omega, by omega⟩ rfl ((cw_emb_LM.1 0 (by decide))) rfl (cw_wp 264 7 wb) (cw_wp_i) (cw_wp_o) (cw_ws 264 wb) (fun i _ => rfl) (Nat.le_of_ble_eq_true rfl) dL_law_600 rfl (trivial) (fun v_600 w_600 hp_600 => ?_)
  obtain ⟨rfl, hw_600⟩ := hp_600
  have hw_600 := hw_600.symm; subst hw_600
  rw [cw_wp_ws]
  refine g_top htB ?_
  refine g_iload C rfl dL_law_603 ?_
  refine g_cmp_eq (tgt := 610) C (by decide) dL_law_605 (fun c_605 => ?_) (fun c_605 => absurd (rfl) c_605)
  refine g_iload C rfl dL_law_610 ?_
  refine g_if_ne (tgt := 627) C (by decide) dL_law_612 (fun c_612 => ?_) (fun c_612 => ?_)
  · refine g_goto (tgt := 2012) C (by decide) dL_law_627 ?_
    exact g_sub rfl (K _ _ (ia_offerOf hA hB (xs (4 * j9 + 1)) (xs (4 * j9 + 2))) hcB hmB)
  · refine g_aload_n C rfl dL_law_615 ?_
    refine g_iconst (v := 0) C (by decide) dL_law_616 ?_
    refine g_lald (j := 0) C rfl (rfl) (by decide) (by decide) dL_law_617 ?_
    refine g_topl (congrArg Int32.toInt64 (hvB c_612)) ?_
    refine g_iload C rfl dL_law_618 ?_
    refine g_i2l C dL_law_620 ?_
    refine g_lcmp C dL_law_621 ?_
    refine g_if_eq (tgt := 627) C (by decide) dL_law_622 (fun c_622 => ?_) (fun c_622 => absurd ((cw_cmp0 _ _).mpr rfl) c_622)
    refine g_goto (tgt := 2012) C (by decide) dL_law_627 ?_
    exact g_sub rfl (K _ _ (ia_offerOf hA hB (xs (4 * j9 + 1)) (xs (4 * j9 + 2))) hcB hmB)

set_option maxHeartbeats 8000000 in
set_option maxRecDepth 100000 in
theorem law_9 {X : gw_X} (C : gw_ok X RL cL_law 7 20 601024 7293034) {L : Nat} {xs : Nat → Int32} (hX : gw_lx X L xs) {k n j9 : Nat} (hj : 4 * j9 + 3 < L) (hL : L ≤ 2048) (hk : k + 1 ≤ 601024 ∧ n + 6 ≤ 7293034) (A : cw_A) {na ma : Nat} (hA : cw_IA na ma A) (hB : cw_B (na + 21600) (ma + 2400)) {w : gw_M} (hc : cw_RC A w) (hm : cw_RM A (cw_ws 264 w))
    (K : ∀ (B : cw_A) (w1 : gw_M), cw_IA (na + 21600) (ma + 2400) B → cw_RC B w1 → cw_RM B (cw_ws 264 w1) → gw_G X sL 7 (k + 1) (n + 6) 2012 [(0, .ref 271), (1, .ref 252), (2, .ref 264), (3, .ref 263), (4, .int (nI (4 * j9)))] [] w1) : gw_G X sL 7 k n 630 [(0, .ref 271), (1, .ref 252), (2, .ref 264), (3, .ref 263), (4, .int (nI (4 * j9)))] [] w := by
  refine g_aload_n C rfl dL_law_630 ?_
  refine g_aload_n C rfl dL_law_631 ?_
  refine g_iload C rfl dL_law_632 ?_
  refine g_iconst (v := 1) C (by decide) dL_law_634 ?_
  refine g_iadd C dL_law_635 ?_
  refine g_scr C hX (j := 4 * j9 + 1) (nI_add (4 * j9) 1) (by omega) (by omega) dL_law_636 ?_
  refine g_aload_n C rfl dL_law_637 ?_
  refine g_callL C (gw_lx_st hX) cw_emb_LO (ok_L_owner A hA hB (xs (4 * j9 + 1))) my_L_owner si_L_144 (by decide) ⟨by omega, by omega⟩ rfl (cw_wpo w) cw_wpo_i cw_wpo_o w (fun _ _ => rfl) (Nat.le_of_ble_eq_true rfl) dL_law_638 rfl hc (fun v_638 w_638 hp_638 => ?_)
  obtain ⟨rfl, hv1, hc1⟩ := hp_638
  have hcA : cw_RC (sp_owner A (xs (4 * j9 + 1))).2.2 (cw_wpo w w_638) := hc1.low (fun q hq => if_pos (by omega))
  have hmA : cw_RM A (cw_ws 264 (cw_wpo w w_638)) := cw_RM_low hm (fun q hq => if_neg (by omega))
  have hvA : (sp_owner A (xs (4 * j9 + 1))).1 = 0 → cw_wpo w w_638 263 0 = (sp_owner A (xs (4 * j9 + 1))).2.1 := fun z => (congrFun (cw_wpo_i (w := w) w_638 263 (by decide)) 0).trans (hv1 z)
  obtain ⟨wa, ewa⟩ : ∃ z, z = cw_wpo w w_638 := ⟨_, rfl⟩
  rw [← ewa] at hcA hmA hvA ⊢
  refine g_istore C (by decide) dL_law_641 ?_
  refine g_aload_n C rfl dL_law_643 ?_
  refine g_aload_n C rfl dL_law_644 ?_
  refine g_iload C rfl dL_law_645 ?_
  refine g_iconst (v := 1) C (by decide) dL_law_647 ?_
  refine g_iadd C dL_law_648 ?_
  refine g_scr C hX (j := 4 * j9 + 1) (nI_add (4 * j9) 1) (by omega) (by omega) dL_law_649 ?_
  refine g_callW C cw_emb_LM (ok_X7_owner (xs (4 * j9 + 1)) A hA.1 (cw_B_le2 hB (by omega) (by omega))) my_X7_owner vi_L_146 (by decide) ⟨by omega, by omega⟩ rfl ((cw_emb_LM.1 0 (by decide))) rfl (cw_wp 264 7 wa) (cw_wp_i) (cw_wp_o) (cw_ws 264 wa) (fun i _ => rfl) (Nat.le_of_ble_eq_true rfl) dL_law_650 rfl (hmA) (fun v_650 w_650 hp_650 => ?_)
  obtain ⟨rfl, ht650, hm650⟩ := hp_650
  have hcB : cw_RC (sp_owner A (xs (4 * j9 + 1))).2.2 (cw_wp 264 7 wa w_650) := hcA.low (fun q hq => cw_wp_out _ _ (by omega))
  have hmB : cw_RM (sp_owner A (xs (4 * j9 + 1))).2.2 (cw_ws 264 (cw_wp 264 7 wa w_650)) := cw_RM_low hm650 (fun q hq => cw_wp_i _ q hq)
  have htB : cw_wp 264 7 wa w_650 264 0 = (sp_owner A (xs (4 * j9 + 1))).1 := (congrFun (cw_wp_i (b := 264) (n := 7) (w := wa) w_650 0 (by decide)) 0).trans ht650
  have hvB : (sp_owner A (xs (4 * j9 + 1))).1 = 0 → cw_wp 264 7 wa w_650 263 0 = (sp_owner A (xs (4 * j9 + 1))).2.1 := fun z => (congrFun (cw_wp_out (b := 264) (n := 7) wa w_650 (q := 263) (by decide)) 0).trans (hvA z)
  obtain ⟨wb, ewb⟩ : ∃ z, z = cw_wp 264 7 wa w_650 := ⟨_, rfl⟩
  rw [← ewb] at hcB hmB htB hvB ⊢
  refine g_istore C (by decide) dL_law_653 ?_
  refine g_aload_n C rfl dL_law_655 ?_
  refine g_callW C cw_emb_LM (ok_X7_thrown) my_X7_thrown vi_L_113 (by decide) ⟨by omega, by omega⟩ rfl ((cw_emb_LM.1 0 (by decide))) rfl (cw_wp 264 7 wb) (cw_wp_i) (cw_wp_o) (cw_ws 264 wb) (fun i _ => rfl) (Nat.le_of_ble_eq_true rfl) dL_law_656 rfl (trivial) (fun v_656 w_656 hp_656 => ?_)
  obtain ⟨rfl, hw_656⟩ := hp_656
  have hw_656 := hw_656.symm; subst hw_656
  rw [cw_wp_ws]
  refine g_top htB ?_
  refine g_iload C rfl dL_law_659 ?_
  refine g_cmp_eq (tgt := 666) C (by decide) dL_law_661 (fun c_661 => ?_) (fun c_661 => absurd (rfl) c_661)
  refine g_iload C rfl dL_law_666 ?_
  refine g_if_ne (tgt := 683) C (by decide) dL_law_668 (fun c_668 => ?_) (fun c_668 => ?_)
  · refine g_goto (tgt := 2012) C (by decide) dL_law_683 ?_
    exact g_sub rfl (K _ _ (ia_owner hA hB (xs (4 * j9 + 1))) hcB hmB)
  · refine g_aload_n C rfl dL_law_671 ?_
    refine g_iconst (v := 0) C (by decide) dL_law_672 ?_
    refine g_lald (j := 0) C rfl (rfl) (by decide) (by decide) dL_law_673 ?_
    refine g_topl (congrArg Int32.toInt64 (hvB c_668)) ?_
    refine g_iload C rfl dL_law_674 ?_
    refine g_i2l C dL_law_676 ?_
    refine g_lcmp C dL_law_677 ?_
    refine g_if_eq (tgt := 683) C (by decide) dL_law_678 (fun c_678 => ?_) (fun c_678 => absurd ((cw_cmp0 _ _).mpr rfl) c_678)
    refine g_goto (tgt := 2012) C (by decide) dL_law_683 ?_
    exact g_sub rfl (K _ _ (ia_owner hA hB (xs (4 * j9 + 1))) hcB hmB)

set_option maxHeartbeats 8000000 in
set_option maxRecDepth 100000 in
theorem law_10 {X : gw_X} (C : gw_ok X RL cL_law 7 20 601024 7293034) {L : Nat} {xs : Nat → Int32} (hX : gw_lx X L xs) {k n j9 : Nat} (hj : 4 * j9 + 3 < L) (hL : L ≤ 2048) (hk : k + 1 ≤ 601024 ∧ n + 6 ≤ 7293034) (A : cw_A) {na ma : Nat} (hA : cw_IA na ma A) (hB : cw_B (na + 21600) (ma + 2400)) {w : gw_M} (hc : cw_RC A w) (hm : cw_RM A (cw_ws 264 w))
    (K : ∀ (B : cw_A) (w1 : gw_M), cw_IA (na + 21600) (ma + 2400) B → cw_RC B w1 → cw_RM B (cw_ws 264 w1) → gw_G X sL 7 (k + 1) (n + 6) 2012 [(0, .ref 271), (1, .ref 252), (2, .ref 264), (3, .ref 263), (4, .int (nI (4 * j9)))] [] w1) : gw_G X sL 7 k n 686 [(0, .ref 271), (1, .ref 252), (2, .ref 264), (3, .ref 263), (4, .int (nI (4 * j9)))] [] w := by
  refine g_aload_n C rfl dL_law_686 ?_
  refine g_aload_n C rfl dL_law_687 ?_
  refine g_iload C rfl dL_law_688 ?_
  refine g_iconst (v := 1) C (by decide) dL_law_690 ?_
  refine g_iadd C dL_law_691 ?_
  refine g_scr C hX (j := 4 * j9 + 1) (nI_add (4 * j9) 1) (by omega) (by omega) dL_law_692 ?_
  refine g_aload_n C rfl dL_law_693 ?_
  refine g_iload C rfl dL_law_694 ?_
  refine g_iconst (v := 2) C (by decide) dL_law_696 ?_
  refine g_iadd C dL_law_697 ?_
  refine g_scr C hX (j := 4 * j9 + 2) (nI_add (4 * j9) 2) (by omega) (by omega) dL_law_698 ?_
  refine g_aload_n C rfl dL_law_699 ?_
  refine g_callL C (gw_lx_st hX) cw_emb_LO (ok_L_cost A hA hB (xs (4 * j9 + 1)) (xs (4 * j9 + 2))) my_L_cost si_L_147 (by decide) ⟨by omega, by omega⟩ rfl (cw_wpo w) cw_wpo_i cw_wpo_o w (fun _ _ => rfl) (Nat.le_of_ble_eq_true rfl) dL_law_700 rfl hc (fun v_700 w_700 hp_700 => ?_)
  obtain ⟨rfl, hv1, hc1⟩ := hp_700
  have hcA : cw_RC (sp_cost A (xs (4 * j9 + 1)) (xs (4 * j9 + 2))).2.2 (cw_wpo w w_700) := hc1.low (fun q hq => if_pos (by omega))
  have hmA : cw_RM A (cw_ws 264 (cw_wpo w w_700)) := cw_RM_low hm (fun q hq => if_neg (by omega))
  have hvA : (sp_cost A (xs (4 * j9 + 1)) (xs (4 * j9 + 2))).1 = 0 → cw_wpo w w_700 263 0 = (sp_cost A (xs (4 * j9 + 1)) (xs (4 * j9 + 2))).2.1 := fun z => (congrFun (cw_wpo_i (w := w) w_700 263 (by decide)) 0).trans (hv1 z)
  obtain ⟨wa, ewa⟩ : ∃ z, z = cw_wpo w w_700 := ⟨_, rfl⟩
  rw [← ewa] at hcA hmA hvA ⊢
  refine g_istore C (by decide) dL_law_703 ?_
  refine g_aload_n C rfl dL_law_705 ?_
  refine g_aload_n C rfl dL_law_706 ?_
  refine g_iload C rfl dL_law_707 ?_
  refine g_iconst (v := 1) C (by decide) dL_law_709 ?_
  refine g_iadd C dL_law_710 ?_
  refine g_scr C hX (j := 4 * j9 + 1) (nI_add (4 * j9) 1) (by omega) (by omega) dL_law_711 ?_
  refine g_aload_n C rfl dL_law_712 ?_
  refine g_iload C rfl dL_law_713 ?_
  refine g_iconst (v := 2) C (by decide) dL_law_715 ?_
  refine g_iadd C dL_law_716 ?_
  refine g_scr C hX (j := 4 * j9 + 2) (nI_add (4 * j9) 2) (by omega) (by omega) dL_law_717 ?_
  refine g_callW C cw_emb_LM (ok_X7_cost (xs (4 * j9 + 1)) (xs (4 * j9 + 2)) A hA.1 (cw_B_le2 hB (by omega) (by omega))) my_X7_cost vi_L_149 (by decide) ⟨by omega, by omega⟩ rfl ((cw_emb_LM.1 0 (by decide))) rfl (cw_wp 264 7 wa) (cw_wp_i) (cw_wp_o) (cw_ws 264 wa) (fun i _ => rfl) (Nat.le_of_ble_eq_true rfl) dL_law_718 rfl (hmA) (fun v_718 w_718 hp_718 => ?_)
  obtain ⟨rfl, ht718, hm718⟩ := hp_718
  have hcB : cw_RC (sp_cost A (xs (4 * j9 + 1)) (xs (4 * j9 + 2))).2.2 (cw_wp 264 7 wa w_718) := hcA.low (fun q hq => cw_wp_out _ _ (by omega))
  have hmB : cw_RM (sp_cost A (xs (4 * j9 + 1)) (xs (4 * j9 + 2))).2.2 (cw_ws 264 (cw_wp 264 7 wa w_718)) := cw_RM_low hm718 (fun q hq => cw_wp_i _ q hq)
  have htB : cw_wp 264 7 wa w_718 264 0 = (sp_cost A (xs (4 * j9 + 1)) (xs (4 * j9 + 2))).1 := (congrFun (cw_wp_i (b := 264) (n := 7) (w := wa) w_718 0 (by decide)) 0).trans ht718
  have hvB : (sp_cost A (xs (4 * j9 + 1)) (xs (4 * j9 + 2))).1 = 0 → cw_wp 264 7 wa w_718 263 0 = (sp_cost A (xs (4 * j9 + 1)) (xs (4 * j9 + 2))).2.1 := fun z => (congrFun (cw_wp_out (b := 264) (n := 7) wa w_718 (q := 263) (by decide)) 0).trans (hvA z)
  obtain ⟨wb, ewb⟩ : ∃ z, z = cw_wp 264 7 wa w_718 := ⟨_, rfl⟩
  rw [← ewb] at hcB hmB htB hvB ⊢
  refine g_istore C (by decide) dL_law_721 ?_
  refine g_aload_n C rfl dL_law_723 ?_
  refine g_callW C cw_emb_LM (ok_X7_thrown) my_X7_thrown vi_L_113 (by decide) ⟨by omega, by omega⟩ rfl ((cw_emb_LM.1 0 (by decide))) rfl (cw_wp 264 7 wb) (cw_wp_i) (cw_wp_o) (cw_ws 264 wb) (fun i _ => rfl) (Nat.le_of_ble_eq_true rfl) dL_law_724 rfl (trivial) (fun v_724 w_724 hp_724 => ?_)
  obtain ⟨rfl, hw_724⟩ := hp_724
  have hw_724 := hw_724.symm; subst hw_724
  rw [cw_wp_ws]
  refine g_top htB ?_
  refine g_iload C rfl dL_law_727 ?_
  refine g_cmp_eq (tgt := 734) C (by decide) dL_law_729 (fun c_729 => ?_) (fun c_729 => absurd (rfl) c_729)
  refine g_iload C rfl dL_law_734 ?_
  refine g_if_ne (tgt := 751) C (by decide) dL_law_736 (fun c_736 => ?_) (fun c_736 => ?_)
  · refine g_goto (tgt := 2012) C (by decide) dL_law_751 ?_
    exact g_sub rfl (K _ _ (ia_cost hA hB (xs (4 * j9 + 1)) (xs (4 * j9 + 2))) hcB hmB)
  · refine g_aload_n C rfl dL_law_739 ?_
    refine g_iconst (v := 0) C (by decide) dL_law_740 ?_
    refine g_lald (j := 0) C rfl (rfl) (by decide) (by decide) dL_law_741 ?_
    refine g_topl (congrArg Int32.toInt64 (hvB c_736)) ?_
    refine g_iload C rfl dL_law_742 ?_
    refine g_i2l C dL_law_744 ?_
    refine g_lcmp C dL_law_745 ?_
    refine g_if_eq (tgt := 751) C (by decide) dL_law_746 (fun c_746 => ?_) (fun c_746 => absurd ((cw_cmp0 _ _).mpr rfl) c_746)
    refine g_goto (tgt := 2012) C (by decide) dL_law_751 ?_
    exact g_sub rfl (K _ _ (ia_cost hA hB (xs (4 * j9 + 1)) (xs (4 * j9 + 2))) hcB hmB)

set_option maxHeartbeats 8000000 in
set_option maxRecDepth 100000 in
theorem law_11 {X : gw_X} (C : gw_ok X RL cL_law 7 20 601024 7293034) {L : Nat} {xs : Nat → Int32} (hX : gw_lx X L xs) {k n j9 : Nat} (hj : 4 * j9 + 3 < L) (hL : L ≤ 2048) (hk : k + 1 ≤ 601024 ∧ n + 6 ≤ 7293034) (A : cw_A) {na ma : Nat} (hA : cw_IA na ma A) (hB : cw_B (na + 21600) (ma + 2400)) {w : gw_M} (hc : cw_RC A w) (hm : cw_RM A (cw_ws 264 w))
    (K : ∀ (B : cw_A) (w1 : gw_M), cw_IA (na + 21600) (ma + 2400) B → cw_RC B w1 → cw_RM B (cw_ws 264 w1) → gw_G X sL 7 (k + 1) (n + 6) 2012 [(0, .ref 271), (1, .ref 252), (2, .ref 264), (3, .ref 263), (4, .int (nI (4 * j9)))] [] w1) : gw_G X sL 7 k n 754 [(0, .ref 271), (1, .ref 252), (2, .ref 264), (3, .ref 263), (4, .int (nI (4 * j9)))] [] w := by
  refine g_aload_n C rfl dL_law_754 ?_
  refine g_aload_n C rfl dL_law_755 ?_
  refine g_iload C rfl dL_law_756 ?_
  refine g_iconst (v := 1) C (by decide) dL_law_758 ?_
  refine g_iadd C dL_law_759 ?_
  refine g_scr C hX (j := 4 * j9 + 1) (nI_add (4 * j9) 1) (by omega) (by omega) dL_law_760 ?_
  refine g_aload_n C rfl dL_law_761 ?_
  refine g_iload C rfl dL_law_762 ?_
  refine g_iconst (v := 2) C (by decide) dL_law_764 ?_
  refine g_iadd C dL_law_765 ?_
  refine g_scr C hX (j := 4 * j9 + 2) (nI_add (4 * j9) 2) (by omega) (by omega) dL_law_766 ?_
  refine g_join1 775 (cw_b (¬ xs (4 * j9 + 2) = 0)) (fun k_775 => ?_) ?_
  · refine g_if_eq (tgt := 774) C (by decide) dL_law_767 (fun c_767 => ?_) (fun c_767 => ?_)
    · refine g_iconst (v := 0) C (by decide) dL_law_774 ?_
      exact k_775 _ ((cw_bf (fun q => q c_767)).symm)
    · refine g_iconst (v := 1) C (by decide) dL_law_770 ?_
      refine g_goto (tgt := 775) C (by decide) dL_law_771 ?_
      exact k_775 _ ((cw_b1 c_767).symm)
  refine g_aload_n C rfl dL_law_775 ?_
  refine g_callL C (gw_lx_st hX) cw_emb_LO (ok_L_school A hA hB (xs (4 * j9 + 1)) (cw_b (¬ xs (4 * j9 + 2) = 0)) (cw_b_r _)) my_L_school si_L_150 (by decide) ⟨by omega, by omega⟩ rfl (cw_wpo w) cw_wpo_i cw_wpo_o w (fun _ _ => rfl) (Nat.le_of_ble_eq_true rfl) dL_law_776 rfl hc (fun v_776 w_776 hp_776 => ?_)
  obtain ⟨rfl, hv1, hc1⟩ := hp_776
  have hcA : cw_RC (sp_school A (xs (4 * j9 + 1)) (cw_b (¬ xs (4 * j9 + 2) = 0))).2.2 (cw_wpo w w_776) := hc1.low (fun q hq => if_pos (by omega))
  have hmA : cw_RM A (cw_ws 264 (cw_wpo w w_776)) := cw_RM_low hm (fun q hq => if_neg (by omega))
  have hvA : (sp_school A (xs (4 * j9 + 1)) (cw_b (¬ xs (4 * j9 + 2) = 0))).1 = 0 → cw_wpo w w_776 263 0 = (sp_school A (xs (4 * j9 + 1)) (cw_b (¬ xs (4 * j9 + 2) = 0))).2.1 := fun z => (congrFun (cw_wpo_i (w := w) w_776 263 (by decide)) 0).trans (hv1 z)
  obtain ⟨wa, ewa⟩ : ∃ z, z = cw_wpo w w_776 := ⟨_, rfl⟩
  rw [← ewa] at hcA hmA hvA ⊢
  refine g_istore C (by decide) dL_law_779 ?_
  refine g_aload_n C rfl dL_law_781 ?_
  refine g_aload_n C rfl dL_law_782 ?_
  refine g_iload C rfl dL_law_783 ?_
  refine g_iconst (v := 1) C (by decide) dL_law_785 ?_
  refine g_iadd C dL_law_786 ?_
  refine g_scr C hX (j := 4 * j9 + 1) (nI_add (4 * j9) 1) (by omega) (by omega) dL_law_787 ?_
  refine g_aload_n C rfl dL_law_788 ?_
  refine g_iload C rfl dL_law_789 ?_
  refine g_iconst (v := 2) C (by decide) dL_law_791 ?_
  refine g_iadd C dL_law_792 ?_
  refine g_scr C hX (j := 4 * j9 + 2) (nI_add (4 * j9) 2) (by omega) (by omega) dL_law_793 ?_
  refine g_join1 802 (cw_b (¬ xs (4 * j9 + 2) = 0)) (fun k_802 => ?_) ?_
  · refine g_if_eq (tgt := 801) C (by decide) dL_law_794 (fun c_794 => ?_) (fun c_794 => ?_)
    · refine g_iconst (v := 0) C (by decide) dL_law_801 ?_
      exact k_802 _ ((cw_bf (fun q => q c_794)).symm)
    · refine g_iconst (v := 1) C (by decide) dL_law_797 ?_
      refine g_goto (tgt := 802) C (by decide) dL_law_798 ?_
      exact k_802 _ ((cw_b1 c_794).symm)
  refine g_callW C cw_emb_LM (ok_X7_school (xs (4 * j9 + 1)) (cw_b (¬ xs (4 * j9 + 2) = 0)) (cw_b_r _) A hA.1 (cw_B_le2 hB (by omega) (by omega))) my_X7_school vi_L_153 (by decide) ⟨by omega, by omega⟩ rfl ((cw_emb_LM.1 0 (by decide))) rfl (cw_wp 264 7 wa) (cw_wp_i) (cw_wp_o) (cw_ws 264 wa) (fun i _ => rfl) (Nat.le_of_ble_eq_true rfl) dL_law_802 rfl (hmA) (fun v_802 w_802 hp_802 => ?_)
  obtain ⟨rfl, ht802, hm802⟩ := hp_802
  have hcB : cw_RC (sp_school A (xs (4 * j9 + 1)) (cw_b (¬ xs (4 * j9 + 2) = 0))).2.2 (cw_wp 264 7 wa w_802) := hcA.low (fun q hq => cw_wp_out _ _ (by omega))
  have hmB : cw_RM (sp_school A (xs (4 * j9 + 1)) (cw_b (¬ xs (4 * j9 + 2) = 0))).2.2 (cw_ws 264 (cw_wp 264 7 wa w_802)) := cw_RM_low hm802 (fun q hq => cw_wp_i _ q hq)
  have htB : cw_wp 264 7 wa w_802 264 0 = (sp_school A (xs (4 * j9 + 1)) (cw_b (¬ xs (4 * j9 + 2) = 0))).1 := (congrFun (cw_wp_i (b := 264) (n := 7) (w := wa) w_802 0 (by decide)) 0).trans ht802
  have hvB : (sp_school A (xs (4 * j9 + 1)) (cw_b (¬ xs (4 * j9 + 2) = 0))).1 = 0 → cw_wp 264 7 wa w_802 263 0 = (sp_school A (xs (4 * j9 + 1)) (cw_b (¬ xs (4 * j9 + 2) = 0))).2.1 := fun z => (congrFun (cw_wp_out (b := 264) (n := 7) wa w_802 (q := 263) (by decide)) 0).trans (hvA z)
  obtain ⟨wb, ewb⟩ : ∃ z, z = cw_wp 264 7 wa w_802 := ⟨_, rfl⟩
  rw [← ewb] at hcB hmB htB hvB ⊢
  refine g_istore C (by decide) dL_law_805 ?_
  refine g_aload_n C rfl dL_law_807 ?_
  refine g_callW C cw_emb_LM (ok_X7_thrown) my_X7_thrown vi_L_113 (by decide) ⟨by omega, by omega⟩ rfl ((cw_emb_LM.1 0 (by decide))) rfl (cw_wp 264 7 wb) (cw_wp_i) (cw_wp_o) (cw_ws 264 wb) (fun i _ => rfl) (Nat.le_of_ble_eq_true rfl) dL_law_808 rfl (trivial) (fun v_808 w_808 hp_808 => ?_)
  obtain ⟨rfl, hw_808⟩ := hp_808
  have hw_808 := hw_808.symm; subst hw_808
  rw [cw_wp_ws]
  refine g_top htB ?_
  refine g_iload C rfl dL_law_811 ?_
  refine g_cmp_eq (tgt := 818) C (by decide) dL_law_813 (fun c_813 => ?_) (fun c_813 => absurd (rfl) c_813)
  refine g_iload C rfl dL_law_818 ?_
  refine g_if_ne (tgt := 835) C (by decide) dL_law_820 (fun c_820 => ?_) (fun c_820 => ?_)
  · refine g_goto (tgt := 2012) C (by decide) dL_law_835 ?_
    exact g_sub rfl (K _ _ (ia_school hA hB (xs (4 * j9 + 1)) (cw_b (¬ xs (4 * j9 + 2) = 0)) (cw_b_r _)) hcB hmB)
  · refine g_aload_n C rfl dL_law_823 ?_
    refine g_iconst (v := 0) C (by decide) dL_law_824 ?_
    refine g_lald (j := 0) C rfl (rfl) (by decide) (by decide) dL_law_825 ?_
    refine g_topl (congrArg Int32.toInt64 (hvB c_820)) ?_
    refine g_iload C rfl dL_law_826 ?_
    refine g_i2l C dL_law_828 ?_
    refine g_lcmp C dL_law_829 ?_
    refine g_if_eq (tgt := 835) C (by decide) dL_law_830 (fun c_830 => ?_) (fun c_830 => absurd ((cw_cmp0 _ _).mpr rfl) c_830)
    refine g_goto (tgt := 2012) C (by decide) dL_law_835 ?_
    exact g_sub rfl (K _ _ (ia_school hA hB (xs (4 * j9 + 1)) (cw_b (¬ xs (4 * j9 + 2) = 0)) (cw_b_r _)) hcB hmB)

set_option maxHeartbeats 8000000 in
set_option maxRecDepth 100000 in
theorem law_12 {X : gw_X} (C : gw_ok X RL cL_law 7 20 601024 7293034) {L : Nat} {xs : Nat → Int32} (hX : gw_lx X L xs) {k n j9 : Nat} (hj : 4 * j9 + 3 < L) (hL : L ≤ 2048) (hk : k + 1 ≤ 601024 ∧ n + 6 ≤ 7293034) (A : cw_A) {na ma : Nat} (hA : cw_IA na ma A) (hB : cw_B (na + 21600) (ma + 2400)) {w : gw_M} (hc : cw_RC A w) (hm : cw_RM A (cw_ws 264 w))
    (K : ∀ (B : cw_A) (w1 : gw_M), cw_IA (na + 21600) (ma + 2400) B → cw_RC B w1 → cw_RM B (cw_ws 264 w1) → gw_G X sL 7 (k + 1) (n + 6) 2012 [(0, .ref 271), (1, .ref 252), (2, .ref 264), (3, .ref 263), (4, .int (nI (4 * j9)))] [] w1) : gw_G X sL 7 k n 838 [(0, .ref 271), (1, .ref 252), (2, .ref 264), (3, .ref 263), (4, .int (nI (4 * j9)))] [] w := by
  refine g_aload_n C rfl dL_law_838 ?_
  refine g_aload_n C rfl dL_law_839 ?_
  refine g_iload C rfl dL_law_840 ?_
  refine g_iconst (v := 1) C (by decide) dL_law_842 ?_
  refine g_iadd C dL_law_843 ?_
  refine g_scr C hX (j := 4 * j9 + 1) (nI_add (4 * j9) 1) (by omega) (by omega) dL_law_844 ?_
  refine g_aload_n C rfl dL_law_845 ?_
  refine g_iload C rfl dL_law_846 ?_
  refine g_iconst (v := 2) C (by decide) dL_law_848 ?_
  refine g_iadd C dL_law_849 ?_
  refine g_scr C hX (j := 4 * j9 + 2) (nI_add (4 * j9) 2) (by omega) (by omega) dL_law_850 ?_
  refine g_aload_n C rfl dL_law_851 ?_
  refine g_callL C (gw_lx_st hX) cw_emb_LO (ok_L_take A hA hB (xs (4 * j9 + 1)) (xs (4 * j9 + 2))) my_L_take si_L_154 (by decide) ⟨by omega, by omega⟩ rfl (cw_wpo w) cw_wpo_i cw_wpo_o w (fun _ _ => rfl) (Nat.le_of_ble_eq_true rfl) dL_law_852 rfl hc (fun v_852 w_852 hp_852 => ?_)
  obtain ⟨rfl, hv1, hc1⟩ := hp_852
  have hcA : cw_RC (sp_take A (xs (4 * j9 + 1)) (xs (4 * j9 + 2))).2.2 (cw_wpo w w_852) := hc1.low (fun q hq => if_pos (by omega))
  have hmA : cw_RM A (cw_ws 264 (cw_wpo w w_852)) := cw_RM_low hm (fun q hq => if_neg (by omega))
  have hvA : (sp_take A (xs (4 * j9 + 1)) (xs (4 * j9 + 2))).1 = 0 → cw_wpo w w_852 263 0 = (sp_take A (xs (4 * j9 + 1)) (xs (4 * j9 + 2))).2.1 := fun z => (congrFun (cw_wpo_i (w := w) w_852 263 (by decide)) 0).trans (hv1 z)
  obtain ⟨wa, ewa⟩ : ∃ z, z = cw_wpo w w_852 := ⟨_, rfl⟩
  rw [← ewa] at hcA hmA hvA ⊢
  refine g_istore C (by decide) dL_law_855 ?_
  refine g_aload_n C rfl dL_law_857 ?_
  refine g_aload_n C rfl dL_law_858 ?_
  refine g_iload C rfl dL_law_859 ?_
  refine g_iconst (v := 1) C (by decide) dL_law_861 ?_
  refine g_iadd C dL_law_862 ?_
  refine g_scr C hX (j := 4 * j9 + 1) (nI_add (4 * j9) 1) (by omega) (by omega) dL_law_863 ?_
  refine g_aload_n C rfl dL_law_864 ?_
  refine g_iload C rfl dL_law_865 ?_
  refine g_iconst (v := 2) C (by decide) dL_law_867 ?_
  refine g_iadd C dL_law_868 ?_
  refine g_scr C hX (j := 4 * j9 + 2) (nI_add (4 * j9) 2) (by omega) (by omega) dL_law_869 ?_
  refine g_callW C cw_emb_LM (ok_X7_take (xs (4 * j9 + 1)) (xs (4 * j9 + 2)) A hA.1 (cw_B_le2 hB (by omega) (by omega))) my_X7_take vi_L_156 (by decide) ⟨by omega, by omega⟩ rfl ((cw_emb_LM.1 0 (by decide))) rfl (cw_wp 264 7 wa) (cw_wp_i) (cw_wp_o) (cw_ws 264 wa) (fun i _ => rfl) (Nat.le_of_ble_eq_true rfl) dL_law_870 rfl (hmA) (fun v_870 w_870 hp_870 => ?_)
  obtain ⟨rfl, ht870, hm870⟩ := hp_870
  have hcB : cw_RC (sp_take A (xs (4 * j9 + 1)) (xs (4 * j9 + 2))).2.2 (cw_wp 264 7 wa w_870) := hcA.low (fun q hq => cw_wp_out _ _ (by omega))
  have hmB : cw_RM (sp_take A (xs (4 * j9 + 1)) (xs (4 * j9 + 2))).2.2 (cw_ws 264 (cw_wp 264 7 wa w_870)) := cw_RM_low hm870 (fun q hq => cw_wp_i _ q hq)
  have htB : cw_wp 264 7 wa w_870 264 0 = (sp_take A (xs (4 * j9 + 1)) (xs (4 * j9 + 2))).1 := (congrFun (cw_wp_i (b := 264) (n := 7) (w := wa) w_870 0 (by decide)) 0).trans ht870
  have hvB : (sp_take A (xs (4 * j9 + 1)) (xs (4 * j9 + 2))).1 = 0 → cw_wp 264 7 wa w_870 263 0 = (sp_take A (xs (4 * j9 + 1)) (xs (4 * j9 + 2))).2.1 := fun z => (congrFun (cw_wp_out (b := 264) (n := 7) wa w_870 (q := 263) (by decide)) 0).trans (hvA z)
  obtain ⟨wb, ewb⟩ : ∃ z, z = cw_wp 264 7 wa w_870 := ⟨_, rfl⟩
  rw [← ewb] at hcB hmB htB hvB ⊢
  refine g_istore C (by decide) dL_law_873 ?_
  refine g_aload_n C rfl dL_law_875 ?_
  refine g_callW C cw_emb_LM (ok_X7_thrown) my_X7_thrown vi_L_113 (by decide) ⟨by omega, by omega⟩ rfl ((cw_emb_LM.1 0 (by decide))) rfl (cw_wp 264 7 wb) (cw_wp_i) (cw_wp_o) (cw_ws 264 wb) (fun i _ => rfl) (Nat.le_of_ble_eq_true rfl) dL_law_876 rfl (trivial) (fun v_876 w_876 hp_876 => ?_)
  obtain ⟨rfl, hw_876⟩ := hp_876
  have hw_876 := hw_876.symm; subst hw_876
  rw [cw_wp_ws]
  refine g_top htB ?_
  refine g_iload C rfl dL_law_879 ?_
  refine g_cmp_eq (tgt := 886) C (by decide) dL_law_881 (fun c_881 => ?_) (fun c_881 => absurd (rfl) c_881)
  refine g_iload C rfl dL_law_886 ?_
  refine g_if_ne (tgt := 903) C (by decide) dL_law_888 (fun c_888 => ?_) (fun c_888 => ?_)
  · refine g_goto (tgt := 2012) C (by decide) dL_law_903 ?_
    exact g_sub rfl (K _ _ (ia_take hA hB (xs (4 * j9 + 1)) (xs (4 * j9 + 2))) hcB hmB)
  · refine g_aload_n C rfl dL_law_891 ?_
    refine g_iconst (v := 0) C (by decide) dL_law_892 ?_
    refine g_lald (j := 0) C rfl (rfl) (by decide) (by decide) dL_law_893 ?_
    refine g_topl (congrArg Int32.toInt64 (hvB c_888)) ?_
    refine g_iload C rfl dL_law_894 ?_
    refine g_i2l C dL_law_896 ?_
    refine g_lcmp C dL_law_897 ?_
    refine g_if_eq (tgt := 903) C (by decide) dL_law_898 (fun c_898 => ?_) (fun c_898 => absurd ((cw_cmp0 _ _).mpr rfl) c_898)
    refine g_goto (tgt := 2012) C (by decide) dL_law_903 ?_
    exact g_sub rfl (K _ _ (ia_take hA hB (xs (4 * j9 + 1)) (xs (4 * j9 + 2))) hcB hmB)

set_option maxHeartbeats 8000000 in
set_option maxRecDepth 100000 in
theorem law_13 {X : gw_X} (C : gw_ok X RL cL_law 7 20 601024 7293034) {L : Nat} {xs : Nat → Int32} (hX : gw_lx X L xs) {k n j9 : Nat} (hj : 4 * j9 + 3 < L) (hL : L ≤ 2048) (hk : k + 1 ≤ 601024 ∧ n + 6 ≤ 7293034) (A : cw_A) {na ma : Nat} (hA : cw_IA na ma A) (hB : cw_B (na + 21600) (ma + 2400)) {w : gw_M} (hc : cw_RC A w) (hm : cw_RM A (cw_ws 264 w))
    (K : ∀ (B : cw_A) (w1 : gw_M), cw_IA (na + 21600) (ma + 2400) B → cw_RC B w1 → cw_RM B (cw_ws 264 w1) → gw_G X sL 7 (k + 1) (n + 6) 2012 [(0, .ref 271), (1, .ref 252), (2, .ref 264), (3, .ref 263), (4, .int (nI (4 * j9)))] [] w1) : gw_G X sL 7 k n 906 [(0, .ref 271), (1, .ref 252), (2, .ref 264), (3, .ref 263), (4, .int (nI (4 * j9)))] [] w := by
  refine g_aload_n C rfl dL_law_906 ?_
  refine g_aload_n C rfl dL_law_907 ?_
  refine g_iload C rfl dL_law_908 ?_
  refine g_iconst (v := 1) C (by decide) dL_law_910 ?_
  refine g_iadd C dL_law_911 ?_
  refine g_scr C hX (j := 4 * j9 + 1) (nI_add (4 * j9) 1) (by omega) (by omega) dL_law_912 ?_
  refine g_aload_n C rfl dL_law_913 ?_
  refine g_iload C rfl dL_law_914 ?_
  refine g_iconst (v := 2) C (by decide) dL_law_916 ?_
  refine g_iadd C dL_law_917 ?_
  refine g_scr C hX (j := 4 * j9 + 2) (nI_add (4 * j9) 2) (by omega) (by omega) dL_law_918 ?_
  refine g_aload_n C rfl dL_law_919 ?_
  refine g_callL C (gw_lx_st hX) cw_emb_LO (ok_L_release A hA hB (xs (4 * j9 + 1)) (xs (4 * j9 + 2))) my_L_release si_L_157 (by decide) ⟨by omega, by omega⟩ rfl (cw_wpo w) cw_wpo_i cw_wpo_o w (fun _ _ => rfl) (Nat.le_of_ble_eq_true rfl) dL_law_920 rfl hc (fun v_920 w_920 hp_920 => ?_)
  obtain ⟨rfl, hv1, hc1⟩ := hp_920
  have hcA : cw_RC (sp_release A (xs (4 * j9 + 1)) (xs (4 * j9 + 2))).2.2 (cw_wpo w w_920) := hc1.low (fun q hq => if_pos (by omega))
  have hmA : cw_RM A (cw_ws 264 (cw_wpo w w_920)) := cw_RM_low hm (fun q hq => if_neg (by omega))
  have hvA : (sp_release A (xs (4 * j9 + 1)) (xs (4 * j9 + 2))).1 = 0 → cw_wpo w w_920 263 0 = (sp_release A (xs (4 * j9 + 1)) (xs (4 * j9 + 2))).2.1 := fun z => (congrFun (cw_wpo_i (w := w) w_920 263 (by decide)) 0).trans (hv1 z)
  obtain ⟨wa, ewa⟩ : ∃ z, z = cw_wpo w w_920 := ⟨_, rfl⟩
  rw [← ewa] at hcA hmA hvA ⊢
  refine g_istore C (by decide) dL_law_923 ?_
  refine g_aload_n C rfl dL_law_925 ?_
  refine g_aload_n C rfl dL_law_926 ?_
  refine g_iload C rfl dL_law_927 ?_
  refine g_iconst (v := 1) C (by decide) dL_law_929 ?_
  refine g_iadd C dL_law_930 ?_
  refine g_scr C hX (j := 4 * j9 + 1) (nI_add (4 * j9) 1) (by omega) (by omega) dL_law_931 ?_
  refine g_aload_n C rfl dL_law_932 ?_
  refine g_iload C rfl dL_law_933 ?_
  refine g_iconst (v := 2) C (by decide) dL_law_935 ?_
  refine g_iadd C dL_law_936 ?_
  refine g_scr C hX (j := 4 * j9 + 2) (nI_add (4 * j9) 2) (by omega) (by omega) dL_law_937 ?_
  refine g_callW C cw_emb_LM (ok_X7_release (xs (4 * j9 + 1)) (xs (4 * j9 + 2)) A hA.1 (cw_B_le2 hB (by omega) (by omega))) my_X7_release vi_L_159 (by decide) ⟨by omega, by omega⟩ rfl ((cw_emb_LM.1 0 (by decide))) rfl (cw_wp 264 7 wa) (cw_wp_i) (cw_wp_o) (cw_ws 264 wa) (fun i _ => rfl) (Nat.le_of_ble_eq_true rfl) dL_law_938 rfl (hmA) (fun v_938 w_938 hp_938 => ?_)
  obtain ⟨rfl, ht938, hm938⟩ := hp_938
  have hcB : cw_RC (sp_release A (xs (4 * j9 + 1)) (xs (4 * j9 + 2))).2.2 (cw_wp 264 7 wa w_938) := hcA.low (fun q hq => cw_wp_out _ _ (by omega))
  have hmB : cw_RM (sp_release A (xs (4 * j9 + 1)) (xs (4 * j9 + 2))).2.2 (cw_ws 264 (cw_wp 264 7 wa w_938)) := cw_RM_low hm938 (fun q hq => cw_wp_i _ q hq)
  have htB : cw_wp 264 7 wa w_938 264 0 = (sp_release A (xs (4 * j9 + 1)) (xs (4 * j9 + 2))).1 := (congrFun (cw_wp_i (b := 264) (n := 7) (w := wa) w_938 0 (by decide)) 0).trans ht938
  have hvB : (sp_release A (xs (4 * j9 + 1)) (xs (4 * j9 + 2))).1 = 0 → cw_wp 264 7 wa w_938 263 0 = (sp_release A (xs (4 * j9 + 1)) (xs (4 * j9 + 2))).2.1 := fun z => (congrFun (cw_wp_out (b := 264) (n := 7) wa w_938 (q := 263) (by decide)) 0).trans (hvA z)
  obtain ⟨wb, ewb⟩ : ∃ z, z = cw_wp 264 7 wa w_938 := ⟨_, rfl⟩
  rw [← ewb] at hcB hmB htB hvB ⊢
  refine g_istore C (by decide) dL_law_941 ?_
  refine g_aload_n C rfl dL_law_943 ?_
  refine g_callW C cw_emb_LM (ok_X7_thrown) my_X7_thrown vi_L_113 (by decide) ⟨by omega, by omega⟩ rfl ((cw_emb_LM.1 0 (by decide))) rfl (cw_wp 264 7 wb) (cw_wp_i) (cw_wp_o) (cw_ws 264 wb) (fun i _ => rfl) (Nat.le_of_ble_eq_true rfl) dL_law_944 rfl (trivial) (fun v_944 w_944 hp_944 => ?_)
  obtain ⟨rfl, hw_944⟩ := hp_944
  have hw_944 := hw_944.symm; subst hw_944
  rw [cw_wp_ws]
  refine g_top htB ?_
  refine g_iload C rfl dL_law_947 ?_
  refine g_cmp_eq (tgt := 954) C (by decide) dL_law_949 (fun c_949 => ?_) (fun c_949 => absurd (rfl) c_949)
  refine g_iload C rfl dL_law_954 ?_
  refine g_if_ne (tgt := 971) C (by decide) dL_law_956 (fun c_956 => ?_) (fun c_956 => ?_)
  · refine g_goto (tgt := 2012) C (by decide) dL_law_971 ?_
    exact g_sub rfl (K _ _ (ia_release hA hB (xs (4 * j9 + 1)) (xs (4 * j9 + 2))) hcB hmB)
  · refine g_aload_n C rfl dL_law_959 ?_
    refine g_iconst (v := 0) C (by decide) dL_law_960 ?_
    refine g_lald (j := 0) C rfl (rfl) (by decide) (by decide) dL_law_961 ?_
    refine g_topl (congrArg Int32.toInt64 (hvB c_956)) ?_
    refine g_iload C rfl dL_law_962 ?_
    refine g_i2l C dL_law_964 ?_
    refine g_lcmp C dL_law_965 ?_
    refine g_if_eq (tgt := 971) C (by decide) dL_law_966 (fun c_966 => ?_) (fun c_966 => absurd ((cw_cmp0 _ _).mpr rfl) c_966)
    refine g_goto (tgt := 2012) C (by decide) dL_law_971 ?_
    exact g_sub rfl (K _ _ (ia_release hA hB (xs (4 * j9 + 1)) (xs (4 * j9 + 2))) hcB hmB)

set_option maxHeartbeats 8000000 in
set_option maxRecDepth 100000 in
theorem law_14 {X : gw_X} (C : gw_ok X RL cL_law 7 20 601024 7293034) {L : Nat} {xs : Nat → Int32} (hX : gw_lx X L xs) {k n j9 : Nat} (hj : 4 * j9 + 3 < L) (hL : L ≤ 2048) (hk : k + 1 ≤ 601024 ∧ n + 6 ≤ 7293034) (A : cw_A) {na ma : Nat} (hA : cw_IA na ma A) (hB : cw_B (na + 21600) (ma + 2400)) {w : gw_M} (hc : cw_RC A w) (hm : cw_RM A (cw_ws 264 w))
    (K : ∀ (B : cw_A) (w1 : gw_M), cw_IA (na + 21600) (ma + 2400) B → cw_RC B w1 → cw_RM B (cw_ws 264 w1) → gw_G X sL 7 (k + 1) (n + 6) 2012 [(0, .ref 271), (1, .ref 252), (2, .ref 264), (3, .ref 263), (4, .int (nI (4 * j9)))] [] w1) : gw_G X sL 7 k n 974 [(0, .ref 271), (1, .ref 252), (2, .ref 264), (3, .ref 263), (4, .int (nI (4 * j9)))] [] w := by
  refine g_aload_n C rfl dL_law_974 ?_
  refine g_aload_n C rfl dL_law_975 ?_
  refine g_iload C rfl dL_law_976 ?_
  refine g_iconst (v := 1) C (by decide) dL_law_978 ?_
  refine g_iadd C dL_law_979 ?_
  refine g_scr C hX (j := 4 * j9 + 1) (nI_add (4 * j9) 1) (by omega) (by omega) dL_law_980 ?_
  refine g_aload_n C rfl dL_law_981 ?_
  refine g_iload C rfl dL_law_982 ?_
  refine g_iconst (v := 2) C (by decide) dL_law_984 ?_
  refine g_iadd C dL_law_985 ?_
  refine g_scr C hX (j := 4 * j9 + 2) (nI_add (4 * j9) 2) (by omega) (by omega) dL_law_986 ?_
  refine g_aload_n C rfl dL_law_987 ?_
  refine g_iload C rfl dL_law_988 ?_
  refine g_iconst (v := 3) C (by decide) dL_law_990 ?_
  refine g_iadd C dL_law_991 ?_
  refine g_scr C hX (j := 4 * j9 + 3) (nI_add (4 * j9) 3) (by omega) (by omega) dL_law_992 ?_
  refine g_aload_n C rfl dL_law_993 ?_
  refine g_callL C (gw_lx_st hX) cw_emb_LO (ok_L_bid A hA hB (xs (4 * j9 + 1)) (xs (4 * j9 + 2)) (xs (4 * j9 + 3))) my_L_bid si_L_160 (by decide) ⟨by omega, by omega⟩ rfl (cw_wpo w) cw_wpo_i cw_wpo_o w (fun _ _ => rfl) (Nat.le_of_ble_eq_true rfl) dL_law_994 rfl hc (fun v_994 w_994 hp_994 => ?_)
  obtain ⟨rfl, hv1, hc1⟩ := hp_994
  have hcA : cw_RC (sp_bid A (xs (4 * j9 + 1)) (xs (4 * j9 + 2)) (xs (4 * j9 + 3))).2.2 (cw_wpo w w_994) := hc1.low (fun q hq => if_pos (by omega))
  have hmA : cw_RM A (cw_ws 264 (cw_wpo w w_994)) := cw_RM_low hm (fun q hq => if_neg (by omega))
  have hvA : (sp_bid A (xs (4 * j9 + 1)) (xs (4 * j9 + 2)) (xs (4 * j9 + 3))).1 = 0 → cw_wpo w w_994 263 0 = (sp_bid A (xs (4 * j9 + 1)) (xs (4 * j9 + 2)) (xs (4 * j9 + 3))).2.1 := fun z => (congrFun (cw_wpo_i (w := w) w_994 263 (by decide)) 0).trans (hv1 z)
  obtain ⟨wa, ewa⟩ : ∃ z, z = cw_wpo w w_994 := ⟨_, rfl⟩
  rw [← ewa] at hcA hmA hvA ⊢
  refine g_istore C (by decide) dL_law_997 ?_
  refine g_aload_n C rfl dL_law_999 ?_
  refine g_aload_n C rfl dL_law_1000 ?_
  refine g_iload C rfl dL_law_1001 ?_
  refine g_iconst (v := 1) C (by decide) dL_law_1003 ?_
  refine g_iadd C dL_law_1004 ?_
  refine g_scr C hX (j := 4 * j9 + 1) (nI_add (4 * j9) 1) (by omega) (by omega) dL_law_1005 ?_
  refine g_aload_n C rfl dL_law_1006 ?_
  refine g_iload C rfl dL_law_1007 ?_
  refine g_iconst (v := 2) C (by decide) dL_law_1009 ?_
  refine g_iadd C dL_law_1010 ?_
  refine g_scr C hX (j := 4 * j9 + 2) (nI_add (4 * j9) 2) (by omega) (by omega) dL_law_1011 ?_
  refine g_aload_n C rfl dL_law_1012 ?_
  refine g_iload C rfl dL_law_1013 ?_
  refine g_iconst (v := 3) C (by decide) dL_law_1015 ?_
  refine g_iadd C dL_law_1016 ?_
  refine g_scr C hX (j := 4 * j9 + 3) (nI_add (4 * j9) 3) (by omega) (by omega) dL_law_1017 ?_
  refine g_callW C cw_emb_LM (ok_X7_bid (xs (4 * j9 + 1)) (xs (4 * j9 + 2)) (xs (4 * j9 + 3)) A hA.1 (cw_B_le2 hB (by omega) (by omega))) my_X7_bid vi_L_163 (by decide) ⟨by omega, by omega⟩ rfl ((cw_emb_LM.1 0 (by decide))) rfl (cw_wp 264 7 wa) (cw_wp_i) (cw_wp_o) (cw_ws 264 wa) (fun i _ => rfl) (Nat.le_of_ble_eq_true rfl) dL_law_1018 rfl (hmA) (fun v_1018 w_1018 hp_1018 => ?_)
  obtain ⟨rfl, ht1018, hm1018⟩ := hp_1018
  have hcB : cw_RC (sp_bid A (xs (4 * j9 + 1)) (xs (4 * j9 + 2)) (xs (4 * j9 + 3))).2.2 (cw_wp 264 7 wa w_1018) := hcA.low (fun q hq => cw_wp_out _ _ (by omega))
  have hmB : cw_RM (sp_bid A (xs (4 * j9 + 1)) (xs (4 * j9 + 2)) (xs (4 * j9 + 3))).2.2 (cw_ws 264 (cw_wp 264 7 wa w_1018)) := cw_RM_low hm1018 (fun q hq => cw_wp_i _ q hq)
  have htB : cw_wp 264 7 wa w_1018 264 0 = (sp_bid A (xs (4 * j9 + 1)) (xs (4 * j9 + 2)) (xs (4 * j9 + 3))).1 := (congrFun (cw_wp_i (b := 264) (n := 7) (w := wa) w_1018 0 (by decide)) 0).trans ht1018
  have hvB : (sp_bid A (xs (4 * j9 + 1)) (xs (4 * j9 + 2)) (xs (4 * j9 + 3))).1 = 0 → cw_wp 264 7 wa w_1018 263 0 = (sp_bid A (xs (4 * j9 + 1)) (xs (4 * j9 + 2)) (xs (4 * j9 + 3))).2.1 := fun z => (congrFun (cw_wp_out (b := 264) (n := 7) wa w_1018 (q := 263) (by decide)) 0).trans (hvA z)
  obtain ⟨wb, ewb⟩ : ∃ z, z = cw_wp 264 7 wa w_1018 := ⟨_, rfl⟩
  rw [← ewb] at hcB hmB htB hvB ⊢
  refine g_istore C (by decide) dL_law_1021 ?_
  refine g_aload_n C rfl dL_law_1023 ?_
  refine g_callW C cw_emb_LM (ok_X7_thrown) my_X7_thrown vi_L_113 (by decide) ⟨by omega, by omega⟩ rfl ((cw_emb_LM.1 0 (by decide))) rfl (cw_wp 264 7 wb) (cw_wp_i) (cw_wp_o) (cw_ws 264 wb) (fun i _ => rfl) (Nat.le_of_ble_eq_true rfl) dL_law_1024 rfl (trivial) (fun v_1024 w_1024 hp_1024 => ?_)
  obtain ⟨rfl, hw_1024⟩ := hp_1024
  have hw_1024 := hw_1024.symm; subst hw_1024
  rw [cw_wp_ws]
  refine g_top htB ?_
  refine g_iload C rfl dL_law_1027 ?_
  refine g_cmp_eq (tgt := 1034) C (by decide) dL_law_1029 (fun c_1029 => ?_) (fun c_1029 => absurd (rfl) c_1029)
  refine g_iload C rfl dL_law_1034 ?_
  refine g_if_ne (tgt := 1051) C (by decide) dL_law_1036 (fun c_1036 => ?_) (fun c_1036 => ?_)
  · refine g_goto (tgt := 2012) C (by decide) dL_law_1051 ?_
    exact g_sub rfl (K _ _ (ia_bid hA hB (xs (4 * j9 + 1)) (xs (4 * j9 + 2)) (xs (4 * j9 + 3))) hcB hmB)
  · refine g_aload_n C rfl dL_law_1039 ?_
    refine g_iconst (v := 0) C (by decide) dL_law_1040 ?_
    refine g_lald (j := 0) C rfl (rfl) (by decide) (by decide) dL_law_1041 ?_
    refine g_topl (congrArg Int32.toInt64 (hvB c_1036)) ?_
    refine g_iload C rfl dL_law_1042 ?_
    refine g_i2l C dL_law_1044 ?_
    refine g_lcmp C dL_law_1045 ?_
    refine g_if_eq (tgt := 1051) C (by decide) dL_law_1046 (fun c_1046 => ?_) (fun c_1046 => absurd ((cw_cmp0 _ _).mpr rfl) c_1046)
    refine g_goto (tgt := 2012) C (by decide) dL_law_1051 ?_
    exact g_sub rfl (K _ _ (ia_bid hA hB (xs (4 * j9 + 1)) (xs (4 * j9 + 2)) (xs (4 * j9 + 3))) hcB hmB)

set_option maxHeartbeats 8000000 in
set_option maxRecDepth 100000 in
theorem law_15 {X : gw_X} (C : gw_ok X RL cL_law 7 20 601024 7293034) {L : Nat} {xs : Nat → Int32} (hX : gw_lx X L xs) {k n j9 : Nat} (hj : 4 * j9 + 3 < L) (hL : L ≤ 2048) (hk : k + 1 ≤ 601024 ∧ n + 6 ≤ 7293034) (A : cw_A) {na ma : Nat} (hA : cw_IA na ma A) (hB : cw_B (na + 21600) (ma + 2400)) {w : gw_M} (hc : cw_RC A w) (hm : cw_RM A (cw_ws 264 w))
    (K : ∀ (B : cw_A) (w1 : gw_M), cw_IA (na + 21600) (ma + 2400) B → cw_RC B w1 → cw_RM B (cw_ws 264 w1) → gw_G X sL 7 (k + 1) (n + 6) 2012 [(0, .ref 271), (1, .ref 252), (2, .ref 264), (3, .ref 263), (4, .int (nI (4 * j9)))] [] w1) : gw_G X sL 7 k n 1054 [(0, .ref 271), (1, .ref 252), (2, .ref 264), (3, .ref 263), (4, .int (nI (4 * j9)))] [] w := by
  refine g_aload_n C rfl dL_law_1054 ?_
  refine g_callW C cw_emb_LC (ok_X6_settle A hA (cw_B_le2 hB (by omega) (by omega))) my_X6_settle vi_L_164 (by decide) ⟨by omega, by omega⟩ rfl ((cw_emb_LC.1 252 (by decide))) rfl (cw_wpc w) (cw_wpc_i) (cw_wpc_o) (w) (fun _ _ => rfl) (Nat.le_of_ble_eq_true rfl) dL_law_1055 rfl (hc) (fun v_1055 w_1055 hp_1055 => ?_)
  obtain ⟨rfl, hr1055⟩ := hp_1055
  have hcA : cw_RC (sp_settle A).2.2 (cw_wpc w w_1055) := hr1055.low (fun q hq => if_pos hq)
  have hmA : cw_RM A (cw_ws 264 (cw_wpc w w_1055)) := cw_RM_low hm (fun q hq => if_neg (by omega))
  obtain ⟨wa, ewa⟩ : ∃ z, z = cw_wpc w w_1055 := ⟨_, rfl⟩
  rw [← ewa] at hcA hmA ⊢
  refine g_aload_n C rfl dL_law_1058 ?_
  refine g_callW C cw_emb_LM (ok_X7_settle A hA.1 (cw_B_le2 hB (by omega) (by omega))) my_X7_settle vi_L_167 (by decide) ⟨by omega, by omega⟩ rfl ((cw_emb_LM.1 0 (by decide))) rfl (cw_wp 264 7 wa) (cw_wp_i) (cw_wp_o) (cw_ws 264 wa) (fun i _ => rfl) (Nat.le_of_ble_eq_true rfl) dL_law_1059 rfl (hmA) (fun v_1059 w_1059 hp_1059 => ?_)
  obtain ⟨rfl, ht1059, hm1059⟩ := hp_1059
  have hcB : cw_RC (sp_settle A).2.2 (cw_wp 264 7 wa w_1059) := hcA.low (fun q hq => cw_wp_out _ _ (by omega))
  have hmB : cw_RM (sp_settle A).2.2 (cw_ws 264 (cw_wp 264 7 wa w_1059)) := cw_RM_low hm1059 (fun q hq => cw_wp_i _ q hq)
  have htB : cw_wp 264 7 wa w_1059 264 0 = (sp_settle A).1 := (congrFun (cw_wp_i (b := 264) (n := 7) (w := wa) w_1059 0 (by decide)) 0).trans ht1059
  obtain ⟨wb, ewb⟩ : ∃ z, z = cw_wp 264 7 wa w_1059 := ⟨_, rfl⟩
  rw [← ewb] at hcB hmB htB ⊢
  refine g_cmp_eq (tgt := 2012) C (by decide) dL_law_1062 (fun c_1062 => ?_) (fun c_1062 => absurd (rfl) c_1062)
  exact g_widen (by omega) (by omega) (g_sub rfl (K _ _ (ia_settle hA hB) hcB hmB))

set_option maxHeartbeats 8000000 in
set_option maxRecDepth 100000 in
theorem law_16 {X : gw_X} (C : gw_ok X RL cL_law 7 20 601024 7293034) {L : Nat} {xs : Nat → Int32} (hX : gw_lx X L xs) {k n j9 : Nat} (hj : 4 * j9 + 3 < L) (hL : L ≤ 2048) (hk : k + 1 ≤ 601024 ∧ n + 6 ≤ 7293034) (A : cw_A) {na ma : Nat} (hA : cw_IA na ma A) (hB : cw_B (na + 21600) (ma + 2400)) {w : gw_M} (hc : cw_RC A w) (hm : cw_RM A (cw_ws 264 w))
    (K : ∀ (B : cw_A) (w1 : gw_M), cw_IA (na + 21600) (ma + 2400) B → cw_RC B w1 → cw_RM B (cw_ws 264 w1) → gw_G X sL 7 (k + 1) (n + 6) 2012 [(0, .ref 271), (1, .ref 252), (2, .ref 264), (3, .ref 263), (4, .int (nI (4 * j9)))] [] w1) : gw_G X sL 7 k n 1067 [(0, .ref 271), (1, .ref 252), (2, .ref 264), (3, .ref 263), (4, .int (nI (4 * j9)))] [] w := by
  refine g_aload_n C rfl dL_law_1067 ?_
  refine g_aload_n C rfl dL_law_1068 ?_
  refine g_iload C rfl dL_law_1069 ?_
  refine g_iconst (v := 1) C (by decide) dL_law_1071 ?_
  refine g_iadd C dL_law_1072 ?_
  refine g_scr C hX (j := 4 * j9 + 1) (nI_add (4 * j9) 1) (by omega) (by omega) dL_law_1073 ?_
  refine g_aload_n C rfl dL_law_1074 ?_
  refine g_iload C rfl dL_law_1075 ?_
  refine g_iconst (v := 2) C (by decide) dL_law_1077 ?_
  refine g_iadd C dL_law_1078 ?_
  refine g_scr C hX (j := 4 * j9 + 2) (nI_add (4 * j9) 2) (by omega) (by omega) dL_law_1079 ?_
  refine g_aload_n C rfl dL_law_1080 ?_
  refine g_iload C rfl dL_law_1081 ?_
  refine g_iconst (v := 3) C (by decide) dL_law_1083 ?_
  refine g_iadd C dL_law_1084 ?_
  refine g_scr C hX (j := 4 * j9 + 3) (nI_add (4 * j9) 3) (by omega) (by omega) dL_law_1085 ?_
  refine g_aload_n C rfl dL_law_1086 ?_
  refine g_callL C (gw_lx_st hX) cw_emb_LO (ok_L_offer A hA hB (xs (4 * j9 + 1)) (xs (4 * j9 + 2)) (xs (4 * j9 + 3))) my_L_offer si_L_168 (by decide) ⟨by omega, by omega⟩ rfl (cw_wpo w) cw_wpo_i cw_wpo_o w (fun _ _ => rfl) (Nat.le_of_ble_eq_true rfl) dL_law_1087 rfl hc (fun v_1087 w_1087 hp_1087 => ?_)
  obtain ⟨rfl, hv1, hc1⟩ := hp_1087
  have hcA : cw_RC (sp_offer A (xs (4 * j9 + 1)) (xs (4 * j9 + 2)) (xs (4 * j9 + 3))).2.2 (cw_wpo w w_1087) := hc1.low (fun q hq => if_pos (by omega))
  have hmA : cw_RM A (cw_ws 264 (cw_wpo w w_1087)) := cw_RM_low hm (fun q hq => if_neg (by omega))
  have hvA : (sp_offer A (xs (4 * j9 + 1)) (xs (4 * j9 + 2)) (xs (4 * j9 + 3))).1 = 0 → cw_wpo w w_1087 263 0 = (sp_offer A (xs (4 * j9 + 1)) (xs (4 * j9 + 2)) (xs (4 * j9 + 3))).2.1 := fun z => (congrFun (cw_wpo_i (w := w) w_1087 263 (by decide)) 0).trans (hv1 z)
  obtain ⟨wa, ewa⟩ : ∃ z, z = cw_wpo w w_1087 := ⟨_, rfl⟩
  rw [← ewa] at hcA hmA hvA ⊢
  refine g_istore C (by decide) dL_law_1090 ?_
  refine g_aload_n C rfl dL_law_1092 ?_
  refine g_aload_n C rfl dL_law_1093 ?_
  refine g_iload C rfl dL_law_1094 ?_
  refine g_iconst (v := 1) C (by decide) dL_law_1096 ?_
  refine g_iadd C dL_law_1097 ?_
  refine g_scr C hX (j := 4 * j9 + 1) (nI_add (4 * j9) 1) (by omega) (by omega) dL_law_1098 ?_
  refine g_aload_n C rfl dL_law_1099 ?_
  refine g_iload C rfl dL_law_1100 ?_
  refine g_iconst (v := 2) C (by decide) dL_law_1102 ?_
  refine g_iadd C dL_law_1103 ?_
  refine g_scr C hX (j := 4 * j9 + 2) (nI_add (4 * j9) 2) (by omega) (by omega) dL_law_1104 ?_
  refine g_aload_n C rfl dL_law_1105 ?_
  refine g_iload C rfl dL_law_1106 ?_
  refine g_iconst (v := 3) C (by decide) dL_law_1108 ?_
  refine g_iadd C dL_law_1109 ?_
  refine g_scr C hX (j := 4 * j9 + 3) (nI_add (4 * j9) 3) (by omega) (by omega) dL_law_1110 ?_
  refine g_callW C cw_emb_LM (ok_X7_offer (xs (4 * j9 + 1)) (xs (4 * j9 + 2)) (xs (4 * j9 + 3)) A hA.1 (cw_B_le2 hB (by omega) (by omega))) my_X7_offer vi_L_170 (by decide) ⟨by omega, by omega⟩ rfl ((cw_emb_LM.1 0 (by decide))) rfl (cw_wp 264 7 wa) (cw_wp_i) (cw_wp_o) (cw_ws 264 wa) (fun i _ => rfl) (Nat.le_of_ble_eq_true rfl) dL_law_1111 rfl (hmA) (fun v_1111 w_1111 hp_1111 => ?_)
  obtain ⟨rfl, ht1111, hm1111⟩ := hp_1111
  have hcB : cw_RC (sp_offer A (xs (4 * j9 + 1)) (xs (4 * j9 + 2)) (xs (4 * j9 + 3))).2.2 (cw_wp 264 7 wa w_1111) := hcA.low (fun q hq => cw_wp_out _ _ (by omega))
  have hmB : cw_RM (sp_offer A (xs (4 * j9 + 1)) (xs (4 * j9 + 2)) (xs (4 * j9 + 3))).2.2 (cw_ws 264 (cw_wp 264 7 wa w_1111)) := cw_RM_low hm1111 (fun q hq => cw_wp_i _ q hq)
  have htB : cw_wp 264 7 wa w_1111 264 0 = (sp_offer A (xs (4 * j9 + 1)) (xs (4 * j9 + 2)) (xs (4 * j9 + 3))).1 := (congrFun (cw_wp_i (b := 264) (n := 7) (w := wa) w_1111 0 (by decide)) 0).trans ht1111
  have hvB : (sp_offer A (xs (4 * j9 + 1)) (xs (4 * j9 + 2)) (xs (4 * j9 + 3))).1 = 0 → cw_wp 264 7 wa w_1111 263 0 = (sp_offer A (xs (4 * j9 + 1)) (xs (4 * j9 + 2)) (xs (4 * j9 + 3))).2.1 := fun z => (congrFun (cw_wp_out (b := 264) (n := 7) wa w_1111 (q := 263) (by decide)) 0).trans (hvA z)
  obtain ⟨wb, ewb⟩ : ∃ z, z = cw_wp 264 7 wa w_1111 := ⟨_, rfl⟩
  rw [← ewb] at hcB hmB htB hvB ⊢
  refine g_istore C (by decide) dL_law_1114 ?_
  refine g_aload_n C rfl dL_law_1116 ?_
  refine g_callW C cw_emb_LM (ok_X7_thrown) my_X7_thrown vi_L_113 (by decide) ⟨by omega, by omega⟩ rfl ((cw_emb_LM.1 0 (by decide))) rfl (cw_wp 264 7 wb) (cw_wp_i) (cw_wp_o) (cw_ws 264 wb) (fun i _ => rfl) (Nat.le_of_ble_eq_true rfl) dL_law_1117 rfl (trivial) (fun v_1117 w_1117 hp_1117 => ?_)
  obtain ⟨rfl, hw_1117⟩ := hp_1117
  have hw_1117 := hw_1117.symm; subst hw_1117
  rw [cw_wp_ws]
  refine g_top htB ?_
  refine g_iload C rfl dL_law_1120 ?_
  refine g_cmp_eq (tgt := 1127) C (by decide) dL_law_1122 (fun c_1122 => ?_) (fun c_1122 => absurd (rfl) c_1122)
  refine g_iload C rfl dL_law_1127 ?_
  refine g_if_ne (tgt := 1144) C (by decide) dL_law_1129 (fun c_1129 => ?_) (fun c_1129 => ?_)
  · refine g_goto (tgt := 2012) C (by decide) dL_law_1144 ?_
    exact g_sub rfl (K _ _ (ia_offer hA hB (xs (4 * j9 + 1)) (xs (4 * j9 + 2)) (xs (4 * j9 + 3))) hcB hmB)
  · refine g_aload_n C rfl dL_law_1132 ?_
    refine g_iconst (v := 0) C (by decide) dL_law_1133 ?_
    refine g_lald (j := 0) C rfl (rfl) (by decide) (by decide) dL_law_1134 ?_
    refine g_topl (congrArg Int32.toInt64 (hvB c_1129)) ?_
    refine g_iload C rfl dL_law_1135 ?_
    refine g_i2l C dL_law_1137 ?_
    refine g_lcmp C dL_law_1138 ?_
    refine g_if_eq (tgt := 1144) C (by decide) dL_law_1139 (fun c_1139 => ?_) (fun c_1139 => absurd ((cw_cmp0 _ _).mpr rfl) c_1139)
    refine g_goto (tgt := 2012) C (by decide) dL_law_1144 ?_
    exact g_sub rfl (K _ _ (ia_offer hA hB (xs (4 * j9 + 1)) (xs (4 * j9 + 2)) (xs (4 * j9 + 3))) hcB hmB)

set_option maxHeartbeats 8000000 in
set_option maxRecDepth 100000 in
theorem law_17 {X : gw_X} (C : gw_ok X RL cL_law 7 20 601024 7293034) {L : Nat} {xs : Nat → Int32} (hX : gw_lx X L xs) {k n j9 : Nat} (hj : 4 * j9 + 3 < L) (hL : L ≤ 2048) (hk : k + 1 ≤ 601024 ∧ n + 6 ≤ 7293034) (A : cw_A) {na ma : Nat} (hA : cw_IA na ma A) (hB : cw_B (na + 21600) (ma + 2400)) {w : gw_M} (hc : cw_RC A w) (hm : cw_RM A (cw_ws 264 w))
    (K : ∀ (B : cw_A) (w1 : gw_M), cw_IA (na + 21600) (ma + 2400) B → cw_RC B w1 → cw_RM B (cw_ws 264 w1) → gw_G X sL 7 (k + 1) (n + 6) 2012 [(0, .ref 271), (1, .ref 252), (2, .ref 264), (3, .ref 263), (4, .int (nI (4 * j9)))] [] w1) : gw_G X sL 7 k n 1147 [(0, .ref 271), (1, .ref 252), (2, .ref 264), (3, .ref 263), (4, .int (nI (4 * j9)))] [] w := by
  refine g_aload_n C rfl dL_law_1147 ?_
  refine g_aload_n C rfl dL_law_1148 ?_
  refine g_iload C rfl dL_law_1149 ?_
  refine g_iconst (v := 1) C (by decide) dL_law_1151 ?_
  refine g_iadd C dL_law_1152 ?_
  refine g_scr C hX (j := 4 * j9 + 1) (nI_add (4 * j9) 1) (by omega) (by omega) dL_law_1153 ?_
  refine g_aload_n C rfl dL_law_1154 ?_
  refine g_callL C (gw_lx_st hX) cw_emb_LO (ok_L_accept A hA hB (xs (4 * j9 + 1))) my_L_accept si_L_171 (by decide) ⟨by omega, by omega⟩ rfl (cw_wpo w) cw_wpo_i cw_wpo_o w (fun _ _ => rfl) (Nat.le_of_ble_eq_true rfl) dL_law_1155 rfl hc (fun v_1155 w_1155 hp_1155 => ?_)
  obtain ⟨rfl, hv1, hc1⟩ := hp_1155
  have hcA : cw_RC (sp_accept A (xs (4 * j9 + 1))).2.2 (cw_wpo w w_1155) := hc1.low (fun q hq => if_pos (by omega))
  have hmA : cw_RM A (cw_ws 264 (cw_wpo w w_1155)) := cw_RM_low hm (fun q hq => if_neg (by omega))
  have hvA : (sp_accept A (xs (4 * j9 + 1))).1 = 0 → cw_wpo w w_1155 263 0 = (sp_accept A (xs (4 * j9 + 1))).2.1 := fun z => (congrFun (cw_wpo_i (w := w) w_1155 263 (by decide)) 0).trans (hv1 z)
  obtain ⟨wa, ewa⟩ : ∃ z, z = cw_wpo w w_1155 := ⟨_, rfl⟩
  rw [← ewa] at hcA hmA hvA ⊢
  refine g_istore C (by decide) dL_law_1158 ?_
  refine g_aload_n C rfl dL_law_1160 ?_
  refine g_aload_n C rfl dL_law_1161 ?_
  refine g_iload C rfl dL_law_1162 ?_
  refine g_iconst (v := 1) C (by decide) dL_law_1164 ?_
  refine g_iadd C dL_law_1165 ?_
  refine g_scr C hX (j := 4 * j9 + 1) (nI_add (4 * j9) 1) (by omega) (by omega) dL_law_1166 ?_
  refine g_callW C cw_emb_LM (ok_X7_accept (xs (4 * j9 + 1)) A hA.1 (cw_B_le2 hB (by omega) (by omega))) my_X7_accept vi_L_173 (by decide) ⟨by omega, by omega⟩ rfl ((cw_emb_LM.1 0 (by decide))) rfl (cw_wp 264 7 wa) (cw_wp_i) (cw_wp_o) (cw_ws 264 wa) (fun i _ => rfl) (Nat.le_of_ble_eq_true rfl) dL_law_1167 rfl (hmA) (fun v_1167 w_1167 hp_1167 => ?_)
  obtain ⟨rfl, ht1167, hm1167⟩ := hp_1167
  have hcB : cw_RC (sp_accept A (xs (4 * j9 + 1))).2.2 (cw_wp 264 7 wa w_1167) := hcA.low (fun q hq => cw_wp_out _ _ (by omega))
  have hmB : cw_RM (sp_accept A (xs (4 * j9 + 1))).2.2 (cw_ws 264 (cw_wp 264 7 wa w_1167)) := cw_RM_low hm1167 (fun q hq => cw_wp_i _ q hq)
  have htB : cw_wp 264 7 wa w_1167 264 0 = (sp_accept A (xs (4 * j9 + 1))).1 := (congrFun (cw_wp_i (b := 264) (n := 7) (w := wa) w_1167 0 (by decide)) 0).trans ht1167
  have hvB : (sp_accept A (xs (4 * j9 + 1))).1 = 0 → cw_wp 264 7 wa w_1167 263 0 = (sp_accept A (xs (4 * j9 + 1))).2.1 := fun z => (congrFun (cw_wp_out (b := 264) (n := 7) wa w_1167 (q := 263) (by decide)) 0).trans (hvA z)
  obtain ⟨wb, ewb⟩ : ∃ z, z = cw_wp 264 7 wa w_1167 := ⟨_, rfl⟩
  rw [← ewb] at hcB hmB htB hvB ⊢
  refine g_istore C (by decide) dL_law_1170 ?_
  refine g_aload_n C rfl dL_law_1172 ?_
  refine g_callW C cw_emb_LM (ok_X7_thrown) my_X7_thrown vi_L_113 (by decide) ⟨by omega, by omega⟩ rfl ((cw_emb_LM.1 0 (by decide))) rfl (cw_wp 264 7 wb) (cw_wp_i) (cw_wp_o) (cw_ws 264 wb) (fun i _ => rfl) (Nat.le_of_ble_eq_true rfl) dL_law_1173 rfl (trivial) (fun v_1173 w_1173 hp_1173 => ?_)
  obtain ⟨rfl, hw_1173⟩ := hp_1173
  have hw_1173 := hw_1173.symm; subst hw_1173
  rw [cw_wp_ws]
  refine g_top htB ?_
  refine g_iload C rfl dL_law_1176 ?_
  refine g_cmp_eq (tgt := 1183) C (by decide) dL_law_1178 (fun c_1178 => ?_) (fun c_1178 => absurd (rfl) c_1178)
  refine g_iload C rfl dL_law_1183 ?_
  refine g_if_ne (tgt := 1200) C (by decide) dL_law_1185 (fun c_1185 => ?_) (fun c_1185 => ?_)
  · refine g_goto (tgt := 2012) C (by decide) dL_law_1200 ?_
    exact g_sub rfl (K _ _ (ia_accept hA hB (xs (4 * j9 + 1))) hcB hmB)
  · refine g_aload_n C rfl dL_law_1188 ?_
    refine g_iconst (v := 0) C (by decide) dL_law_1189 ?_
    refine g_lald (j := 0) C rfl (rfl) (by decide) (by decide) dL_law_1190 ?_
    refine g_topl (congrArg Int32.toInt64 (hvB c_1185)) ?_
    refine g_iload C rfl dL_law_1191 ?_
    refine g_i2l C dL_law_1193 ?_
    refine g_lcmp C dL_law_1194 ?_
    refine g_if_eq (tgt := 1200) C (by decide) dL_law_1195 (fun c_1195 => ?_) (fun c_1195 => absurd ((cw_cmp0 _ _).mpr rfl) c_1195)
    refine g_goto (tgt := 2012) C (by decide) dL_law_1200 ?_
    exact g_sub rfl (K _ _ (ia_accept hA hB (xs (4 * j9 + 1))) hcB hmB)

set_option maxHeartbeats 8000000 in
set_option maxRecDepth 100000 in
theorem law_18 {X : gw_X} (C : gw_ok X RL cL_law 7 20 601024 7293034) {L : Nat} {xs : Nat → Int32} (hX : gw_lx X L xs) {k n j9 : Nat} (hj : 4 * j9 + 3 < L) (hL : L ≤ 2048) (hk : k + 1 ≤ 601024 ∧ n + 6 ≤ 7293034) (A : cw_A) {na ma : Nat} (hA : cw_IA na ma A) (hB : cw_B (na + 21600) (ma + 2400)) {w : gw_M} (hc : cw_RC A w) (hm : cw_RM A (cw_ws 264 w))
    (K : ∀ (B : cw_A) (w1 : gw_M), cw_IA (na + 21600) (ma + 2400) B → cw_RC B w1 → cw_RM B (cw_ws 264 w1) → gw_G X sL 7 (k + 1) (n + 6) 2012 [(0, .ref 271), (1, .ref 252), (2, .ref 264), (3, .ref 263), (4, .int (nI (4 * j9)))] [] w1) : gw_G X sL 7 k n 1203 [(0, .ref 271), (1, .ref 252), (2, .ref 264), (3, .ref 263), (4, .int (nI (4 * j9)))] [] w := by
  refine g_aload_n C rfl dL_law_1203 ?_
  refine g_aload_n C rfl dL_law_1204 ?_
  refine g_iload C rfl dL_law_1205 ?_
  refine g_iconst (v := 1) C (by decide) dL_law_1207 ?_
  refine g_iadd C dL_law_1208 ?_
  refine g_scr C hX (j := 4 * j9 + 1) (nI_add (4 * j9) 1) (by omega) (by omega) dL_law_1209 ?_
  refine g_aload_n C rfl dL_law_1210 ?_
  refine g_callL C (gw_lx_st hX) cw_emb_LO (ok_L_upkeep A hA hB (xs (4 * j9 + 1))) my_L_upkeep si_L_174 (by decide) ⟨by omega, by omega⟩ rfl (cw_wpo w) cw_wpo_i cw_wpo_o w (fun _ _ => rfl) (Nat.le_of_ble_eq_true rfl) dL_law_1211 rfl hc (fun v_1211 w_1211 hp_1211 => ?_)
  obtain ⟨rfl, hv1, hc1⟩ := hp_1211
  have hcA : cw_RC (sp_upkeep A (xs (4 * j9 + 1))).2.2 (cw_wpo w w_1211) := hc1.low (fun q hq => if_pos (by omega))
  have hmA : cw_RM A (cw_ws 264 (cw_wpo w w_1211)) := cw_RM_low hm (fun q hq => if_neg (by omega))
  have hvA : (sp_upkeep A (xs (4 * j9 + 1))).1 = 0 → cw_wpo w w_1211 263 0 = (sp_upkeep A (xs (4 * j9 + 1))).2.1 := fun z => (congrFun (cw_wpo_i (w := w) w_1211 263 (by decide)) 0).trans (hv1 z)
  obtain ⟨wa, ewa⟩ : ∃ z, z = cw_wpo w w_1211 := ⟨_, rfl⟩
  rw [← ewa] at hcA hmA hvA ⊢
  refine g_istore C (by decide) dL_law_1214 ?_
  refine g_aload_n C rfl dL_law_1216 ?_
  refine g_aload_n C rfl dL_law_1217 ?_
  refine g_iload C rfl dL_law_1218 ?_
  refine g_iconst (v := 1) C (by decide) dL_law_1220 ?_
  refine g_iadd C dL_law_1221 ?_
  refine g_scr C hX (j := 4 * j9 + 1) (nI_add (4 * j9) 1) (by omega) (by omega) dL_law_1222 ?_
  refine g_callW C cw_emb_LM (ok_X7_upkeep (xs (4 * j9 + 1)) A hA.1 (cw_B_le2 hB (by omega) (by omega))) my_X7_upkeep vi_L_176 (by decide) ⟨by omega, by omega⟩ rfl ((cw_emb_LM.1 0 (by decide))) rfl (cw_wp 264 7 wa) (cw_wp_i) (cw_wp_o) (cw_ws 264 wa) (fun i _ => rfl) (Nat.le_of_ble_eq_true rfl) dL_law_1223 rfl (hmA) (fun v_1223 w_1223 hp_1223 => ?_)
  obtain ⟨rfl, ht1223, hm1223⟩ := hp_1223
  have hcB : cw_RC (sp_upkeep A (xs (4 * j9 + 1))).2.2 (cw_wp 264 7 wa w_1223) := hcA.low (fun q hq => cw_wp_out _ _ (by omega))
  have hmB : cw_RM (sp_upkeep A (xs (4 * j9 + 1))).2.2 (cw_ws 264 (cw_wp 264 7 wa w_1223)) := cw_RM_low hm1223 (fun q hq => cw_wp_i _ q hq)
  have htB : cw_wp 264 7 wa w_1223 264 0 = (sp_upkeep A (xs (4 * j9 + 1))).1 := (congrFun (cw_wp_i (b := 264) (n := 7) (w := wa) w_1223 0 (by decide)) 0).trans ht1223
  have hvB : (sp_upkeep A (xs (4 * j9 + 1))).1 = 0 → cw_wp 264 7 wa w_1223 263 0 = (sp_upkeep A (xs (4 * j9 + 1))).2.1 := fun z => (congrFun (cw_wp_out (b := 264) (n := 7) wa w_1223 (q := 263) (by decide)) 0).trans (hvA z)
  obtain ⟨wb, ewb⟩ : ∃ z, z = cw_wp 264 7 wa w_1223 := ⟨_, rfl⟩
  rw [← ewb] at hcB hmB htB hvB ⊢
  refine g_istore C (by decide) dL_law_1226 ?_
  refine g_aload_n C rfl dL_law_1228 ?_
  refine g_callW C cw_emb_LM (ok_X7_thrown) my_X7_thrown vi_L_113 (by decide) ⟨by omega, by omega⟩ rfl ((cw_emb_LM.1 0 (by decide))) rfl (cw_wp 264 7 wb) (cw_wp_i) (cw_wp_o) (cw_ws 264 wb) (fun i _ => rfl) (Nat.le_of_ble_eq_true rfl) dL_law_1229 rfl (trivial) (fun v_1229 w_1229 hp_1229 => ?_)
  obtain ⟨rfl, hw_1229⟩ := hp_1229
  have hw_1229 := hw_1229.symm; subst hw_1229
  rw [cw_wp_ws]
  refine g_top htB ?_
  refine g_iload C rfl dL_law_1232 ?_
  refine g_cmp_eq (tgt := 1239) C (by decide) dL_law_1234 (fun c_1234 => ?_) (fun c_1234 => absurd (rfl) c_1234)
  refine g_iload C rfl dL_law_1239 ?_
  refine g_if_ne (tgt := 1256) C (by decide) dL_law_1241 (fun c_1241 => ?_) (fun c_1241 => ?_)
  · refine g_goto (tgt := 2012) C (by decide) dL_law_1256 ?_
    exact g_sub rfl (K _ _ (ia_upkeep hA hB (xs (4 * j9 + 1))) hcB hmB)
  · refine g_aload_n C rfl dL_law_1244 ?_
    refine g_iconst (v := 0) C (by decide) dL_law_1245 ?_
    refine g_lald (j := 0) C rfl (rfl) (by decide) (by decide) dL_law_1246 ?_
    refine g_topl (congrArg Int32.toInt64 (hvB c_1241)) ?_
    refine g_iload C rfl dL_law_1247 ?_
    refine g_i2l C dL_law_1249 ?_
    refine g_lcmp C dL_law_1250 ?_
    refine g_if_eq (tgt := 1256) C (by decide) dL_law_1251 (fun c_1251 => ?_) (fun c_1251 => absurd ((cw_cmp0 _ _).mpr rfl) c_1251)
    refine g_goto (tgt := 2012) C (by decide) dL_law_1256 ?_
    exact g_sub rfl (K _ _ (ia_upkeep hA hB (xs (4 * j9 + 1))) hcB hmB)

set_option maxHeartbeats 8000000 in
set_option maxRecDepth 100000 in
theorem law_19 {X : gw_X} (C : gw_ok X RL cL_law 7 20 601024 7293034) {L : Nat} {xs : Nat → Int32} (hX : gw_lx X L xs) {k n j9 : Nat} (hj : 4 * j9 + 3 < L) (hL : L ≤ 2048) (hk : k + 1 ≤ 601024 ∧ n + 6 ≤ 7293034) (A : cw_A) {na ma : Nat} (hA : cw_IA na ma A) (hB : cw_B (na + 21600) (ma + 2400)) {w : gw_M} (hc : cw_RC A w) (hm : cw_RM A (cw_ws 264 w))
    (K : ∀ (B : cw_A) (w1 : gw_M), cw_IA (na + 21600) (ma + 2400) B → cw_RC B w1 → cw_RM B (cw_ws 264 w1) → gw_G X sL 7 (k + 1) (n + 6) 2012 [(0, .ref 271), (1, .ref 252), (2, .ref 264), (3, .ref 263), (4, .int (nI (4 * j9)))] [] w1) : gw_G X sL 7 k n 1259 [(0, .ref 271), (1, .ref 252), (2, .ref 264), (3, .ref 263), (4, .int (nI (4 * j9)))] [] w := by
  refine g_aload_n C rfl dL_law_1259 ?_
  refine g_callW C cw_emb_LC (ok_X6_year A hA (cw_B_le2 hB (by omega) (by omega))) my_X6_year vi_L_177 (by decide) ⟨by omega, by omega⟩ rfl ((cw_emb_LC.1 252 (by decide))) rfl (cw_wpc w) (cw_wpc_i) (cw_wpc_o) (w) (fun _ _ => rfl) (Nat.le_of_ble_eq_true rfl) dL_law_1260 rfl (hc) (fun v_1260 w_1260 hp_1260 => ?_)
  obtain ⟨rfl, hr1260⟩ := hp_1260
  have hcA : cw_RC (sp_year A).2.2 (cw_wpc w w_1260) := hr1260.low (fun q hq => if_pos hq)
  have hmA : cw_RM A (cw_ws 264 (cw_wpc w w_1260)) := cw_RM_low hm (fun q hq => if_neg (by omega))
  obtain ⟨wa, ewa⟩ : ∃ z, z = cw_wpc w w_1260 := ⟨_, rfl⟩
  rw [← ewa] at hcA hmA ⊢
  refine g_aload_n C rfl dL_law_1263 ?_
  refine g_callW C cw_emb_LM (ok_X7_year A hA.1 (cw_B_le2 hB (by omega) (by omega))) my_X7_year vi_L_180 (by decide) ⟨by omega, by omega⟩ rfl ((cw_emb_LM.1 0 (by decide))) rfl (cw_wp 264 7 wa) (cw_wp_i) (cw_wp_o) (cw_ws 264 wa) (fun i _ => rfl) (Nat.le_of_ble_eq_true rfl) dL_law_1264 rfl (hmA) (fun v_1264 w_1264 hp_1264 => ?_)
  obtain ⟨rfl, ht1264, hm1264⟩ := hp_1264
  have hcB : cw_RC (sp_year A).2.2 (cw_wp 264 7 wa w_1264) := hcA.low (fun q hq => cw_wp_out _ _ (by omega))
  have hmB : cw_RM (sp_year A).2.2 (cw_ws 264 (cw_wp 264 7 wa w_1264)) := cw_RM_low hm1264 (fun q hq => cw_wp_i _ q hq)
  have htB : cw_wp 264 7 wa w_1264 264 0 = (sp_year A).1 := (congrFun (cw_wp_i (b := 264) (n := 7) (w := wa) w_1264 0 (by decide)) 0).trans ht1264
  obtain ⟨wb, ewb⟩ : ∃ z, z = cw_wp 264 7 wa w_1264 := ⟨_, rfl⟩
  rw [← ewb] at hcB hmB htB ⊢
  refine g_cmp_eq (tgt := 2012) C (by decide) dL_law_1267 (fun c_1267 => ?_) (fun c_1267 => absurd (rfl) c_1267)
  exact g_widen (by omega) (by omega) (g_sub rfl (K _ _ (ia_year hA hB) hcB hmB))

set_option maxHeartbeats 8000000 in
set_option maxRecDepth 100000 in
theorem law_20 {X : gw_X} (C : gw_ok X RL cL_law 7 20 601024 7293034) {L : Nat} {xs : Nat → Int32} (hX : gw_lx X L xs) {k n j9 : Nat} (hj : 4 * j9 + 3 < L) (hL : L ≤ 2048) (hk : k + 1 ≤ 601024 ∧ n + 6 ≤ 7293034) (A : cw_A) {na ma : Nat} (hA : cw_IA na ma A) (hB : cw_B (na + 21600) (ma + 2400)) {w : gw_M} (hc : cw_RC A w) (hm : cw_RM A (cw_ws 264 w))
    (K : ∀ (B : cw_A) (w1 : gw_M), cw_IA (na + 21600) (ma + 2400) B → cw_RC B w1 → cw_RM B (cw_ws 264 w1) → gw_G X sL 7 (k + 1) (n + 6) 2012 [(0, .ref 271), (1, .ref 252), (2, .ref 264), (3, .ref 263), (4, .int (nI (4 * j9)))] [] w1) : gw_G X sL 7 k n 1272 [(0, .ref 271), (1, .ref 252), (2, .ref 264), (3, .ref 263), (4, .int (nI (4 * j9)))] [] w := by
  refine g_aload_n C rfl dL_law_1272 ?_
  refine g_aload_n C rfl dL_law_1273 ?_
  refine g_iload C rfl dL_law_1274 ?_
  refine g_iconst (v := 1) C (by decide) dL_law_1276 ?_
  refine g_iadd C dL_law_1277 ?_
  refine g_scr C hX (j := 4 * j9 + 1) (nI_add (4 * j9) 1) (by omega) (by omega) dL_law_1278 ?_
  refine g_aload_n C rfl dL_law_1279 ?_
  refine g_iload C rfl dL_law_1280 ?_
  refine g_iconst (v := 2) C (by decide) dL_law_1282 ?_
  refine g_iadd C dL_law_1283 ?_
  refine g_scr C hX (j := 4 * j9 + 2) (nI_add (4 * j9) 2) (by omega) (by omega) dL_law_1284 ?_
  refine g_aload_n C rfl dL_law_1285 ?_
  refine g_callL C (gw_lx_st hX) cw_emb_LO (ok_L_set A hA hB (xs (4 * j9 + 1)) (xs (4 * j9 + 2))) my_L_set si_L_181 (by decide) ⟨by omega, by omega⟩ rfl (cw_wpo w) cw_wpo_i cw_wpo_o w (fun _ _ => rfl) (Nat.le_of_ble_eq_true rfl) dL_law_1286 rfl hc (fun v_1286 w_1286 hp_1286 => ?_)
  obtain ⟨rfl, hv1, hc1⟩ := hp_1286
  have hcA : cw_RC (sp_set A (xs (4 * j9 + 1)) (xs (4 * j9 + 2))).2.2 (cw_wpo w w_1286) := hc1.low (fun q hq => if_pos (by omega))
  have hmA : cw_RM A (cw_ws 264 (cw_wpo w w_1286)) := cw_RM_low hm (fun q hq => if_neg (by omega))
  have hvA : (sp_set A (xs (4 * j9 + 1)) (xs (4 * j9 + 2))).1 = 0 → cw_wpo w w_1286 263 0 = (sp_set A (xs (4 * j9 + 1)) (xs (4 * j9 + 2))).2.1 := fun z => (congrFun (cw_wpo_i (w := w) w_1286 263 (by decide)) 0).trans (hv1 z)
  obtain ⟨wa, ewa⟩ : ∃ z, z = cw_wpo w w_1286 := ⟨_, rfl⟩
  rw [← ewa] at hcA hmA hvA ⊢
  refine g_istore C (by decide) dL_law_1289 ?_
  refine g_aload_n C rfl dL_law_1291 ?_
  refine g_aload_n C rfl dL_law_1292 ?_
  refine g_iload C rfl dL_law_1293 ?_
  refine g_iconst (v := 1) C (by decide) dL_law_1295 ?_
  refine g_iadd C dL_law_1296 ?_
  refine g_scr C hX (j := 4 * j9 + 1) (nI_add (4 * j9) 1) (by omega) (by omega) dL_law_1297 ?_
  refine g_aload_n C rfl dL_law_1298 ?_
  refine g_iload C rfl dL_law_1299 ?_
  refine g_iconst (v := 2) C (by decide) dL_law_1301 ?_
  refine g_iadd C dL_law_1302 ?_
  refine g_scr C hX (j := 4 * j9 + 2) (nI_add (4 * j9) 2) (by omega) (by omega) dL_law_1303 ?_
  refine g_callW C cw_emb_LM (ok_X7_set (xs (4 * j9 + 1)) (xs (4 * j9 + 2)) A hA.1 (cw_B_le2 hB (by omega) (by omega))) my_X7_set vi_L_183 (by decide) ⟨by omega, by omega⟩ rfl ((cw_emb_LM.1 0 (by decide))) rfl (cw_wp 264 7 wa) (cw_wp_i) (cw_wp_o) (cw_ws 264 wa) (fun i _ => rfl) (Nat.le_of_ble_eq_true rfl) dL_law_1304 rfl (hmA) (fun v_1304 w_1304 hp_1304 => ?_)
  obtain ⟨rfl, ht1304, hm1304⟩ := hp_1304
  have hcB : cw_RC (sp_set A (xs (4 * j9 + 1)) (xs (4 * j9 + 2))).2.2 (cw_wp 264 7 wa w_1304) := hcA.low (fun q hq => cw_wp_out _ _ (by omega))
  have hmB : cw_RM (sp_set A (xs (4 * j9 + 1)) (xs (4 * j9 + 2))).2.2 (cw_ws 264 (cw_wp 264 7 wa w_1304)) := cw_RM_low hm1304 (fun q hq => cw_wp_i _ q hq)
  have htB : cw_wp 264 7 wa w_1304 264 0 = (sp_set A (xs (4 * j9 + 1)) (xs (4 * j9 + 2))).1 := (congrFun (cw_wp_i (b := 264) (n := 7) (w := wa) w_1304 0 (by decide)) 0).trans ht1304
  have hvB : (sp_set A (xs (4 * j9 + 1)) (xs (4 * j9 + 2))).1 = 0 → cw_wp 264 7 wa w_1304 263 0 = (sp_set A (xs (4 * j9 + 1)) (xs (4 * j9 + 2))).2.1 := fun z => (congrFun (cw_wp_out (b := 264) (n := 7) wa w_1304 (q := 263) (by decide)) 0).trans (hvA z)
  obtain ⟨wb, ewb⟩ : ∃ z, z = cw_wp 264 7 wa w_1304 := ⟨_, rfl⟩
  rw [← ewb] at hcB hmB htB hvB ⊢
  refine g_istore C (by decide) dL_law_1307 ?_
  refine g_aload_n C rfl dL_law_1309 ?_
  refine g_callW C cw_emb_LM (ok_X7_thrown) my_X7_thrown vi_L_113 (by decide) ⟨by omega, by omega⟩ rfl ((cw_emb_LM.1 0 (by decide))) rfl (cw_wp 264 7 wb) (cw_wp_i) (cw_wp_o) (cw_ws 264 wb) (fun i _ => rfl) (Nat.le_of_ble_eq_true rfl) dL_law_1310 rfl (trivial) (fun v_1310 w_1310 hp_1310 => ?_)
  obtain ⟨rfl, hw_1310⟩ := hp_1310
  have hw_1310 := hw_1310.symm; subst hw_1310
  rw [cw_wp_ws]
  refine g_top htB ?_
  refine g_iload C rfl dL_law_1313 ?_
  refine g_cmp_eq (tgt := 1320) C (by decide) dL_law_1315 (fun c_1315 => ?_) (fun c_1315 => absurd (rfl) c_1315)
  refine g_iload C rfl dL_law_1320 ?_
  refine g_if_ne (tgt := 1337) C (by decide) dL_law_1322 (fun c_1322 => ?_) (fun c_1322 => ?_)
  · refine g_goto (tgt := 2012) C (by decide) dL_law_1337 ?_
    exact g_sub rfl (K _ _ (ia_set hA hB (xs (4 * j9 + 1)) (xs (4 * j9 + 2))) hcB hmB)
  · refine g_aload_n C rfl dL_law_1325 ?_
    refine g_iconst (v := 0) C (by decide) dL_law_1326 ?_
    refine g_lald (j := 0) C rfl (rfl) (by decide) (by decide) dL_law_1327 ?_
    refine g_topl (congrArg Int32.toInt64 (hvB c_1322)) ?_
    refine g_iload C rfl dL_law_1328 ?_
    refine g_i2l C dL_law_1330 ?_
    refine g_lcmp C dL_law_1331 ?_
    refine g_if_eq (tgt := 1337) C (by decide) dL_law_1332 (fun c_1332 => ?_) (fun c_1332 => absurd ((cw_cmp0 _ _).mpr rfl) c_1332)
    refine g_goto (tgt := 2012) C (by decide) dL_law_1337 ?_
    exact g_sub rfl (K _ _ (ia_set hA hB (xs (4 * j9 + 1)) (xs (4 * j9 + 2))) hcB hmB)

set_option maxHeartbeats 8000000 in
set_option maxRecDepth 100000 in
theorem law_21 {X : gw_X} (C : gw_ok X RL cL_law 7 20 601024 7293034) {L : Nat} {xs : Nat → Int32} (hX : gw_lx X L xs) {k n j9 : Nat} (hj : 4 * j9 + 3 < L) (hL : L ≤ 2048) (hk : k + 1 ≤ 601024 ∧ n + 6 ≤ 7293034) (A : cw_A) {na ma : Nat} (hA : cw_IA na ma A) (hB : cw_B (na + 21600) (ma + 2400)) {w : gw_M} (hc : cw_RC A w) (hm : cw_RM A (cw_ws 264 w))
    (K : ∀ (B : cw_A) (w1 : gw_M), cw_IA (na + 21600) (ma + 2400) B → cw_RC B w1 → cw_RM B (cw_ws 264 w1) → gw_G X sL 7 (k + 1) (n + 6) 2012 [(0, .ref 271), (1, .ref 252), (2, .ref 264), (3, .ref 263), (4, .int (nI (4 * j9)))] [] w1) : gw_G X sL 7 k n 1340 [(0, .ref 271), (1, .ref 252), (2, .ref 264), (3, .ref 263), (4, .int (nI (4 * j9)))] [] w := by
  refine g_aload_n C rfl dL_law_1340 ?_
  refine g_aload_n C rfl dL_law_1341 ?_
  refine g_callL C (gw_lx_st hX) cw_emb_LO (ok_L_undo A hA hB) my_L_undo si_L_184 (by decide) ⟨by omega, by omega⟩ rfl (cw_wpo w) cw_wpo_i cw_wpo_o w (fun _ _ => rfl) (Nat.le_of_ble_eq_true rfl) dL_law_1342 rfl hc (fun v_1342 w_1342 hp_1342 => ?_)
  obtain ⟨rfl, hv1, hc1⟩ := hp_1342
  have hcA : cw_RC (sp_undo A).2.2 (cw_wpo w w_1342) := hc1.low (fun q hq => if_pos (by omega))
  have hmA : cw_RM A (cw_ws 264 (cw_wpo w w_1342)) := cw_RM_low hm (fun q hq => if_neg (by omega))
  have hvA : (sp_undo A).1 = 0 → cw_wpo w w_1342 263 0 = (sp_undo A).2.1 := fun z => (congrFun (cw_wpo_i (w := w) w_1342 263 (by decide)) 0).trans (hv1 z)
  obtain ⟨wa, ewa⟩ : ∃ z, z = cw_wpo w w_1342 := ⟨_, rfl⟩
  rw [← ewa] at hcA hmA hvA ⊢
  refine g_istore C (by decide) dL_law_1345 ?_
  refine g_aload_n C rfl dL_law_1347 ?_
  refine g_callW C cw_emb_LM (ok_X7_undo A hA.1 (cw_B_le2 hB (by omega) (by omega))) my_X7_undo vi_L_186 (by decide) ⟨by omega, by omega⟩ rfl ((cw_emb_LM.1 0 (by decide))) rfl (cw_wp 264 7 wa) (cw_wp_i) (cw_wp_o) (cw_ws 264 wa) (fun i _ => rfl) (Nat.le_of_ble_eq_true rfl) dL_law_1348 rfl (hmA) (fun v_1348 w_1348 hp_1348 => ?_)
  obtain ⟨rfl, ht1348, hm1348⟩ := hp_1348
  have hcB : cw_RC (sp_undo A).2.2 (cw_wp 264 7 wa w_1348) := hcA.low (fun q hq => cw_wp_out _ _ (by omega))
  have hmB : cw_RM (sp_undo A).2.2 (cw_ws 264 (cw_wp 264 7 wa w_1348)) := cw_RM_low hm1348 (fun q hq => cw_wp_i _ q hq)
  have htB : cw_wp 264 7 wa w_1348 264 0 = (sp_undo A).1 := (congrFun (cw_wp_i (b := 264) (n := 7) (w := wa) w_1348 0 (by decide)) 0).trans ht1348
  have hvB : (sp_undo A).1 = 0 → cw_wp 264 7 wa w_1348 263 0 = (sp_undo A).2.1 := fun z => (congrFun (cw_wp_out (b := 264) (n := 7) wa w_1348 (q := 263) (by decide)) 0).trans (hvA z)
  obtain ⟨wb, ewb⟩ : ∃ z, z = cw_wp 264 7 wa w_1348 := ⟨_, rfl⟩
  rw [← ewb] at hcB hmB htB hvB ⊢
  refine g_istore C (by decide) dL_law_1351 ?_
  refine g_aload_n C rfl dL_law_1353 ?_
  refine g_callW C cw_emb_LM (ok_X7_thrown) my_X7_thrown vi_L_113 (by decide) ⟨by omega, by omega⟩ rfl ((cw_emb_LM.1 0 (by decide))) rfl (cw_wp 264 7 wb) (cw_wp_i) (cw_wp_o) (cw_ws 264 wb) (fun i _ => rfl) (Nat.le_of_ble_eq_true rfl) dL_law_1354 rfl (trivial) (fun v_1354 w_1354 hp_1354 => ?_)
  obtain ⟨rfl, hw_1354⟩ := hp_1354
  have hw_1354 := hw_1354.symm; subst hw_1354
  rw [cw_wp_ws]
  refine g_top htB ?_
  refine g_iload C rfl dL_law_1357 ?_
  refine g_cmp_eq (tgt := 1364) C (by decide) dL_law_1359 (fun c_1359 => ?_) (fun c_1359 => absurd (rfl) c_1359)
  refine g_iload C rfl dL_law_1364 ?_
  refine g_if_ne (tgt := 1381) C (by decide) dL_law_1366 (fun c_1366 => ?_) (fun c_1366 => ?_)
  · refine g_goto (tgt := 2012) C (by decide) dL_law_1381 ?_
    exact g_sub rfl (K _ _ (ia_undo hA hB) hcB hmB)
  · refine g_aload_n C rfl dL_law_1369 ?_
    refine g_iconst (v := 0) C (by decide) dL_law_1370 ?_
    refine g_lald (j := 0) C rfl (rfl) (by decide) (by decide) dL_law_1371 ?_
    refine g_topl (congrArg Int32.toInt64 (hvB c_1366)) ?_
    refine g_iload C rfl dL_law_1372 ?_
    refine g_i2l C dL_law_1374 ?_
    refine g_lcmp C dL_law_1375 ?_
    refine g_if_eq (tgt := 1381) C (by decide) dL_law_1376 (fun c_1376 => ?_) (fun c_1376 => absurd ((cw_cmp0 _ _).mpr rfl) c_1376)
    refine g_goto (tgt := 2012) C (by decide) dL_law_1381 ?_
    exact g_sub rfl (K _ _ (ia_undo hA hB) hcB hmB)

set_option maxHeartbeats 8000000 in
set_option maxRecDepth 100000 in
theorem law_22 {X : gw_X} (C : gw_ok X RL cL_law 7 20 601024 7293034) {L : Nat} {xs : Nat → Int32} (hX : gw_lx X L xs) {k n j9 : Nat} (hj : 4 * j9 + 3 < L) (hL : L ≤ 2048) (hk : k + 1 ≤ 601024 ∧ n + 6 ≤ 7293034) (A : cw_A) {na ma : Nat} (hA : cw_IA na ma A) (hB : cw_B (na + 21600) (ma + 2400)) {w : gw_M} (hc : cw_RC A w) (hm : cw_RM A (cw_ws 264 w))
    (K : ∀ (B : cw_A) (w1 : gw_M), cw_IA (na + 21600) (ma + 2400) B → cw_RC B w1 → cw_RM B (cw_ws 264 w1) → gw_G X sL 7 (k + 1) (n + 6) 2012 [(0, .ref 271), (1, .ref 252), (2, .ref 264), (3, .ref 263), (4, .int (nI (4 * j9)))] [] w1) : gw_G X sL 7 k n 1384 [(0, .ref 271), (1, .ref 252), (2, .ref 264), (3, .ref 263), (4, .int (nI (4 * j9)))] [] w := by
  refine g_aload_n C rfl dL_law_1384 ?_
  refine g_aload_n C rfl dL_law_1385 ?_
  refine g_iload C rfl dL_law_1386 ?_
  refine g_iconst (v := 1) C (by decide) dL_law_1388 ?_
  refine g_iadd C dL_law_1389 ?_
  refine g_scr C hX (j := 4 * j9 + 1) (nI_add (4 * j9) 1) (by omega) (by omega) dL_law_1390 ?_
  refine g_aload_n C rfl dL_law_1391 ?_
  refine g_iload C rfl dL_law_1392 ?_
  refine g_iconst (v := 2) C (by decide) dL_law_1394 ?_
  refine g_iadd C dL_law_1395 ?_
  refine g_scr C hX (j := 4 * j9 + 2) (nI_add (4 * j9) 2) (by omega) (by omega) dL_law_1396 ?_
  refine g_aload_n C rfl dL_law_1397 ?_
  refine g_callL C (gw_lx_st hX) cw_emb_LO (ok_L_why A hA hB (xs (4 * j9 + 1)) (xs (4 * j9 + 2))) my_L_why si_L_187 (by decide) ⟨by omega, by omega⟩ rfl (cw_wpo w) cw_wpo_i cw_wpo_o w (fun _ _ => rfl) (Nat.le_of_ble_eq_true rfl) dL_law_1398 rfl hc (fun v_1398 w_1398 hp_1398 => ?_)
  obtain ⟨rfl, hv1, hc1⟩ := hp_1398
  have hcA : cw_RC (sp_why A (xs (4 * j9 + 1)) (xs (4 * j9 + 2))).2.2 (cw_wpo w w_1398) := hc1.low (fun q hq => if_pos (by omega))
  have hmA : cw_RM A (cw_ws 264 (cw_wpo w w_1398)) := cw_RM_low hm (fun q hq => if_neg (by omega))
  have hvA : (sp_why A (xs (4 * j9 + 1)) (xs (4 * j9 + 2))).1 = 0 → cw_wpo w w_1398 263 0 = (sp_why A (xs (4 * j9 + 1)) (xs (4 * j9 + 2))).2.1 := fun z => (congrFun (cw_wpo_i (w := w) w_1398 263 (by decide)) 0).trans (hv1 z)
  obtain ⟨wa, ewa⟩ : ∃ z, z = cw_wpo w w_1398 := ⟨_, rfl⟩
  rw [← ewa] at hcA hmA hvA ⊢
  refine g_istore C (by decide) dL_law_1401 ?_
  refine g_aload_n C rfl dL_law_1403 ?_
  refine g_aload_n C rfl dL_law_1404 ?_
  refine g_iload C rfl dL_law_1405 ?_
  refine g_iconst (v := 1) C (by decide) dL_law_1407 ?_
  refine g_iadd C dL_law_1408 ?_
  refine g_scr C hX (j := 4 * j9 + 1) (nI_add (4 * j9) 1) (by omega) (by omega) dL_law_1409 ?_
  refine g_aload_n C rfl dL_law_1410 ?_
  refine g_iload C rfl dL_law_1411 ?_
  refine g_iconst (v := 2) C (by decide) dL_law_1413 ?_
  refine g_iadd C dL_law_1414 ?_
  refine g_scr C hX (j := 4 * j9 + 2) (nI_add (4 * j9) 2) (by omega) (by omega) dL_law_1415 ?_
  refine g_callW C cw_emb_LM (ok_X7_why (xs (4 * j9 + 1)) (xs (4 * j9 + 2)) A hA.1 (cw_B_le2 hB (by omega) (by omega))) my_X7_why vi_L_189 (by decide) ⟨by omega, by omega⟩ rfl ((cw_emb_LM.1 0 (by decide))) rfl (cw_wp 264 7 wa) (cw_wp_i) (cw_wp_o) (cw_ws 264 wa) (fun i _ => rfl) (Nat.le_of_ble_eq_true rfl) dL_law_1416 rfl (hmA) (fun v_1416 w_1416 hp_1416 => ?_)
  obtain ⟨rfl, ht1416, hm1416⟩ := hp_1416
  have hcB : cw_RC (sp_why A (xs (4 * j9 + 1)) (xs (4 * j9 + 2))).2.2 (cw_wp 264 7 wa w_1416) := hcA.low (fun q hq => cw_wp_out _ _ (by omega))
  have hmB : cw_RM (sp_why A (xs (4 * j9 + 1)) (xs (4 * j9 + 2))).2.2 (cw_ws 264 (cw_wp 264 7 wa w_1416)) := cw_RM_low hm1416 (fun q hq => cw_wp_i _ q hq)
  have htB : cw_wp 264 7 wa w_1416 264 0 = (sp_why A (xs (4 * j9 + 1)) (xs (4 * j9 + 2))).1 := (congrFun (cw_wp_i (b := 264) (n := 7) (w := wa) w_1416 0 (by decide)) 0).trans ht1416
  have hvB : (sp_why A (xs (4 * j9 + 1)) (xs (4 * j9 + 2))).1 = 0 → cw_wp 264 7 wa w_1416 263 0 = (sp_why A (xs (4 * j9 + 1)) (xs (4 * j9 + 2))).2.1 := fun z => (congrFun (cw_wp_out (b := 264) (n := 7) wa w_1416 (q := 263) (by decide)) 0).trans (hvA z)
  obtain ⟨wb, ewb⟩ : ∃ z, z = cw_wp 264 7 wa w_1416 := ⟨_, rfl⟩
  rw [← ewb] at hcB hmB htB hvB ⊢
  refine g_istore C (by decide) dL_law_1419 ?_
  refine g_aload_n C rfl dL_law_1421 ?_
  refine g_callW C cw_emb_LM (ok_X7_thrown) my_X7_thrown vi_L_113 (by decide) ⟨by omega, by omega⟩ rfl ((cw_emb_LM.1 0 (by decide))) rfl (cw_wp 264 7 wb) (cw_wp_i) (cw_wp_o) (cw_ws 264 wb) (fun i _ => rfl) (Nat.le_of_ble_eq_true rfl) dL_law_1422 rfl (trivial) (fun v_1422 w_1422 hp_1422 => ?_)
  obtain ⟨rfl, hw_1422⟩ := hp_1422
  have hw_1422 := hw_1422.symm; subst hw_1422
  rw [cw_wp_ws]
  refine g_top htB ?_
  refine g_iload C rfl dL_law_1425 ?_
  refine g_cmp_eq (tgt := 1432) C (by decide) dL_law_1427 (fun c_1427 => ?_) (fun c_1427 => absurd (rfl) c_1427)
  refine g_iload C rfl dL_law_1432 ?_
  refine g_if_ne (tgt := 1449) C (by decide) dL_law_1434 (fun c_1434 => ?_) (fun c_1434 => ?_)
  · refine g_goto (tgt := 2012) C (by decide) dL_law_1449 ?_
    exact g_sub rfl (K _ _ (ia_why hA hB (xs (4 * j9 + 1)) (xs (4 * j9 + 2))) hcB hmB)
  · refine g_aload_n C rfl dL_law_1437 ?_
    refine g_iconst (v := 0) C (by decide) dL_law_1438 ?_
    refine g_lald (j := 0) C rfl (rfl) (by decide) (by decide) dL_law_1439 ?_
    refine g_topl (congrArg Int32.toInt64 (hvB c_1434)) ?_
    refine g_iload C rfl dL_law_1440 ?_
    refine g_i2l C dL_law_1442 ?_
    refine g_lcmp C dL_law_1443 ?_
    refine g_if_eq (tgt := 1449) C (by decide) dL_law_1444 (fun c_1444 => ?_) (fun c_1444 => absurd ((cw_cmp0 _ _).mpr rfl) c_1444)
    refine g_goto (tgt := 2012) C (by decide) dL_law_1449 ?_
    exact g_sub rfl (K _ _ (ia_why hA hB (xs (4 * j9 + 1)) (xs (4 * j9 + 2))) hcB hmB)

set_option maxHeartbeats 8000000 in
set_option maxRecDepth 100000 in
theorem law_23 {X : gw_X} (C : gw_ok X RL cL_law 7 20 601024 7293034) {L : Nat} {xs : Nat → Int32} (hX : gw_lx X L xs) {k n j9 : Nat} (hj : 4 * j9 + 3 < L) (hL : L ≤ 2048) (hk : k + 1 ≤ 601024 ∧ n + 6 ≤ 7293034) (A : cw_A) {na ma : Nat} (hA : cw_IA na ma A) (hB : cw_B (na + 21600) (ma + 2400)) {w : gw_M} (hc : cw_RC A w) (hm : cw_RM A (cw_ws 264 w))
    (K : ∀ (B : cw_A) (w1 : gw_M), cw_IA (na + 21600) (ma + 2400) B → cw_RC B w1 → cw_RM B (cw_ws 264 w1) → gw_G X sL 7 (k + 1) (n + 6) 2012 [(0, .ref 271), (1, .ref 252), (2, .ref 264), (3, .ref 263), (4, .int (nI (4 * j9)))] [] w1) : gw_G X sL 7 k n 1452 [(0, .ref 271), (1, .ref 252), (2, .ref 264), (3, .ref 263), (4, .int (nI (4 * j9)))] [] w := by
  refine g_aload_n C rfl dL_law_1452 ?_
  refine g_aload_n C rfl dL_law_1453 ?_
  refine g_iload C rfl dL_law_1454 ?_
  refine g_iconst (v := 1) C (by decide) dL_law_1456 ?_
  refine g_iadd C dL_law_1457 ?_
  refine g_scr C hX (j := 4 * j9 + 1) (nI_add (4 * j9) 1) (by omega) (by omega) dL_law_1458 ?_
  refine g_aload_n C rfl dL_law_1459 ?_
  refine g_callL C (gw_lx_st hX) cw_emb_LO (ok_L_could A hA hB (xs (4 * j9 + 1))) my_L_could si_L_190 (by decide) ⟨by omega, by omega⟩ rfl (cw_wpo w) cw_wpo_i cw_wpo_o w (fun _ _ => rfl) (Nat.le_of_ble_eq_true rfl) dL_law_1460 rfl hc (fun v_1460 w_1460 hp_1460 => ?_)
  obtain ⟨rfl, hv1, hc1⟩ := hp_1460
  have hcA : cw_RC (sp_could A (xs (4 * j9 + 1))).2.2 (cw_wpo w w_1460) := hc1.low (fun q hq => if_pos (by omega))
  have hmA : cw_RM A (cw_ws 264 (cw_wpo w w_1460)) := cw_RM_low hm (fun q hq => if_neg (by omega))
  have hvA : (sp_could A (xs (4 * j9 + 1))).1 = 0 → cw_wpo w w_1460 263 0 = (sp_could A (xs (4 * j9 + 1))).2.1 := fun z => (congrFun (cw_wpo_i (w := w) w_1460 263 (by decide)) 0).trans (hv1 z)
  obtain ⟨wa, ewa⟩ : ∃ z, z = cw_wpo w w_1460 := ⟨_, rfl⟩
  rw [← ewa] at hcA hmA hvA ⊢
  refine g_istore C (by decide) dL_law_1463 ?_
  refine g_aload_n C rfl dL_law_1465 ?_
  refine g_aload_n C rfl dL_law_1466 ?_
  refine g_iload C rfl dL_law_1467 ?_
  refine g_iconst (v := 1) C (by decide) dL_law_1469 ?_
  refine g_iadd C dL_law_1470 ?_
  refine g_scr C hX (j := 4 * j9 + 1) (nI_add (4 * j9) 1) (by omega) (by omega) dL_law_1471 ?_
  refine g_callW C cw_emb_LM (ok_X7_could (xs (4 * j9 + 1)) A hA.1 (cw_B_le2 hB (by omega) (by omega))) my_X7_could vi_L_192 (by decide) ⟨by omega, by omega⟩ rfl ((cw_emb_LM.1 0 (by decide))) rfl (cw_wp 264 7 wa) (cw_wp_i) (cw_wp_o) (cw_ws 264 wa) (fun i _ => rfl) (Nat.le_of_ble_eq_true rfl) dL_law_1472 rfl (hmA) (fun v_1472 w_1472 hp_1472 => ?_)
  obtain ⟨rfl, ht1472, hm1472⟩ := hp_1472
  have hcB : cw_RC (sp_could A (xs (4 * j9 + 1))).2.2 (cw_wp 264 7 wa w_1472) := hcA.low (fun q hq => cw_wp_out _ _ (by omega))
  have hmB : cw_RM (sp_could A (xs (4 * j9 + 1))).2.2 (cw_ws 264 (cw_wp 264 7 wa w_1472)) := cw_RM_low hm1472 (fun q hq => cw_wp_i _ q hq)
  have htB : cw_wp 264 7 wa w_1472 264 0 = (sp_could A (xs (4 * j9 + 1))).1 := (congrFun (cw_wp_i (b := 264) (n := 7) (w := wa) w_1472 0 (by decide)) 0).trans ht1472
  have hvB : (sp_could A (xs (4 * j9 + 1))).1 = 0 → cw_wp 264 7 wa w_1472 263 0 = (sp_could A (xs (4 * j9 + 1))).2.1 := fun z => (congrFun (cw_wp_out (b := 264) (n := 7) wa w_1472 (q := 263) (by decide)) 0).trans (hvA z)
  obtain ⟨wb, ewb⟩ : ∃ z, z = cw_wp 264 7 wa w_1472 := ⟨_, rfl⟩
  rw [← ewb] at hcB hmB htB hvB ⊢
  refine g_istore C (by decide) dL_law_1475 ?_
  refine g_aload_n C rfl dL_law_1477 ?_
  refine g_callW C cw_emb_LM (ok_X7_thrown) my_X7_thrown vi_L_113 (by decide) ⟨by omega, by omega⟩ rfl ((cw_emb_LM.1 0 (by decide))) rfl (cw_wp 264 7 wb) (cw_wp_i) (cw_wp_o) (cw_ws 264 wb) (fun i _ => rfl) (Nat.le_of_ble_eq_true rfl) dL_law_1478 rfl (trivial) (fun v_1478 w_1478 hp_1478 => ?_)
  obtain ⟨rfl, hw_1478⟩ := hp_1478
  have hw_1478 := hw_1478.symm; subst hw_1478
  rw [cw_wp_ws]
  refine g_top htB ?_
  refine g_iload C rfl dL_law_1481 ?_
  refine g_cmp_eq (tgt := 1488) C (by decide) dL_law_1483 (fun c_1483 => ?_) (fun c_1483 => absurd (rfl) c_1483)
  refine g_iload C rfl dL_law_1488 ?_
  refine g_if_ne (tgt := 1505) C (by decide) dL_law_1490 (fun c_1490 => ?_) (fun c_1490 => ?_)
  · refine g_goto (tgt := 2012) C (by decide) dL_law_1505 ?_
    exact g_sub rfl (K _ _ (ia_could hA hB (xs (4 * j9 + 1))) hcB hmB)
  · refine g_aload_n C rfl dL_law_1493 ?_
    refine g_iconst (v := 0) C (by decide) dL_law_1494 ?_
    refine g_lald (j := 0) C rfl (rfl) (by decide) (by decide) dL_law_1495 ?_
    refine g_topl (congrArg Int32.toInt64 (hvB c_1490)) ?_
    refine g_iload C rfl dL_law_1496 ?_
    refine g_i2l C dL_law_1498 ?_
    refine g_lcmp C dL_law_1499 ?_
    refine g_if_eq (tgt := 1505) C (by decide) dL_law_1500 (fun c_1500 => ?_) (fun c_1500 => absurd ((cw_cmp0 _ _).mpr rfl) c_1500)
    refine g_goto (tgt := 2012) C (by decide) dL_law_1505 ?_
    exact g_sub rfl (K _ _ (ia_could hA hB (xs (4 * j9 + 1))) hcB hmB)

set_option maxHeartbeats 8000000 in
set_option maxRecDepth 100000 in
theorem law_24 {X : gw_X} (C : gw_ok X RL cL_law 7 20 601024 7293034) {L : Nat} {xs : Nat → Int32} (hX : gw_lx X L xs) {k n j9 : Nat} (hj : 4 * j9 + 3 < L) (hL : L ≤ 2048) (hk : k + 1 ≤ 601024 ∧ n + 6 ≤ 7293034) (A : cw_A) {na ma : Nat} (hA : cw_IA na ma A) (hB : cw_B (na + 21600) (ma + 2400)) {w : gw_M} (hc : cw_RC A w) (hm : cw_RM A (cw_ws 264 w))
    (K : ∀ (B : cw_A) (w1 : gw_M), cw_IA (na + 21600) (ma + 2400) B → cw_RC B w1 → cw_RM B (cw_ws 264 w1) → gw_G X sL 7 (k + 1) (n + 6) 2012 [(0, .ref 271), (1, .ref 252), (2, .ref 264), (3, .ref 263), (4, .int (nI (4 * j9)))] [] w1) : gw_G X sL 7 k n 1508 [(0, .ref 271), (1, .ref 252), (2, .ref 264), (3, .ref 263), (4, .int (nI (4 * j9)))] [] w := by
  refine g_aload_n C rfl dL_law_1508 ?_
  refine g_aload_n C rfl dL_law_1509 ?_
  refine g_iload C rfl dL_law_1510 ?_
  refine g_iconst (v := 1) C (by decide) dL_law_1512 ?_
  refine g_iadd C dL_law_1513 ?_
  refine g_scr C hX (j := 4 * j9 + 1) (nI_add (4 * j9) 1) (by omega) (by omega) dL_law_1514 ?_
  refine g_aload_n C rfl dL_law_1515 ?_
  refine g_callL C (gw_lx_st hX) cw_emb_LO (ok_L_winner A hA hB (xs (4 * j9 + 1))) my_L_winner si_L_193 (by decide) ⟨by omega, by omega⟩ rfl (cw_wpo w) cw_wpo_i cw_wpo_o w (fun _ _ => rfl) (Nat.le_of_ble_eq_true rfl) dL_law_1516 rfl hc (fun v_1516 w_1516 hp_1516 => ?_)
  obtain ⟨rfl, hv1, hc1⟩ := hp_1516
  have hcA : cw_RC (sp_winner A (xs (4 * j9 + 1))).2.2 (cw_wpo w w_1516) := hc1.low (fun q hq => if_pos (by omega))
  have hmA : cw_RM A (cw_ws 264 (cw_wpo w w_1516)) := cw_RM_low hm (fun q hq => if_neg (by omega))
  have hvA : (sp_winner A (xs (4 * j9 + 1))).1 = 0 → cw_wpo w w_1516 263 0 = (sp_winner A (xs (4 * j9 + 1))).2.1 := fun z => (congrFun (cw_wpo_i (w := w) w_1516 263 (by decide)) 0).trans (hv1 z)
  obtain ⟨wa, ewa⟩ : ∃ z, z = cw_wpo w w_1516 := ⟨_, rfl⟩
  rw [← ewa] at hcA hmA hvA ⊢
  refine g_istore C (by decide) dL_law_1519 ?_
  refine g_aload_n C rfl dL_law_1521 ?_
  refine g_aload_n C rfl dL_law_1522 ?_
  refine g_iload C rfl dL_law_1523 ?_
  refine g_iconst (v := 1) C (by decide) dL_law_1525 ?_
  refine g_iadd C dL_law_1526 ?_
  refine g_scr C hX (j := 4 * j9 + 1) (nI_add (4 * j9) 1) (by omega) (by omega) dL_law_1527 ?_
  refine g_callW C cw_emb_LM (ok_X7_winner (xs (4 * j9 + 1)) A hA.1 (cw_B_le2 hB (by omega) (by omega))) my_X7_winner vi_L_195 (by decide) ⟨by omega, by omega⟩ rfl ((cw_emb_LM.1 0 (by decide))) rfl (cw_wp 264 7 wa) (cw_wp_i) (cw_wp_o) (cw_ws 264 wa) (fun i _ => rfl) (Nat.le_of_ble_eq_true rfl) dL_law_1528 rfl (hmA) (fun v_1528 w_1528 hp_1528 => ?_)
  obtain ⟨rfl, ht1528, hm1528⟩ := hp_1528
  have hcB : cw_RC (sp_winner A (xs (4 * j9 + 1))).2.2 (cw_wp 264 7 wa w_1528) := hcA.low (fun q hq => cw_wp_out _ _ (by omega))
  have hmB : cw_RM (sp_winner A (xs (4 * j9 + 1))).2.2 (cw_ws 264 (cw_wp 264 7 wa w_1528)) := cw_RM_low hm1528 (fun q hq => cw_wp_i _ q hq)
  have htB : cw_wp 264 7 wa w_1528 264 0 = (sp_winner A (xs (4 * j9 + 1))).1 := (congrFun (cw_wp_i (b := 264) (n := 7) (w := wa) w_1528 0 (by decide)) 0).trans ht1528
  have hvB : (sp_winner A (xs (4 * j9 + 1))).1 = 0 → cw_wp 264 7 wa w_1528 263 0 = (sp_winner A (xs (4 * j9 + 1))).2.1 := fun z => (congrFun (cw_wp_out (b := 264) (n := 7) wa w_1528 (q := 263) (by decide)) 0).trans (hvA z)
  obtain ⟨wb, ewb⟩ : ∃ z, z = cw_wp 264 7 wa w_1528 := ⟨_, rfl⟩
  rw [← ewb] at hcB hmB htB hvB ⊢
  refine g_istore C (by decide) dL_law_1531 ?_
  refine g_aload_n C rfl dL_law_1533 ?_
  refine g_callW C cw_emb_LM (ok_X7_thrown) my_X7_thrown vi_L_113 (by decide) ⟨by omega, by omega⟩ rfl ((cw_emb_LM.1 0 (by decide))) rfl (cw_wp 264 7 wb) (cw_wp_i) (cw_wp_o) (cw_ws 264 wb) (fun i _ => rfl) (Nat.le_of_ble_eq_true rfl) dL_law_1534 rfl (trivial) (fun v_1534 w_1534 hp_1534 => ?_)
  obtain ⟨rfl, hw_1534⟩ := hp_1534
  have hw_1534 := hw_1534.symm; subst hw_1534
  rw [cw_wp_ws]
  refine g_top htB ?_
  refine g_iload C rfl dL_law_1537 ?_
  refine g_cmp_eq (tgt := 1544) C (by decide) dL_law_1539 (fun c_1539 => ?_) (fun c_1539 => absurd (rfl) c_1539)
  refine g_iload C rfl dL_law_1544 ?_
  refine g_if_ne (tgt := 1561) C (by decide) dL_law_1546 (fun c_1546 => ?_) (fun c_1546 => ?_)
  · refine g_goto (tgt := 2012) C (by decide) dL_law_1561 ?_
    exact g_sub rfl (K _ _ (ia_winner hA hB (xs (4 * j9 + 1))) hcB hmB)
  · refine g_aload_n C rfl dL_law_1549 ?_
    refine g_iconst (v := 0) C (by decide) dL_law_1550 ?_
    refine g_lald (j := 0) C rfl (rfl) (by decide) (by decide) dL_law_1551 ?_
    refine g_topl (congrArg Int32.toInt64 (hvB c_1546)) ?_
    refine g_iload C rfl dL_law_1552 ?_
    refine g_i2l C dL_law_1554 ?_
    refine g_lcmp C dL_law_1555 ?_
    refine g_if_eq (tgt := 1561) C (by decide) dL_law_1556 (fun c_1556 => ?_) (fun c_1556 => absurd ((cw_cmp0 _ _).mpr rfl) c_1556)
    refine g_goto (tgt := 2012) C (by decide) dL_law_1561 ?_
    exact g_sub rfl (K _ _ (ia_winner hA hB (xs (4 * j9 + 1))) hcB hmB)

set_option maxHeartbeats 8000000 in
set_option maxRecDepth 100000 in
theorem law_25 {X : gw_X} (C : gw_ok X RL cL_law 7 20 601024 7293034) {L : Nat} {xs : Nat → Int32} (hX : gw_lx X L xs) {k n j9 : Nat} (hj : 4 * j9 + 3 < L) (hL : L ≤ 2048) (hk : k + 1 ≤ 601024 ∧ n + 6 ≤ 7293034) (A : cw_A) {na ma : Nat} (hA : cw_IA na ma A) (hB : cw_B (na + 21600) (ma + 2400)) {w : gw_M} (hc : cw_RC A w) (hm : cw_RM A (cw_ws 264 w))
    (K : ∀ (B : cw_A) (w1 : gw_M), cw_IA (na + 21600) (ma + 2400) B → cw_RC B w1 → cw_RM B (cw_ws 264 w1) → gw_G X sL 7 (k + 1) (n + 6) 2012 [(0, .ref 271), (1, .ref 252), (2, .ref 264), (3, .ref 263), (4, .int (nI (4 * j9)))] [] w1) : gw_G X sL 7 k n 1564 [(0, .ref 271), (1, .ref 252), (2, .ref 264), (3, .ref 263), (4, .int (nI (4 * j9)))] [] w := by
  refine g_aload_n C rfl dL_law_1564 ?_
  refine g_aload_n C rfl dL_law_1565 ?_
  refine g_iload C rfl dL_law_1566 ?_
  refine g_iconst (v := 1) C (by decide) dL_law_1568 ?_
  refine g_iadd C dL_law_1569 ?_
  refine g_scr C hX (j := 4 * j9 + 1) (nI_add (4 * j9) 1) (by omega) (by omega) dL_law_1570 ?_
  refine g_aload_n C rfl dL_law_1571 ?_
  refine g_iload C rfl dL_law_1572 ?_
  refine g_iconst (v := 2) C (by decide) dL_law_1574 ?_
  refine g_iadd C dL_law_1575 ?_
  refine g_scr C hX (j := 4 * j9 + 2) (nI_add (4 * j9) 2) (by omega) (by omega) dL_law_1576 ?_
  refine g_aload_n C rfl dL_law_1577 ?_
  refine g_callL C (gw_lx_st hX) cw_emb_LO (ok_L_leastBid A hA hB (xs (4 * j9 + 1)) (xs (4 * j9 + 2))) my_L_leastBid si_L_196 (by decide) ⟨by omega, by omega⟩ rfl (cw_wpo w) cw_wpo_i cw_wpo_o w (fun _ _ => rfl) (Nat.le_of_ble_eq_true rfl) dL_law_1578 rfl hc (fun v_1578 w_1578 hp_1578 => ?_)
  obtain ⟨rfl, hv1, hc1⟩ := hp_1578
  have hcA : cw_RC (sp_leastBid A (xs (4 * j9 + 1)) (xs (4 * j9 + 2))).2.2 (cw_wpo w w_1578) := hc1.low (fun q hq => if_pos (by omega))
  have hmA : cw_RM A (cw_ws 264 (cw_wpo w w_1578)) := cw_RM_low hm (fun q hq => if_neg (by omega))
  have hvA : (sp_leastBid A (xs (4 * j9 + 1)) (xs (4 * j9 + 2))).1 = 0 → cw_wpo w w_1578 263 0 = (sp_leastBid A (xs (4 * j9 + 1)) (xs (4 * j9 + 2))).2.1 := fun z => (congrFun (cw_wpo_i (w := w) w_1578 263 (by decide)) 0).trans (hv1 z)
  obtain ⟨wa, ewa⟩ : ∃ z, z = cw_wpo w w_1578 := ⟨_, rfl⟩
  rw [← ewa] at hcA hmA hvA ⊢
  refine g_istore C (by decide) dL_law_1581 ?_
  refine g_aload_n C rfl dL_law_1583 ?_
  refine g_aload_n C rfl dL_law_1584 ?_
  refine g_iload C rfl dL_law_1585 ?_
  refine g_iconst (v := 1) C (by decide) dL_law_1587 ?_
  refine g_iadd C dL_law_1588 ?_
  refine g_scr C hX (j := 4 * j9 + 1) (nI_add (4 * j9) 1) (by omega) (by omega) dL_law_1589 ?_
  refine g_aload_n C rfl dL_law_1590 ?_
  refine g_iload C rfl dL_law_1591 ?_
  refine g_iconst (v := 2) C (by decide) dL_law_1593 ?_
  refine g_iadd C dL_law_1594 ?_
  refine g_scr C hX (j := 4 * j9 + 2) (nI_add (4 * j9) 2) (by omega) (by omega) dL_law_1595 ?_
  refine g_callW C cw_emb_LM (ok_X7_leastBid (xs (4 * j9 + 1)) (xs (4 * j9 + 2)) A hA.1 (cw_B_le2 hB (by omega) (by omega))) my_X7_leastBid vi_L_198 (by decide) ⟨by omega, by omega⟩ rfl ((cw_emb_LM.1 0 (by decide))) rfl (cw_wp 264 7 wa) (cw_wp_i) (cw_wp_o) (cw_ws 264 wa) (fun i _ => rfl) (Nat.le_of_ble_eq_true rfl) dL_law_1596 rfl (hmA) (fun v_1596 w_1596 hp_1596 => ?_)
  obtain ⟨rfl, ht1596, hm1596⟩ := hp_1596
  have hcB : cw_RC (sp_leastBid A (xs (4 * j9 + 1)) (xs (4 * j9 + 2))).2.2 (cw_wp 264 7 wa w_1596) := hcA.low (fun q hq => cw_wp_out _ _ (by omega))
  have hmB : cw_RM (sp_leastBid A (xs (4 * j9 + 1)) (xs (4 * j9 + 2))).2.2 (cw_ws 264 (cw_wp 264 7 wa w_1596)) := cw_RM_low hm1596 (fun q hq => cw_wp_i _ q hq)
  have htB : cw_wp 264 7 wa w_1596 264 0 = (sp_leastBid A (xs (4 * j9 + 1)) (xs (4 * j9 + 2))).1 := (congrFun (cw_wp_i (b := 264) (n := 7) (w := wa) w_1596 0 (by decide)) 0).trans ht1596
  have hvB : (sp_leastBid A (xs (4 * j9 + 1)) (xs (4 * j9 + 2))).1 = 0 → cw_wp 264 7 wa w_1596 263 0 = (sp_leastBid A (xs (4 * j9 + 1)) (xs (4 * j9 + 2))).2.1 := fun z => (congrFun (cw_wp_out (b := 264) (n := 7) wa w_1596 (q := 263) (by decide)) 0).trans (hvA z)
  obtain ⟨wb, ewb⟩ : ∃ z, z = cw_wp 264 7 wa w_1596 := ⟨_, rfl⟩
  rw [← ewb] at hcB hmB htB hvB ⊢
  refine g_istore C (by decide) dL_law_1599 ?_
  refine g_aload_n C rfl dL_law_1601 ?_
  refine g_callW C cw_emb_LM (ok_X7_thrown) my_X7_thrown vi_L_113 (by decide) ⟨by omega, by omega⟩ rfl ((cw_emb_LM.1 0 (by decide))) rfl (cw_wp 264 7 wb) (cw_wp_i) (cw_wp_o) (cw_ws 264 wb) (fun i _ => rfl) (Nat.le_of_ble_eq_true rfl) dL_law_1602 rfl (trivial) (fun v_1602 w_1602 hp_1602 => ?_)
  obtain ⟨rfl, hw_1602⟩ := hp_1602
  have hw_1602 := hw_1602.symm; subst hw_1602
  rw [cw_wp_ws]
  refine g_top htB ?_
  refine g_iload C rfl dL_law_1605 ?_
  refine g_cmp_eq (tgt := 1612) C (by decide) dL_law_1607 (fun c_1607 => ?_) (fun c_1607 => absurd (rfl) c_1607)
  refine g_iload C rfl dL_law_1612 ?_
  refine g_if_ne (tgt := 1629) C (by decide) dL_law_1614 (fun c_1614 => ?_) (fun c_1614 => ?_)
  · refine g_goto (tgt := 2012) C (by decide) dL_law_1629 ?_
    exact g_sub rfl (K _ _ (ia_leastBid hA hB (xs (4 * j9 + 1)) (xs (4 * j9 + 2))) hcB hmB)
  · refine g_aload_n C rfl dL_law_1617 ?_
    refine g_iconst (v := 0) C (by decide) dL_law_1618 ?_
    refine g_lald (j := 0) C rfl (rfl) (by decide) (by decide) dL_law_1619 ?_
    refine g_topl (congrArg Int32.toInt64 (hvB c_1614)) ?_
    refine g_iload C rfl dL_law_1620 ?_
    refine g_i2l C dL_law_1622 ?_
    refine g_lcmp C dL_law_1623 ?_
    refine g_if_eq (tgt := 1629) C (by decide) dL_law_1624 (fun c_1624 => ?_) (fun c_1624 => absurd ((cw_cmp0 _ _).mpr rfl) c_1624)
    refine g_goto (tgt := 2012) C (by decide) dL_law_1629 ?_
    exact g_sub rfl (K _ _ (ia_leastBid hA hB (xs (4 * j9 + 1)) (xs (4 * j9 + 2))) hcB hmB)

set_option maxHeartbeats 8000000 in
set_option maxRecDepth 100000 in
theorem law_26 {X : gw_X} (C : gw_ok X RL cL_law 7 20 601024 7293034) {L : Nat} {xs : Nat → Int32} (hX : gw_lx X L xs) {k n j9 : Nat} (hj : 4 * j9 + 3 < L) (hL : L ≤ 2048) (hk : k + 1 ≤ 601024 ∧ n + 6 ≤ 7293034) (A : cw_A) {na ma : Nat} (hA : cw_IA na ma A) (hB : cw_B (na + 21600) (ma + 2400)) {w : gw_M} (hc : cw_RC A w) (hm : cw_RM A (cw_ws 264 w))
    (K : ∀ (B : cw_A) (w1 : gw_M), cw_IA (na + 21600) (ma + 2400) B → cw_RC B w1 → cw_RM B (cw_ws 264 w1) → gw_G X sL 7 (k + 1) (n + 6) 2012 [(0, .ref 271), (1, .ref 252), (2, .ref 264), (3, .ref 263), (4, .int (nI (4 * j9)))] [] w1) : gw_G X sL 7 k n 1632 [(0, .ref 271), (1, .ref 252), (2, .ref 264), (3, .ref 263), (4, .int (nI (4 * j9)))] [] w := by
  refine g_aload_n C rfl dL_law_1632 ?_
  refine g_aload_n C rfl dL_law_1633 ?_
  refine g_iload C rfl dL_law_1634 ?_
  refine g_iconst (v := 1) C (by decide) dL_law_1636 ?_
  refine g_iadd C dL_law_1637 ?_
  refine g_scr C hX (j := 4 * j9 + 1) (nI_add (4 * j9) 1) (by omega) (by omega) dL_law_1638 ?_
  refine g_aload_n C rfl dL_law_1639 ?_
  refine g_iload C rfl dL_law_1640 ?_
  refine g_iconst (v := 2) C (by decide) dL_law_1642 ?_
  refine g_iadd C dL_law_1643 ?_
  refine g_scr C hX (j := 4 * j9 + 2) (nI_add (4 * j9) 2) (by omega) (by omega) dL_law_1644 ?_
  refine g_aload_n C rfl dL_law_1645 ?_
  refine g_callL C (gw_lx_st hX) cw_emb_LO (ok_L_ifUpkeep A hA hB (xs (4 * j9 + 1)) (xs (4 * j9 + 2))) my_L_ifUpkeep si_L_199 (by decide) ⟨by omega, by omega⟩ rfl (cw_wpo w) cw_wpo_i cw_wpo_o w (fun _ _ => rfl) (Nat.le_of_ble_eq_true rfl) dL_law_1646 rfl hc (fun v_1646 w_1646 hp_1646 => ?_)
  obtain ⟨rfl, hv1, hc1⟩ := hp_1646
  have hcA : cw_RC (sp_ifUpkeep A (xs (4 * j9 + 1)) (xs (4 * j9 + 2))).2.2 (cw_wpo w w_1646) := hc1.low (fun q hq => if_pos (by omega))
  have hmA : cw_RM A (cw_ws 264 (cw_wpo w w_1646)) := cw_RM_low hm (fun q hq => if_neg (by omega))
  have hvA : (sp_ifUpkeep A (xs (4 * j9 + 1)) (xs (4 * j9 + 2))).1 = 0 → cw_wpo w w_1646 263 0 = (sp_ifUpkeep A (xs (4 * j9 + 1)) (xs (4 * j9 + 2))).2.1 := fun z => (congrFun (cw_wpo_i (w := w) w_1646 263 (by decide)) 0).trans (hv1 z)
  obtain ⟨wa, ewa⟩ : ∃ z, z = cw_wpo w w_1646 := ⟨_, rfl⟩
  rw [← ewa] at hcA hmA hvA ⊢
  refine g_istore C (by decide) dL_law_1649 ?_
  refine g_aload_n C rfl dL_law_1651 ?_
  refine g_aload_n C rfl dL_law_1652 ?_
  refine g_iload C rfl dL_law_1653 ?_
  refine g_iconst (v := 1) C (by decide) dL_law_1655 ?_
  refine g_iadd C dL_law_1656 ?_
  refine g_scr C hX (j := 4 * j9 + 1) (nI_add (4 * j9) 1) (by omega) (by omega) dL_law_1657 ?_
  refine g_aload_n C rfl dL_law_1658 ?_
  refine g_iload C rfl dL_law_1659 ?_
  refine g_iconst (v := 2) C (by decide) dL_law_1661 ?_
  refine g_iadd C dL_law_1662 ?_
  refine g_scr C hX (j := 4 * j9 + 2) (nI_add (4 * j9) 2) (by omega) (by omega) dL_law_1663 ?_
  refine g_callW C cw_emb_LM (ok_X7_ifUpkeep (xs (4 * j9 + 1)) (xs (4 * j9 + 2)) A hA.1 (cw_B_le2 hB (by omega) (by omega))) my_X7_ifUpkeep vi_L_201 (by decide) ⟨by omega, by omega⟩ rfl ((cw_emb_LM.1 0 (by decide))) rfl (cw_wp 264 7 wa) (cw_wp_i) (cw_wp_o) (cw_ws 264 wa) (fun i _ => rfl) (Nat.le_of_ble_eq_true rfl) dL_law_1664 rfl (hmA) (fun v_1664 w_1664 hp_1664 => ?_)
  obtain ⟨rfl, ht1664, hm1664⟩ := hp_1664
  have hcB : cw_RC (sp_ifUpkeep A (xs (4 * j9 + 1)) (xs (4 * j9 + 2))).2.2 (cw_wp 264 7 wa w_1664) := hcA.low (fun q hq => cw_wp_out _ _ (by omega))
  have hmB : cw_RM (sp_ifUpkeep A (xs (4 * j9 + 1)) (xs (4 * j9 + 2))).2.2 (cw_ws 264 (cw_wp 264 7 wa w_1664)) := cw_RM_low hm1664 (fun q hq => cw_wp_i _ q hq)
  have htB : cw_wp 264 7 wa w_1664 264 0 = (sp_ifUpkeep A (xs (4 * j9 + 1)) (xs (4 * j9 + 2))).1 := (congrFun (cw_wp_i (b := 264) (n := 7) (w := wa) w_1664 0 (by decide)) 0).trans ht1664
  have hvB : (sp_ifUpkeep A (xs (4 * j9 + 1)) (xs (4 * j9 + 2))).1 = 0 → cw_wp 264 7 wa w_1664 263 0 = (sp_ifUpkeep A (xs (4 * j9 + 1)) (xs (4 * j9 + 2))).2.1 := fun z => (congrFun (cw_wp_out (b := 264) (n := 7) wa w_1664 (q := 263) (by decide)) 0).trans (hvA z)
  obtain ⟨wb, ewb⟩ : ∃ z, z = cw_wp 264 7 wa w_1664 := ⟨_, rfl⟩
  rw [← ewb] at hcB hmB htB hvB ⊢
  refine g_istore C (by decide) dL_law_1667 ?_
  refine g_aload_n C rfl dL_law_1669 ?_
  refine g_callW C cw_emb_LM (ok_X7_thrown) my_X7_thrown vi_L_113 (by decide) ⟨by omega, by omega⟩ rfl ((cw_emb_LM.1 0 (by decide))) rfl (cw_wp 264 7 wb) (cw_wp_i) (cw_wp_o) (cw_ws 264 wb) (fun i _ => rfl) (Nat.le_of_ble_eq_true rfl) dL_law_1670 rfl (trivial) (fun v_1670 w_1670 hp_1670 => ?_)
  obtain ⟨rfl, hw_1670⟩ := hp_1670
  have hw_1670 := hw_1670.symm; subst hw_1670
  rw [cw_wp_ws]
  refine g_top htB ?_
  refine g_iload C rfl dL_law_1673 ?_
  refine g_cmp_eq (tgt := 1680) C (by decide) dL_law_1675 (fun c_1675 => ?_) (fun c_1675 => absurd (rfl) c_1675)
  refine g_iload C rfl dL_law_1680 ?_
  refine g_if_ne (tgt := 1697) C (by decide) dL_law_1682 (fun c_1682 => ?_) (fun c_1682 => ?_)
  · refine g_goto (tgt := 2012) C (by decide) dL_law_1697 ?_
    exact g_sub rfl (K _ _ (ia_ifUpkeep hA hB (xs (4 * j9 + 1)) (xs (4 * j9 + 2))) hcB hmB)
  · refine g_aload_n C rfl dL_law_1685 ?_
    refine g_iconst (v := 0) C (by decide) dL_law_1686 ?_
    refine g_lald (j := 0) C rfl (rfl) (by decide) (by decide) dL_law_1687 ?_
    refine g_topl (congrArg Int32.toInt64 (hvB c_1682)) ?_
    refine g_iload C rfl dL_law_1688 ?_
    refine g_i2l C dL_law_1690 ?_
    refine g_lcmp C dL_law_1691 ?_
    refine g_if_eq (tgt := 1697) C (by decide) dL_law_1692 (fun c_1692 => ?_) (fun c_1692 => absurd ((cw_cmp0 _ _).mpr rfl) c_1692)
    refine g_goto (tgt := 2012) C (by decide) dL_law_1697 ?_
    exact g_sub rfl (K _ _ (ia_ifUpkeep hA hB (xs (4 * j9 + 1)) (xs (4 * j9 + 2))) hcB hmB)

set_option maxHeartbeats 8000000 in
set_option maxRecDepth 100000 in
theorem law_27 {X : gw_X} (C : gw_ok X RL cL_law 7 20 601024 7293034) {L : Nat} {xs : Nat → Int32} (hX : gw_lx X L xs) {k n j9 : Nat} (hj : 4 * j9 + 3 < L) (hL : L ≤ 2048) (hk : k + 1 ≤ 601024 ∧ n + 6 ≤ 7293034) (A : cw_A) {na ma : Nat} (hA : cw_IA na ma A) (hB : cw_B (na + 21600) (ma + 2400)) {w : gw_M} (hc : cw_RC A w) (hm : cw_RM A (cw_ws 264 w))
    (K : ∀ (B : cw_A) (w1 : gw_M), cw_IA (na + 21600) (ma + 2400) B → cw_RC B w1 → cw_RM B (cw_ws 264 w1) → gw_G X sL 7 (k + 1) (n + 6) 2012 [(0, .ref 271), (1, .ref 252), (2, .ref 264), (3, .ref 263), (4, .int (nI (4 * j9)))] [] w1) : gw_G X sL 7 k n 1700 [(0, .ref 271), (1, .ref 252), (2, .ref 264), (3, .ref 263), (4, .int (nI (4 * j9)))] [] w := by
  refine g_aload_n C rfl dL_law_1700 ?_
  refine g_aload_n C rfl dL_law_1701 ?_
  refine g_iload C rfl dL_law_1702 ?_
  refine g_iconst (v := 1) C (by decide) dL_law_1704 ?_
  refine g_iadd C dL_law_1705 ?_
  refine g_scr C hX (j := 4 * j9 + 1) (nI_add (4 * j9) 1) (by omega) (by omega) dL_law_1706 ?_
  refine g_aload_n C rfl dL_law_1707 ?_
  refine g_iload C rfl dL_law_1708 ?_
  refine g_iconst (v := 2) C (by decide) dL_law_1710 ?_
  refine g_iadd C dL_law_1711 ?_
  refine g_scr C hX (j := 4 * j9 + 2) (nI_add (4 * j9) 2) (by omega) (by omega) dL_law_1712 ?_
  refine g_i2l C dL_law_1713 ?_
  refine g_bipush (v := 32) C (by decide) dL_law_1714 ?_
  refine g_lshl C dL_law_1716 ?_
  refine g_aload_n C rfl dL_law_1717 ?_
  refine g_iload C rfl dL_law_1718 ?_
  refine g_iconst (v := 3) C (by decide) dL_law_1720 ?_
  refine g_iadd C dL_law_1721 ?_
  refine g_scr C hX (j := 4 * j9 + 3) (nI_add (4 * j9) 3) (by omega) (by omega) dL_law_1722 ?_
  refine g_i2l C dL_law_1723 ?_
  refine g_ldc2 C kl_L_202 dL_law_1724 ?_
  refine g_land C dL_law_1727 ?_
  refine g_lor C dL_law_1728 ?_
  refine g_topl (show _ = (cw_lg (xs (4 * j9 + 2)) (xs (4 * j9 + 3))) from rfl) ?_
  refine g_aload_n C rfl dL_law_1729 ?_
  refine g_callL C (gw_lx_st hX) cw_emb_LO (ok_L_runScript A hA hB (xs (4 * j9 + 1)) (cw_lg (xs (4 * j9 + 2)) (xs (4 * j9 + 3)))) my_L_runScript si_L_204 (by decide) ⟨by omega, by omega⟩ rfl (cw_wpo w) cw_wpo_i cw_wpo_o w (fun _ _ => rfl) (Nat.le_of_ble_eq_true rfl) dL_law_1730 rfl hc (fun v_1730 w_1730 hp_1730 => ?_)
  obtain ⟨rfl, hv1, hc1⟩ := hp_1730
  have hcA : cw_RC (sp_runScript A (xs (4 * j9 + 1)) (cw_lg (xs (4 * j9 + 2)) (xs (4 * j9 + 3)))).2.2 (cw_wpo w w_1730) := hc1.low (fun q hq => if_pos (by omega))
  have hmA : cw_RM A (cw_ws 264 (cw_wpo w w_1730)) := cw_RM_low hm (fun q hq => if_neg (by omega))
  have hvA : (sp_runScript A (xs (4 * j9 + 1)) (cw_lg (xs (4 * j9 + 2)) (xs (4 * j9 + 3)))).1 = 0 → cw_wpo w w_1730 263 0 = (sp_runScript A (xs (4 * j9 + 1)) (cw_lg (xs (4 * j9 + 2)) (xs (4 * j9 + 3)))).2.1 := fun z => (congrFun (cw_wpo_i (w := w) w_1730 263 (by decide)) 0).trans (hv1 z)
  obtain ⟨wa, ewa⟩ : ∃ z, z = cw_wpo w w_1730 := ⟨_, rfl⟩
  rw [← ewa] at hcA hmA hvA ⊢
  refine g_istore C (by decide) dL_law_1733 ?_
  refine g_aload_n C rfl dL_law_1735 ?_
  refine g_aload_n C rfl dL_law_1736 ?_
  refine g_iload C rfl dL_law_1737 ?_
  refine g_iconst (v := 1) C (by decide) dL_law_1739 ?_
  refine g_iadd C dL_law_1740 ?_
  refine g_scr C hX (j := 4 * j9 + 1) (nI_add (4 * j9) 1) (by omega) (by omega) dL_law_1741 ?_
  refine g_aload_n C rfl dL_law_1742 ?_
  refine g_iload C rfl dL_law_1743 ?_
  refine g_iconst (v := 2) C (by decide) dL_law_1745 ?_
  refine g_iadd C dL_law_1746 ?_
  refine g_scr C hX (j := 4 * j9 + 2) (nI_add (4 * j9) 2) (by omega) (by omega) dL_law_1747 ?_
  refine g_i2l C dL_law_1748 ?_
  refine g_bipush (v := 32) C (by decide) dL_law_1749 ?_
  refine g_lshl C dL_law_1751 ?_
  refine g_aload_n C rfl dL_law_1752 ?_
  refine g_iload C rfl dL_law_1753 ?_
  refine g_iconst (v := 3) C (by decide) dL_law_1755 ?_
  refine g_iadd C dL_law_1756 ?_
  refine g_scr C hX (j := 4 * j9 + 3) (nI_add (4 * j9) 3) (by omega) (by omega) dL_law_1757 ?_
  refine g_i2l C dL_law_1758 ?_
  refine g_ldc2 C kl_L_202 dL_law_1759 ?_
  refine g_land C dL_law_1762 ?_
  refine g_lor C dL_law_1763 ?_
  refine g_topl (show _ = (cw_lg (xs (4 * j9 + 2)) (xs (4 * j9 + 3))) from rfl) ?_
  refine g_callW C cw_emb_LM (ok_X7_runScript (xs (4 * j9 + 1)) (cw_lg (xs (4 * j9 + 2)) (xs (4 * j9 + 3))) A hA.1 hB) my_X7_runScript vi_L_207 (by decide) ⟨by omega, by omega⟩ rfl ((cw_emb_LM.1 0 (by decide))) rfl (cw_wp 264 7 wa) (cw_wp_i) (cw_wp_o) (cw_ws 264 wa) (fun i _ => rfl) (Nat.le_of_ble_eq_true rfl) dL_law_1764 rfl (hmA) (fun v_1764 w_1764 hp_1764 => ?_)
  obtain ⟨rfl, ht1764, hm1764⟩ := hp_1764
  have hcB : cw_RC (sp_runScript A (xs (4 * j9 + 1)) (cw_lg (xs (4 * j9 + 2)) (xs (4 * j9 + 3)))).2.2 (cw_wp 264 7 wa w_1764) := hcA.low (fun q hq => cw_wp_out _ _ (by omega))
  have hmB : cw_RM (sp_runScript A (xs (4 * j9 + 1)) (cw_lg (xs (4 * j9 + 2)) (xs (4 * j9 + 3)))).2.2 (cw_ws 264 (cw_wp 264 7 wa w_1764)) := cw_RM_low hm1764 (fun q hq => cw_wp_i _ q hq)
  have htB : cw_wp 264 7 wa w_1764 264 0 = (sp_runScript A (xs (4 * j9 + 1)) (cw_lg (xs (4 * j9 + 2)) (xs (4 * j9 + 3)))).1 := (congrFun (cw_wp_i (b := 264) (n := 7) (w := wa) w_1764 0 (by decide)) 0).trans ht1764
  have hvB : (sp_runScript A (xs (4 * j9 + 1)) (cw_lg (xs (4 * j9 + 2)) (xs (4 * j9 + 3)))).1 = 0 → cw_wp 264 7 wa w_1764 263 0 = (sp_runScript A (xs (4 * j9 + 1)) (cw_lg (xs (4 * j9 + 2)) (xs (4 * j9 + 3)))).2.1 := fun z => (congrFun (cw_wp_out (b := 264) (n := 7) wa w_1764 (q := 263) (by decide)) 0).trans (hvA z)
  obtain ⟨wb, ewb⟩ : ∃ z, z = cw_wp 264 7 wa w_1764 := ⟨_, rfl⟩
  rw [← ewb] at hcB hmB htB hvB ⊢
  refine g_istore C (by decide) dL_law_1767 ?_
  refine g_aload_n C rfl dL_law_1769 ?_
  refine g_callW C cw_emb_LM (ok_X7_thrown) my_X7_thrown vi_L_113 (by decide) ⟨by omega, by omega⟩ rfl ((cw_emb_LM.1 0 (by decide))) rfl (cw_wp 264 7 wb) (cw_wp_i) (cw_wp_o) (cw_ws 264 wb) (fun i _ => rfl) (Nat.le_of_ble_eq_true rfl) dL_law_1770 rfl (trivial) (fun v_1770 w_1770 hp_1770 => ?_)
  obtain ⟨rfl, hw_1770⟩ := hp_1770
  have hw_1770 := hw_1770.symm; subst hw_1770
  rw [cw_wp_ws]
  refine g_top htB ?_
  refine g_iload C rfl dL_law_1773 ?_
  refine g_cmp_eq (tgt := 1780) C (by decide) dL_law_1775 (fun c_1775 => ?_) (fun c_1775 => absurd (rfl) c_1775)
  refine g_iload C rfl dL_law_1780 ?_
  refine g_if_ne (tgt := 1797) C (by decide) dL_law_1782 (fun c_1782 => ?_) (fun c_1782 => ?_)
  · refine g_goto (tgt := 2012) C (by decide) dL_law_1797 ?_
    exact g_sub rfl (K _ _ (ia_runScript hA hB (xs (4 * j9 + 1)) (cw_lg (xs (4 * j9 + 2)) (xs (4 * j9 + 3)))) hcB hmB)
  · refine g_aload_n C rfl dL_law_1785 ?_
    refine g_iconst (v := 0) C (by decide) dL_law_1786 ?_
    refine g_lald (j := 0) C rfl (rfl) (by decide) (by decide) dL_law_1787 ?_
    refine g_topl (congrArg Int32.toInt64 (hvB c_1782)) ?_
    refine g_iload C rfl dL_law_1788 ?_
    refine g_i2l C dL_law_1790 ?_
    refine g_lcmp C dL_law_1791 ?_
    refine g_if_eq (tgt := 1797) C (by decide) dL_law_1792 (fun c_1792 => ?_) (fun c_1792 => absurd ((cw_cmp0 _ _).mpr rfl) c_1792)
    refine g_goto (tgt := 2012) C (by decide) dL_law_1797 ?_
    exact g_sub rfl (K _ _ (ia_runScript hA hB (xs (4 * j9 + 1)) (cw_lg (xs (4 * j9 + 2)) (xs (4 * j9 + 3)))) hcB hmB)

set_option maxHeartbeats 8000000 in
set_option maxRecDepth 100000 in
theorem law_28 {X : gw_X} (C : gw_ok X RL cL_law 7 20 601024 7293034) {L : Nat} {xs : Nat → Int32} (hX : gw_lx X L xs) {k n j9 : Nat} (hj : 4 * j9 + 3 < L) (hL : L ≤ 2048) (hk : k + 1 ≤ 601024 ∧ n + 6 ≤ 7293034) (A : cw_A) {na ma : Nat} (hA : cw_IA na ma A) (hB : cw_B (na + 21600) (ma + 2400)) {w : gw_M} (hc : cw_RC A w) (hm : cw_RM A (cw_ws 264 w))
    (K : ∀ (B : cw_A) (w1 : gw_M), cw_IA (na + 21600) (ma + 2400) B → cw_RC B w1 → cw_RM B (cw_ws 264 w1) → gw_G X sL 7 (k + 1) (n + 6) 2012 [(0, .ref 271), (1, .ref 252), (2, .ref 264), (3, .ref 263), (4, .int (nI (4 * j9)))] [] w1) : gw_G X sL 7 k n 1800 [(0, .ref 271), (1, .ref 252), (2, .ref 264), (3, .ref 263), (4, .int (nI (4 * j9)))] [] w := by
  refine g_aload_n C rfl dL_law_1800 ?_
  refine g_aload_n C rfl dL_law_1801 ?_
  refine g_iload C rfl dL_law_1802 ?_
  refine g_iconst (v := 1) C (by decide) dL_law_1804 ?_
  refine g_iadd C dL_law_1805 ?_
  refine g_scr C hX (j := 4 * j9 + 1) (nI_add (4 * j9) 1) (by omega) (by omega) dL_law_1806 ?_
  refine g_i2l C dL_law_1807 ?_
  refine g_bipush (v := 32) C (by decide) dL_law_1808 ?_
  refine g_lshl C dL_law_1810 ?_
  refine g_aload_n C rfl dL_law_1811 ?_
  refine g_iload C rfl dL_law_1812 ?_
  refine g_iconst (v := 2) C (by decide) dL_law_1814 ?_
  refine g_iadd C dL_law_1815 ?_
  refine g_scr C hX (j := 4 * j9 + 2) (nI_add (4 * j9) 2) (by omega) (by omega) dL_law_1816 ?_
  refine g_i2l C dL_law_1817 ?_
  refine g_ldc2 C kl_L_202 dL_law_1818 ?_
  refine g_land C dL_law_1821 ?_
  refine g_lor C dL_law_1822 ?_
  refine g_topl (show _ = (cw_lg (xs (4 * j9 + 1)) (xs (4 * j9 + 2))) from rfl) ?_
  refine g_aload_n C rfl dL_law_1823 ?_
  refine g_iload C rfl dL_law_1824 ?_
  refine g_iconst (v := 3) C (by decide) dL_law_1826 ?_
  refine g_iadd C dL_law_1827 ?_
  refine g_scr C hX (j := 4 * j9 + 3) (nI_add (4 * j9) 3) (by omega) (by omega) dL_law_1828 ?_
  refine g_aload_n C rfl dL_law_1829 ?_
  refine g_callL C (gw_lx_st hX) cw_emb_LO (ok_L_simulate A hA hB (cw_lg (xs (4 * j9 + 1)) (xs (4 * j9 + 2))) (xs (4 * j9 + 3))) my_L_simulate si_L_208 (by decide) ⟨by omega, by omega⟩ rfl (cw_wpo w) cw_wpo_i cw_wpo_o w (fun _ _ => rfl) (Nat.le_of_ble_eq_true rfl) dL_law_1830 rfl hc (fun v_1830 w_1830 hp_1830 => ?_)
  obtain ⟨rfl, hv1, hc1⟩ := hp_1830
  have hcA : cw_RC (sp_simulate A (cw_lg (xs (4 * j9 + 1)) (xs (4 * j9 + 2))) (xs (4 * j9 + 3))).2.2 (cw_wpo w w_1830) := hc1.low (fun q hq => if_pos (by omega))
  have hmA : cw_RM A (cw_ws 264 (cw_wpo w w_1830)) := cw_RM_low hm (fun q hq => if_neg (by omega))
  have hvA : (sp_simulate A (cw_lg (xs (4 * j9 + 1)) (xs (4 * j9 + 2))) (xs (4 * j9 + 3))).1 = 0 → cw_wpo w w_1830 263 0 = (sp_simulate A (cw_lg (xs (4 * j9 + 1)) (xs (4 * j9 + 2))) (xs (4 * j9 + 3))).2.1 := fun z => (congrFun (cw_wpo_i (w := w) w_1830 263 (by decide)) 0).trans (hv1 z)
  obtain ⟨wa, ewa⟩ : ∃ z, z = cw_wpo w w_1830 := ⟨_, rfl⟩
  rw [← ewa] at hcA hmA hvA ⊢
  refine g_istore C (by decide) dL_law_1833 ?_
  refine g_aload_n C rfl dL_law_1835 ?_
  refine g_aload_n C rfl dL_law_1836 ?_
  refine g_iload C rfl dL_law_1837 ?_
  refine g_iconst (v := 1) C (by decide) dL_law_1839 ?_
  refine g_iadd C dL_law_1840 ?_
  refine g_scr C hX (j := 4 * j9 + 1) (nI_add (4 * j9) 1) (by omega) (by omega) dL_law_1841 ?_
  refine g_i2l C dL_law_1842 ?_
  refine g_bipush (v := 32) C (by decide) dL_law_1843 ?_
  refine g_lshl C dL_law_1845 ?_
  refine g_aload_n C rfl dL_law_1846 ?_
  refine g_iload C rfl dL_law_1847 ?_
  refine g_iconst (v := 2) C (by decide) dL_law_1849 ?_
  refine g_iadd C dL_law_1850 ?_
  refine g_scr C hX (j := 4 * j9 + 2) (nI_add (4 * j9) 2) (by omega) (by omega) dL_law_1851 ?_
  refine g_i2l C dL_law_1852 ?_
  refine g_ldc2 C kl_L_202 dL_law_1853 ?_
  refine g_land C dL_law_1856 ?_
  refine g_lor C dL_law_1857 ?_
  refine g_topl (show _ = (cw_lg (xs (4 * j9 + 1)) (xs (4 * j9 + 2))) from rfl) ?_
  refine g_aload_n C rfl dL_law_1858 ?_
  refine g_iload C rfl dL_law_1859 ?_
  refine g_iconst (v := 3) C (by decide) dL_law_1861 ?_
  refine g_iadd C dL_law_1862 ?_
  refine g_scr C hX (j := 4 * j9 + 3) (nI_add (4 * j9) 3) (by omega) (by omega) dL_law_1863 ?_
  refine g_callW C cw_emb_LM (ok_X7_simulate (cw_lg (xs (4 * j9 + 1)) (xs (4 * j9 + 2))) (xs (4 * j9 + 3)) A hA.1 hB) my_X7_simulate vi_L_211 (by decide) ⟨by omega, by omega⟩ rfl ((cw_emb_LM.1 0 (by decide))) rfl (cw_wp 264 7 wa) (cw_wp_i) (cw_wp_o) (cw_ws 264 wa) (fun i _ => rfl) (Nat.le_of_ble_eq_true rfl) dL_law_1864 rfl (hmA) (fun v_1864 w_1864 hp_1864 => ?_)
  obtain ⟨rfl, ht1864, hm1864⟩ := hp_1864
  have hcB : cw_RC (sp_simulate A (cw_lg (xs (4 * j9 + 1)) (xs (4 * j9 + 2))) (xs (4 * j9 + 3))).2.2 (cw_wp 264 7 wa w_1864) := hcA.low (fun q hq => cw_wp_out _ _ (by omega))
  have hmB : cw_RM (sp_simulate A (cw_lg (xs (4 * j9 + 1)) (xs (4 * j9 + 2))) (xs (4 * j9 + 3))).2.2 (cw_ws 264 (cw_wp 264 7 wa w_1864)) := cw_RM_low hm1864 (fun q hq => cw_wp_i _ q hq)
  have htB : cw_wp 264 7 wa w_1864 264 0 = (sp_simulate A (cw_lg (xs (4 * j9 + 1)) (xs (4 * j9 + 2))) (xs (4 * j9 + 3))).1 := (congrFun (cw_wp_i (b := 264) (n := 7) (w := wa) w_1864 0 (by decide)) 0).trans ht1864
  have hvB : (sp_simulate A (cw_lg (xs (4 * j9 + 1)) (xs (4 * j9 + 2))) (xs (4 * j9 + 3))).1 = 0 → cw_wp 264 7 wa w_1864 263 0 = (sp_simulate A (cw_lg (xs (4 * j9 + 1)) (xs (4 * j9 + 2))) (xs (4 * j9 + 3))).2.1 := fun z => (congrFun (cw_wp_out (b := 264) (n := 7) wa w_1864 (q := 263) (by decide)) 0).trans (hvA z)
  obtain ⟨wb, ewb⟩ : ∃ z, z = cw_wp 264 7 wa w_1864 := ⟨_, rfl⟩
  rw [← ewb] at hcB hmB htB hvB ⊢
  refine g_istore C (by decide) dL_law_1867 ?_
  refine g_aload_n C rfl dL_law_1869 ?_
  refine g_callW C cw_emb_LM (ok_X7_thrown) my_X7_thrown vi_L_113 (by decide) ⟨by omega, by omega⟩ rfl ((cw_emb_LM.1 0 (by decide))) rfl (cw_wp 264 7 wb) (cw_wp_i) (cw_wp_o) (cw_ws 264 wb) (fun i _ => rfl) (Nat.le_of_ble_eq_true rfl) dL_law_1870 rfl (trivial) (fun v_1870 w_1870 hp_1870 => ?_)
  obtain ⟨rfl, hw_1870⟩ := hp_1870
  have hw_1870 := hw_1870.symm; subst hw_1870
  rw [cw_wp_ws]
  refine g_top htB ?_
  refine g_iload C rfl dL_law_1873 ?_
  refine g_cmp_eq (tgt := 1880) C (by decide) dL_law_1875 (fun c_1875 => ?_) (fun c_1875 => absurd (rfl) c_1875)
  refine g_iload C rfl dL_law_1880 ?_
  refine g_if_ne (tgt := 1897) C (by decide) dL_law_1882 (fun c_1882 => ?_) (fun c_1882 => ?_)
  · refine g_goto (tgt := 2012) C (by decide) dL_law_1897 ?_
    exact g_sub rfl (K _ _ (ia_simulate hA hB (cw_lg (xs (4 * j9 + 1)) (xs (4 * j9 + 2))) (xs (4 * j9 + 3))) hcB hmB)
  · refine g_aload_n C rfl dL_law_1885 ?_
    refine g_iconst (v := 0) C (by decide) dL_law_1886 ?_
    refine g_lald (j := 0) C rfl (rfl) (by decide) (by decide) dL_law_1887 ?_
    refine g_topl (congrArg Int32.toInt64 (hvB c_1882)) ?_
    refine g_iload C rfl dL_law_1888 ?_
    refine g_i2l C dL_law_1890 ?_
    refine g_lcmp C dL_law_1891 ?_
    refine g_if_eq (tgt := 1897) C (by decide) dL_law_1892 (fun c_1892 => ?_) (fun c_1892 => absurd ((cw_cmp0 _ _).mpr rfl) c_1892)
    refine g_goto (tgt := 2012) C (by decide) dL_law_1897 ?_
    exact g_sub rfl (K _ _ (ia_simulate hA hB (cw_lg (xs (4 * j9 + 1)) (xs (4 * j9 + 2))) (xs (4 * j9 + 3))) hcB hmB)

set_option maxHeartbeats 8000000 in
set_option maxRecDepth 100000 in
theorem law_29 {X : gw_X} (C : gw_ok X RL cL_law 7 20 601024 7293034) {L : Nat} {xs : Nat → Int32} (hX : gw_lx X L xs) {k n j9 : Nat} (hj : 4 * j9 + 3 < L) (hL : L ≤ 2048) (hk : k + 1 ≤ 601024 ∧ n + 6 ≤ 7293034) (A : cw_A) {na ma : Nat} (hA : cw_IA na ma A) (hB : cw_B (na + 21600) (ma + 2400)) {w : gw_M} (hc : cw_RC A w) (hm : cw_RM A (cw_ws 264 w))
    (K : ∀ (B : cw_A) (w1 : gw_M), cw_IA (na + 21600) (ma + 2400) B → cw_RC B w1 → cw_RM B (cw_ws 264 w1) → gw_G X sL 7 (k + 1) (n + 6) 2012 [(0, .ref 271), (1, .ref 252), (2, .ref 264), (3, .ref 263), (4, .int (nI (4 * j9)))] [] w1) : gw_G X sL 7 k n 1900 [(0, .ref 271), (1, .ref 252), (2, .ref 264), (3, .ref 263), (4, .int (nI (4 * j9)))] [] w := by
  refine g_aload_n C rfl dL_law_1900 ?_
  refine g_aload_n C rfl dL_law_1901 ?_
  refine g_iload C rfl dL_law_1902 ?_
  refine g_iconst (v := 1) C (by decide) dL_law_1904 ?_
  refine g_iadd C dL_law_1905 ?_
  refine g_scr C hX (j := 4 * j9 + 1) (nI_add (4 * j9) 1) (by omega) (by omega) dL_law_1906 ?_
  refine g_aload_n C rfl dL_law_1907 ?_
  refine g_callL C (gw_lx_st hX) cw_emb_LO (ok_L_save A hA hB (xs (4 * j9 + 1))) my_L_save si_L_212 (by decide) ⟨by omega, by omega⟩ rfl (cw_wpo w) cw_wpo_i cw_wpo_o w (fun _ _ => rfl) (Nat.le_of_ble_eq_true rfl) dL_law_1908 rfl hc (fun v_1908 w_1908 hp_1908 => ?_)
  obtain ⟨rfl, hv1, hc1⟩ := hp_1908
  have hcA : cw_RC (sp_save A (xs (4 * j9 + 1))).2.2 (cw_wpo w w_1908) := hc1.low (fun q hq => if_pos (by omega))
  have hmA : cw_RM A (cw_ws 264 (cw_wpo w w_1908)) := cw_RM_low hm (fun q hq => if_neg (by omega))
  have hvA : (sp_save A (xs (4 * j9 + 1))).1 = 0 → cw_wpo w w_1908 263 0 = (sp_save A (xs (4 * j9 + 1))).2.1 := fun z => (congrFun (cw_wpo_i (w := w) w_1908 263 (by decide)) 0).trans (hv1 z)
  obtain ⟨wa, ewa⟩ : ∃ z, z = cw_wpo w w_1908 := ⟨_, rfl⟩
  rw [← ewa] at hcA hmA hvA ⊢
  refine g_istore C (by decide) dL_law_1911 ?_
  refine g_aload_n C rfl dL_law_1913 ?_
  refine g_aload_n C rfl dL_law_1914 ?_
  refine g_iload C rfl dL_law_1915 ?_
  refine g_iconst (v := 1) C (by decide) dL_law_1917 ?_
  refine g_iadd C dL_law_1918 ?_
  refine g_scr C hX (j := 4 * j9 + 1) (nI_add (4 * j9) 1) (by omega) (by omega) dL_law_1919 ?_
  refine g_callW C cw_emb_LM (ok_X7_save (xs (4 * j9 + 1)) A hA.1 (cw_B_le2 hB (by omega) (by omega))) my_X7_save vi_L_214 (by decide) ⟨by omega, by omega⟩ rfl ((cw_emb_LM.1 0 (by decide))) rfl (cw_wp 264 7 wa) (cw_wp_i) (cw_wp_o) (cw_ws 264 wa) (fun i _ => rfl) (Nat.le_of_ble_eq_true rfl) dL_law_1920 rfl (hmA) (fun v_1920 w_1920 hp_1920 => ?_)
  obtain ⟨rfl, ht1920, hm1920⟩ := hp_1920
  have hcB : cw_RC (sp_save A (xs (4 * j9 + 1))).2.2 (cw_wp 264 7 wa w_1920) := hcA.low (fun q hq => cw_wp_out _ _ (by omega))
  have hmB : cw_RM (sp_save A (xs (4 * j9 + 1))).2.2 (cw_ws 264 (cw_wp 264 7 wa w_1920)) := cw_RM_low hm1920 (fun q hq => cw_wp_i _ q hq)
  have htB : cw_wp 264 7 wa w_1920 264 0 = (sp_save A (xs (4 * j9 + 1))).1 := (congrFun (cw_wp_i (b := 264) (n := 7) (w := wa) w_1920 0 (by decide)) 0).trans ht1920
  have hvB : (sp_save A (xs (4 * j9 + 1))).1 = 0 → cw_wp 264 7 wa w_1920 263 0 = (sp_save A (xs (4 * j9 + 1))).2.1 := fun z => (congrFun (cw_wp_out (b := 264) (n := 7) wa w_1920 (q := 263) (by decide)) 0).trans (hvA z)
  obtain ⟨wb, ewb⟩ : ∃ z, z = cw_wp 264 7 wa w_1920 := ⟨_, rfl⟩
  rw [← ewb] at hcB hmB htB hvB ⊢
  refine g_istore C (by decide) dL_law_1923 ?_
  refine g_aload_n C rfl dL_law_1925 ?_
  refine g_callW C cw_emb_LM (ok_X7_thrown) my_X7_thrown vi_L_113 (by decide) ⟨by omega, by omega⟩ rfl ((cw_emb_LM.1 0 (by decide))) rfl (cw_wp 264 7 wb) (cw_wp_i) (cw_wp_o) (cw_ws 264 wb) (fun i _ => rfl) (Nat.le_of_ble_eq_true rfl) dL_law_1926 rfl (trivial) (fun v_1926 w_1926 hp_1926 => ?_)
  obtain ⟨rfl, hw_1926⟩ := hp_1926
  have hw_1926 := hw_1926.symm; subst hw_1926
  rw [cw_wp_ws]
  refine g_top htB ?_
  refine g_iload C rfl dL_law_1929 ?_
  refine g_cmp_eq (tgt := 1936) C (by decide) dL_law_1931 (fun c_1931 => ?_) (fun c_1931 => absurd (rfl) c_1931)
  refine g_iload C rfl dL_law_1936 ?_
  refine g_if_ne (tgt := 1953) C (by decide) dL_law_1938 (fun c_1938 => ?_) (fun c_1938 => ?_)
  · refine g_goto (tgt := 2012) C (by decide) dL_law_1953 ?_
    exact g_sub rfl (K _ _ (ia_save hA hB (xs (4 * j9 + 1))) hcB hmB)
  · refine g_aload_n C rfl dL_law_1941 ?_
    refine g_iconst (v := 0) C (by decide) dL_law_1942 ?_
    refine g_lald (j := 0) C rfl (rfl) (by decide) (by decide) dL_law_1943 ?_
    refine g_topl (congrArg Int32.toInt64 (hvB c_1938)) ?_
    refine g_iload C rfl dL_law_1944 ?_
    refine g_i2l C dL_law_1946 ?_
    refine g_lcmp C dL_law_1947 ?_
    refine g_if_eq (tgt := 1953) C (by decide) dL_law_1948 (fun c_1948 => ?_) (fun c_1948 => absurd ((cw_cmp0 _ _).mpr rfl) c_1948)
    refine g_goto (tgt := 2012) C (by decide) dL_law_1953 ?_
    exact g_sub rfl (K _ _ (ia_save hA hB (xs (4 * j9 + 1))) hcB hmB)

set_option maxHeartbeats 8000000 in
set_option maxRecDepth 100000 in
theorem law_30 {X : gw_X} (C : gw_ok X RL cL_law 7 20 601024 7293034) {L : Nat} {xs : Nat → Int32} (hX : gw_lx X L xs) {k n j9 : Nat} (hj : 4 * j9 + 3 < L) (hL : L ≤ 2048) (hk : k + 1 ≤ 601024 ∧ n + 6 ≤ 7293034) (A : cw_A) {na ma : Nat} (hA : cw_IA na ma A) (hB : cw_B (na + 21600) (ma + 2400)) {w : gw_M} (hc : cw_RC A w) (hm : cw_RM A (cw_ws 264 w))
    (K : ∀ (B : cw_A) (w1 : gw_M), cw_IA (na + 21600) (ma + 2400) B → cw_RC B w1 → cw_RM B (cw_ws 264 w1) → gw_G X sL 7 (k + 1) (n + 6) 2012 [(0, .ref 271), (1, .ref 252), (2, .ref 264), (3, .ref 263), (4, .int (nI (4 * j9)))] [] w1) : gw_G X sL 7 k n 1956 [(0, .ref 271), (1, .ref 252), (2, .ref 264), (3, .ref 263), (4, .int (nI (4 * j9)))] [] w := by
  refine g_aload_n C rfl dL_law_1956 ?_
  refine g_aload_n C rfl dL_law_1957 ?_
  refine g_iload C rfl dL_law_1958 ?_
  refine g_iconst (v := 1) C (by decide) dL_law_1960 ?_
  refine g_iadd C dL_law_1961 ?_
  refine g_scr C hX (j := 4 * j9 + 1) (nI_add (4 * j9) 1) (by omega) (by omega) dL_law_1962 ?_
  refine g_aload_n C rfl dL_law_1963 ?_
  refine g_callL C (gw_lx_st hX) cw_emb_LO (ok_L_restore A hA hB (xs (4 * j9 + 1))) my_L_restore si_L_215 (by decide) ⟨by omega, by omega⟩ rfl (cw_wpo w) cw_wpo_i cw_wpo_o w (fun _ _ => rfl) (Nat.le_of_ble_eq_true rfl) dL_law_1964 rfl hc (fun v_1964 w_1964 hp_1964 => ?_)
  obtain ⟨rfl, hv1, hc1⟩ := hp_1964
  have hcA : cw_RC (sp_restore A (xs (4 * j9 + 1))).2.2 (cw_wpo w w_1964) := hc1.low (fun q hq => if_pos (by omega))
  have hmA : cw_RM A (cw_ws 264 (cw_wpo w w_1964)) := cw_RM_low hm (fun q hq => if_neg (by omega))
  have hvA : (sp_restore A (xs (4 * j9 + 1))).1 = 0 → cw_wpo w w_1964 263 0 = (sp_restore A (xs (4 * j9 + 1))).2.1 := fun z => (congrFun (cw_wpo_i (w := w) w_1964 263 (by decide)) 0).trans (hv1 z)
  obtain ⟨wa, ewa⟩ : ∃ z, z = cw_wpo w w_1964 := ⟨_, rfl⟩
  rw [← ewa] at hcA hmA hvA ⊢
  refine g_istore C (by decide) dL_law_1967 ?_
  refine g_aload_n C rfl dL_law_1969 ?_
  refine g_aload_n C rfl dL_law_1970 ?_
  refine g_iload C rfl dL_law_1971 ?_
  refine g_iconst (v := 1) C (by decide) dL_law_1973 ?_
  refine g_iadd C dL_law_1974 ?_
  refine g_scr C hX (j := 4 * j9 + 1) (nI_add (4 * j9) 1) (by omega) (by omega) dL_law_1975 ?_
  refine g_callW C cw_emb_LM (ok_X7_restore (xs (4 * j9 + 1)) A hA.1 (cw_B_le2 hB (by omega) (by omega))) my_X7_restore vi_L_217 (by decide) ⟨by omega, by omega⟩ rfl ((cw_emb_LM.1 0 (by decide))) rfl (cw_wp 264 7 wa) (cw_wp_i) (cw_wp_o) (cw_ws 264 wa) (fun i _ => rfl) (Nat.le_of_ble_eq_true rfl) dL_law_1976 rfl (hmA) (fun v_1976 w_1976 hp_1976 => ?_)
  obtain ⟨rfl, ht1976, hm1976⟩ := hp_1976
  have hcB : cw_RC (sp_restore A (xs (4 * j9 + 1))).2.2 (cw_wp 264 7 wa w_1976) := hcA.low (fun q hq => cw_wp_out _ _ (by omega))
  have hmB : cw_RM (sp_restore A (xs (4 * j9 + 1))).2.2 (cw_ws 264 (cw_wp 264 7 wa w_1976)) := cw_RM_low hm1976 (fun q hq => cw_wp_i _ q hq)
  have htB : cw_wp 264 7 wa w_1976 264 0 = (sp_restore A (xs (4 * j9 + 1))).1 := (congrFun (cw_wp_i (b := 264) (n := 7) (w := wa) w_1976 0 (by decide)) 0).trans ht1976
  have hvB : (sp_restore A (xs (4 * j9 + 1))).1 = 0 → cw_wp 264 7 wa w_1976 263 0 = (sp_restore A (xs (4 * j9 + 1))).2.1 := fun z => (congrFun (cw_wp_out (b := 264) (n := 7) wa w_1976 (q := 263) (by decide)) 0).trans (hvA z)
  obtain ⟨wb, ewb⟩ : ∃ z, z = cw_wp 264 7 wa w_1976 := ⟨_, rfl⟩
  rw [← ewb] at hcB hmB htB hvB ⊢
  refine g_istore C (by decide) dL_law_1979 ?_
  refine g_aload_n C rfl dL_law_1981 ?_
  refine g_callW C cw_emb_LM (ok_X7_thrown) my_X7_thrown vi_L_113 (by decide) ⟨by omega, by omega⟩ rfl ((cw_emb_LM.1 0 (by decide))) rfl (cw_wp 264 7 wb) (cw_wp_i) (cw_wp_o) (cw_ws 264 wb) (fun i _ => rfl) (Nat.le_of_ble_eq_true rfl) dL_law_1982 rfl (trivial) (fun v_1982 w_1982 hp_1982 => ?_)
  obtain ⟨rfl, hw_1982⟩ := hp_1982
  have hw_1982 := hw_1982.symm; subst hw_1982
  rw [cw_wp_ws]
  refine g_top htB ?_
  refine g_iload C rfl dL_law_1985 ?_
  refine g_cmp_eq (tgt := 1992) C (by decide) dL_law_1987 (fun c_1987 => ?_) (fun c_1987 => absurd (rfl) c_1987)
  refine g_iload C rfl dL_law_1992 ?_
  refine g_if_ne (tgt := 2009) C (by decide) dL_law_1994 (fun c_1994 => ?_) (fun c_1994 => ?_)
  · refine g_goto (tgt := 2012) C (by decide) dL_law_2009 ?_
    exact g_sub rfl (K _ _ (ia_restore hA hB (xs (4 * j9 + 1))) hcB hmB)
  · refine g_aload_n C rfl dL_law_1997 ?_
    refine g_iconst (v := 0) C (by decide) dL_law_1998 ?_
    refine g_lald (j := 0) C rfl (rfl) (by decide) (by decide) dL_law_1999 ?_
    refine g_topl (congrArg Int32.toInt64 (hvB c_1994)) ?_
    refine g_iload C rfl dL_law_2000 ?_
    refine g_i2l C dL_law_2002 ?_
    refine g_lcmp C dL_law_2003 ?_
    refine g_if_eq (tgt := 2009) C (by decide) dL_law_2004 (fun c_2004 => ?_) (fun c_2004 => absurd ((cw_cmp0 _ _).mpr rfl) c_2004)
    refine g_goto (tgt := 2012) C (by decide) dL_law_2009 ?_
    exact g_sub rfl (K _ _ (ia_restore hA hB (xs (4 * j9 + 1))) hcB hmB)

