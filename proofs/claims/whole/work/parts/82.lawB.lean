/-! THE LAW'S METHODS, one by one -/
theorem cw_or1 (P : Prop) : P ∨ ¬ P := Classical.em P
theorem cw_or2 (P Q : Prop) : (P ∧ Q) ∨ ¬ P ∨ (P ∧ ¬ Q) := by
  by_cases p : P
  · by_cases q : Q
    · exact Or.inl ⟨p, q⟩
    · exact Or.inr (Or.inr ⟨p, q⟩)
  · exact Or.inr (Or.inl p)
theorem cw_or3 (P Q R : Prop) : (P ∧ Q ∧ R) ∨ ¬ P ∨ (P ∧ ¬ Q) ∨ (P ∧ Q ∧ ¬ R) := by
  by_cases p : P
  · by_cases q : Q
    · by_cases r : R
      · exact Or.inl ⟨p, q, r⟩
      · exact Or.inr (Or.inr (Or.inr ⟨p, q, r⟩))
    · exact Or.inr (Or.inr (Or.inl ⟨p, q⟩))
  · exact Or.inr (Or.inl p)
theorem cw_nn {P : Prop} (h : ¬ ¬ P) : P := Classical.byContradiction h
theorem thr_X6_offer_12 (A : cw_A) {n m : Nat} (hA : cw_IA n m A) (o k a : Int32) (hc : ¬ (cw_th A.1 o k ∧ cw_isW a)) : gw_Thr yX6_offer cX6_offer 4 (some .int) sC 8 [.ref 252, .int o, .int k, .int a] (fun w => cw_RC A w) "java/lang/IndexOutOfBoundsException" (fun w w1 => w1 = w) := by
  by_cases h1 : cw_th A.1 o k
  · exact thr_X6_offer_x A hA o k a h1 (fun h2 => hc ⟨h1, h2⟩)
  · exact thr_X6_offer_1 A hA o k a h1
theorem cw_205 {n m : Nat} {u : cw_s} (hI : cw_I n m u) : u 205 < 8 ↔ ¬ u 205 = 8 := by
  obtain ⟨q, hq8, hq, -⟩ := hI.off
  rw [hq]
  have e : ¬ nI q = 8 ↔ q < 8 := ⟨fun z => Nat.lt_of_le_of_ne hq8 (fun y => z (by rw [y]; rfl)), fun z y => by have := (nI_eq (a := q) (b := 8) (by omega) (by decide)).mp y; omega⟩
  rw [e]
  exact cw_nlt (b := 8) (by omega) (by omega)

set_option maxHeartbeats 8000000 in
set_option maxRecDepth 100000 in
theorem ok_L_append (A : cw_A) {n m : Nat} (hA : cw_IA n m A) (hB : cw_B (n + 21600) (m + 2400)) (c : Int32) : gw_OkH yL_append cL_append 4 (some .int) [(0, 9, 12, 13), (0, 9, 15, 15)] sCO 13 [.ref 252, .int c, .ref 263] (fun w => cw_RC A w) (fun _ vr w1 => cw_LW (sp_append A c) vr w1) := by
  refine gw_ofH (by decide) (Nat.le_of_ble_eq_true rfl) ?_
  intro X w h C F
  have hI := hA.1
  have hB2 : cw_B n (m + 20) := cw_B_le2 hB (by omega) (by omega)
  rcases cw_or2 (0 ≤ c ∧ c ≤ 255) (¬ nI A.2.2.2.1 = 120) with ⟨h1, h2⟩ | h1 | ⟨h1, h2⟩
  · refine g_aload_n C rfl dL_append_0 ?_
    refine g_iconst (v := 0) C (by decide) dL_append_1 ?_
    refine g_aload_n C rfl dL_append_2 ?_
    refine g_iload_n C rfl dL_append_3 ?_
    refine g_callW C cw_emb_CO (ok_X6_append A hA c h1 h2) my_X6_append vi_L_7 (by decide) ⟨Nat.zero_le _, Nat.zero_le _⟩ rfl ((cw_emb_CO.1 252 (by decide))) rfl (cw_wpc w) (cw_wpc_i) (cw_wpc_o) (w) (fun _ _ => rfl) (Nat.le_of_ble_eq_true rfl) dL_append_4 rfl (h) (fun v_4 w_4 hp_4 => ?_)
    obtain ⟨rfl, hr4⟩ := hp_4
    refine g_i2l C dL_append_7 ?_
    refine g_last (j := 0) C rfl rfl (by decide) (by decide) dL_append_8 ?_
    refine g_goto (tgt := 18) C (by decide) dL_append_9 ?_
    refine g_iconst (v := 0) C (by decide) dL_append_18 ?_
    refine g_iretH C F dL_append_19 ?_
    exact cw_LW0 (by unfold sp_append; rw [cw_it h1, if_neg h2]; exact cw_stp0 rfl) (by rw [gw_set_self, cw_ups]) (hr4.low (fun q hq => by rw [gw_set_ne _ _ _ _ (by omega)]; exact if_pos hq))
  · refine g_aload_n C rfl dL_append_0 ?_
    refine g_iconst (v := 0) C (by decide) dL_append_1 ?_
    refine g_aload_n C rfl dL_append_2 ?_
    refine g_iload_n C rfl dL_append_3 ?_
    have hpass : ∀ z ∈ ([] : List (Nat × Nat × Nat × Nat)), z.2.2.2 ≠ 0 ∧ ∃ nm : String, Cond.classLink RL z.2.2.2 nm ∈ gw_T ∧ ("java/lang/IllegalArgumentException", nm) ∈ gw_nc := fun z hz => absurd hz List.not_mem_nil
    exact g_callC C F cw_emb_CO (thr_X6_append_1 A hA c h1) my_X6_append vi_L_7 (by decide) rfl (cw_emb_CO.1 252 (by decide)) rfl (cw_wpc w) cw_wpc_i cw_wpc_o w (fun _ _ => rfl) (Nat.le_of_ble_eq_true rfl) dL_append_4 rfl h [] (0, 9, 12, 13) [(0, 9, 15, 15)] rfl hpass (by decide) (by decide) (gw_T_at 412 (by decide +kernel) rfl) (gw_N_at 424 (by decide +kernel) rfl) (Or.inl ⟨3, by decide, dL_append_12, rfl⟩) (ic := 1) (cv := 1) (by decide) dL_append_13 dL_append_14 (fun w1 hw1 => cw_LW1 (by unfold sp_append; rw [cw_ie h1]; exact cw_stp1 (by decide)) (by decide) (cw_RC.low (w := w1) (hw1 ▸ h) (fun q hq => if_pos hq)))
  · refine g_aload_n C rfl dL_append_0 ?_
    refine g_iconst (v := 0) C (by decide) dL_append_1 ?_
    refine g_aload_n C rfl dL_append_2 ?_
    refine g_iload_n C rfl dL_append_3 ?_
    have hpass : ∀ z ∈ ([(0, 9, 12, 13)] : List (Nat × Nat × Nat × Nat)), z.2.2.2 ≠ 0 ∧ ∃ nm : String, Cond.classLink RL z.2.2.2 nm ∈ gw_T ∧ ("java/lang/IllegalStateException", nm) ∈ gw_nc := fun z hz => by
      simp only [List.mem_cons, List.not_mem_nil, or_false] at hz
      rcases hz with rfl
      · exact ⟨by decide, "java/lang/IllegalArgumentException", gw_T_at 412 (by decide +kernel) rfl, List.mem_of_getElem? (i := 0) rfl⟩
    exact g_callC C F cw_emb_CO (thr_X6_append_2 A hA c h1 (cw_nn h2)) my_X6_append vi_L_7 (by decide) rfl (cw_emb_CO.1 252 (by decide)) rfl (cw_wpc w) cw_wpc_i cw_wpc_o w (fun _ _ => rfl) (Nat.le_of_ble_eq_true rfl) dL_append_4 rfl h [(0, 9, 12, 13)] (0, 9, 15, 15) [] rfl hpass (by decide) (by decide) (gw_T_at 413 (by decide +kernel) rfl) (gw_N_at 495 (by decide +kernel) rfl) (Or.inl ⟨3, by decide, dL_append_15, rfl⟩) (ic := 2) (cv := 2) (by decide) dL_append_16 dL_append_17 (fun w1 hw1 => cw_LW1 (by unfold sp_append; rw [cw_it h1, if_pos (cw_nn h2)]; exact cw_stp1 (by decide)) (by decide) (cw_RC.low (w := w1) (hw1 ▸ h) (fun q hq => if_pos hq)))

set_option maxHeartbeats 8000000 in
set_option maxRecDepth 100000 in
theorem ok_L_load (A : cw_A) {n m : Nat} (hA : cw_IA n m A) (hB : cw_B (n + 21600) (m + 2400)) : gw_OkH yL_load cL_load 3 (some .int) [(0, 8, 11, 15)] sCO 13 [.ref 252, .ref 263] (fun w => cw_RC A w) (fun _ vr w1 => cw_LW (sp_load A) vr w1) := by
  refine gw_ofH (by decide) (Nat.le_of_ble_eq_true rfl) ?_
  intro X w h C F
  have hI := hA.1
  have hB2 : cw_B n (m + 20) := cw_B_le2 hB (by omega) (by omega)
  rcases cw_or1 ((cw_parse A.2.2.2.2 A.2.2.2.1 120).1 = false) with h1 | h1
  · refine g_aload_n C rfl dL_load_0 ?_
    refine g_iconst (v := 0) C (by decide) dL_load_1 ?_
    refine g_aload_n C rfl dL_load_2 ?_
    refine g_callW C cw_emb_CO (ok_X6_load A hA h1) my_X6_load vi_L_17 (by decide) ⟨Nat.zero_le _, Nat.zero_le _⟩ rfl ((cw_emb_CO.1 252 (by decide))) rfl (cw_wpc w) (cw_wpc_i) (cw_wpc_o) (w) (fun _ _ => rfl) (Nat.le_of_ble_eq_true rfl) dL_load_3 rfl (h) (fun v_3 w_3 hp_3 => ?_)
    obtain ⟨rfl, hr3⟩ := hp_3
    refine g_i2l C dL_load_6 ?_
    refine g_last (j := 0) C rfl rfl (by decide) (by decide) dL_load_7 ?_
    refine g_goto (tgt := 14) C (by decide) dL_load_8 ?_
    refine g_iconst (v := 0) C (by decide) dL_load_14 ?_
    refine g_iretH C F dL_load_15 ?_
    exact cw_LW0 (by unfold sp_load; rw [h1]; exact cw_stp0 rfl) (by rw [gw_set_self, cw_ups]) (hr3.low (fun q hq => by rw [gw_set_ne _ _ _ _ (by omega)]; exact if_pos hq))
  · refine g_aload_n C rfl dL_load_0 ?_
    refine g_iconst (v := 0) C (by decide) dL_load_1 ?_
    refine g_aload_n C rfl dL_load_2 ?_
    have hpass : ∀ z ∈ ([] : List (Nat × Nat × Nat × Nat)), z.2.2.2 ≠ 0 ∧ ∃ nm : String, Cond.classLink RL z.2.2.2 nm ∈ gw_T ∧ ("java/lang/IllegalStateException", nm) ∈ gw_nc := fun z hz => absurd hz List.not_mem_nil
    exact g_callC C F cw_emb_CO (thr_X6_load_1 A hA (by simpa using h1)) my_X6_load vi_L_17 (by decide) rfl (cw_emb_CO.1 252 (by decide)) rfl (cw_wpc w) cw_wpc_i cw_wpc_o w (fun _ _ => rfl) (Nat.le_of_ble_eq_true rfl) dL_load_3 rfl h [] (0, 8, 11, 15) [] rfl hpass (by decide) (by decide) (gw_T_at 413 (by decide +kernel) rfl) (gw_N_at 495 (by decide +kernel) rfl) (Or.inl ⟨2, by decide, dL_load_11, rfl⟩) (ic := 1) (cv := 1) (by decide) dL_load_12 dL_load_13 (fun w1 hw1 => cw_LW1 (by unfold sp_load; rw [show (cw_parse A.2.2.2.2 A.2.2.2.1 120).1 = true by simpa using h1]; exact cw_stp1 (by decide)) (by decide) (cw_RC.low (w := w1) (hw1) (fun q hq => if_pos hq)))

set_option maxHeartbeats 8000000 in
set_option maxRecDepth 100000 in
theorem ok_L_about (A : cw_A) {n m : Nat} (hA : cw_IA n m A) (hB : cw_B (n + 21600) (m + 2400)) (k : Int32) : gw_OkH yL_about cL_about 4 (some .int) [(0, 9, 12, 13)] sCO 13 [.ref 252, .int k, .ref 263] (fun w => cw_RC A w) (fun _ vr w1 => cw_LW (sp_about A k) vr w1) := by
  refine gw_ofH (by decide) (Nat.le_of_ble_eq_true rfl) ?_
  intro X w h C F
  have hI := hA.1
  have hB2 : cw_B n (m + 20) := cw_B_le2 hB (by omega) (by omega)
  rcases cw_or1 (0 ≤ k ∧ k ≤ 13) with h1 | h1
  · refine g_aload_n C rfl dL_about_0 ?_
    refine g_iconst (v := 0) C (by decide) dL_about_1 ?_
    refine g_aload_n C rfl dL_about_2 ?_
    refine g_iload_n C rfl dL_about_3 ?_
    refine g_callW C cw_emb_CO (ok_X6_about A hA k h1) my_X6_about vi_L_21 (by decide) ⟨Nat.zero_le _, Nat.zero_le _⟩ rfl ((cw_emb_CO.1 252 (by decide))) rfl (cw_wpc w) (cw_wpc_i) (cw_wpc_o) (w) (fun _ _ => rfl) (Nat.le_of_ble_eq_true rfl) dL_about_4 rfl (h) (fun v_4 w_4 hp_4 => ?_)
    obtain ⟨rfl, hr4⟩ := hp_4
    refine g_i2l C dL_about_7 ?_
    refine g_last (j := 0) C rfl rfl (by decide) (by decide) dL_about_8 ?_
    refine g_goto (tgt := 15) C (by decide) dL_about_9 ?_
    refine g_iconst (v := 0) C (by decide) dL_about_15 ?_
    refine g_iretH C F dL_about_16 ?_
    exact cw_LW0 (by unfold sp_about; rw [cw_it h1]; exact cw_stp0 rfl) (by rw [gw_set_self, cw_ups]) (hr4.low (fun q hq => by rw [gw_set_ne _ _ _ _ (by omega)]; exact if_pos hq))
  · refine g_aload_n C rfl dL_about_0 ?_
    refine g_iconst (v := 0) C (by decide) dL_about_1 ?_
    refine g_aload_n C rfl dL_about_2 ?_
    refine g_iload_n C rfl dL_about_3 ?_
    have hpass : ∀ z ∈ ([] : List (Nat × Nat × Nat × Nat)), z.2.2.2 ≠ 0 ∧ ∃ nm : String, Cond.classLink RL z.2.2.2 nm ∈ gw_T ∧ ("java/lang/IllegalArgumentException", nm) ∈ gw_nc := fun z hz => absurd hz List.not_mem_nil
    exact g_callC C F cw_emb_CO (thr_X6_about A hA k h1) my_X6_about vi_L_21 (by decide) rfl (cw_emb_CO.1 252 (by decide)) rfl (cw_wpc w) cw_wpc_i cw_wpc_o w (fun _ _ => rfl) (Nat.le_of_ble_eq_true rfl) dL_about_4 rfl h [] (0, 9, 12, 13) [] rfl hpass (by decide) (by decide) (gw_T_at 412 (by decide +kernel) rfl) (gw_N_at 424 (by decide +kernel) rfl) (Or.inl ⟨3, by decide, dL_about_12, rfl⟩) (ic := 1) (cv := 1) (by decide) dL_about_13 dL_about_14 (fun w1 hw1 => cw_LW1 (by unfold sp_about; rw [cw_ie h1]; exact cw_stp1 (by decide)) (by decide) (cw_RC.low (w := w1) (hw1 ▸ h) (fun q hq => if_pos hq)))

set_option maxHeartbeats 8000000 in
set_option maxRecDepth 100000 in
theorem ok_L_ownerOf (A : cw_A) {n m : Nat} (hA : cw_IA n m A) (hB : cw_B (n + 21600) (m + 2400)) (o : Int32) (k : Int32) : gw_OkH yL_ownerOf cL_ownerOf 5 (some .int) [(0, 10, 13, 28), (0, 10, 17, 13)] sCO 13 [.ref 252, .int o, .int k, .ref 263] (fun w => cw_RC A w) (fun _ vr w1 => cw_LW (sp_ownerOf A o k) vr w1) := by
  refine gw_ofH (by decide) (Nat.le_of_ble_eq_true rfl) ?_
  intro X w h C F
  have hI := hA.1
  have hB2 : cw_B n (m + 20) := cw_B_le2 hB (by omega) (by omega)
  rcases cw_or2 (cw_isO A.1 o) (0 ≤ k ∧ k ≤ 6) with ⟨h1, h2⟩ | h1 | ⟨h1, h2⟩
  · refine g_aload_n C rfl dL_ownerOf_0 ?_
    refine g_iconst (v := 0) C (by decide) dL_ownerOf_1 ?_
    refine g_aload_n C rfl dL_ownerOf_2 ?_
    refine g_iload_n C rfl dL_ownerOf_3 ?_
    refine g_iload_n C rfl dL_ownerOf_4 ?_
    refine g_callW C cw_emb_CO (ok_X6_ownerOf A hA o k h1 h2) my_X6_ownerOf vi_L_24 (by decide) ⟨Nat.zero_le _, Nat.zero_le _⟩ rfl ((cw_emb_CO.1 252 (by decide))) rfl (cw_wpc w) (cw_wpc_i) (cw_wpc_o) (w) (fun _ _ => rfl) (Nat.le_of_ble_eq_true rfl) dL_ownerOf_5 rfl (h) (fun v_5 w_5 hp_5 => ?_)
    obtain ⟨rfl, hr5⟩ := hp_5
    refine g_i2l C dL_ownerOf_8 ?_
    refine g_last (j := 0) C rfl rfl (by decide) (by decide) dL_ownerOf_9 ?_
    refine g_goto (tgt := 21) C (by decide) dL_ownerOf_10 ?_
    refine g_iconst (v := 0) C (by decide) dL_ownerOf_21 ?_
    refine g_iretH C F dL_ownerOf_22 ?_
    exact cw_LW0 (by unfold sp_ownerOf; rw [cw_it h1, cw_it h2]; exact cw_stp0 rfl) (by rw [gw_set_self, cw_ups]) (hr5.low (fun q hq => by rw [gw_set_ne _ _ _ _ (by omega)]; exact if_pos hq))
  · refine g_aload_n C rfl dL_ownerOf_0 ?_
    refine g_iconst (v := 0) C (by decide) dL_ownerOf_1 ?_
    refine g_aload_n C rfl dL_ownerOf_2 ?_
    refine g_iload_n C rfl dL_ownerOf_3 ?_
    refine g_iload_n C rfl dL_ownerOf_4 ?_
    have hpass : ∀ z ∈ ([] : List (Nat × Nat × Nat × Nat)), z.2.2.2 ≠ 0 ∧ ∃ nm : String, Cond.classLink RL z.2.2.2 nm ∈ gw_T ∧ ("java/lang/IndexOutOfBoundsException", nm) ∈ gw_nc := fun z hz => absurd hz List.not_mem_nil
    exact g_callC C F cw_emb_CO (thr_X6_ownerOf_1 A hA o k h1) my_X6_ownerOf vi_L_24 (by decide) rfl (cw_emb_CO.1 252 (by decide)) rfl (cw_wpc w) cw_wpc_i cw_wpc_o w (fun _ _ => rfl) (Nat.le_of_ble_eq_true rfl) dL_ownerOf_5 rfl h [] (0, 10, 13, 28) [(0, 10, 17, 13)] rfl hpass (by decide) (by decide) (gw_T_at 634 (by decide +kernel) rfl) (gw_N_at 646 (by decide +kernel) rfl) (Or.inr ⟨4, by decide, dL_ownerOf_13, rfl⟩) (ic := 1) (cv := 1) (by decide) dL_ownerOf_15 dL_ownerOf_16 (fun w1 hw1 => cw_LW1 (by unfold sp_ownerOf; rw [cw_ie h1]; exact cw_stp1 (by decide)) (by decide) (cw_RC.low (w := w1) (hw1 ▸ h) (fun q hq => if_pos hq)))
  · refine g_aload_n C rfl dL_ownerOf_0 ?_
    refine g_iconst (v := 0) C (by decide) dL_ownerOf_1 ?_
    refine g_aload_n C rfl dL_ownerOf_2 ?_
    refine g_iload_n C rfl dL_ownerOf_3 ?_
    refine g_iload_n C rfl dL_ownerOf_4 ?_
    have hpass : ∀ z ∈ ([(0, 10, 13, 28)] : List (Nat × Nat × Nat × Nat)), z.2.2.2 ≠ 0 ∧ ∃ nm : String, Cond.classLink RL z.2.2.2 nm ∈ gw_T ∧ ("java/lang/IllegalArgumentException", nm) ∈ gw_nc := fun z hz => by
      simp only [List.mem_cons, List.not_mem_nil, or_false] at hz
      rcases hz with rfl
      · exact ⟨by decide, "java/lang/IndexOutOfBoundsException", gw_T_at 634 (by decide +kernel) rfl, List.mem_of_getElem? (i := 1) rfl⟩
    exact g_callC C F cw_emb_CO (thr_X6_ownerOf_2 A hA o k h1 h2) my_X6_ownerOf vi_L_24 (by decide) rfl (cw_emb_CO.1 252 (by decide)) rfl (cw_wpc w) cw_wpc_i cw_wpc_o w (fun _ _ => rfl) (Nat.le_of_ble_eq_true rfl) dL_ownerOf_5 rfl h [(0, 10, 13, 28)] (0, 10, 17, 13) [] rfl hpass (by decide) (by decide) (gw_T_at 412 (by decide +kernel) rfl) (gw_N_at 424 (by decide +kernel) rfl) (Or.inr ⟨4, by decide, dL_ownerOf_17, rfl⟩) (ic := 2) (cv := 2) (by decide) dL_ownerOf_19 dL_ownerOf_20 (fun w1 hw1 => cw_LW1 (by unfold sp_ownerOf; rw [cw_it h1, cw_ie h2]; exact cw_stp1 (by decide)) (by decide) (cw_RC.low (w := w1) (hw1 ▸ h) (fun q hq => if_pos hq)))

set_option maxHeartbeats 8000000 in
set_option maxRecDepth 100000 in
theorem ok_L_weekOf (A : cw_A) {n m : Nat} (hA : cw_IA n m A) (hB : cw_B (n + 21600) (m + 2400)) (o : Int32) (k : Int32) : gw_OkH yL_weekOf cL_weekOf 5 (some .int) [(0, 10, 13, 28), (0, 10, 17, 13)] sCO 13 [.ref 252, .int o, .int k, .ref 263] (fun w => cw_RC A w) (fun _ vr w1 => cw_LW (sp_weekOf A o k) vr w1) := by
  refine gw_ofH (by decide) (Nat.le_of_ble_eq_true rfl) ?_
  intro X w h C F
  have hI := hA.1
  have hB2 : cw_B n (m + 20) := cw_B_le2 hB (by omega) (by omega)
  rcases cw_or2 (cw_isW o) (0 ≤ k ∧ k ≤ 4) with ⟨h1, h2⟩ | h1 | ⟨h1, h2⟩
  · refine g_aload_n C rfl dL_weekOf_0 ?_
    refine g_iconst (v := 0) C (by decide) dL_weekOf_1 ?_
    refine g_aload_n C rfl dL_weekOf_2 ?_
    refine g_iload_n C rfl dL_weekOf_3 ?_
    refine g_iload_n C rfl dL_weekOf_4 ?_
    refine g_callW C cw_emb_CO (ok_X6_weekOf A hA o k h1 h2) my_X6_weekOf vi_L_30 (by decide) ⟨Nat.zero_le _, Nat.zero_le _⟩ rfl ((cw_emb_CO.1 252 (by decide))) rfl (cw_wpc w) (cw_wpc_i) (cw_wpc_o) (w) (fun _ _ => rfl) (Nat.le_of_ble_eq_true rfl) dL_weekOf_5 rfl (h) (fun v_5 w_5 hp_5 => ?_)
    obtain ⟨rfl, hr5⟩ := hp_5
    refine g_i2l C dL_weekOf_8 ?_
    refine g_last (j := 0) C rfl rfl (by decide) (by decide) dL_weekOf_9 ?_
    refine g_goto (tgt := 21) C (by decide) dL_weekOf_10 ?_
    refine g_iconst (v := 0) C (by decide) dL_weekOf_21 ?_
    refine g_iretH C F dL_weekOf_22 ?_
    exact cw_LW0 (by unfold sp_weekOf; rw [cw_it h1, cw_it h2]; exact cw_stp0 rfl) (by rw [gw_set_self, cw_ups]) (hr5.low (fun q hq => by rw [gw_set_ne _ _ _ _ (by omega)]; exact if_pos hq))
  · refine g_aload_n C rfl dL_weekOf_0 ?_
    refine g_iconst (v := 0) C (by decide) dL_weekOf_1 ?_
    refine g_aload_n C rfl dL_weekOf_2 ?_
    refine g_iload_n C rfl dL_weekOf_3 ?_
    refine g_iload_n C rfl dL_weekOf_4 ?_
    have hpass : ∀ z ∈ ([] : List (Nat × Nat × Nat × Nat)), z.2.2.2 ≠ 0 ∧ ∃ nm : String, Cond.classLink RL z.2.2.2 nm ∈ gw_T ∧ ("java/lang/IndexOutOfBoundsException", nm) ∈ gw_nc := fun z hz => absurd hz List.not_mem_nil
    exact g_callC C F cw_emb_CO (thr_X6_weekOf_1 A hA o k h1) my_X6_weekOf vi_L_30 (by decide) rfl (cw_emb_CO.1 252 (by decide)) rfl (cw_wpc w) cw_wpc_i cw_wpc_o w (fun _ _ => rfl) (Nat.le_of_ble_eq_true rfl) dL_weekOf_5 rfl h [] (0, 10, 13, 28) [(0, 10, 17, 13)] rfl hpass (by decide) (by decide) (gw_T_at 634 (by decide +kernel) rfl) (gw_N_at 646 (by decide +kernel) rfl) (Or.inr ⟨4, by decide, dL_weekOf_13, rfl⟩) (ic := 1) (cv := 1) (by decide) dL_weekOf_15 dL_weekOf_16 (fun w1 hw1 => cw_LW1 (by unfold sp_weekOf; rw [cw_ie h1]; exact cw_stp1 (by decide)) (by decide) (cw_RC.low (w := w1) (hw1 ▸ h) (fun q hq => if_pos hq)))
  · refine g_aload_n C rfl dL_weekOf_0 ?_
    refine g_iconst (v := 0) C (by decide) dL_weekOf_1 ?_
    refine g_aload_n C rfl dL_weekOf_2 ?_
    refine g_iload_n C rfl dL_weekOf_3 ?_
    refine g_iload_n C rfl dL_weekOf_4 ?_
    have hpass : ∀ z ∈ ([(0, 10, 13, 28)] : List (Nat × Nat × Nat × Nat)), z.2.2.2 ≠ 0 ∧ ∃ nm : String, Cond.classLink RL z.2.2.2 nm ∈ gw_T ∧ ("java/lang/IllegalArgumentException", nm) ∈ gw_nc := fun z hz => by
      simp only [List.mem_cons, List.not_mem_nil, or_false] at hz
      rcases hz with rfl
      · exact ⟨by decide, "java/lang/IndexOutOfBoundsException", gw_T_at 634 (by decide +kernel) rfl, List.mem_of_getElem? (i := 1) rfl⟩
    exact g_callC C F cw_emb_CO (thr_X6_weekOf_2 A hA o k h1 h2) my_X6_weekOf vi_L_30 (by decide) rfl (cw_emb_CO.1 252 (by decide)) rfl (cw_wpc w) cw_wpc_i cw_wpc_o w (fun _ _ => rfl) (Nat.le_of_ble_eq_true rfl) dL_weekOf_5 rfl h [(0, 10, 13, 28)] (0, 10, 17, 13) [] rfl hpass (by decide) (by decide) (gw_T_at 412 (by decide +kernel) rfl) (gw_N_at 424 (by decide +kernel) rfl) (Or.inr ⟨4, by decide, dL_weekOf_17, rfl⟩) (ic := 2) (cv := 2) (by decide) dL_weekOf_19 dL_weekOf_20 (fun w1 hw1 => cw_LW1 (by unfold sp_weekOf; rw [cw_it h1, cw_ie h2]; exact cw_stp1 (by decide)) (by decide) (cw_RC.low (w := w1) (hw1 ▸ h) (fun q hq => if_pos hq)))

set_option maxHeartbeats 8000000 in
set_option maxRecDepth 100000 in
theorem ok_L_bidOf (A : cw_A) {n m : Nat} (hA : cw_IA n m A) (hB : cw_B (n + 21600) (m + 2400)) (o : Int32) (k : Int32) : gw_OkH yL_bidOf cL_bidOf 5 (some .int) [(0, 10, 13, 28)] sCO 13 [.ref 252, .int o, .int k, .ref 263] (fun w => cw_RC A w) (fun _ vr w1 => cw_LW (sp_bidOf A o k) vr w1) := by
  refine gw_ofH (by decide) (Nat.le_of_ble_eq_true rfl) ?_
  intro X w h C F
  have hI := hA.1
  have hB2 : cw_B n (m + 20) := cw_B_le2 hB (by omega) (by omega)
  rcases cw_or1 (cw_th A.1 o k) with h1 | h1
  · refine g_aload_n C rfl dL_bidOf_0 ?_
    refine g_iconst (v := 0) C (by decide) dL_bidOf_1 ?_
    refine g_aload_n C rfl dL_bidOf_2 ?_
    refine g_iload_n C rfl dL_bidOf_3 ?_
    refine g_iload_n C rfl dL_bidOf_4 ?_
    refine g_callW C cw_emb_CO (ok_X6_bidOf A hA o k h1) my_X6_bidOf vi_L_33 (by decide) ⟨Nat.zero_le _, Nat.zero_le _⟩ rfl ((cw_emb_CO.1 252 (by decide))) rfl (cw_wpc w) (cw_wpc_i) (cw_wpc_o) (w) (fun _ _ => rfl) (Nat.le_of_ble_eq_true rfl) dL_bidOf_5 rfl (h) (fun v_5 w_5 hp_5 => ?_)
    obtain ⟨rfl, hr5⟩ := hp_5
    refine g_i2l C dL_bidOf_8 ?_
    refine g_last (j := 0) C rfl rfl (by decide) (by decide) dL_bidOf_9 ?_
    refine g_goto (tgt := 17) C (by decide) dL_bidOf_10 ?_
    refine g_iconst (v := 0) C (by decide) dL_bidOf_17 ?_
    refine g_iretH C F dL_bidOf_18 ?_
    exact cw_LW0 (by unfold sp_bidOf; rw [cw_it h1]; exact cw_stp0 rfl) (by rw [gw_set_self, cw_ups]) (hr5.low (fun q hq => by rw [gw_set_ne _ _ _ _ (by omega)]; exact if_pos hq))
  · refine g_aload_n C rfl dL_bidOf_0 ?_
    refine g_iconst (v := 0) C (by decide) dL_bidOf_1 ?_
    refine g_aload_n C rfl dL_bidOf_2 ?_
    refine g_iload_n C rfl dL_bidOf_3 ?_
    refine g_iload_n C rfl dL_bidOf_4 ?_
    have hpass : ∀ z ∈ ([] : List (Nat × Nat × Nat × Nat)), z.2.2.2 ≠ 0 ∧ ∃ nm : String, Cond.classLink RL z.2.2.2 nm ∈ gw_T ∧ ("java/lang/IndexOutOfBoundsException", nm) ∈ gw_nc := fun z hz => absurd hz List.not_mem_nil
    exact g_callC C F cw_emb_CO (thr_X6_bidOf_1 A hA o k h1) my_X6_bidOf vi_L_33 (by decide) rfl (cw_emb_CO.1 252 (by decide)) rfl (cw_wpc w) cw_wpc_i cw_wpc_o w (fun _ _ => rfl) (Nat.le_of_ble_eq_true rfl) dL_bidOf_5 rfl h [] (0, 10, 13, 28) [] rfl hpass (by decide) (by decide) (gw_T_at 634 (by decide +kernel) rfl) (gw_N_at 646 (by decide +kernel) rfl) (Or.inr ⟨4, by decide, dL_bidOf_13, rfl⟩) (ic := 1) (cv := 1) (by decide) dL_bidOf_15 dL_bidOf_16 (fun w1 hw1 => cw_LW1 (by unfold sp_bidOf; rw [cw_ie h1]; exact cw_stp1 (by decide)) (by decide) (cw_RC.low (w := w1) (hw1 ▸ h) (fun q hq => if_pos hq)))

set_option maxHeartbeats 8000000 in
set_option maxRecDepth 100000 in
theorem ok_L_offerOf (A : cw_A) {n m : Nat} (hA : cw_IA n m A) (hB : cw_B (n + 21600) (m + 2400)) (o : Int32) (k : Int32) : gw_OkH yL_offerOf cL_offerOf 5 (some .int) [(0, 10, 13, 28), (0, 10, 17, 13)] sCO 13 [.ref 252, .int o, .int k, .ref 263] (fun w => cw_RC A w) (fun _ vr w1 => cw_LW (sp_offerOf A o k) vr w1) := by
  refine gw_ofH (by decide) (Nat.le_of_ble_eq_true rfl) ?_
  intro X w h C F
  have hI := hA.1
  have hB2 : cw_B n (m + 20) := cw_B_le2 hB (by omega) (by omega)
  rcases cw_or2 (cw_isK A.1 o) (0 ≤ k ∧ k ≤ 3) with ⟨h1, h2⟩ | h1 | ⟨h1, h2⟩
  · refine g_aload_n C rfl dL_offerOf_0 ?_
    refine g_iconst (v := 0) C (by decide) dL_offerOf_1 ?_
    refine g_aload_n C rfl dL_offerOf_2 ?_
    refine g_iload_n C rfl dL_offerOf_3 ?_
    refine g_iload_n C rfl dL_offerOf_4 ?_
    refine g_callW C cw_emb_CO (ok_X6_offerOf A hA o k h1 h2) my_X6_offerOf vi_L_36 (by decide) ⟨Nat.zero_le _, Nat.zero_le _⟩ rfl ((cw_emb_CO.1 252 (by decide))) rfl (cw_wpc w) (cw_wpc_i) (cw_wpc_o) (w) (fun _ _ => rfl) (Nat.le_of_ble_eq_true rfl) dL_offerOf_5 rfl (h) (fun v_5 w_5 hp_5 => ?_)
    obtain ⟨rfl, hr5⟩ := hp_5
    refine g_i2l C dL_offerOf_8 ?_
    refine g_last (j := 0) C rfl rfl (by decide) (by decide) dL_offerOf_9 ?_
    refine g_goto (tgt := 21) C (by decide) dL_offerOf_10 ?_
    refine g_iconst (v := 0) C (by decide) dL_offerOf_21 ?_
    refine g_iretH C F dL_offerOf_22 ?_
    exact cw_LW0 (by unfold sp_offerOf; rw [cw_it h1, cw_it h2]; exact cw_stp0 rfl) (by rw [gw_set_self, cw_ups]) (hr5.low (fun q hq => by rw [gw_set_ne _ _ _ _ (by omega)]; exact if_pos hq))
  · refine g_aload_n C rfl dL_offerOf_0 ?_
    refine g_iconst (v := 0) C (by decide) dL_offerOf_1 ?_
    refine g_aload_n C rfl dL_offerOf_2 ?_
    refine g_iload_n C rfl dL_offerOf_3 ?_
    refine g_iload_n C rfl dL_offerOf_4 ?_
    have hpass : ∀ z ∈ ([] : List (Nat × Nat × Nat × Nat)), z.2.2.2 ≠ 0 ∧ ∃ nm : String, Cond.classLink RL z.2.2.2 nm ∈ gw_T ∧ ("java/lang/IndexOutOfBoundsException", nm) ∈ gw_nc := fun z hz => absurd hz List.not_mem_nil
    exact g_callC C F cw_emb_CO (thr_X6_offerOf_1 A hA o k h1) my_X6_offerOf vi_L_36 (by decide) rfl (cw_emb_CO.1 252 (by decide)) rfl (cw_wpc w) cw_wpc_i cw_wpc_o w (fun _ _ => rfl) (Nat.le_of_ble_eq_true rfl) dL_offerOf_5 rfl h [] (0, 10, 13, 28) [(0, 10, 17, 13)] rfl hpass (by decide) (by decide) (gw_T_at 634 (by decide +kernel) rfl) (gw_N_at 646 (by decide +kernel) rfl) (Or.inr ⟨4, by decide, dL_offerOf_13, rfl⟩) (ic := 1) (cv := 1) (by decide) dL_offerOf_15 dL_offerOf_16 (fun w1 hw1 => cw_LW1 (by unfold sp_offerOf; rw [cw_ie h1]; exact cw_stp1 (by decide)) (by decide) (cw_RC.low (w := w1) (hw1 ▸ h) (fun q hq => if_pos hq)))
  · refine g_aload_n C rfl dL_offerOf_0 ?_
    refine g_iconst (v := 0) C (by decide) dL_offerOf_1 ?_
    refine g_aload_n C rfl dL_offerOf_2 ?_
    refine g_iload_n C rfl dL_offerOf_3 ?_
    refine g_iload_n C rfl dL_offerOf_4 ?_
    have hpass : ∀ z ∈ ([(0, 10, 13, 28)] : List (Nat × Nat × Nat × Nat)), z.2.2.2 ≠ 0 ∧ ∃ nm : String, Cond.classLink RL z.2.2.2 nm ∈ gw_T ∧ ("java/lang/IllegalArgumentException", nm) ∈ gw_nc := fun z hz => by
      simp only [List.mem_cons, List.not_mem_nil, or_false] at hz
      rcases hz with rfl
      · exact ⟨by decide, "java/lang/IndexOutOfBoundsException", gw_T_at 634 (by decide +kernel) rfl, List.mem_of_getElem? (i := 1) rfl⟩
    exact g_callC C F cw_emb_CO (thr_X6_offerOf_2 A hA o k h1 h2) my_X6_offerOf vi_L_36 (by decide) rfl (cw_emb_CO.1 252 (by decide)) rfl (cw_wpc w) cw_wpc_i cw_wpc_o w (fun _ _ => rfl) (Nat.le_of_ble_eq_true rfl) dL_offerOf_5 rfl h [(0, 10, 13, 28)] (0, 10, 17, 13) [] rfl hpass (by decide) (by decide) (gw_T_at 412 (by decide +kernel) rfl) (gw_N_at 424 (by decide +kernel) rfl) (Or.inr ⟨4, by decide, dL_offerOf_17, rfl⟩) (ic := 2) (cv := 2) (by decide) dL_offerOf_19 dL_offerOf_20 (fun w1 hw1 => cw_LW1 (by unfold sp_offerOf; rw [cw_it h1, cw_ie h2]; exact cw_stp1 (by decide)) (by decide) (cw_RC.low (w := w1) (hw1 ▸ h) (fun q hq => if_pos hq)))

set_option maxHeartbeats 8000000 in
set_option maxRecDepth 100000 in
theorem ok_L_owner (A : cw_A) {n m : Nat} (hA : cw_IA n m A) (hB : cw_B (n + 21600) (m + 2400)) (a : Int32) : gw_OkH yL_owner cL_owner 4 (some .int) [(0, 9, 12, 13), (0, 9, 15, 15)] sCO 13 [.ref 252, .int a, .ref 263] (fun w => cw_RC A w) (fun _ vr w1 => cw_LW (sp_owner A a) vr w1) := by
  refine gw_ofH (by decide) (Nat.le_of_ble_eq_true rfl) ?_
  intro X w h C F
  have hI := hA.1
  have hB2 : cw_B n (m + 20) := cw_B_le2 hB (by omega) (by omega)
  rcases cw_or2 (1 ≤ a ∧ a ≤ 9) (¬ A.1 0 = 6) with ⟨h1, h2⟩ | h1 | ⟨h1, h2⟩
  · refine g_aload_n C rfl dL_owner_0 ?_
    refine g_iconst (v := 0) C (by decide) dL_owner_1 ?_
    refine g_aload_n C rfl dL_owner_2 ?_
    refine g_iload_n C rfl dL_owner_3 ?_
    refine g_callW C cw_emb_CO (ok_X6_owner A hA hB2 a h1 h2) my_X6_owner vi_L_39 (by decide) ⟨Nat.zero_le _, Nat.zero_le _⟩ rfl ((cw_emb_CO.1 252 (by decide))) rfl (cw_wpc w) (cw_wpc_i) (cw_wpc_o) (w) (fun _ _ => rfl) (Nat.le_of_ble_eq_true rfl) dL_owner_4 rfl (h) (fun v_4 w_4 hp_4 => ?_)
    obtain ⟨rfl, hr4⟩ := hp_4
    refine g_i2l C dL_owner_7 ?_
    refine g_last (j := 0) C rfl rfl (by decide) (by decide) dL_owner_8 ?_
    refine g_goto (tgt := 18) C (by decide) dL_owner_9 ?_
    refine g_iconst (v := 0) C (by decide) dL_owner_18 ?_
    refine g_iretH C F dL_owner_19 ?_
    exact cw_LW0 (by unfold sp_owner; rw [cw_it h1, if_neg h2]; exact cw_stp0 rfl) (by rw [gw_set_self, cw_ups]) (hr4.low (fun q hq => by rw [gw_set_ne _ _ _ _ (by omega)]; exact if_pos hq))
  · refine g_aload_n C rfl dL_owner_0 ?_
    refine g_iconst (v := 0) C (by decide) dL_owner_1 ?_
    refine g_aload_n C rfl dL_owner_2 ?_
    refine g_iload_n C rfl dL_owner_3 ?_
    have hpass : ∀ z ∈ ([] : List (Nat × Nat × Nat × Nat)), z.2.2.2 ≠ 0 ∧ ∃ nm : String, Cond.classLink RL z.2.2.2 nm ∈ gw_T ∧ ("java/lang/IllegalArgumentException", nm) ∈ gw_nc := fun z hz => absurd hz List.not_mem_nil
    exact g_callC C F cw_emb_CO (thr_X6_owner_1 A hA a h1) my_X6_owner vi_L_39 (by decide) rfl (cw_emb_CO.1 252 (by decide)) rfl (cw_wpc w) cw_wpc_i cw_wpc_o w (fun _ _ => rfl) (Nat.le_of_ble_eq_true rfl) dL_owner_4 rfl h [] (0, 9, 12, 13) [(0, 9, 15, 15)] rfl hpass (by decide) (by decide) (gw_T_at 412 (by decide +kernel) rfl) (gw_N_at 424 (by decide +kernel) rfl) (Or.inl ⟨3, by decide, dL_owner_12, rfl⟩) (ic := 1) (cv := 1) (by decide) dL_owner_13 dL_owner_14 (fun w1 hw1 => cw_LW1 (by unfold sp_owner; rw [cw_ie h1]; exact cw_stp1 (by decide)) (by decide) (cw_RC.low (w := w1) (hw1 ▸ h) (fun q hq => if_pos hq)))
  · refine g_aload_n C rfl dL_owner_0 ?_
    refine g_iconst (v := 0) C (by decide) dL_owner_1 ?_
    refine g_aload_n C rfl dL_owner_2 ?_
    refine g_iload_n C rfl dL_owner_3 ?_
    have hpass : ∀ z ∈ ([(0, 9, 12, 13)] : List (Nat × Nat × Nat × Nat)), z.2.2.2 ≠ 0 ∧ ∃ nm : String, Cond.classLink RL z.2.2.2 nm ∈ gw_T ∧ ("java/lang/IllegalStateException", nm) ∈ gw_nc := fun z hz => by
      simp only [List.mem_cons, List.not_mem_nil, or_false] at hz
      rcases hz with rfl
      · exact ⟨by decide, "java/lang/IllegalArgumentException", gw_T_at 412 (by decide +kernel) rfl, List.mem_of_getElem? (i := 0) rfl⟩
    exact g_callC C F cw_emb_CO (thr_X6_owner_2 A hA a h1 (cw_nn h2)) my_X6_owner vi_L_39 (by decide) rfl (cw_emb_CO.1 252 (by decide)) rfl (cw_wpc w) cw_wpc_i cw_wpc_o w (fun _ _ => rfl) (Nat.le_of_ble_eq_true rfl) dL_owner_4 rfl h [(0, 9, 12, 13)] (0, 9, 15, 15) [] rfl hpass (by decide) (by decide) (gw_T_at 413 (by decide +kernel) rfl) (gw_N_at 495 (by decide +kernel) rfl) (Or.inl ⟨3, by decide, dL_owner_15, rfl⟩) (ic := 2) (cv := 2) (by decide) dL_owner_16 dL_owner_17 (fun w1 hw1 => cw_LW1 (by unfold sp_owner; rw [cw_it h1, if_pos (cw_nn h2)]; exact cw_stp1 (by decide)) (by decide) (cw_RC.low (w := w1) (hw1 ▸ h) (fun q hq => if_pos hq)))

set_option maxHeartbeats 8000000 in
set_option maxRecDepth 100000 in
theorem ok_L_cost (A : cw_A) {n m : Nat} (hA : cw_IA n m A) (hB : cw_B (n + 21600) (m + 2400)) (o : Int32) (k : Int32) : gw_OkH yL_cost cL_cost 5 (some .int) [(0, 10, 13, 28), (0, 10, 17, 13)] sCO 13 [.ref 252, .int o, .int k, .ref 263] (fun w => cw_RC A w) (fun _ vr w1 => cw_LW (sp_cost A o k) vr w1) := by
  refine gw_ofH (by decide) (Nat.le_of_ble_eq_true rfl) ?_
  intro X w h C F
  have hI := hA.1
  have hB2 : cw_B n (m + 20) := cw_B_le2 hB (by omega) (by omega)
  rcases cw_or2 (cw_isW o) (1 ≤ k ∧ k ≤ 9) with ⟨h1, h2⟩ | h1 | ⟨h1, h2⟩
  · refine g_aload_n C rfl dL_cost_0 ?_
    refine g_iconst (v := 0) C (by decide) dL_cost_1 ?_
    refine g_aload_n C rfl dL_cost_2 ?_
    refine g_iload_n C rfl dL_cost_3 ?_
    refine g_iload_n C rfl dL_cost_4 ?_
    refine g_callW C cw_emb_CO (ok_X6_cost A hA hB2 o k h1 h2) my_X6_cost vi_L_42 (by decide) ⟨Nat.zero_le _, Nat.zero_le _⟩ rfl ((cw_emb_CO.1 252 (by decide))) rfl (cw_wpc w) (cw_wpc_i) (cw_wpc_o) (w) (fun _ _ => rfl) (Nat.le_of_ble_eq_true rfl) dL_cost_5 rfl (h) (fun v_5 w_5 hp_5 => ?_)
    obtain ⟨rfl, hr5⟩ := hp_5
    refine g_i2l C dL_cost_8 ?_
    refine g_last (j := 0) C rfl rfl (by decide) (by decide) dL_cost_9 ?_
    refine g_goto (tgt := 21) C (by decide) dL_cost_10 ?_
    refine g_iconst (v := 0) C (by decide) dL_cost_21 ?_
    refine g_iretH C F dL_cost_22 ?_
    exact cw_LW0 (by unfold sp_cost; rw [cw_it h1, cw_it h2]; exact cw_stp0 rfl) (by rw [gw_set_self, cw_ups]) (hr5.low (fun q hq => by rw [gw_set_ne _ _ _ _ (by omega)]; exact if_pos hq))
  · refine g_aload_n C rfl dL_cost_0 ?_
    refine g_iconst (v := 0) C (by decide) dL_cost_1 ?_
    refine g_aload_n C rfl dL_cost_2 ?_
    refine g_iload_n C rfl dL_cost_3 ?_
    refine g_iload_n C rfl dL_cost_4 ?_
    have hpass : ∀ z ∈ ([] : List (Nat × Nat × Nat × Nat)), z.2.2.2 ≠ 0 ∧ ∃ nm : String, Cond.classLink RL z.2.2.2 nm ∈ gw_T ∧ ("java/lang/IndexOutOfBoundsException", nm) ∈ gw_nc := fun z hz => absurd hz List.not_mem_nil
    exact g_callC C F cw_emb_CO (thr_X6_cost_1 A hA o k h1) my_X6_cost vi_L_42 (by decide) rfl (cw_emb_CO.1 252 (by decide)) rfl (cw_wpc w) cw_wpc_i cw_wpc_o w (fun _ _ => rfl) (Nat.le_of_ble_eq_true rfl) dL_cost_5 rfl h [] (0, 10, 13, 28) [(0, 10, 17, 13)] rfl hpass (by decide) (by decide) (gw_T_at 634 (by decide +kernel) rfl) (gw_N_at 646 (by decide +kernel) rfl) (Or.inr ⟨4, by decide, dL_cost_13, rfl⟩) (ic := 1) (cv := 1) (by decide) dL_cost_15 dL_cost_16 (fun w1 hw1 => cw_LW1 (by unfold sp_cost; rw [cw_ie h1]; exact cw_stp1 (by decide)) (by decide) (cw_RC.low (w := w1) (hw1 ▸ h) (fun q hq => if_pos hq)))
  · refine g_aload_n C rfl dL_cost_0 ?_
    refine g_iconst (v := 0) C (by decide) dL_cost_1 ?_
    refine g_aload_n C rfl dL_cost_2 ?_
    refine g_iload_n C rfl dL_cost_3 ?_
    refine g_iload_n C rfl dL_cost_4 ?_
    have hpass : ∀ z ∈ ([(0, 10, 13, 28)] : List (Nat × Nat × Nat × Nat)), z.2.2.2 ≠ 0 ∧ ∃ nm : String, Cond.classLink RL z.2.2.2 nm ∈ gw_T ∧ ("java/lang/IllegalArgumentException", nm) ∈ gw_nc := fun z hz => by
      simp only [List.mem_cons, List.not_mem_nil, or_false] at hz
      rcases hz with rfl
      · exact ⟨by decide, "java/lang/IndexOutOfBoundsException", gw_T_at 634 (by decide +kernel) rfl, List.mem_of_getElem? (i := 1) rfl⟩
    exact g_callC C F cw_emb_CO (thr_X6_cost_2 A hA o k h1 h2) my_X6_cost vi_L_42 (by decide) rfl (cw_emb_CO.1 252 (by decide)) rfl (cw_wpc w) cw_wpc_i cw_wpc_o w (fun _ _ => rfl) (Nat.le_of_ble_eq_true rfl) dL_cost_5 rfl h [(0, 10, 13, 28)] (0, 10, 17, 13) [] rfl hpass (by decide) (by decide) (gw_T_at 412 (by decide +kernel) rfl) (gw_N_at 424 (by decide +kernel) rfl) (Or.inr ⟨4, by decide, dL_cost_17, rfl⟩) (ic := 2) (cv := 2) (by decide) dL_cost_19 dL_cost_20 (fun w1 hw1 => cw_LW1 (by unfold sp_cost; rw [cw_it h1, cw_ie h2]; exact cw_stp1 (by decide)) (by decide) (cw_RC.low (w := w1) (hw1 ▸ h) (fun q hq => if_pos hq)))

set_option maxHeartbeats 8000000 in
set_option maxRecDepth 100000 in
theorem ok_L_school (A : cw_A) {n m : Nat} (hA : cw_IA n m A) (hB : cw_B (n + 21600) (m + 2400)) (o : Int32) (k : Int32) (h01 : cw_r 0 1 k) : gw_OkH yL_school cL_school 5 (some .int) [(0, 10, 13, 28)] sCO 13 [.ref 252, .int o, .int k, .ref 263] (fun w => cw_RC A w) (fun _ vr w1 => cw_LW (sp_school A o k) vr w1) := by
  refine gw_ofH (by decide) (Nat.le_of_ble_eq_true rfl) ?_
  intro X w h C F
  have hI := hA.1
  have hB2 : cw_B n (m + 20) := cw_B_le2 hB (by omega) (by omega)
  rcases cw_or1 (cw_isW o) with h1 | h1
  · refine g_aload_n C rfl dL_school_0 ?_
    refine g_iconst (v := 0) C (by decide) dL_school_1 ?_
    refine g_aload_n C rfl dL_school_2 ?_
    refine g_iload_n C rfl dL_school_3 ?_
    refine g_iload_n C rfl dL_school_4 ?_
    refine g_callW C cw_emb_CO (ok_X6_school A hA hB2 o k h1 h01) my_X6_school vi_L_45 (by decide) ⟨Nat.zero_le _, Nat.zero_le _⟩ rfl ((cw_emb_CO.1 252 (by decide))) rfl (cw_wpc w) (cw_wpc_i) (cw_wpc_o) (w) (fun _ _ => rfl) (Nat.le_of_ble_eq_true rfl) dL_school_5 rfl (h) (fun v_5 w_5 hp_5 => ?_)
    obtain ⟨rfl, hr5⟩ := hp_5
    refine g_i2l C dL_school_8 ?_
    refine g_last (j := 0) C rfl rfl (by decide) (by decide) dL_school_9 ?_
    refine g_goto (tgt := 17) C (by decide) dL_school_10 ?_
    refine g_iconst (v := 0) C (by decide) dL_school_17 ?_
    refine g_iretH C F dL_school_18 ?_
    exact cw_LW0 (by unfold sp_school; rw [cw_it h1]; exact cw_stp0 rfl) (by rw [gw_set_self, cw_ups]) (hr5.low (fun q hq => by rw [gw_set_ne _ _ _ _ (by omega)]; exact if_pos hq))
  · refine g_aload_n C rfl dL_school_0 ?_
    refine g_iconst (v := 0) C (by decide) dL_school_1 ?_
    refine g_aload_n C rfl dL_school_2 ?_
    refine g_iload_n C rfl dL_school_3 ?_
    refine g_iload_n C rfl dL_school_4 ?_
    have hpass : ∀ z ∈ ([] : List (Nat × Nat × Nat × Nat)), z.2.2.2 ≠ 0 ∧ ∃ nm : String, Cond.classLink RL z.2.2.2 nm ∈ gw_T ∧ ("java/lang/IndexOutOfBoundsException", nm) ∈ gw_nc := fun z hz => absurd hz List.not_mem_nil
    exact g_callC C F cw_emb_CO (thr_X6_school_1 A hA o k h1) my_X6_school vi_L_45 (by decide) rfl (cw_emb_CO.1 252 (by decide)) rfl (cw_wpc w) cw_wpc_i cw_wpc_o w (fun _ _ => rfl) (Nat.le_of_ble_eq_true rfl) dL_school_5 rfl h [] (0, 10, 13, 28) [] rfl hpass (by decide) (by decide) (gw_T_at 634 (by decide +kernel) rfl) (gw_N_at 646 (by decide +kernel) rfl) (Or.inr ⟨4, by decide, dL_school_13, rfl⟩) (ic := 1) (cv := 1) (by decide) dL_school_15 dL_school_16 (fun w1 hw1 => cw_LW1 (by unfold sp_school; rw [cw_ie h1]; exact cw_stp1 (by decide)) (by decide) (cw_RC.low (w := w1) (hw1 ▸ h) (fun q hq => if_pos hq)))

set_option maxHeartbeats 8000000 in
set_option maxRecDepth 100000 in
theorem ok_L_take (A : cw_A) {n m : Nat} (hA : cw_IA n m A) (hB : cw_B (n + 21600) (m + 2400)) (o : Int32) (k : Int32) : gw_OkH yL_take cL_take 5 (some .int) [(0, 10, 13, 28)] sCO 13 [.ref 252, .int o, .int k, .ref 263] (fun w => cw_RC A w) (fun _ vr w1 => cw_LW (sp_take A o k) vr w1) := by
  refine gw_ofH (by decide) (Nat.le_of_ble_eq_true rfl) ?_
  intro X w h C F
  have hI := hA.1
  have hB2 : cw_B n (m + 20) := cw_B_le2 hB (by omega) (by omega)
  rcases cw_or1 (cw_th A.1 o k) with h1 | h1
  · refine g_aload_n C rfl dL_take_0 ?_
    refine g_iconst (v := 0) C (by decide) dL_take_1 ?_
    refine g_aload_n C rfl dL_take_2 ?_
    refine g_iload_n C rfl dL_take_3 ?_
    refine g_iload_n C rfl dL_take_4 ?_
    refine g_callW C cw_emb_CO (ok_X6_take A hA hB2 o k h1) my_X6_take vi_L_49 (by decide) ⟨Nat.zero_le _, Nat.zero_le _⟩ rfl ((cw_emb_CO.1 252 (by decide))) rfl (cw_wpc w) (cw_wpc_i) (cw_wpc_o) (w) (fun _ _ => rfl) (Nat.le_of_ble_eq_true rfl) dL_take_5 rfl (h) (fun v_5 w_5 hp_5 => ?_)
    obtain ⟨rfl, hr5⟩ := hp_5
    refine g_i2l C dL_take_8 ?_
    refine g_last (j := 0) C rfl rfl (by decide) (by decide) dL_take_9 ?_
    refine g_goto (tgt := 17) C (by decide) dL_take_10 ?_
    refine g_iconst (v := 0) C (by decide) dL_take_17 ?_
    refine g_iretH C F dL_take_18 ?_
    exact cw_LW0 (by unfold sp_take; rw [cw_it h1]; exact cw_stp0 rfl) (by rw [gw_set_self, cw_ups]) (hr5.low (fun q hq => by rw [gw_set_ne _ _ _ _ (by omega)]; exact if_pos hq))
  · refine g_aload_n C rfl dL_take_0 ?_
    refine g_iconst (v := 0) C (by decide) dL_take_1 ?_
    refine g_aload_n C rfl dL_take_2 ?_
    refine g_iload_n C rfl dL_take_3 ?_
    refine g_iload_n C rfl dL_take_4 ?_
    have hpass : ∀ z ∈ ([] : List (Nat × Nat × Nat × Nat)), z.2.2.2 ≠ 0 ∧ ∃ nm : String, Cond.classLink RL z.2.2.2 nm ∈ gw_T ∧ ("java/lang/IndexOutOfBoundsException", nm) ∈ gw_nc := fun z hz => absurd hz List.not_mem_nil
    exact g_callC C F cw_emb_CO (thr_X6_take_1 A hA o k h1) my_X6_take vi_L_49 (by decide) rfl (cw_emb_CO.1 252 (by decide)) rfl (cw_wpc w) cw_wpc_i cw_wpc_o w (fun _ _ => rfl) (Nat.le_of_ble_eq_true rfl) dL_take_5 rfl h [] (0, 10, 13, 28) [] rfl hpass (by decide) (by decide) (gw_T_at 634 (by decide +kernel) rfl) (gw_N_at 646 (by decide +kernel) rfl) (Or.inr ⟨4, by decide, dL_take_13, rfl⟩) (ic := 1) (cv := 1) (by decide) dL_take_15 dL_take_16 (fun w1 hw1 => cw_LW1 (by unfold sp_take; rw [cw_ie h1]; exact cw_stp1 (by decide)) (by decide) (cw_RC.low (w := w1) (hw1 ▸ h) (fun q hq => if_pos hq)))

set_option maxHeartbeats 8000000 in
set_option maxRecDepth 100000 in
theorem ok_L_release (A : cw_A) {n m : Nat} (hA : cw_IA n m A) (hB : cw_B (n + 21600) (m + 2400)) (o : Int32) (k : Int32) : gw_OkH yL_release cL_release 5 (some .int) [(0, 10, 13, 28), (0, 10, 17, 15)] sCO 13 [.ref 252, .int o, .int k, .ref 263] (fun w => cw_RC A w) (fun _ vr w1 => cw_LW (sp_release A o k) vr w1) := by
  refine gw_ofH (by decide) (Nat.le_of_ble_eq_true rfl) ?_
  intro X w h C F
  have hI := hA.1
  have hB2 : cw_B n (m + 20) := cw_B_le2 hB (by omega) (by omega)
  rcases cw_or2 (cw_th A.1 o k) (A.1 (25 + 3 * cw_x k + 2) = o) with ⟨h1, h2⟩ | h1 | ⟨h1, h2⟩
  · refine g_aload_n C rfl dL_release_0 ?_
    refine g_iconst (v := 0) C (by decide) dL_release_1 ?_
    refine g_aload_n C rfl dL_release_2 ?_
    refine g_iload_n C rfl dL_release_3 ?_
    refine g_iload_n C rfl dL_release_4 ?_
    refine g_callW C cw_emb_CO (ok_X6_release A hA hB2 o k h1 h2) my_X6_release vi_L_52 (by decide) ⟨Nat.zero_le _, Nat.zero_le _⟩ rfl ((cw_emb_CO.1 252 (by decide))) rfl (cw_wpc w) (cw_wpc_i) (cw_wpc_o) (w) (fun _ _ => rfl) (Nat.le_of_ble_eq_true rfl) dL_release_5 rfl (h) (fun v_5 w_5 hp_5 => ?_)
    obtain ⟨rfl, hr5⟩ := hp_5
    refine g_i2l C dL_release_8 ?_
    refine g_last (j := 0) C rfl rfl (by decide) (by decide) dL_release_9 ?_
    refine g_goto (tgt := 21) C (by decide) dL_release_10 ?_
    refine g_iconst (v := 0) C (by decide) dL_release_21 ?_
    refine g_iretH C F dL_release_22 ?_
    exact cw_LW0 (by unfold sp_release; rw [cw_it h1, if_pos h2]; exact cw_stp0 rfl) (by rw [gw_set_self, cw_ups]) (hr5.low (fun q hq => by rw [gw_set_ne _ _ _ _ (by omega)]; exact if_pos hq))
  · refine g_aload_n C rfl dL_release_0 ?_
    refine g_iconst (v := 0) C (by decide) dL_release_1 ?_
    refine g_aload_n C rfl dL_release_2 ?_
    refine g_iload_n C rfl dL_release_3 ?_
    refine g_iload_n C rfl dL_release_4 ?_
    have hpass : ∀ z ∈ ([] : List (Nat × Nat × Nat × Nat)), z.2.2.2 ≠ 0 ∧ ∃ nm : String, Cond.classLink RL z.2.2.2 nm ∈ gw_T ∧ ("java/lang/IndexOutOfBoundsException", nm) ∈ gw_nc := fun z hz => absurd hz List.not_mem_nil
    exact g_callC C F cw_emb_CO (thr_X6_release_1 A hA o k h1) my_X6_release vi_L_52 (by decide) rfl (cw_emb_CO.1 252 (by decide)) rfl (cw_wpc w) cw_wpc_i cw_wpc_o w (fun _ _ => rfl) (Nat.le_of_ble_eq_true rfl) dL_release_5 rfl h [] (0, 10, 13, 28) [(0, 10, 17, 15)] rfl hpass (by decide) (by decide) (gw_T_at 634 (by decide +kernel) rfl) (gw_N_at 646 (by decide +kernel) rfl) (Or.inr ⟨4, by decide, dL_release_13, rfl⟩) (ic := 1) (cv := 1) (by decide) dL_release_15 dL_release_16 (fun w1 hw1 => cw_LW1 (by unfold sp_release; rw [cw_ie h1]; exact cw_stp1 (by decide)) (by decide) (cw_RC.low (w := w1) (hw1 ▸ h) (fun q hq => if_pos hq)))
  · refine g_aload_n C rfl dL_release_0 ?_
    refine g_iconst (v := 0) C (by decide) dL_release_1 ?_
    refine g_aload_n C rfl dL_release_2 ?_
    refine g_iload_n C rfl dL_release_3 ?_
    refine g_iload_n C rfl dL_release_4 ?_
    have hpass : ∀ z ∈ ([(0, 10, 13, 28)] : List (Nat × Nat × Nat × Nat)), z.2.2.2 ≠ 0 ∧ ∃ nm : String, Cond.classLink RL z.2.2.2 nm ∈ gw_T ∧ ("java/lang/IllegalStateException", nm) ∈ gw_nc := fun z hz => by
      simp only [List.mem_cons, List.not_mem_nil, or_false] at hz
      rcases hz with rfl
      · exact ⟨by decide, "java/lang/IndexOutOfBoundsException", gw_T_at 634 (by decide +kernel) rfl, List.mem_of_getElem? (i := 2) rfl⟩
    exact g_callC C F cw_emb_CO (thr_X6_release_2 A hA o k h1 h2) my_X6_release vi_L_52 (by decide) rfl (cw_emb_CO.1 252 (by decide)) rfl (cw_wpc w) cw_wpc_i cw_wpc_o w (fun _ _ => rfl) (Nat.le_of_ble_eq_true rfl) dL_release_5 rfl h [(0, 10, 13, 28)] (0, 10, 17, 15) [] rfl hpass (by decide) (by decide) (gw_T_at 413 (by decide +kernel) rfl) (gw_N_at 495 (by decide +kernel) rfl) (Or.inr ⟨4, by decide, dL_release_17, rfl⟩) (ic := 2) (cv := 2) (by decide) dL_release_19 dL_release_20 (fun w1 hw1 => cw_LW1 (by unfold sp_release; rw [cw_it h1, if_neg h2]; exact cw_stp1 (by decide)) (by decide) (cw_RC.low (w := w1) (hw1 ▸ h) (fun q hq => if_pos hq)))

set_option maxHeartbeats 8000000 in
set_option maxRecDepth 100000 in
theorem ok_L_bid (A : cw_A) {n m : Nat} (hA : cw_IA n m A) (hB : cw_B (n + 21600) (m + 2400)) (o : Int32) (k : Int32) (a : Int32) : gw_OkH yL_bid cL_bid 6 (some .int) [(0, 12, 15, 28), (0, 12, 19, 13), (0, 12, 23, 15)] sCO 13 [.ref 252, .int o, .int k, .int a, .ref 263] (fun w => cw_RC A w) (fun _ vr w1 => cw_LW (sp_bid A o k a) vr w1) := by
  refine gw_ofH (by decide) (Nat.le_of_ble_eq_true rfl) ?_
  intro X w h C F
  have hI := hA.1
  have hB2 : cw_B n (m + 20) := cw_B_le2 hB (by omega) (by omega)
  rcases cw_or3 (cw_th A.1 o k) (0 ≤ a ∧ a ≤ 20) (cw_open A.1 (cw_x k)) with ⟨h1, h2, h3⟩ | h1 | ⟨h1, h2⟩ | ⟨h1, h2, h3⟩
  · refine g_aload C rfl dL_bid_0 ?_
    refine g_iconst (v := 0) C (by decide) dL_bid_2 ?_
    refine g_aload_n C rfl dL_bid_3 ?_
    refine g_iload_n C rfl dL_bid_4 ?_
    refine g_iload_n C rfl dL_bid_5 ?_
    refine g_iload_n C rfl dL_bid_6 ?_
    refine g_callW C cw_emb_CO (ok_X6_bid A hA hB2 o k a h1 h2 h3) my_X6_bid vi_L_55 (by decide) ⟨Nat.zero_le _, Nat.zero_le _⟩ rfl ((cw_emb_CO.1 252 (by decide))) rfl (cw_wpc w) (cw_wpc_i) (cw_wpc_o) (w) (fun _ _ => rfl) (Nat.le_of_ble_eq_true rfl) dL_bid_7 rfl (h) (fun v_7 w_7 hp_7 => ?_)
    obtain ⟨rfl, hr7⟩ := hp_7
    refine g_i2l C dL_bid_10 ?_
    refine g_last (j := 0) C rfl rfl (by decide) (by decide) dL_bid_11 ?_
    refine g_goto (tgt := 27) C (by decide) dL_bid_12 ?_
    refine g_iconst (v := 0) C (by decide) dL_bid_27 ?_
    refine g_iretH C F dL_bid_28 ?_
    exact cw_LW0 (by unfold sp_bid; rw [cw_it h1, cw_it h2, cw_it h3]; exact cw_stp0 rfl) (by rw [gw_set_self, cw_ups]) (hr7.low (fun q hq => by rw [gw_set_ne _ _ _ _ (by omega)]; exact if_pos hq))
  · refine g_aload C rfl dL_bid_0 ?_
    refine g_iconst (v := 0) C (by decide) dL_bid_2 ?_
    refine g_aload_n C rfl dL_bid_3 ?_
    refine g_iload_n C rfl dL_bid_4 ?_
    refine g_iload_n C rfl dL_bid_5 ?_
    refine g_iload_n C rfl dL_bid_6 ?_
    have hpass : ∀ z ∈ ([] : List (Nat × Nat × Nat × Nat)), z.2.2.2 ≠ 0 ∧ ∃ nm : String, Cond.classLink RL z.2.2.2 nm ∈ gw_T ∧ ("java/lang/IndexOutOfBoundsException", nm) ∈ gw_nc := fun z hz => absurd hz List.not_mem_nil
    exact g_callC C F cw_emb_CO (thr_X6_bid_1 A hA o k a h1) my_X6_bid vi_L_55 (by decide) rfl (cw_emb_CO.1 252 (by decide)) rfl (cw_wpc w) cw_wpc_i cw_wpc_o w (fun _ _ => rfl) (Nat.le_of_ble_eq_true rfl) dL_bid_7 rfl h [] (0, 12, 15, 28) [(0, 12, 19, 13), (0, 12, 23, 15)] rfl hpass (by decide) (by decide) (gw_T_at 634 (by decide +kernel) rfl) (gw_N_at 646 (by decide +kernel) rfl) (Or.inr ⟨5, by decide, dL_bid_15, rfl⟩) (ic := 1) (cv := 1) (by decide) dL_bid_17 dL_bid_18 (fun w1 hw1 => cw_LW1 (by unfold sp_bid; rw [cw_ie h1]; exact cw_stp1 (by decide)) (by decide) (cw_RC.low (w := w1) (hw1 ▸ h) (fun q hq => if_pos hq)))
  · refine g_aload C rfl dL_bid_0 ?_
    refine g_iconst (v := 0) C (by decide) dL_bid_2 ?_
    refine g_aload_n C rfl dL_bid_3 ?_
    refine g_iload_n C rfl dL_bid_4 ?_
    refine g_iload_n C rfl dL_bid_5 ?_
    refine g_iload_n C rfl dL_bid_6 ?_
    have hpass : ∀ z ∈ ([(0, 12, 15, 28)] : List (Nat × Nat × Nat × Nat)), z.2.2.2 ≠ 0 ∧ ∃ nm : String, Cond.classLink RL z.2.2.2 nm ∈ gw_T ∧ ("java/lang/IllegalArgumentException", nm) ∈ gw_nc := fun z hz => by
      simp only [List.mem_cons, List.not_mem_nil, or_false] at hz
      rcases hz with rfl
      · exact ⟨by decide, "java/lang/IndexOutOfBoundsException", gw_T_at 634 (by decide +kernel) rfl, List.mem_of_getElem? (i := 1) rfl⟩
    exact g_callC C F cw_emb_CO (thr_X6_bid_2 A hA o k a h1 h2) my_X6_bid vi_L_55 (by decide) rfl (cw_emb_CO.1 252 (by decide)) rfl (cw_wpc w) cw_wpc_i cw_wpc_o w (fun _ _ => rfl) (Nat.le_of_ble_eq_true rfl) dL_bid_7 rfl h [(0, 12, 15, 28)] (0, 12, 19, 13) [(0, 12, 23, 15)] rfl hpass (by decide) (by decide) (gw_T_at 412 (by decide +kernel) rfl) (gw_N_at 424 (by decide +kernel) rfl) (Or.inr ⟨5, by decide, dL_bid_19, rfl⟩) (ic := 2) (cv := 2) (by decide) dL_bid_21 dL_bid_22 (fun w1 hw1 => cw_LW1 (by unfold sp_bid; rw [cw_it h1, cw_ie h2]; exact cw_stp1 (by decide)) (by decide) (cw_RC.low (w := w1) (hw1 ▸ h) (fun q hq => if_pos hq)))
  · refine g_aload C rfl dL_bid_0 ?_
    refine g_iconst (v := 0) C (by decide) dL_bid_2 ?_
    refine g_aload_n C rfl dL_bid_3 ?_
    refine g_iload_n C rfl dL_bid_4 ?_
    refine g_iload_n C rfl dL_bid_5 ?_
    refine g_iload_n C rfl dL_bid_6 ?_
    have hpass : ∀ z ∈ ([(0, 12, 15, 28), (0, 12, 19, 13)] : List (Nat × Nat × Nat × Nat)), z.2.2.2 ≠ 0 ∧ ∃ nm : String, Cond.classLink RL z.2.2.2 nm ∈ gw_T ∧ ("java/lang/IllegalStateException", nm) ∈ gw_nc := fun z hz => by
      simp only [List.mem_cons, List.not_mem_nil, or_false] at hz
      rcases hz with rfl | rfl
      · exact ⟨by decide, "java/lang/IndexOutOfBoundsException", gw_T_at 634 (by decide +kernel) rfl, List.mem_of_getElem? (i := 2) rfl⟩
      · exact ⟨by decide, "java/lang/IllegalArgumentException", gw_T_at 412 (by decide +kernel) rfl, List.mem_of_getElem? (i := 0) rfl⟩
    exact g_callC C F cw_emb_CO (thr_X6_bid_3 A hA o k a h1 h2 h3) my_X6_bid vi_L_55 (by decide) rfl (cw_emb_CO.1 252 (by decide)) rfl (cw_wpc w) cw_wpc_i cw_wpc_o w (fun _ _ => rfl) (Nat.le_of_ble_eq_true rfl) dL_bid_7 rfl h [(0, 12, 15, 28), (0, 12, 19, 13)] (0, 12, 23, 15) [] rfl hpass (by decide) (by decide) (gw_T_at 413 (by decide +kernel) rfl) (gw_N_at 495 (by decide +kernel) rfl) (Or.inr ⟨5, by decide, dL_bid_23, rfl⟩) (ic := 3) (cv := 3) (by decide) dL_bid_25 dL_bid_26 (fun w1 hw1 => cw_LW1 (by unfold sp_bid; rw [cw_it h1, cw_it h2, cw_ie h3]; exact cw_stp1 (by decide)) (by decide) (cw_RC.low (w := w1) (hw1 ▸ h) (fun q hq => if_pos hq)))

set_option maxHeartbeats 8000000 in
set_option maxRecDepth 100000 in
theorem ok_L_offer (A : cw_A) {n m : Nat} (hA : cw_IA n m A) (hB : cw_B (n + 21600) (m + 2400)) (o : Int32) (k : Int32) (a : Int32) : gw_OkH yL_offer cL_offer 6 (some .int) [(0, 12, 15, 28), (0, 12, 19, 15)] sCO 13 [.ref 252, .int o, .int k, .int a, .ref 263] (fun w => cw_RC A w) (fun _ vr w1 => cw_LW (sp_offer A o k a) vr w1) := by
  refine gw_ofH (by decide) (Nat.le_of_ble_eq_true rfl) ?_
  intro X w h C F
  have hI := hA.1
  have hB2 : cw_B n (m + 20) := cw_B_le2 hB (by omega) (by omega)
  rcases cw_or2 (cw_th A.1 o k ∧ cw_isW a) (cw_swap A.1 o k a ∧ ¬ A.1 205 = 8) with ⟨h1, h2⟩ | h1 | ⟨h1, h2⟩
  · refine g_aload C rfl dL_offer_0 ?_
    refine g_iconst (v := 0) C (by decide) dL_offer_2 ?_
    refine g_aload_n C rfl dL_offer_3 ?_
    refine g_iload_n C rfl dL_offer_4 ?_
    refine g_iload_n C rfl dL_offer_5 ?_
    refine g_iload_n C rfl dL_offer_6 ?_
    refine g_callW C cw_emb_CO (ok_X6_offer A hA hB2 o k a h1.1 h1.2 ⟨h2.1, (cw_205 hI).mpr h2.2⟩) my_X6_offer vi_L_59 (by decide) ⟨Nat.zero_le _, Nat.zero_le _⟩ rfl ((cw_emb_CO.1 252 (by decide))) rfl (cw_wpc w) (cw_wpc_i) (cw_wpc_o) (w) (fun _ _ => rfl) (Nat.le_of_ble_eq_true rfl) dL_offer_7 rfl (h) (fun v_7 w_7 hp_7 => ?_)
    obtain ⟨rfl, hr7⟩ := hp_7
    refine g_i2l C dL_offer_10 ?_
    refine g_last (j := 0) C rfl rfl (by decide) (by decide) dL_offer_11 ?_
    refine g_goto (tgt := 23) C (by decide) dL_offer_12 ?_
    refine g_iconst (v := 0) C (by decide) dL_offer_23 ?_
    refine g_iretH C F dL_offer_24 ?_
    exact cw_LW0 (by unfold sp_offer; rw [cw_it h1, cw_it h2]; exact cw_stp0 rfl) (by rw [gw_set_self, cw_ups]) (hr7.low (fun q hq => by rw [gw_set_ne _ _ _ _ (by omega)]; exact if_pos hq))
  · refine g_aload C rfl dL_offer_0 ?_
    refine g_iconst (v := 0) C (by decide) dL_offer_2 ?_
    refine g_aload_n C rfl dL_offer_3 ?_
    refine g_iload_n C rfl dL_offer_4 ?_
    refine g_iload_n C rfl dL_offer_5 ?_
    refine g_iload_n C rfl dL_offer_6 ?_
    have hpass : ∀ z ∈ ([] : List (Nat × Nat × Nat × Nat)), z.2.2.2 ≠ 0 ∧ ∃ nm : String, Cond.classLink RL z.2.2.2 nm ∈ gw_T ∧ ("java/lang/IndexOutOfBoundsException", nm) ∈ gw_nc := fun z hz => absurd hz List.not_mem_nil
    exact g_callC C F cw_emb_CO (thr_X6_offer_12 A hA o k a h1) my_X6_offer vi_L_59 (by decide) rfl (cw_emb_CO.1 252 (by decide)) rfl (cw_wpc w) cw_wpc_i cw_wpc_o w (fun _ _ => rfl) (Nat.le_of_ble_eq_true rfl) dL_offer_7 rfl h [] (0, 12, 15, 28) [(0, 12, 19, 15)] rfl hpass (by decide) (by decide) (gw_T_at 634 (by decide +kernel) rfl) (gw_N_at 646 (by decide +kernel) rfl) (Or.inr ⟨5, by decide, dL_offer_15, rfl⟩) (ic := 1) (cv := 1) (by decide) dL_offer_17 dL_offer_18 (fun w1 hw1 => cw_LW1 (by unfold sp_offer; rw [cw_ie h1]; exact cw_stp1 (by decide)) (by decide) (cw_RC.low (w := w1) (hw1 ▸ h) (fun q hq => if_pos hq)))
  · refine g_aload C rfl dL_offer_0 ?_
    refine g_iconst (v := 0) C (by decide) dL_offer_2 ?_
    refine g_aload_n C rfl dL_offer_3 ?_
    refine g_iload_n C rfl dL_offer_4 ?_
    refine g_iload_n C rfl dL_offer_5 ?_
    refine g_iload_n C rfl dL_offer_6 ?_
    have hpass : ∀ z ∈ ([(0, 12, 15, 28)] : List (Nat × Nat × Nat × Nat)), z.2.2.2 ≠ 0 ∧ ∃ nm : String, Cond.classLink RL z.2.2.2 nm ∈ gw_T ∧ ("java/lang/IllegalStateException", nm) ∈ gw_nc := fun z hz => by
      simp only [List.mem_cons, List.not_mem_nil, or_false] at hz
      rcases hz with rfl
      · exact ⟨by decide, "java/lang/IndexOutOfBoundsException", gw_T_at 634 (by decide +kernel) rfl, List.mem_of_getElem? (i := 2) rfl⟩
    exact g_callC C F cw_emb_CO (thr_X6_offer_2 A hA o k a h1.1 h1.2 (fun z => h2 ⟨z.1, (cw_205 hI).mp z.2⟩)) my_X6_offer vi_L_59 (by decide) rfl (cw_emb_CO.1 252 (by decide)) rfl (cw_wpc w) cw_wpc_i cw_wpc_o w (fun _ _ => rfl) (Nat.le_of_ble_eq_true rfl) dL_offer_7 rfl h [(0, 12, 15, 28)] (0, 12, 19, 15) [] rfl hpass (by decide) (by decide) (gw_T_at 413 (by decide +kernel) rfl) (gw_N_at 495 (by decide +kernel) rfl) (Or.inr ⟨5, by decide, dL_offer_19, rfl⟩) (ic := 2) (cv := 2) (by decide) dL_offer_21 dL_offer_22 (fun w1 hw1 => cw_LW1 (by unfold sp_offer; rw [cw_it h1, cw_ie h2]; exact cw_stp1 (by decide)) (by decide) (cw_RC.low (w := w1) (hw1 ▸ h) (fun q hq => if_pos hq)))

set_option maxHeartbeats 8000000 in
set_option maxRecDepth 100000 in
theorem ok_L_accept (A : cw_A) {n m : Nat} (hA : cw_IA n m A) (hB : cw_B (n + 21600) (m + 2400)) (o : Int32) : gw_OkH yL_accept cL_accept 4 (some .int) [(0, 9, 12, 28)] sCO 13 [.ref 252, .int o, .ref 263] (fun w => cw_RC A w) (fun _ vr w1 => cw_LW (sp_accept A o) vr w1) := by
  refine gw_ofH (by decide) (Nat.le_of_ble_eq_true rfl) ?_
  intro X w h C F
  have hI := hA.1
  have hB2 : cw_B n (m + 20) := cw_B_le2 hB (by omega) (by omega)
  rcases cw_or1 (cw_isK A.1 o) with h1 | h1
  · refine g_aload_n C rfl dL_accept_0 ?_
    refine g_iconst (v := 0) C (by decide) dL_accept_1 ?_
    refine g_aload_n C rfl dL_accept_2 ?_
    refine g_iload_n C rfl dL_accept_3 ?_
    refine g_callW C cw_emb_CO (ok_X6_accept A hA hB2 o h1) my_X6_accept vi_L_62 (by decide) ⟨Nat.zero_le _, Nat.zero_le _⟩ rfl ((cw_emb_CO.1 252 (by decide))) rfl (cw_wpc w) (cw_wpc_i) (cw_wpc_o) (w) (fun _ _ => rfl) (Nat.le_of_ble_eq_true rfl) dL_accept_4 rfl (h) (fun v_4 w_4 hp_4 => ?_)
    obtain ⟨rfl, hr4⟩ := hp_4
    refine g_i2l C dL_accept_7 ?_
    refine g_last (j := 0) C rfl rfl (by decide) (by decide) dL_accept_8 ?_
    refine g_goto (tgt := 15) C (by decide) dL_accept_9 ?_
    refine g_iconst (v := 0) C (by decide) dL_accept_15 ?_
    refine g_iretH C F dL_accept_16 ?_
    exact cw_LW0 (by unfold sp_accept; rw [cw_it h1]; exact cw_stp0 rfl) (by rw [gw_set_self, cw_ups]) (hr4.low (fun q hq => by rw [gw_set_ne _ _ _ _ (by omega)]; exact if_pos hq))
  · refine g_aload_n C rfl dL_accept_0 ?_
    refine g_iconst (v := 0) C (by decide) dL_accept_1 ?_
    refine g_aload_n C rfl dL_accept_2 ?_
    refine g_iload_n C rfl dL_accept_3 ?_
    have hpass : ∀ z ∈ ([] : List (Nat × Nat × Nat × Nat)), z.2.2.2 ≠ 0 ∧ ∃ nm : String, Cond.classLink RL z.2.2.2 nm ∈ gw_T ∧ ("java/lang/IndexOutOfBoundsException", nm) ∈ gw_nc := fun z hz => absurd hz List.not_mem_nil
    exact g_callC C F cw_emb_CO (thr_X6_accept_1 A hA o h1) my_X6_accept vi_L_62 (by decide) rfl (cw_emb_CO.1 252 (by decide)) rfl (cw_wpc w) cw_wpc_i cw_wpc_o w (fun _ _ => rfl) (Nat.le_of_ble_eq_true rfl) dL_accept_4 rfl h [] (0, 9, 12, 28) [] rfl hpass (by decide) (by decide) (gw_T_at 634 (by decide +kernel) rfl) (gw_N_at 646 (by decide +kernel) rfl) (Or.inl ⟨3, by decide, dL_accept_12, rfl⟩) (ic := 1) (cv := 1) (by decide) dL_accept_13 dL_accept_14 (fun w1 hw1 => cw_LW1 (by unfold sp_accept; rw [cw_ie h1]; exact cw_stp1 (by decide)) (by decide) (cw_RC.low (w := w1) (hw1 ▸ h) (fun q hq => if_pos hq)))

set_option maxHeartbeats 8000000 in
set_option maxRecDepth 100000 in
theorem ok_L_upkeep (A : cw_A) {n m : Nat} (hA : cw_IA n m A) (hB : cw_B (n + 21600) (m + 2400)) (a : Int32) : gw_OkH yL_upkeep cL_upkeep 4 (some .int) [(0, 9, 12, 13), (0, 9, 15, 15)] sCO 13 [.ref 252, .int a, .ref 263] (fun w => cw_RC A w) (fun _ vr w1 => cw_LW (sp_upkeep A a) vr w1) := by
  refine gw_ofH (by decide) (Nat.le_of_ble_eq_true rfl) ?_
  intro X w h C F
  have hI := hA.1
  have hB2 : cw_B n (m + 20) := cw_B_le2 hB (by omega) (by omega)
  rcases cw_or2 (1 ≤ a ∧ a ≤ 999) (¬ A.1 0 = 0) with ⟨h1, h2⟩ | h1 | ⟨h1, h2⟩
  · refine g_aload_n C rfl dL_upkeep_0 ?_
    refine g_iconst (v := 0) C (by decide) dL_upkeep_1 ?_
    refine g_aload_n C rfl dL_upkeep_2 ?_
    refine g_iload_n C rfl dL_upkeep_3 ?_
    refine g_callW C cw_emb_CO (ok_X6_upkeep A hA hB2 a h1 h2) my_X6_upkeep vi_L_65 (by decide) ⟨Nat.zero_le _, Nat.zero_le _⟩ rfl ((cw_emb_CO.1 252 (by decide))) rfl (cw_wpc w) (cw_wpc_i) (cw_wpc_o) (w) (fun _ _ => rfl) (Nat.le_of_ble_eq_true rfl) dL_upkeep_4 rfl (h) (fun v_4 w_4 hp_4 => ?_)
    obtain ⟨rfl, hr4⟩ := hp_4
    refine g_i2l C dL_upkeep_7 ?_
    refine g_last (j := 0) C rfl rfl (by decide) (by decide) dL_upkeep_8 ?_
    refine g_goto (tgt := 18) C (by decide) dL_upkeep_9 ?_
    refine g_iconst (v := 0) C (by decide) dL_upkeep_18 ?_
    refine g_iretH C F dL_upkeep_19 ?_
    exact cw_LW0 (by unfold sp_upkeep; rw [cw_it h1, if_neg h2]; exact cw_stp0 rfl) (by rw [gw_set_self, cw_ups]) (hr4.low (fun q hq => by rw [gw_set_ne _ _ _ _ (by omega)]; exact if_pos hq))
  · refine g_aload_n C rfl dL_upkeep_0 ?_
    refine g_iconst (v := 0) C (by decide) dL_upkeep_1 ?_
    refine g_aload_n C rfl dL_upkeep_2 ?_
    refine g_iload_n C rfl dL_upkeep_3 ?_
    have hpass : ∀ z ∈ ([] : List (Nat × Nat × Nat × Nat)), z.2.2.2 ≠ 0 ∧ ∃ nm : String, Cond.classLink RL z.2.2.2 nm ∈ gw_T ∧ ("java/lang/IllegalArgumentException", nm) ∈ gw_nc := fun z hz => absurd hz List.not_mem_nil
    exact g_callC C F cw_emb_CO (thr_X6_upkeep_1 A hA a h1) my_X6_upkeep vi_L_65 (by decide) rfl (cw_emb_CO.1 252 (by decide)) rfl (cw_wpc w) cw_wpc_i cw_wpc_o w (fun _ _ => rfl) (Nat.le_of_ble_eq_true rfl) dL_upkeep_4 rfl h [] (0, 9, 12, 13) [(0, 9, 15, 15)] rfl hpass (by decide) (by decide) (gw_T_at 412 (by decide +kernel) rfl) (gw_N_at 424 (by decide +kernel) rfl) (Or.inl ⟨3, by decide, dL_upkeep_12, rfl⟩) (ic := 1) (cv := 1) (by decide) dL_upkeep_13 dL_upkeep_14 (fun w1 hw1 => cw_LW1 (by unfold sp_upkeep; rw [cw_ie h1]; exact cw_stp1 (by decide)) (by decide) (cw_RC.low (w := w1) (hw1 ▸ h) (fun q hq => if_pos hq)))
  · refine g_aload_n C rfl dL_upkeep_0 ?_
    refine g_iconst (v := 0) C (by decide) dL_upkeep_1 ?_
    refine g_aload_n C rfl dL_upkeep_2 ?_
    refine g_iload_n C rfl dL_upkeep_3 ?_
    have hpass : ∀ z ∈ ([(0, 9, 12, 13)] : List (Nat × Nat × Nat × Nat)), z.2.2.2 ≠ 0 ∧ ∃ nm : String, Cond.classLink RL z.2.2.2 nm ∈ gw_T ∧ ("java/lang/IllegalStateException", nm) ∈ gw_nc := fun z hz => by
      simp only [List.mem_cons, List.not_mem_nil, or_false] at hz
      rcases hz with rfl
      · exact ⟨by decide, "java/lang/IllegalArgumentException", gw_T_at 412 (by decide +kernel) rfl, List.mem_of_getElem? (i := 0) rfl⟩
    exact g_callC C F cw_emb_CO (thr_X6_upkeep_2 A hA a h1 (cw_nn h2)) my_X6_upkeep vi_L_65 (by decide) rfl (cw_emb_CO.1 252 (by decide)) rfl (cw_wpc w) cw_wpc_i cw_wpc_o w (fun _ _ => rfl) (Nat.le_of_ble_eq_true rfl) dL_upkeep_4 rfl h [(0, 9, 12, 13)] (0, 9, 15, 15) [] rfl hpass (by decide) (by decide) (gw_T_at 413 (by decide +kernel) rfl) (gw_N_at 495 (by decide +kernel) rfl) (Or.inl ⟨3, by decide, dL_upkeep_15, rfl⟩) (ic := 2) (cv := 2) (by decide) dL_upkeep_16 dL_upkeep_17 (fun w1 hw1 => cw_LW1 (by unfold sp_upkeep; rw [cw_it h1, if_pos (cw_nn h2)]; exact cw_stp1 (by decide)) (by decide) (cw_RC.low (w := w1) (hw1 ▸ h) (fun q hq => if_pos hq)))

set_option maxHeartbeats 8000000 in
set_option maxRecDepth 100000 in
theorem ok_L_set (A : cw_A) {n m : Nat} (hA : cw_IA n m A) (hB : cw_B (n + 21600) (m + 2400)) (k : Int32) (v : Int32) : gw_OkH yL_set cL_set 5 (some .int) [(0, 10, 13, 13)] sCO 13 [.ref 252, .int k, .int v, .ref 263] (fun w => cw_RC A w) (fun _ vr w1 => cw_LW (sp_set A k v) vr w1) := by
  refine gw_ofH (by decide) (Nat.le_of_ble_eq_true rfl) ?_
  intro X w h C F
  have hI := hA.1
  have hB2 : cw_B n (m + 20) := cw_B_le2 hB (by omega) (by omega)
  rcases cw_or1 (cw_setOk k v) with h1 | h1
  · refine g_aload_n C rfl dL_set_0 ?_
    refine g_iconst (v := 0) C (by decide) dL_set_1 ?_
    refine g_aload_n C rfl dL_set_2 ?_
    refine g_iload_n C rfl dL_set_3 ?_
    refine g_iload_n C rfl dL_set_4 ?_
    refine g_callW C cw_emb_CO (ok_X6_set A hA k v h1) my_X6_set vi_L_68 (by decide) ⟨Nat.zero_le _, Nat.zero_le _⟩ rfl ((cw_emb_CO.1 252 (by decide))) rfl (cw_wpc w) (cw_wpc_i) (cw_wpc_o) (w) (fun _ _ => rfl) (Nat.le_of_ble_eq_true rfl) dL_set_5 rfl (h) (fun v_5 w_5 hp_5 => ?_)
    obtain ⟨rfl, hr5⟩ := hp_5
    refine g_i2l C dL_set_8 ?_
    refine g_last (j := 0) C rfl rfl (by decide) (by decide) dL_set_9 ?_
    refine g_goto (tgt := 17) C (by decide) dL_set_10 ?_
    refine g_iconst (v := 0) C (by decide) dL_set_17 ?_
    refine g_iretH C F dL_set_18 ?_
    exact cw_LW0 (by unfold sp_set; rw [cw_it h1]; exact cw_stp0 rfl) (by rw [gw_set_self, cw_ups]) (hr5.low (fun q hq => by rw [gw_set_ne _ _ _ _ (by omega)]; exact if_pos hq))
  · refine g_aload_n C rfl dL_set_0 ?_
    refine g_iconst (v := 0) C (by decide) dL_set_1 ?_
    refine g_aload_n C rfl dL_set_2 ?_
    refine g_iload_n C rfl dL_set_3 ?_
    refine g_iload_n C rfl dL_set_4 ?_
    have hpass : ∀ z ∈ ([] : List (Nat × Nat × Nat × Nat)), z.2.2.2 ≠ 0 ∧ ∃ nm : String, Cond.classLink RL z.2.2.2 nm ∈ gw_T ∧ ("java/lang/IllegalArgumentException", nm) ∈ gw_nc := fun z hz => absurd hz List.not_mem_nil
    exact g_callC C F cw_emb_CO (thr_X6_set_1 A k v h1) my_X6_set vi_L_68 (by decide) rfl (cw_emb_CO.1 252 (by decide)) rfl (cw_wpc w) cw_wpc_i cw_wpc_o w (fun _ _ => rfl) (Nat.le_of_ble_eq_true rfl) dL_set_5 rfl h [] (0, 10, 13, 13) [] rfl hpass (by decide) (by decide) (gw_T_at 412 (by decide +kernel) rfl) (gw_N_at 424 (by decide +kernel) rfl) (Or.inr ⟨4, by decide, dL_set_13, rfl⟩) (ic := 1) (cv := 1) (by decide) dL_set_15 dL_set_16 (fun w1 hw1 => cw_LW1 (by unfold sp_set; rw [cw_ie h1]; exact cw_stp1 (by decide)) (by decide) (cw_RC.low (w := w1) (hw1 ▸ h) (fun q hq => if_pos hq)))

set_option maxHeartbeats 8000000 in
set_option maxRecDepth 100000 in
theorem ok_L_undo (A : cw_A) {n m : Nat} (hA : cw_IA n m A) (hB : cw_B (n + 21600) (m + 2400)) : gw_OkH yL_undo cL_undo 3 (some .int) [(0, 8, 11, 15)] sCO 13 [.ref 252, .ref 263] (fun w => cw_RC A w) (fun _ vr w1 => cw_LW (sp_undo A) vr w1) := by
  refine gw_ofH (by decide) (Nat.le_of_ble_eq_true rfl) ?_
  intro X w h C F
  have hI := hA.1
  have hB2 : cw_B n (m + 20) := cw_B_le2 hB (by omega) (by omega)
  rcases cw_or1 (¬ A.2.1.1 = 0) with h1 | h1
  · refine g_aload_n C rfl dL_undo_0 ?_
    refine g_iconst (v := 0) C (by decide) dL_undo_1 ?_
    refine g_aload_n C rfl dL_undo_2 ?_
    refine g_callW C cw_emb_CO (ok_X6_undo A hA h1) my_X6_undo vi_L_71 (by decide) ⟨Nat.zero_le _, Nat.zero_le _⟩ rfl ((cw_emb_CO.1 252 (by decide))) rfl (cw_wpc w) (cw_wpc_i) (cw_wpc_o) (w) (fun _ _ => rfl) (Nat.le_of_ble_eq_true rfl) dL_undo_3 rfl (h) (fun v_3 w_3 hp_3 => ?_)
    obtain ⟨rfl, hr3⟩ := hp_3
    refine g_i2l C dL_undo_6 ?_
    refine g_last (j := 0) C rfl rfl (by decide) (by decide) dL_undo_7 ?_
    refine g_goto (tgt := 14) C (by decide) dL_undo_8 ?_
    refine g_iconst (v := 0) C (by decide) dL_undo_14 ?_
    refine g_iretH C F dL_undo_15 ?_
    exact cw_LW0 (by unfold sp_undo; rw [if_neg h1]; exact cw_stp0 rfl) (by rw [gw_set_self, cw_ups]) (hr3.low (fun q hq => by rw [gw_set_ne _ _ _ _ (by omega)]; exact if_pos hq))
  · refine g_aload_n C rfl dL_undo_0 ?_
    refine g_iconst (v := 0) C (by decide) dL_undo_1 ?_
    refine g_aload_n C rfl dL_undo_2 ?_
    have hpass : ∀ z ∈ ([] : List (Nat × Nat × Nat × Nat)), z.2.2.2 ≠ 0 ∧ ∃ nm : String, Cond.classLink RL z.2.2.2 nm ∈ gw_T ∧ ("java/lang/IllegalStateException", nm) ∈ gw_nc := fun z hz => absurd hz List.not_mem_nil
    exact g_callC C F cw_emb_CO (thr_X6_undo_1 A hA (cw_nn h1)) my_X6_undo vi_L_71 (by decide) rfl (cw_emb_CO.1 252 (by decide)) rfl (cw_wpc w) cw_wpc_i cw_wpc_o w (fun _ _ => rfl) (Nat.le_of_ble_eq_true rfl) dL_undo_3 rfl h [] (0, 8, 11, 15) [] rfl hpass (by decide) (by decide) (gw_T_at 413 (by decide +kernel) rfl) (gw_N_at 495 (by decide +kernel) rfl) (Or.inl ⟨2, by decide, dL_undo_11, rfl⟩) (ic := 1) (cv := 1) (by decide) dL_undo_12 dL_undo_13 (fun w1 hw1 => cw_LW1 (by unfold sp_undo; rw [if_pos (cw_nn h1)]; exact cw_stp1 (by decide)) (by decide) (cw_RC.low (w := w1) (hw1 ▸ h) (fun q hq => if_pos hq)))

set_option maxHeartbeats 8000000 in
set_option maxRecDepth 100000 in
theorem ok_L_why (A : cw_A) {n m : Nat} (hA : cw_IA n m A) (hB : cw_B (n + 21600) (m + 2400)) (o : Int32) (k : Int32) : gw_OkH yL_why cL_why 5 (some .int) [(0, 10, 13, 28)] sCO 13 [.ref 252, .int o, .int k, .ref 263] (fun w => cw_RC A w) (fun _ vr w1 => cw_LW (sp_why A o k) vr w1) := by
  refine gw_ofH (by decide) (Nat.le_of_ble_eq_true rfl) ?_
  intro X w h C F
  have hI := hA.1
  have hB2 : cw_B n (m + 20) := cw_B_le2 hB (by omega) (by omega)
  rcases cw_or1 (cw_th A.1 o k) with h1 | h1
  · refine g_aload_n C rfl dL_why_0 ?_
    refine g_iconst (v := 0) C (by decide) dL_why_1 ?_
    refine g_aload_n C rfl dL_why_2 ?_
    refine g_iload_n C rfl dL_why_3 ?_
    refine g_iload_n C rfl dL_why_4 ?_
    refine g_callW C cw_emb_CO (ok_X6_why A hA o k h1) my_X6_why vi_L_74 (by decide) ⟨Nat.zero_le _, Nat.zero_le _⟩ rfl ((cw_emb_CO.1 252 (by decide))) rfl (cw_wpc w) (cw_wpc_i) (cw_wpc_o) (w) (fun _ _ => rfl) (Nat.le_of_ble_eq_true rfl) dL_why_5 rfl (h) (fun v_5 w_5 hp_5 => ?_)
    obtain ⟨rfl, hr5⟩ := hp_5
    refine g_i2l C dL_why_8 ?_
    refine g_last (j := 0) C rfl rfl (by decide) (by decide) dL_why_9 ?_
    refine g_goto (tgt := 17) C (by decide) dL_why_10 ?_
    refine g_iconst (v := 0) C (by decide) dL_why_17 ?_
    refine g_iretH C F dL_why_18 ?_
    exact cw_LW0 (by unfold sp_why; rw [cw_it h1]; exact cw_stp0 rfl) (by rw [gw_set_self, cw_ups]) (hr5.low (fun q hq => by rw [gw_set_ne _ _ _ _ (by omega)]; exact if_pos hq))
  · refine g_aload_n C rfl dL_why_0 ?_
    refine g_iconst (v := 0) C (by decide) dL_why_1 ?_
    refine g_aload_n C rfl dL_why_2 ?_
    refine g_iload_n C rfl dL_why_3 ?_
    refine g_iload_n C rfl dL_why_4 ?_
    have hpass : ∀ z ∈ ([] : List (Nat × Nat × Nat × Nat)), z.2.2.2 ≠ 0 ∧ ∃ nm : String, Cond.classLink RL z.2.2.2 nm ∈ gw_T ∧ ("java/lang/IndexOutOfBoundsException", nm) ∈ gw_nc := fun z hz => absurd hz List.not_mem_nil
    exact g_callC C F cw_emb_CO (thr_X6_why_1 A hA o k h1) my_X6_why vi_L_74 (by decide) rfl (cw_emb_CO.1 252 (by decide)) rfl (cw_wpc w) cw_wpc_i cw_wpc_o w (fun _ _ => rfl) (Nat.le_of_ble_eq_true rfl) dL_why_5 rfl h [] (0, 10, 13, 28) [] rfl hpass (by decide) (by decide) (gw_T_at 634 (by decide +kernel) rfl) (gw_N_at 646 (by decide +kernel) rfl) (Or.inr ⟨4, by decide, dL_why_13, rfl⟩) (ic := 1) (cv := 1) (by decide) dL_why_15 dL_why_16 (fun w1 hw1 => cw_LW1 (by unfold sp_why; rw [cw_ie h1]; exact cw_stp1 (by decide)) (by decide) (cw_RC.low (w := w1) (hw1 ▸ h) (fun q hq => if_pos hq)))

set_option maxHeartbeats 8000000 in
set_option maxRecDepth 100000 in
theorem ok_L_could (A : cw_A) {n m : Nat} (hA : cw_IA n m A) (hB : cw_B (n + 21600) (m + 2400)) (k : Int32) : gw_OkH yL_could cL_could 4 (some .int) [(0, 9, 12, 13)] sCO 13 [.ref 252, .int k, .ref 263] (fun w => cw_RC A w) (fun _ vr w1 => cw_LW (sp_could A k) vr w1) := by
  refine gw_ofH (by decide) (Nat.le_of_ble_eq_true rfl) ?_
  intro X w h C F
  have hI := hA.1
  have hB2 : cw_B n (m + 20) := cw_B_le2 hB (by omega) (by omega)
  rcases cw_or1 (0 ≤ k ∧ k ≤ 1) with h1 | h1
  · refine g_aload_n C rfl dL_could_0 ?_
    refine g_iconst (v := 0) C (by decide) dL_could_1 ?_
    refine g_aload_n C rfl dL_could_2 ?_
    refine g_iload_n C rfl dL_could_3 ?_
    refine g_callW C cw_emb_CO (ok_X6_could A hA k h1) my_X6_could vi_L_77 (by decide) ⟨Nat.zero_le _, Nat.zero_le _⟩ rfl ((cw_emb_CO.1 252 (by decide))) rfl (cw_wpc w) (cw_wpc_i) (cw_wpc_o) (w) (fun _ _ => rfl) (Nat.le_of_ble_eq_true rfl) dL_could_4 rfl (h) (fun v_4 w_4 hp_4 => ?_)
    obtain ⟨rfl, hr4⟩ := hp_4
    refine g_i2l C dL_could_7 ?_
    refine g_last (j := 0) C rfl rfl (by decide) (by decide) dL_could_8 ?_
    refine g_goto (tgt := 15) C (by decide) dL_could_9 ?_
    refine g_iconst (v := 0) C (by decide) dL_could_15 ?_
    refine g_iretH C F dL_could_16 ?_
    exact cw_LW0 (by unfold sp_could; rw [cw_it h1]; exact cw_stp0 rfl) (by rw [gw_set_self, cw_ups]) (hr4.low (fun q hq => by rw [gw_set_ne _ _ _ _ (by omega)]; exact if_pos hq))
  · refine g_aload_n C rfl dL_could_0 ?_
    refine g_iconst (v := 0) C (by decide) dL_could_1 ?_
    refine g_aload_n C rfl dL_could_2 ?_
    refine g_iload_n C rfl dL_could_3 ?_
    have hpass : ∀ z ∈ ([] : List (Nat × Nat × Nat × Nat)), z.2.2.2 ≠ 0 ∧ ∃ nm : String, Cond.classLink RL z.2.2.2 nm ∈ gw_T ∧ ("java/lang/IllegalArgumentException", nm) ∈ gw_nc := fun z hz => absurd hz List.not_mem_nil
    exact g_callC C F cw_emb_CO (thr_X6_could_1 A hA k h1) my_X6_could vi_L_77 (by decide) rfl (cw_emb_CO.1 252 (by decide)) rfl (cw_wpc w) cw_wpc_i cw_wpc_o w (fun _ _ => rfl) (Nat.le_of_ble_eq_true rfl) dL_could_4 rfl h [] (0, 9, 12, 13) [] rfl hpass (by decide) (by decide) (gw_T_at 412 (by decide +kernel) rfl) (gw_N_at 424 (by decide +kernel) rfl) (Or.inl ⟨3, by decide, dL_could_12, rfl⟩) (ic := 1) (cv := 1) (by decide) dL_could_13 dL_could_14 (fun w1 hw1 => cw_LW1 (by unfold sp_could; rw [cw_ie h1]; exact cw_stp1 (by decide)) (by decide) (cw_RC.low (w := w1) (hw1 ▸ h) (fun q hq => if_pos hq)))

set_option maxHeartbeats 8000000 in
set_option maxRecDepth 100000 in
theorem ok_L_winner (A : cw_A) {n m : Nat} (hA : cw_IA n m A) (hB : cw_B (n + 21600) (m + 2400)) (k : Int32) : gw_OkH yL_winner cL_winner 4 (some .int) [(0, 9, 12, 28)] sCO 13 [.ref 252, .int k, .ref 263] (fun w => cw_RC A w) (fun _ vr w1 => cw_LW (sp_winner A k) vr w1) := by
  refine gw_ofH (by decide) (Nat.le_of_ble_eq_true rfl) ?_
  intro X w h C F
  have hI := hA.1
  have hB2 : cw_B n (m + 20) := cw_B_le2 hB (by omega) (by omega)
  rcases cw_or1 (cw_isW k) with h1 | h1
  · refine g_aload_n C rfl dL_winner_0 ?_
    refine g_iconst (v := 0) C (by decide) dL_winner_1 ?_
    refine g_aload_n C rfl dL_winner_2 ?_
    refine g_iload_n C rfl dL_winner_3 ?_
    refine g_callW C cw_emb_CO (ok_X6_winner A hA hB2 k h1) my_X6_winner vi_L_80 (by decide) ⟨Nat.zero_le _, Nat.zero_le _⟩ rfl ((cw_emb_CO.1 252 (by decide))) rfl (cw_wpc w) (cw_wpc_i) (cw_wpc_o) (w) (fun _ _ => rfl) (Nat.le_of_ble_eq_true rfl) dL_winner_4 rfl (h) (fun v_4 w_4 hp_4 => ?_)
    obtain ⟨rfl, hr4⟩ := hp_4
    refine g_i2l C dL_winner_7 ?_
    refine g_last (j := 0) C rfl rfl (by decide) (by decide) dL_winner_8 ?_
    refine g_goto (tgt := 15) C (by decide) dL_winner_9 ?_
    refine g_iconst (v := 0) C (by decide) dL_winner_15 ?_
    refine g_iretH C F dL_winner_16 ?_
    exact cw_LW0 (by unfold sp_winner; rw [cw_it h1]; exact cw_stp0 rfl) (by rw [gw_set_self, cw_ups]) (hr4.low (fun q hq => by rw [gw_set_ne _ _ _ _ (by omega)]; exact if_pos hq))
  · refine g_aload_n C rfl dL_winner_0 ?_
    refine g_iconst (v := 0) C (by decide) dL_winner_1 ?_
    refine g_aload_n C rfl dL_winner_2 ?_
    refine g_iload_n C rfl dL_winner_3 ?_
    have hpass : ∀ z ∈ ([] : List (Nat × Nat × Nat × Nat)), z.2.2.2 ≠ 0 ∧ ∃ nm : String, Cond.classLink RL z.2.2.2 nm ∈ gw_T ∧ ("java/lang/IndexOutOfBoundsException", nm) ∈ gw_nc := fun z hz => absurd hz List.not_mem_nil
    exact g_callC C F cw_emb_CO (thr_X6_winner_1 A hA k h1) my_X6_winner vi_L_80 (by decide) rfl (cw_emb_CO.1 252 (by decide)) rfl (cw_wpc w) cw_wpc_i cw_wpc_o w (fun _ _ => rfl) (Nat.le_of_ble_eq_true rfl) dL_winner_4 rfl h [] (0, 9, 12, 28) [] rfl hpass (by decide) (by decide) (gw_T_at 634 (by decide +kernel) rfl) (gw_N_at 646 (by decide +kernel) rfl) (Or.inl ⟨3, by decide, dL_winner_12, rfl⟩) (ic := 1) (cv := 1) (by decide) dL_winner_13 dL_winner_14 (fun w1 hw1 => cw_LW1 (by unfold sp_winner; rw [cw_ie h1]; exact cw_stp1 (by decide)) (by decide) (cw_RC.low (w := w1) (hw1 ▸ h) (fun q hq => if_pos hq)))

set_option maxHeartbeats 8000000 in
set_option maxRecDepth 100000 in
theorem ok_L_leastBid (A : cw_A) {n m : Nat} (hA : cw_IA n m A) (hB : cw_B (n + 21600) (m + 2400)) (o : Int32) (k : Int32) : gw_OkH yL_leastBid cL_leastBid 5 (some .int) [(0, 10, 13, 28)] sCO 13 [.ref 252, .int o, .int k, .ref 263] (fun w => cw_RC A w) (fun _ vr w1 => cw_LW (sp_leastBid A o k) vr w1) := by
  refine gw_ofH (by decide) (Nat.le_of_ble_eq_true rfl) ?_
  intro X w h C F
  have hI := hA.1
  have hB2 : cw_B n (m + 20) := cw_B_le2 hB (by omega) (by omega)
  rcases cw_or1 (cw_th A.1 o k) with h1 | h1
  · refine g_aload_n C rfl dL_leastBid_0 ?_
    refine g_iconst (v := 0) C (by decide) dL_leastBid_1 ?_
    refine g_aload_n C rfl dL_leastBid_2 ?_
    refine g_iload_n C rfl dL_leastBid_3 ?_
    refine g_iload_n C rfl dL_leastBid_4 ?_
    refine g_callW C cw_emb_CO (ok_X6_leastBid A hA hB2 o k h1) my_X6_leastBid vi_L_83 (by decide) ⟨Nat.zero_le _, Nat.zero_le _⟩ rfl ((cw_emb_CO.1 252 (by decide))) rfl (cw_wpc w) (cw_wpc_i) (cw_wpc_o) (w) (fun _ _ => rfl) (Nat.le_of_ble_eq_true rfl) dL_leastBid_5 rfl (h) (fun v_5 w_5 hp_5 => ?_)
    obtain ⟨rfl, hr5⟩ := hp_5
    refine g_i2l C dL_leastBid_8 ?_
    refine g_last (j := 0) C rfl rfl (by decide) (by decide) dL_leastBid_9 ?_
    refine g_goto (tgt := 17) C (by decide) dL_leastBid_10 ?_
    refine g_iconst (v := 0) C (by decide) dL_leastBid_17 ?_
    refine g_iretH C F dL_leastBid_18 ?_
    exact cw_LW0 (by unfold sp_leastBid; rw [cw_it h1]; exact cw_stp0 rfl) (by rw [gw_set_self, cw_ups]) (hr5.low (fun q hq => by rw [gw_set_ne _ _ _ _ (by omega)]; exact if_pos hq))
  · refine g_aload_n C rfl dL_leastBid_0 ?_
    refine g_iconst (v := 0) C (by decide) dL_leastBid_1 ?_
    refine g_aload_n C rfl dL_leastBid_2 ?_
    refine g_iload_n C rfl dL_leastBid_3 ?_
    refine g_iload_n C rfl dL_leastBid_4 ?_
    have hpass : ∀ z ∈ ([] : List (Nat × Nat × Nat × Nat)), z.2.2.2 ≠ 0 ∧ ∃ nm : String, Cond.classLink RL z.2.2.2 nm ∈ gw_T ∧ ("java/lang/IndexOutOfBoundsException", nm) ∈ gw_nc := fun z hz => absurd hz List.not_mem_nil
    exact g_callC C F cw_emb_CO (thr_X6_leastBid_1 A hA o k h1) my_X6_leastBid vi_L_83 (by decide) rfl (cw_emb_CO.1 252 (by decide)) rfl (cw_wpc w) cw_wpc_i cw_wpc_o w (fun _ _ => rfl) (Nat.le_of_ble_eq_true rfl) dL_leastBid_5 rfl h [] (0, 10, 13, 28) [] rfl hpass (by decide) (by decide) (gw_T_at 634 (by decide +kernel) rfl) (gw_N_at 646 (by decide +kernel) rfl) (Or.inr ⟨4, by decide, dL_leastBid_13, rfl⟩) (ic := 1) (cv := 1) (by decide) dL_leastBid_15 dL_leastBid_16 (fun w1 hw1 => cw_LW1 (by unfold sp_leastBid; rw [cw_ie h1]; exact cw_stp1 (by decide)) (by decide) (cw_RC.low (w := w1) (hw1 ▸ h) (fun q hq => if_pos hq)))

set_option maxHeartbeats 8000000 in
set_option maxRecDepth 100000 in
theorem ok_L_ifUpkeep (A : cw_A) {n m : Nat} (hA : cw_IA n m A) (hB : cw_B (n + 21600) (m + 2400)) (o : Int32) (k : Int32) : gw_OkH yL_ifUpkeep cL_ifUpkeep 5 (some .int) [(0, 10, 13, 28), (0, 10, 17, 13)] sCO 13 [.ref 252, .int o, .int k, .ref 263] (fun w => cw_RC A w) (fun _ vr w1 => cw_LW (sp_ifUpkeep A o k) vr w1) := by
  refine gw_ofH (by decide) (Nat.le_of_ble_eq_true rfl) ?_
  intro X w h C F
  have hI := hA.1
  have hB2 : cw_B n (m + 20) := cw_B_le2 hB (by omega) (by omega)
  rcases cw_or2 (cw_isO A.1 o) (1 ≤ k ∧ k ≤ 999) with ⟨h1, h2⟩ | h1 | ⟨h1, h2⟩
  · refine g_aload_n C rfl dL_ifUpkeep_0 ?_
    refine g_iconst (v := 0) C (by decide) dL_ifUpkeep_1 ?_
    refine g_aload_n C rfl dL_ifUpkeep_2 ?_
    refine g_iload_n C rfl dL_ifUpkeep_3 ?_
    refine g_iload_n C rfl dL_ifUpkeep_4 ?_
    refine g_callW C cw_emb_CO (ok_X6_ifUpkeep A hA o k h1 h2) my_X6_ifUpkeep vi_L_86 (by decide) ⟨Nat.zero_le _, Nat.zero_le _⟩ rfl ((cw_emb_CO.1 252 (by decide))) rfl (cw_wpc w) (cw_wpc_i) (cw_wpc_o) (w) (fun _ _ => rfl) (Nat.le_of_ble_eq_true rfl) dL_ifUpkeep_5 rfl (h) (fun v_5 w_5 hp_5 => ?_)
    obtain ⟨rfl, hr5⟩ := hp_5
    refine g_i2l C dL_ifUpkeep_8 ?_
    refine g_last (j := 0) C rfl rfl (by decide) (by decide) dL_ifUpkeep_9 ?_
    refine g_goto (tgt := 21) C (by decide) dL_ifUpkeep_10 ?_
    refine g_iconst (v := 0) C (by decide) dL_ifUpkeep_21 ?_
    refine g_iretH C F dL_ifUpkeep_22 ?_
    exact cw_LW0 (by unfold sp_ifUpkeep; rw [cw_it h1, cw_it h2]; exact cw_stp0 rfl) (by rw [gw_set_self, cw_ups]) (hr5.low (fun q hq => by rw [gw_set_ne _ _ _ _ (by omega)]; exact if_pos hq))
  · refine g_aload_n C rfl dL_ifUpkeep_0 ?_
    refine g_iconst (v := 0) C (by decide) dL_ifUpkeep_1 ?_
    refine g_aload_n C rfl dL_ifUpkeep_2 ?_
    refine g_iload_n C rfl dL_ifUpkeep_3 ?_
    refine g_iload_n C rfl dL_ifUpkeep_4 ?_
    have hpass : ∀ z ∈ ([] : List (Nat × Nat × Nat × Nat)), z.2.2.2 ≠ 0 ∧ ∃ nm : String, Cond.classLink RL z.2.2.2 nm ∈ gw_T ∧ ("java/lang/IndexOutOfBoundsException", nm) ∈ gw_nc := fun z hz => absurd hz List.not_mem_nil
    exact g_callC C F cw_emb_CO (thr_X6_ifUpkeep_1 A hA o k h1) my_X6_ifUpkeep vi_L_86 (by decide) rfl (cw_emb_CO.1 252 (by decide)) rfl (cw_wpc w) cw_wpc_i cw_wpc_o w (fun _ _ => rfl) (Nat.le_of_ble_eq_true rfl) dL_ifUpkeep_5 rfl h [] (0, 10, 13, 28) [(0, 10, 17, 13)] rfl hpass (by decide) (by decide) (gw_T_at 634 (by decide +kernel) rfl) (gw_N_at 646 (by decide +kernel) rfl) (Or.inr ⟨4, by decide, dL_ifUpkeep_13, rfl⟩) (ic := 1) (cv := 1) (by decide) dL_ifUpkeep_15 dL_ifUpkeep_16 (fun w1 hw1 => cw_LW1 (by unfold sp_ifUpkeep; rw [cw_ie h1]; exact cw_stp1 (by decide)) (by decide) (cw_RC.low (w := w1) (hw1 ▸ h) (fun q hq => if_pos hq)))
  · refine g_aload_n C rfl dL_ifUpkeep_0 ?_
    refine g_iconst (v := 0) C (by decide) dL_ifUpkeep_1 ?_
    refine g_aload_n C rfl dL_ifUpkeep_2 ?_
    refine g_iload_n C rfl dL_ifUpkeep_3 ?_
    refine g_iload_n C rfl dL_ifUpkeep_4 ?_
    have hpass : ∀ z ∈ ([(0, 10, 13, 28)] : List (Nat × Nat × Nat × Nat)), z.2.2.2 ≠ 0 ∧ ∃ nm : String, Cond.classLink RL z.2.2.2 nm ∈ gw_T ∧ ("java/lang/IllegalArgumentException", nm) ∈ gw_nc := fun z hz => by
      simp only [List.mem_cons, List.not_mem_nil, or_false] at hz
      rcases hz with rfl
      · exact ⟨by decide, "java/lang/IndexOutOfBoundsException", gw_T_at 634 (by decide +kernel) rfl, List.mem_of_getElem? (i := 1) rfl⟩
    exact g_callC C F cw_emb_CO (thr_X6_ifUpkeep_2 A hA o k h1 h2) my_X6_ifUpkeep vi_L_86 (by decide) rfl (cw_emb_CO.1 252 (by decide)) rfl (cw_wpc w) cw_wpc_i cw_wpc_o w (fun _ _ => rfl) (Nat.le_of_ble_eq_true rfl) dL_ifUpkeep_5 rfl h [(0, 10, 13, 28)] (0, 10, 17, 13) [] rfl hpass (by decide) (by decide) (gw_T_at 412 (by decide +kernel) rfl) (gw_N_at 424 (by decide +kernel) rfl) (Or.inr ⟨4, by decide, dL_ifUpkeep_17, rfl⟩) (ic := 2) (cv := 2) (by decide) dL_ifUpkeep_19 dL_ifUpkeep_20 (fun w1 hw1 => cw_LW1 (by unfold sp_ifUpkeep; rw [cw_it h1, cw_ie h2]; exact cw_stp1 (by decide)) (by decide) (cw_RC.low (w := w1) (hw1 ▸ h) (fun q hq => if_pos hq)))

set_option maxHeartbeats 8000000 in
set_option maxRecDepth 100000 in
theorem ok_L_runScript (A : cw_A) {n m : Nat} (hA : cw_IA n m A) (hB : cw_B (n + 21600) (m + 2400)) (k : Int32) (sc : Int64) : gw_OkH yL_runScript cL_runScript 6 (some .int) [(0, 11, 14, 13)] sCO 13 [.ref 252, .int k, .long sc, .ref 263] (fun w => cw_RC A w) (fun _ vr w1 => cw_LW (sp_runScript A k sc) vr w1) := by
  refine gw_ofH (by decide) (Nat.le_of_ble_eq_true rfl) ?_
  intro X w h C F
  have hI := hA.1
  have hB2 : cw_B n (m + 20) := cw_B_le2 hB (by omega) (by omega)
  rcases cw_or1 ((1 ≤ k ∧ k ≤ 3) ∧ 0 ≤ sc.toInt ∧ sc.toInt < 1000000 ^ cw_x k) with h1 | h1
  · refine g_aload C rfl dL_runScript_0 ?_
    refine g_iconst (v := 0) C (by decide) dL_runScript_2 ?_
    refine g_aload_n C rfl dL_runScript_3 ?_
    refine g_iload_n C rfl dL_runScript_4 ?_
    refine g_lload_n C rfl dL_runScript_5 ?_
    refine g_callW C cw_emb_CO (ok_X6_runScript A hA hB k sc h1) my_X6_runScript vi_L_89 (by decide) ⟨Nat.zero_le _, Nat.zero_le _⟩ rfl ((cw_emb_CO.1 252 (by decide))) rfl (cw_wpc w) (cw_wpc_i) (cw_wpc_o) (w) (fun _ _ => rfl) (Nat.le_of_ble_eq_true rfl) dL_runScript_6 rfl (h) (fun v_6 w_6 hp_6 => ?_)
    obtain ⟨rfl, hr6⟩ := hp_6
    refine g_i2l C dL_runScript_9 ?_
    refine g_last (j := 0) C rfl rfl (by decide) (by decide) dL_runScript_10 ?_
    refine g_goto (tgt := 18) C (by decide) dL_runScript_11 ?_
    refine g_iconst (v := 0) C (by decide) dL_runScript_18 ?_
    refine g_iretH C F dL_runScript_19 ?_
    exact cw_LW0 (by unfold sp_runScript; rw [cw_it h1]; exact cw_stp0 rfl) (by rw [gw_set_self, cw_ups]) (hr6.low (fun q hq => by rw [gw_set_ne _ _ _ _ (by omega)]; exact if_pos hq))
  · refine g_aload C rfl dL_runScript_0 ?_
    refine g_iconst (v := 0) C (by decide) dL_runScript_2 ?_
    refine g_aload_n C rfl dL_runScript_3 ?_
    refine g_iload_n C rfl dL_runScript_4 ?_
    refine g_lload_n C rfl dL_runScript_5 ?_
    have hpass : ∀ z ∈ ([] : List (Nat × Nat × Nat × Nat)), z.2.2.2 ≠ 0 ∧ ∃ nm : String, Cond.classLink RL z.2.2.2 nm ∈ gw_T ∧ ("java/lang/IllegalArgumentException", nm) ∈ gw_nc := fun z hz => absurd hz List.not_mem_nil
    exact g_callC C F cw_emb_CO (thr_X6_runScript_1 A hA k sc h1) my_X6_runScript vi_L_89 (by decide) rfl (cw_emb_CO.1 252 (by decide)) rfl (cw_wpc w) cw_wpc_i cw_wpc_o w (fun _ _ => rfl) (Nat.le_of_ble_eq_true rfl) dL_runScript_6 rfl h [] (0, 11, 14, 13) [] rfl hpass (by decide) (by decide) (gw_T_at 412 (by decide +kernel) rfl) (gw_N_at 424 (by decide +kernel) rfl) (Or.inr ⟨5, by decide, dL_runScript_14, rfl⟩) (ic := 1) (cv := 1) (by decide) dL_runScript_16 dL_runScript_17 (fun w1 hw1 => cw_LW1 (by unfold sp_runScript; rw [cw_ie h1]; exact cw_stp1 (by decide)) (by decide) (cw_RC.low (w := w1) (hw1 ▸ h) (fun q hq => if_pos hq)))

set_option maxHeartbeats 8000000 in
set_option maxRecDepth 100000 in
theorem ok_L_simulate (A : cw_A) {n m : Nat} (hA : cw_IA n m A) (hB : cw_B (n + 21600) (m + 2400)) (sd : Int64) (k : Int32) : gw_OkH yL_simulate cL_simulate 6 (some .int) [(0, 11, 14, 13)] sCO 13 [.ref 252, .long sd, .int k, .ref 263] (fun w => cw_RC A w) (fun _ vr w1 => cw_LW (sp_simulate A sd k) vr w1) := by
  refine gw_ofH (by decide) (Nat.le_of_ble_eq_true rfl) ?_
  intro X w h C F
  have hI := hA.1
  have hB2 : cw_B n (m + 20) := cw_B_le2 hB (by omega) (by omega)
  rcases cw_or1 (1 ≤ k ∧ k ≤ 60) with h1 | h1
  · refine g_aload C rfl dL_simulate_0 ?_
    refine g_iconst (v := 0) C (by decide) dL_simulate_2 ?_
    refine g_aload_n C rfl dL_simulate_3 ?_
    refine g_lload_n C rfl dL_simulate_4 ?_
    refine g_iload_n C rfl dL_simulate_5 ?_
    refine g_callW C cw_emb_CO (ok_X6_simulate A hA hB sd k h1) my_X6_simulate vi_L_93 (by decide) ⟨Nat.zero_le _, Nat.zero_le _⟩ rfl ((cw_emb_CO.1 252 (by decide))) rfl (cw_wpc w) (cw_wpc_i) (cw_wpc_o) (w) (fun _ _ => rfl) (Nat.le_of_ble_eq_true rfl) dL_simulate_6 rfl (h) (fun v_6 w_6 hp_6 => ?_)
    obtain ⟨rfl, hr6⟩ := hp_6
    refine g_i2l C dL_simulate_9 ?_
    refine g_last (j := 0) C rfl rfl (by decide) (by decide) dL_simulate_10 ?_
    refine g_goto (tgt := 18) C (by decide) dL_simulate_11 ?_
    refine g_iconst (v := 0) C (by decide) dL_simulate_18 ?_
    refine g_iretH C F dL_simulate_19 ?_
    exact cw_LW0 (by unfold sp_simulate; rw [cw_it h1]; exact cw_stp0 rfl) (by rw [gw_set_self, cw_ups]) (hr6.low (fun q hq => by rw [gw_set_ne _ _ _ _ (by omega)]; exact if_pos hq))
  · refine g_aload C rfl dL_simulate_0 ?_
    refine g_iconst (v := 0) C (by decide) dL_simulate_2 ?_
    refine g_aload_n C rfl dL_simulate_3 ?_
    refine g_lload_n C rfl dL_simulate_4 ?_
    refine g_iload_n C rfl dL_simulate_5 ?_
    have hpass : ∀ z ∈ ([] : List (Nat × Nat × Nat × Nat)), z.2.2.2 ≠ 0 ∧ ∃ nm : String, Cond.classLink RL z.2.2.2 nm ∈ gw_T ∧ ("java/lang/IllegalArgumentException", nm) ∈ gw_nc := fun z hz => absurd hz List.not_mem_nil
    exact g_callC C F cw_emb_CO (thr_X6_simulate_1 A hA sd k h1) my_X6_simulate vi_L_93 (by decide) rfl (cw_emb_CO.1 252 (by decide)) rfl (cw_wpc w) cw_wpc_i cw_wpc_o w (fun _ _ => rfl) (Nat.le_of_ble_eq_true rfl) dL_simulate_6 rfl h [] (0, 11, 14, 13) [] rfl hpass (by decide) (by decide) (gw_T_at 412 (by decide +kernel) rfl) (gw_N_at 424 (by decide +kernel) rfl) (Or.inr ⟨5, by decide, dL_simulate_14, rfl⟩) (ic := 1) (cv := 1) (by decide) dL_simulate_16 dL_simulate_17 (fun w1 hw1 => cw_LW1 (by unfold sp_simulate; rw [cw_ie h1]; exact cw_stp1 (by decide)) (by decide) (cw_RC.low (w := w1) (hw1 ▸ h) (fun q hq => if_pos hq)))

set_option maxHeartbeats 8000000 in
set_option maxRecDepth 100000 in
theorem ok_L_save (A : cw_A) {n m : Nat} (hA : cw_IA n m A) (hB : cw_B (n + 21600) (m + 2400)) (k : Int32) : gw_OkH yL_save cL_save 4 (some .int) [(0, 9, 12, 28)] sCO 13 [.ref 252, .int k, .ref 263] (fun w => cw_RC A w) (fun _ vr w1 => cw_LW (sp_save A k) vr w1) := by
  refine gw_ofH (by decide) (Nat.le_of_ble_eq_true rfl) ?_
  intro X w h C F
  have hI := hA.1
  have hB2 : cw_B n (m + 20) := cw_B_le2 hB (by omega) (by omega)
  rcases cw_or1 (0 ≤ k ∧ k ≤ 1) with h1 | h1
  · refine g_aload_n C rfl dL_save_0 ?_
    refine g_iconst (v := 0) C (by decide) dL_save_1 ?_
    refine g_aload_n C rfl dL_save_2 ?_
    refine g_iload_n C rfl dL_save_3 ?_
    refine g_callW C cw_emb_CO (ok_X6_save A hA k h1) my_X6_save vi_L_97 (by decide) ⟨Nat.zero_le _, Nat.zero_le _⟩ rfl ((cw_emb_CO.1 252 (by decide))) rfl (cw_wpc w) (cw_wpc_i) (cw_wpc_o) (w) (fun _ _ => rfl) (Nat.le_of_ble_eq_true rfl) dL_save_4 rfl (h) (fun v_4 w_4 hp_4 => ?_)
    obtain ⟨rfl, hr4⟩ := hp_4
    refine g_i2l C dL_save_7 ?_
    refine g_last (j := 0) C rfl rfl (by decide) (by decide) dL_save_8 ?_
    refine g_goto (tgt := 15) C (by decide) dL_save_9 ?_
    refine g_iconst (v := 0) C (by decide) dL_save_15 ?_
    refine g_iretH C F dL_save_16 ?_
    exact cw_LW0 (by unfold sp_save; rw [cw_it h1]; exact cw_stp0 rfl) (by rw [gw_set_self, cw_ups]) (hr4.low (fun q hq => by rw [gw_set_ne _ _ _ _ (by omega)]; exact if_pos hq))
  · refine g_aload_n C rfl dL_save_0 ?_
    refine g_iconst (v := 0) C (by decide) dL_save_1 ?_
    refine g_aload_n C rfl dL_save_2 ?_
    refine g_iload_n C rfl dL_save_3 ?_
    have hpass : ∀ z ∈ ([] : List (Nat × Nat × Nat × Nat)), z.2.2.2 ≠ 0 ∧ ∃ nm : String, Cond.classLink RL z.2.2.2 nm ∈ gw_T ∧ ("java/lang/IndexOutOfBoundsException", nm) ∈ gw_nc := fun z hz => absurd hz List.not_mem_nil
    exact g_callC C F cw_emb_CO (thr_X6_save_1 A hA k h1) my_X6_save vi_L_97 (by decide) rfl (cw_emb_CO.1 252 (by decide)) rfl (cw_wpc w) cw_wpc_i cw_wpc_o w (fun _ _ => rfl) (Nat.le_of_ble_eq_true rfl) dL_save_4 rfl h [] (0, 9, 12, 28) [] rfl hpass (by decide) (by decide) (gw_T_at 634 (by decide +kernel) rfl) (gw_N_at 646 (by decide +kernel) rfl) (Or.inl ⟨3, by decide, dL_save_12, rfl⟩) (ic := 1) (cv := 1) (by decide) dL_save_13 dL_save_14 (fun w1 hw1 => cw_LW1 (by unfold sp_save; rw [cw_ie h1]; exact cw_stp1 (by decide)) (by decide) (cw_RC.low (w := w1) (hw1 ▸ h) (fun q hq => if_pos hq)))

set_option maxHeartbeats 8000000 in
set_option maxRecDepth 100000 in
theorem ok_L_restore (A : cw_A) {n m : Nat} (hA : cw_IA n m A) (hB : cw_B (n + 21600) (m + 2400)) (k : Int32) : gw_OkH yL_restore cL_restore 4 (some .int) [(0, 9, 12, 28), (0, 9, 15, 15)] sCO 13 [.ref 252, .int k, .ref 263] (fun w => cw_RC A w) (fun _ vr w1 => cw_LW (sp_restore A k) vr w1) := by
  refine gw_ofH (by decide) (Nat.le_of_ble_eq_true rfl) ?_
  intro X w h C F
  have hI := hA.1
  have hB2 : cw_B n (m + 20) := cw_B_le2 hB (by omega) (by omega)
  rcases cw_or2 (0 ≤ k ∧ k ≤ 1) ((A.2.2.1 (cw_x k)).isSome = true) with ⟨h1, h2⟩ | h1 | ⟨h1, h2⟩
  · refine g_aload_n C rfl dL_restore_0 ?_
    refine g_iconst (v := 0) C (by decide) dL_restore_1 ?_
    refine g_aload_n C rfl dL_restore_2 ?_
    refine g_iload_n C rfl dL_restore_3 ?_
    refine g_callW C cw_emb_CO (ok_X6_restore A hA k h1 h2) my_X6_restore vi_L_100 (by decide) ⟨Nat.zero_le _, Nat.zero_le _⟩ rfl ((cw_emb_CO.1 252 (by decide))) rfl (cw_wpc w) (cw_wpc_i) (cw_wpc_o) (w) (fun _ _ => rfl) (Nat.le_of_ble_eq_true rfl) dL_restore_4 rfl (h) (fun v_4 w_4 hp_4 => ?_)
    obtain ⟨rfl, hr4⟩ := hp_4
    refine g_i2l C dL_restore_7 ?_
    refine g_last (j := 0) C rfl rfl (by decide) (by decide) dL_restore_8 ?_
    refine g_goto (tgt := 18) C (by decide) dL_restore_9 ?_
    refine g_iconst (v := 0) C (by decide) dL_restore_18 ?_
    refine g_iretH C F dL_restore_19 ?_
    exact cw_LW0 (by unfold sp_restore; rw [cw_it h1, if_pos h2]; exact cw_stp0 rfl) (by rw [gw_set_self, cw_ups]) (hr4.low (fun q hq => by rw [gw_set_ne _ _ _ _ (by omega)]; exact if_pos hq))
  · refine g_aload_n C rfl dL_restore_0 ?_
    refine g_iconst (v := 0) C (by decide) dL_restore_1 ?_
    refine g_aload_n C rfl dL_restore_2 ?_
    refine g_iload_n C rfl dL_restore_3 ?_
    have hpass : ∀ z ∈ ([] : List (Nat × Nat × Nat × Nat)), z.2.2.2 ≠ 0 ∧ ∃ nm : String, Cond.classLink RL z.2.2.2 nm ∈ gw_T ∧ ("java/lang/IndexOutOfBoundsException", nm) ∈ gw_nc := fun z hz => absurd hz List.not_mem_nil
    exact g_callC C F cw_emb_CO (thr_X6_restore_1 A hA k h1) my_X6_restore vi_L_100 (by decide) rfl (cw_emb_CO.1 252 (by decide)) rfl (cw_wpc w) cw_wpc_i cw_wpc_o w (fun _ _ => rfl) (Nat.le_of_ble_eq_true rfl) dL_restore_4 rfl h [] (0, 9, 12, 28) [(0, 9, 15, 15)] rfl hpass (by decide) (by decide) (gw_T_at 634 (by decide +kernel) rfl) (gw_N_at 646 (by decide +kernel) rfl) (Or.inl ⟨3, by decide, dL_restore_12, rfl⟩) (ic := 1) (cv := 1) (by decide) dL_restore_13 dL_restore_14 (fun w1 hw1 => cw_LW1 (by unfold sp_restore; rw [cw_ie h1]; exact cw_stp1 (by decide)) (by decide) (cw_RC.low (w := w1) (hw1 ▸ h) (fun q hq => if_pos hq)))
  · refine g_aload_n C rfl dL_restore_0 ?_
    refine g_iconst (v := 0) C (by decide) dL_restore_1 ?_
    refine g_aload_n C rfl dL_restore_2 ?_
    refine g_iload_n C rfl dL_restore_3 ?_
    have hpass : ∀ z ∈ ([(0, 9, 12, 28)] : List (Nat × Nat × Nat × Nat)), z.2.2.2 ≠ 0 ∧ ∃ nm : String, Cond.classLink RL z.2.2.2 nm ∈ gw_T ∧ ("java/lang/IllegalStateException", nm) ∈ gw_nc := fun z hz => by
      simp only [List.mem_cons, List.not_mem_nil, or_false] at hz
      rcases hz with rfl
      · exact ⟨by decide, "java/lang/IndexOutOfBoundsException", gw_T_at 634 (by decide +kernel) rfl, List.mem_of_getElem? (i := 2) rfl⟩
    exact g_callC C F cw_emb_CO (thr_X6_restore_2 A hA k h1 h2) my_X6_restore vi_L_100 (by decide) rfl (cw_emb_CO.1 252 (by decide)) rfl (cw_wpc w) cw_wpc_i cw_wpc_o w (fun _ _ => rfl) (Nat.le_of_ble_eq_true rfl) dL_restore_4 rfl h [(0, 9, 12, 28)] (0, 9, 15, 15) [] rfl hpass (by decide) (by decide) (gw_T_at 413 (by decide +kernel) rfl) (gw_N_at 495 (by decide +kernel) rfl) (Or.inl ⟨3, by decide, dL_restore_15, rfl⟩) (ic := 2) (cv := 2) (by decide) dL_restore_16 dL_restore_17 (fun w1 hw1 => cw_LW1 (by unfold sp_restore; rw [cw_it h1, if_neg h2]; exact cw_stp1 (by decide)) (by decide) (cw_RC.low (w := w1) (hw1 ▸ h) (fun q hq => if_pos hq)))

