set_option maxHeartbeats 8000000 in
set_option maxRecDepth 100000 in
theorem ok_X7_school (k a : Int32) (ha : cw_r 0 1 a) (A : cw_A) {n m : Nat} (hI : cw_I n m A.1) (hB : cw_B n (m + 20)) : gw_Ok yX7_school cX7_school 4 (some .int) sM 8 [.ref 0, .int k, .int a] (fun w => cw_RM A w) (fun _ vr w1 => cw_FP (sp_school A k a) vr w1) := by
  refine gw_of (by decide) (Nat.le_of_ble_eq_true rfl) ?_
  intro X w h C F
  have es := cw_es h
  have h6 := hI.m.2
  have hIw : cw_I n m (w 1) := cw_I_cg hI es
  refine g_aload_n C rfl dX7_school_0 ?_
  refine g_iload_n C rfl dX7_school_1 ?_
  refine g_callS C (ok_X7_isWeek _) my_X7_isWeek si_X7_48 (by decide) ⟨Nat.le_refl _, Nat.le_refl _⟩ rfl (Nat.le_of_ble_eq_true rfl) dX7_school_2 rfl (trivial) (fun v_2 w_2 hp_2 => ?_)
  obtain ⟨rfl, hw_2⟩ := hp_2
  have hw_2 := hw_2.symm; subst hw_2
  refine g_join1 13 (cw_if (cw_isW k) 0 1) (fun k_13 => ?_) ?_
  · refine g_if_eq (tgt := 12) C (by decide) dX7_school_5 (fun c_5 => ?_) (fun c_5 => ?_)
    · refine g_iconst (v := 1) C (by decide) dX7_school_12 ?_
      exact k_13 _ (by rw [cw_ie (cw_b0.mp c_5)])
    · refine g_iconst (v := 0) C (by decide) dX7_school_8 ?_
      refine g_goto (tgt := 13) C (by decide) dX7_school_9 ?_
      exact k_13 _ (by rw [cw_it (cw_bn c_5)])
  refine g_call C (ok_X7_holds _) my_X7_holds vi_X7_174 (by decide) ⟨Nat.le_refl _, Nat.le_refl _⟩ rfl rfl rfl (Nat.le_of_ble_eq_true rfl) dX7_school_13 rfl (trivial) (fun v_13 w_13 hp_13 => ?_)
  obtain ⟨rfl, hw_13⟩ := hp_13
  have es2 : cw_eq (w_13 1) A.1 := by rw [hw_13, gw_set_ne _ _ _ _ (by decide)]; exact es
  have hI2 : cw_I n m (w_13 1) := cw_I_cg hI es2
  have hr2 : cw_RM A w_13 := by rw [hw_13]; exact cw_RM_thr h
  refine g_if_ne (tgt := 21) C (by decide) dX7_school_16 (fun c_16 => ?_) (fun c_16 => ?_)
  · have hE := cw_bn c_16
    have ht2 : w_13 0 0 = 0 := by rw [hw_13, gw_set_self, cw_ups]; exact hE
    refine g_aload_n C rfl dX7_school_21 ?_
    refine g_bipush (v := 115) C (by decide) dX7_school_22 ?_
    refine g_iload_n C rfl dX7_school_24 ?_
    refine g_iload_n C rfl dX7_school_25 ?_
    refine g_join1 34 (a) (fun k_34 => ?_) ?_
    · refine g_if_eq (tgt := 33) C (by decide) dX7_school_26 (fun c_26 => ?_) (fun c_26 => ?_)
      · refine g_iconst (v := 0) C (by decide) dX7_school_33 ?_
        exact k_34 _ (c_26.symm)
      · refine g_iconst (v := 1) C (by decide) dX7_school_29 ?_
        refine g_goto (tgt := 34) C (by decide) dX7_school_30 ?_
        exact k_34 _ (by obtain ⟨z, h1, h2, rfl⟩ := ha; have h3 : z = 0 ∨ z = 1 := (by omega); rcases h3 with rfl | rfl; exact absurd rfl c_26; rfl)
    refine g_iconst (v := 0) C (by decide) dX7_school_34 ?_
    refine g_call C (ok_X7_acts 115 k a 0 A hI hB (fun _ => cw_ifb (by decide) hE)) my_X7_acts vi_X7_236 (by decide) ⟨Nat.le_refl _, Nat.le_refl _⟩ rfl rfl rfl (Nat.le_of_ble_eq_true rfl) dX7_school_35 rfl (hr2) (fun v_35 w_35 hp_35 => ?_)
    obtain ⟨rfl, hr35, ht35⟩ := hp_35
    refine g_istore_n C (by decide) dX7_school_38 ?_
    refine g_aload_n C rfl dX7_school_39 ?_
    refine g_call C (ok_X7_schools) my_X7_schools vi_X7_240 (by decide) ⟨Nat.le_refl _, Nat.le_refl _⟩ rfl rfl rfl (Nat.le_of_ble_eq_true rfl) dX7_school_40 rfl (rfl) (fun v_40 w_40 hp_40 => ?_)
    obtain ⟨rfl, hw_40⟩ := hp_40
    have hw_40 := hw_40.symm; subst hw_40
    refine g_iret C F dX7_school_43 ?_
    exact cw_fin0 hE (cw_schools_cg (cw_es hr35)) (by rw [ht35]; exact ht2) hr35
  · refine g_iconst (v := 0) C (by decide) dX7_school_19 ?_
    refine g_iret C F dX7_school_20 ?_
    exact cw_fin1 h hw_13 (cw_b0.mp c_16)

set_option maxHeartbeats 8000000 in
set_option maxRecDepth 100000 in
theorem ok_X7_take (o k : Int32) (A : cw_A) {n m : Nat} (hI : cw_I n m A.1) (hB : cw_B n (m + 20)) : gw_Ok yX7_take cX7_take 4 (some .int) sM 8 [.ref 0, .int o, .int k] (fun w => cw_RM A w) (fun _ vr w1 => cw_FP (sp_take A o k) vr w1) := by
  refine gw_of (by decide) (Nat.le_of_ble_eq_true rfl) ?_
  intro X w h C F
  have es := cw_es h
  have h6 := hI.m.2
  have hIw : cw_I n m (w 1) := cw_I_cg hI es
  refine g_aload_n C rfl dX7_take_0 ?_
  refine g_aload_n C rfl dX7_take_1 ?_
  refine g_iload_n C rfl dX7_take_2 ?_
  refine g_iload_n C rfl dX7_take_3 ?_
  refine g_call C (ok_X7_areThere _ _) my_X7_areThere vi_X7_107 (by decide) ⟨Nat.le_refl _, Nat.le_refl _⟩ rfl rfl rfl (Nat.le_of_ble_eq_true rfl) dX7_take_4 rfl (rfl) (fun v_4 w_4 hp_4 => ?_)
  obtain ⟨rfl, hw_4⟩ := hp_4
  have hw_4 := hw_4.symm; subst hw_4
  refine g_top (show _ = cw_b (cw_th A.1 o k) by rw [cw_th_cg es]) ?_
  refine g_join1 15 (cw_if (cw_th A.1 o k) 0 1) (fun k_15 => ?_) ?_
  · refine g_if_eq (tgt := 14) C (by decide) dX7_take_7 (fun c_7 => ?_) (fun c_7 => ?_)
    · refine g_iconst (v := 1) C (by decide) dX7_take_14 ?_
      exact k_15 _ (by rw [cw_ie (cw_b0.mp c_7)])
    · refine g_iconst (v := 0) C (by decide) dX7_take_10 ?_
      refine g_goto (tgt := 15) C (by decide) dX7_take_11 ?_
      exact k_15 _ (by rw [cw_it (cw_bn c_7)])
  refine g_call C (ok_X7_holds _) my_X7_holds vi_X7_174 (by decide) ⟨Nat.le_refl _, Nat.le_refl _⟩ rfl rfl rfl (Nat.le_of_ble_eq_true rfl) dX7_take_15 rfl (trivial) (fun v_15 w_15 hp_15 => ?_)
  obtain ⟨rfl, hw_15⟩ := hp_15
  have es2 : cw_eq (w_15 1) A.1 := by rw [hw_15, gw_set_ne _ _ _ _ (by decide)]; exact es
  have hI2 : cw_I n m (w_15 1) := cw_I_cg hI es2
  have hr2 : cw_RM A w_15 := by rw [hw_15]; exact cw_RM_thr h
  refine g_if_ne (tgt := 23) C (by decide) dX7_take_18 (fun c_18 => ?_) (fun c_18 => ?_)
  · have hE := cw_bn c_18
    have ht2 : w_15 0 0 = 0 := by rw [hw_15, gw_set_self, cw_ups]; exact hE
    refine g_aload_n C rfl dX7_take_23 ?_
    refine g_bipush (v := 116) C (by decide) dX7_take_24 ?_
    refine g_iload_n C rfl dX7_take_26 ?_
    refine g_iload_n C rfl dX7_take_27 ?_
    refine g_iconst (v := 0) C (by decide) dX7_take_28 ?_
    refine g_call C (ok_X7_acts 116 o k 0 A hI hB (fun q => absurd q (by decide))) my_X7_acts vi_X7_236 (by decide) ⟨Nat.le_refl _, Nat.le_refl _⟩ rfl rfl rfl (Nat.le_of_ble_eq_true rfl) dX7_take_29 rfl (hr2) (fun v_29 w_29 hp_29 => ?_)
    obtain ⟨rfl, hr29, ht29⟩ := hp_29
    refine g_istore_n C (by decide) dX7_take_32 ?_
    refine g_aload_n C rfl dX7_take_33 ?_
    refine g_getr C fl_X7_7 rfl rfl dX7_take_34 ?_
    refine g_sipush (v := 240) C (by decide) dX7_take_37 ?_
    refine g_dup2 C rfl rfl dX7_take_40 ?_
    refine g_iald (j := 240) C rfl (rfl) (by decide) (by decide) dX7_take_41 ?_
    refine g_iload_n C rfl dX7_take_42 ?_
    refine g_if_le (tgt := 50) C (by decide) dX7_take_43 (fun c_43 => ?_) (fun c_43 => ?_)
    · refine g_iconst (v := 0) C (by decide) dX7_take_50 ?_
      refine g_iadd C dX7_take_51 ?_
      refine g_iast (j := 240) C rfl (rfl) (by decide) (by decide) dX7_take_52 ?_
      refine g_iload_n C rfl dX7_take_53 ?_
      refine g_iret C F dX7_take_54 ?_
      refine cw_fin0 hE rfl (by rw [gw_set_ne _ _ _ _ (by decide), ht29]; exact ht2) ?_
      have hz := hr29.1
      refine hr29.house ?_ (gw_set_ne _ _ _ _ (by decide)) (gw_set_ne _ _ _ _ (by decide)) (gw_set_ne _ _ _ _ (by decide)) (by rw [gw_set_ne _ _ _ _ (by decide)]) (by rw [gw_set_ne _ _ _ _ (by decide)]) (by rw [gw_set_ne _ _ _ _ (by decide)])
      rw [gw_set_self, cw_nf_upd _ _ (by omega) (by omega), hz, if_pos c_43, cw_rd (cw_es hr29) (p := 240) (by omega) (by omega)]
    · refine g_iconst (v := 1) C (by decide) dX7_take_46 ?_
      refine g_goto (tgt := 51) C (by decide) dX7_take_47 ?_
      refine g_iadd C dX7_take_51 ?_
      refine g_iast (j := 240) C rfl (rfl) (by decide) (by decide) dX7_take_52 ?_
      refine g_iload_n C rfl dX7_take_53 ?_
      refine g_iret C F dX7_take_54 ?_
      refine cw_fin0 hE rfl (by rw [gw_set_ne _ _ _ _ (by decide), ht29]; exact ht2) ?_
      have hz := hr29.1
      refine hr29.house ?_ (gw_set_ne _ _ _ _ (by decide)) (gw_set_ne _ _ _ _ (by decide)) (gw_set_ne _ _ _ _ (by decide)) (by rw [gw_set_ne _ _ _ _ (by decide)]) (by rw [gw_set_ne _ _ _ _ (by decide)]) (by rw [gw_set_ne _ _ _ _ (by decide)])
      rw [gw_set_self, cw_nf_upd _ _ (by omega) (by omega), hz, if_neg c_43, cw_rd (cw_es hr29) (p := 240) (by omega) (by omega)]
  · refine g_iconst (v := 0) C (by decide) dX7_take_21 ?_
    refine g_iret C F dX7_take_22 ?_
    exact cw_fin1 h hw_15 (cw_b0.mp c_18)

set_option maxHeartbeats 8000000 in
set_option maxRecDepth 100000 in
theorem ok_X7_accept (k : Int32) (A : cw_A) {n m : Nat} (hI : cw_I n m A.1) (hB : cw_B n (m + 20)) : gw_Ok yX7_accept cX7_accept 2 (some .int) sM 8 [.ref 0, .int k] (fun w => cw_RM A w) (fun _ vr w1 => cw_FP (sp_accept A k) vr w1) := by
  refine gw_of (by decide) (Nat.le_of_ble_eq_true rfl) ?_
  intro X w h C F
  have es := cw_es h
  have h6 := hI.m.2
  have hIw : cw_I n m (w 1) := cw_I_cg hI es
  refine g_aload_n C rfl dX7_accept_0 ?_
  refine g_aload_n C rfl dX7_accept_1 ?_
  refine g_iload_n C rfl dX7_accept_2 ?_
  refine g_call C (ok_X7_isOffer _) my_X7_isOffer vi_X7_156 (by decide) ⟨Nat.le_refl _, Nat.le_refl _⟩ rfl rfl rfl (Nat.le_of_ble_eq_true rfl) dX7_accept_3 rfl (rfl) (fun v_3 w_3 hp_3 => ?_)
  obtain ⟨rfl, hw_3⟩ := hp_3
  have hw_3 := hw_3.symm; subst hw_3
  refine g_top (show _ = cw_b (cw_isK A.1 k) by rw [cw_isK_cg es]) ?_
  refine g_join1 14 (cw_if (cw_isK A.1 k) 0 1) (fun k_14 => ?_) ?_
  · refine g_if_eq (tgt := 13) C (by decide) dX7_accept_6 (fun c_6 => ?_) (fun c_6 => ?_)
    · refine g_iconst (v := 1) C (by decide) dX7_accept_13 ?_
      exact k_14 _ (by rw [cw_ie (cw_b0.mp c_6)])
    · refine g_iconst (v := 0) C (by decide) dX7_accept_9 ?_
      refine g_goto (tgt := 14) C (by decide) dX7_accept_10 ?_
      exact k_14 _ (by rw [cw_it (cw_bn c_6)])
  refine g_call C (ok_X7_holds _) my_X7_holds vi_X7_174 (by decide) ⟨Nat.le_refl _, Nat.le_refl _⟩ rfl rfl rfl (Nat.le_of_ble_eq_true rfl) dX7_accept_14 rfl (trivial) (fun v_14 w_14 hp_14 => ?_)
  obtain ⟨rfl, hw_14⟩ := hp_14
  have es2 : cw_eq (w_14 1) A.1 := by rw [hw_14, gw_set_ne _ _ _ _ (by decide)]; exact es
  have hI2 : cw_I n m (w_14 1) := cw_I_cg hI es2
  have hr2 : cw_RM A w_14 := by rw [hw_14]; exact cw_RM_thr h
  refine g_if_eq (tgt := 32) C (by decide) dX7_accept_17 (fun c_17 => ?_) (fun c_17 => ?_)
  · refine g_iconst (v := 0) C (by decide) dX7_accept_32 ?_
    refine g_iret C F dX7_accept_33 ?_
    exact cw_fin1 h hw_14 (cw_b0.mp c_17)
  · have hE := cw_bn c_17
    have ht2 : w_14 0 0 = 0 := by rw [hw_14, gw_set_self, cw_ups]; exact hE
    refine g_aload_n C rfl dX7_accept_20 ?_
    refine g_bipush (v := 97) C (by decide) dX7_accept_21 ?_
    refine g_iload_n C rfl dX7_accept_23 ?_
    refine g_iconst (v := 0) C (by decide) dX7_accept_24 ?_
    refine g_iconst (v := 0) C (by decide) dX7_accept_25 ?_
    refine g_call C (ok_X7_acts 97 k 0 0 A hI hB (fun q => absurd q (by decide))) my_X7_acts vi_X7_236 (by decide) ⟨Nat.le_refl _, Nat.le_refl _⟩ rfl rfl rfl (Nat.le_of_ble_eq_true rfl) dX7_accept_26 rfl (hr2) (fun v_26 w_26 hp_26 => ?_)
    obtain ⟨rfl, hr26, ht26⟩ := hp_26
    refine g_goto (tgt := 33) C (by decide) dX7_accept_29 ?_
    refine g_iret C F dX7_accept_33 ?_
    exact cw_fin0 hE rfl (by rw [ht26]; exact ht2) hr26

set_option maxHeartbeats 8000000 in
set_option maxRecDepth 100000 in
theorem ok_X7_settle (A : cw_A) {n m : Nat} (hI : cw_I n m A.1) (hB : cw_B n (m + 20)) : gw_Ok yX7_settle cX7_settle 1 (some .int) sM 8 [.ref 0] (fun w => cw_RM A w) (fun _ vr w1 => cw_FP (sp_settle A) vr w1) := by
  refine gw_of (by decide) (Nat.le_of_ble_eq_true rfl) ?_
  intro X w h C F
  have es := cw_es h
  have h6 := hI.m.2
  have hIw : cw_I n m (w 1) := cw_I_cg hI es
  refine g_aload_n C rfl dX7_settle_0 ?_
  refine g_iconst (v := 0) C (by decide) dX7_settle_1 ?_
  refine g_putf C fl_X7_32 fp_5_0 rfl rfl (rfl) (rfl) dX7_settle_2 ?_
  refine g_genP (P := fun v => cw_RM A v ∧ v 0 0 = 0) ⟨cw_RM_thr h, by simp [gw_set]⟩ (fun w5 h5 => ?_)
  obtain ⟨hr2, ht2⟩ := h5
  refine g_aload_n C rfl dX7_settle_5 ?_
  refine g_bipush (v := 101) C (by decide) dX7_settle_6 ?_
  refine g_iconst (v := 0) C (by decide) dX7_settle_8 ?_
  refine g_iconst (v := 0) C (by decide) dX7_settle_9 ?_
  refine g_iconst (v := 0) C (by decide) dX7_settle_10 ?_
  refine g_call C (ok_X7_acts 101 0 0 0 A hI hB (fun q => absurd q (by decide))) my_X7_acts vi_X7_236 (by decide) ⟨Nat.le_refl _, Nat.le_refl _⟩ rfl rfl rfl (Nat.le_of_ble_eq_true rfl) dX7_settle_11 rfl (hr2) (fun v_11 w_11 hp_11 => ?_)
  obtain ⟨rfl, hr11, ht11⟩ := hp_11
  refine g_iret C F dX7_settle_14 ?_
  exact ⟨rfl, by rw [ht11]; exact ht2, hr11⟩

set_option maxHeartbeats 8000000 in
set_option maxRecDepth 100000 in
theorem ok_X7_year (A : cw_A) {n m : Nat} (hI : cw_I n m A.1) (hB : cw_B n (m + 20)) : gw_Ok yX7_year cX7_year 1 (some .int) sM 8 [.ref 0] (fun w => cw_RM A w) (fun _ vr w1 => cw_FP (sp_year A) vr w1) := by
  refine gw_of (by decide) (Nat.le_of_ble_eq_true rfl) ?_
  intro X w h C F
  have es := cw_es h
  have h6 := hI.m.2
  have hIw : cw_I n m (w 1) := cw_I_cg hI es
  refine g_aload_n C rfl dX7_year_0 ?_
  refine g_iconst (v := 0) C (by decide) dX7_year_1 ?_
  refine g_putf C fl_X7_32 fp_5_0 rfl rfl (rfl) (rfl) dX7_year_2 ?_
  refine g_genP (P := fun v => cw_RM A v ∧ v 0 0 = 0) ⟨cw_RM_thr h, by simp [gw_set]⟩ (fun w5 h5 => ?_)
  obtain ⟨hr2, ht2⟩ := h5
  refine g_aload_n C rfl dX7_year_5 ?_
  refine g_bipush (v := 121) C (by decide) dX7_year_6 ?_
  refine g_iconst (v := 0) C (by decide) dX7_year_8 ?_
  refine g_iconst (v := 0) C (by decide) dX7_year_9 ?_
  refine g_iconst (v := 0) C (by decide) dX7_year_10 ?_
  refine g_call C (ok_X7_acts 121 0 0 0 A hI hB (fun q => absurd q (by decide))) my_X7_acts vi_X7_236 (by decide) ⟨Nat.le_refl _, Nat.le_refl _⟩ rfl rfl rfl (Nat.le_of_ble_eq_true rfl) dX7_year_11 rfl (hr2) (fun v_11 w_11 hp_11 => ?_)
  obtain ⟨rfl, hr11, ht11⟩ := hp_11
  refine g_iret C F dX7_year_14 ?_
  exact ⟨rfl, by rw [ht11]; exact ht2, hr11⟩

set_option maxHeartbeats 8000000 in
set_option maxRecDepth 100000 in
theorem ok_X7_isSetting (k v : Int32) : gw_Ok yX7_isSetting cX7_isSetting 2 (some .boolean) sM 2 [.int k, .int v] (fun _ => True) (fun w vr w1 => vr = some (.int (cw_b (cw_setOk k v))) ∧ w1 = w) := by
  refine gw_of (by decide) (Nat.le_of_ble_eq_true rfl) ?_
  intro X w h C F
  refine g_iload_n C rfl dX7_isSetting_0 ?_
  refine g_if_ne (tgt := 14) C (by decide) dX7_isSetting_1 (fun c_1 => ?_) (fun c_1 => ?_)
  · refine g_iload_n C rfl dX7_isSetting_14 ?_
    refine g_iconst (v := 1) C (by decide) dX7_isSetting_15 ?_
    refine g_cmp_ne (tgt := 29) C (by decide) dX7_isSetting_16 (fun c_16 => ?_) (fun c_16 => ?_)
    · refine g_iload_n C rfl dX7_isSetting_29 ?_
      refine g_iconst (v := 2) C (by decide) dX7_isSetting_30 ?_
      refine g_cmp_ne (tgt := 48) C (by decide) dX7_isSetting_31 (fun c_31 => ?_) (fun c_31 => ?_)
      · refine g_iconst (v := 0) C (by decide) dX7_isSetting_48 ?_
        refine g_zret C F (rfl) dX7_isSetting_49 ?_
        exact ⟨by rw [cw_bf (show ¬ cw_setOk k v from fun q => by unfold cw_setOk at q; rcases q with q | q | q; exact c_1 q.1; exact c_16 q.1; exact c_31 q.1)], rfl⟩
      · refine g_iload_n C rfl dX7_isSetting_34 ?_
        refine g_iconst (v := 1) C (by decide) dX7_isSetting_35 ?_
        refine g_bipush (v := 10) C (by decide) dX7_isSetting_36 ?_
        refine g_callS C (ok_X7_in _ _ _) my_X7_in si_X7_40 (by decide) ⟨Nat.le_refl _, Nat.le_refl _⟩ rfl (Nat.le_of_ble_eq_true rfl) dX7_isSetting_38 rfl (trivial) (fun v_38 w_38 hp_38 => ?_)
        obtain ⟨rfl, hw_38⟩ := hp_38
        have hw_38 := hw_38.symm; subst hw_38
        refine g_if_eq (tgt := 48) C (by decide) dX7_isSetting_41 (fun c_41 => ?_) (fun c_41 => ?_)
        · refine g_iconst (v := 0) C (by decide) dX7_isSetting_48 ?_
          refine g_zret C F (rfl) dX7_isSetting_49 ?_
          exact ⟨by rw [cw_bf (show ¬ cw_setOk k v from fun q => by unfold cw_setOk at q; rcases q with q | q | q; exact c_1 q.1; exact c_16 q.1; exact cw_b0.mp c_41 q.2)], rfl⟩
        · refine g_iconst (v := 1) C (by decide) dX7_isSetting_44 ?_
          refine g_goto (tgt := 49) C (by decide) dX7_isSetting_45 ?_
          refine g_zret C F (rfl) dX7_isSetting_49 ?_
          exact ⟨by rw [cw_b1 (show cw_setOk k v from Or.inr (Or.inr ⟨c_31, (cw_bn c_41)⟩))], rfl⟩
    · refine g_iload_n C rfl dX7_isSetting_19 ?_
      refine g_iconst (v := 0) C (by decide) dX7_isSetting_20 ?_
      refine g_bipush (v := 20) C (by decide) dX7_isSetting_21 ?_
      refine g_callS C (ok_X7_in _ _ _) my_X7_in si_X7_40 (by decide) ⟨Nat.le_refl _, Nat.le_refl _⟩ rfl (Nat.le_of_ble_eq_true rfl) dX7_isSetting_23 rfl (trivial) (fun v_23 w_23 hp_23 => ?_)
      obtain ⟨rfl, hw_23⟩ := hp_23
      have hw_23 := hw_23.symm; subst hw_23
      refine g_goto (tgt := 49) C (by decide) dX7_isSetting_26 ?_
      refine g_zret C F (cw_bz _) dX7_isSetting_49 ?_
      exact ⟨by rw [cw_b_eq (show (0 ≤ v ∧ v ≤ 20) ↔ cw_setOk k v from by unfold cw_setOk; rw [c_16]; simp)], rfl⟩
  · refine g_iload_n C rfl dX7_isSetting_4 ?_
    refine g_iconst (v := 1) C (by decide) dX7_isSetting_5 ?_
    refine g_bipush (v := 20) C (by decide) dX7_isSetting_6 ?_
    refine g_callS C (ok_X7_in _ _ _) my_X7_in si_X7_40 (by decide) ⟨Nat.le_refl _, Nat.le_refl _⟩ rfl (Nat.le_of_ble_eq_true rfl) dX7_isSetting_8 rfl (trivial) (fun v_8 w_8 hp_8 => ?_)
    obtain ⟨rfl, hw_8⟩ := hp_8
    have hw_8 := hw_8.symm; subst hw_8
    refine g_goto (tgt := 49) C (by decide) dX7_isSetting_11 ?_
    refine g_zret C F (cw_bz _) dX7_isSetting_49 ?_
    exact ⟨by rw [cw_b_eq (show (1 ≤ v ∧ v ≤ 20) ↔ cw_setOk k v from by unfold cw_setOk; rw [c_1]; simp)], rfl⟩

set_option maxHeartbeats 8000000 in
set_option maxRecDepth 100000 in
theorem ok_X7_set (k v : Int32) (A : cw_A) {n m : Nat} (hI : cw_I n m A.1) (hB : cw_B n (m + 20)) : gw_Ok yX7_set cX7_set 3 (some .int) sM 4 [.ref 0, .int k, .int v] (fun w => cw_RM A w) (fun _ vr w1 => cw_FP (sp_set A k v) vr w1) := by
  refine gw_of (by decide) (Nat.le_of_ble_eq_true rfl) ?_
  intro X w h C F
  have es := cw_es h
  have h6 := hI.m.2
  have hIw : cw_I n m (w 1) := cw_I_cg hI es
  refine g_aload_n C rfl dX7_set_0 ?_
  refine g_iload_n C rfl dX7_set_1 ?_
  refine g_iload_n C rfl dX7_set_2 ?_
  refine g_callS C (ok_X7_isSetting _ _) my_X7_isSetting si_X7_243 (by decide) ⟨Nat.le_refl _, Nat.le_refl _⟩ rfl (Nat.le_of_ble_eq_true rfl) dX7_set_3 rfl (trivial) (fun v_3 w_3 hp_3 => ?_)
  obtain ⟨rfl, hw_3⟩ := hp_3
  have hw_3 := hw_3.symm; subst hw_3
  refine g_join1 14 (cw_if (cw_setOk k v) 0 1) (fun k_14 => ?_) ?_
  · refine g_if_eq (tgt := 13) C (by decide) dX7_set_6 (fun c_6 => ?_) (fun c_6 => ?_)
    · refine g_iconst (v := 1) C (by decide) dX7_set_13 ?_
      exact k_14 _ (by rw [cw_ie (cw_b0.mp c_6)])
    · refine g_iconst (v := 0) C (by decide) dX7_set_9 ?_
      refine g_goto (tgt := 14) C (by decide) dX7_set_10 ?_
      exact k_14 _ (by rw [cw_it (cw_bn c_6)])
  refine g_call C (ok_X7_holds _) my_X7_holds vi_X7_174 (by decide) ⟨Nat.le_refl _, Nat.le_refl _⟩ rfl rfl rfl (Nat.le_of_ble_eq_true rfl) dX7_set_14 rfl (trivial) (fun v_14 w_14 hp_14 => ?_)
  obtain ⟨rfl, hw_14⟩ := hp_14
  have es2 : cw_eq (w_14 1) A.1 := by rw [hw_14, gw_set_ne _ _ _ _ (by decide)]; exact es
  have hI2 : cw_I n m (w_14 1) := cw_I_cg hI es2
  have hr2 : cw_RM A w_14 := by rw [hw_14]; exact cw_RM_thr h
  refine g_if_ne (tgt := 22) C (by decide) dX7_set_17 (fun c_17 => ?_) (fun c_17 => ?_)
  · have hE := cw_bn c_17
    obtain ⟨i, rfl, hi3⟩ : ∃ i, k = nI i ∧ i < 3 := by
      rcases cw_ifb (by decide) hE with q | q | q
      · exact ⟨0, q.1, by omega⟩
      · exact ⟨1, q.1, by omega⟩
      · exact ⟨2, q.1, by omega⟩
    have ei : cw_x (nI i) = i := cw_xn (by omega)
    have ht2 : w_14 0 0 = 0 := by rw [hw_14, gw_set_self, cw_ups]; exact hE
    refine g_aload_n C rfl dX7_set_22 ?_
    refine g_call C (ok_X7_remember A) my_X7_remember vi_X7_233 (by decide) ⟨Nat.le_refl _, Nat.le_refl _⟩ rfl rfl rfl (Nat.le_of_ble_eq_true rfl) dX7_set_23 rfl (hr2) (fun v_23 w_23 hp_23 => ?_)
    obtain ⟨rfl, hs9, hk9, hr9⟩ := hp_23
    refine g_aload_n C rfl dX7_set_26 ?_
    refine g_sipush (v := 231) C (by decide) dX7_set_27 ?_
    refine g_iload_n C rfl dX7_set_30 ?_
    refine g_iadd C dX7_set_31 ?_
    refine g_iload_n C rfl dX7_set_32 ?_
    refine g_call C (ok_X7_becomes _ _ (231 + i) (nI_add 231 i) (by omega)) my_X7_becomes vi_X7_97 (by decide) ⟨Nat.le_refl _, Nat.le_refl _⟩ rfl rfl rfl (Nat.le_of_ble_eq_true rfl) dX7_set_33 rfl (rfl) (fun v_33 w_33 hp_33 => ?_)
    obtain ⟨rfl, h_33⟩ := hp_33
    refine g_iret C F dX7_set_36 ?_
    have hz := cw_RM_S (s := upd (w_23 1) (231 + i) v) hr9
    refine cw_fin0 hE (by show _ = A.1 (231 + cw_x (nI i)); rw [ei, hs9]; exact cw_rd es2 (by omega) (by omega)) (by rw [h_33, cw_Sne _ _ (by decide), hk9 0 (by decide)]; exact ht2) ?_
    rw [h_33]
    have e9 : cw_nf (upd (w_23 1) (231 + i) v) = upd A.1 (231 + i) v := by rw [cw_nf_upd _ _ (by omega) (by omega), hr9.1]; rfl
    rw [e9] at hz
    show cw_RM (upd A.1 (231 + cw_x (nI i)) v, (cw_rem A).2) _
    rw [ei]; exact hz
  · refine g_iconst (v := 0) C (by decide) dX7_set_20 ?_
    refine g_iret C F dX7_set_21 ?_
    exact cw_fin1 h hw_14 (cw_b0.mp c_17)

set_option maxHeartbeats 8000000 in
set_option maxRecDepth 100000 in
theorem ok_X7_clearText (A : cw_A) {n m : Nat} (hI : cw_I n m A.1) (hB : cw_B n (m + 20)) : gw_Ok yX7_clearText cX7_clearText 2 (some .int) sM 1 [.ref 0] (fun w => cw_RM A w) (fun _ vr w1 => cw_FP (sp_clearText A) vr w1) := by
  refine gw_of (by decide) (Nat.le_of_ble_eq_true rfl) ?_
  intro X w h C F
  obtain ⟨a1, ⟨b1, b2, b3⟩, ⟨c1, c2⟩, d1, d2, d3⟩ := h
  refine g_aload_n C rfl dX7_clearText_0 ?_
  refine g_iconst (v := 0) C (by decide) dX7_clearText_1 ?_
  refine g_putf C fl_X7_32 fp_5_0 rfl rfl (rfl) (rfl) dX7_clearText_2 ?_
  refine g_aload_n C rfl dX7_clearText_5 ?_
  refine g_getf C fl_X7_171 rfl rfl dX7_clearText_6 ?_
  refine g_istore_n C (by decide) dX7_clearText_9 ?_
  refine g_aload_n C rfl dX7_clearText_10 ?_
  refine g_iconst (v := 0) C (by decide) dX7_clearText_11 ?_
  refine g_putf C fl_X7_171 fp_5_8 rfl rfl (rfl) (rfl) dX7_clearText_12 ?_
  refine g_iload_n C rfl dX7_clearText_15 ?_
  refine g_iret C F dX7_clearText_16 ?_
  refine ⟨by show some (Value.int (w 0 8)) = _; rw [d1]; rfl, by simp [gw_set]; rfl, by rw [gw_set_ne _ _ _ _ (by decide), gw_set_ne _ _ _ _ (by decide)]; exact a1, ⟨by simp only [gw_set]; exact b1, b2, fun i hi => by rw [gw_set_ne _ _ _ _ (by decide), gw_set_ne _ _ _ _ (by decide)]; exact b3 i hi⟩, ⟨by simp only [gw_set]; exact c1, fun i hi v hv => by rw [gw_set_ne _ _ _ _ (by decide), gw_set_ne _ _ _ _ (by decide)]; exact c2 i hi v hv⟩, by simp [gw_set]; rfl, Nat.zero_le _, fun i hi => absurd hi (Nat.not_lt_zero i)⟩

set_option maxHeartbeats 8000000 in
set_option maxRecDepth 100000 in
theorem ok_X7_append (k : Int32) (A : cw_A) {n m : Nat} (hI : cw_I n m A.1) (hB : cw_B n (m + 20)) : gw_Ok yX7_append cX7_append 2 (some .int) sM 2 [.ref 0, .int k] (fun w => cw_RM A w) (fun _ vr w1 => cw_FP (sp_append A k) vr w1) := by
  refine gw_of (by decide) (Nat.le_of_ble_eq_true rfl) ?_
  intro X w h C F
  have es := cw_es h
  have h6 := hI.m.2
  have hIw : cw_I n m (w 1) := cw_I_cg hI es
  have d1 := h.2.2.2.1
  have d2 := h.2.2.2.2.1
  refine g_aload_n C rfl dX7_append_0 ?_
  refine g_iload_n C rfl dX7_append_1 ?_
  refine g_iconst (v := 0) C (by decide) dX7_append_2 ?_
  refine g_sipush (v := 255) C (by decide) dX7_append_3 ?_
  refine g_callS C (ok_X7_in _ _ _) my_X7_in si_X7_40 (by decide) ⟨Nat.le_refl _, Nat.le_refl _⟩ rfl (Nat.le_of_ble_eq_true rfl) dX7_append_6 rfl (trivial) (fun v_6 w_6 hp_6 => ?_)
  obtain ⟨rfl, hw_6⟩ := hp_6
  have hw_6 := hw_6.symm; subst hw_6
  refine g_join1 30 (cw_if (0 ≤ k ∧ k ≤ 255) (if nI A.2.2.2.1 = 120 then 2 else 0) 1) (fun k_30 => ?_) ?_
  · refine g_if_ne (tgt := 16) C (by decide) dX7_append_9 (fun c_9 => ?_) (fun c_9 => ?_)
    · refine g_aload_n C rfl dX7_append_16 ?_
      refine g_getf C fl_X7_171 rfl rfl dX7_append_17 ?_
      refine g_bipush (v := 120) C (by decide) dX7_append_20 ?_
      refine g_cmp_ne (tgt := 29) C (by decide) dX7_append_22 (fun c_22 => ?_) (fun c_22 => ?_)
      · refine g_iconst (v := 0) C (by decide) dX7_append_29 ?_
        exact k_30 _ (by rw [cw_it (cw_bn c_9), if_neg (by rw [← d1]; exact c_22)])
      · refine g_iconst (v := 2) C (by decide) dX7_append_25 ?_
        refine g_goto (tgt := 30) C (by decide) dX7_append_26 ?_
        exact k_30 _ (by rw [cw_it (cw_bn c_9), if_pos (by rw [← d1]; exact c_22)])
    · refine g_iconst (v := 1) C (by decide) dX7_append_12 ?_
      refine g_goto (tgt := 30) C (by decide) dX7_append_13 ?_
      exact k_30 _ (by rw [cw_ie (cw_b0.mp c_9)])
  refine g_call C (ok_X7_holds _) my_X7_holds vi_X7_174 (by decide) ⟨Nat.le_refl _, Nat.le_refl _⟩ rfl rfl rfl (Nat.le_of_ble_eq_true rfl) dX7_append_30 rfl (trivial) (fun v_30 w_30 hp_30 => ?_)
  obtain ⟨rfl, hw_30⟩ := hp_30
  have es2 : cw_eq (w_30 1) A.1 := by rw [hw_30, gw_set_ne _ _ _ _ (by decide)]; exact es
  have hI2 : cw_I n m (w_30 1) := cw_I_cg hI es2
  have hr2 : cw_RM A w_30 := by rw [hw_30]; exact cw_RM_thr h
  refine g_if_ne (tgt := 38) C (by decide) dX7_append_33 (fun c_33 => ?_) (fun c_33 => ?_)
  · have hE := cw_bn c_33
    have hl120 : A.2.2.2.1 < 120 := by
      have q := (cw_if0.mp hE).2
      rcases Nat.lt_or_ge A.2.2.2.1 120 with z | z
      · exact z
      · exact absurd (by rw [show A.2.2.2.1 = 120 by omega]; rfl) q
    have ht2 : w_30 0 0 = 0 := by rw [hw_30, gw_set_self, cw_ups]; exact hE
    refine g_aload_n C rfl dX7_append_38 ?_
    refine g_getr C fl_X7_22 rfl rfl dX7_append_39 ?_
    refine g_aload_n C rfl dX7_append_42 ?_
    refine g_getf C fl_X7_171 rfl rfl dX7_append_43 ?_
    refine g_top (show _ = nI A.2.2.2.1 by rw [hw_30]; simp only [gw_set]; exact d1) ?_
    refine g_iload_n C rfl dX7_append_46 ?_
    refine g_iast (j := A.2.2.2.1) C rfl (rfl) (hl120) (by decide) dX7_append_47 ?_
    refine g_aload_n C rfl dX7_append_48 ?_
    refine g_dup C rfl dX7_append_49 ?_
    refine g_getf C fl_X7_171 rfl rfl dX7_append_50 ?_
    refine g_iconst (v := 1) C (by decide) dX7_append_53 ?_
    refine g_iadd C dX7_append_54 ?_
    refine g_putf C fl_X7_171 fp_5_8 rfl rfl (rfl) (rfl) dX7_append_55 ?_
    refine g_aload_n C rfl dX7_append_58 ?_
    refine g_getf C fl_X7_171 rfl rfl dX7_append_59 ?_
    refine g_iret C F dX7_append_62 ?_
    obtain ⟨a1, ⟨b1, b2, b3⟩, ⟨c1, c2⟩, e1, e2, e3⟩ := hr2
    have v9 : gw_set (gw_set w_30 5 A.2.2.2.1 k) 0 8 (gw_set w_30 5 A.2.2.2.1 k 0 8 + 1) 0 8 = nI (A.2.2.2.1 + 1) := by
      rw [gw_set_self, cw_ups, gw_set_ne _ _ _ _ (by decide), e1]; exact nI_1 _
    refine cw_fin0 hE v9 (by simp only [gw_set]; exact ht2) ⟨by rw [gw_set_ne _ _ _ _ (by decide), gw_set_ne _ _ _ _ (by decide)]; exact a1, ⟨by simp only [gw_set]; exact b1, b2, fun i hi => by rw [gw_set_ne _ _ _ _ (by decide), gw_set_ne _ _ _ _ (by decide)]; exact b3 i hi⟩, ⟨by simp only [gw_set]; exact c1, fun i hi v hv => by rw [gw_set_ne _ _ _ _ (by decide), gw_set_ne _ _ _ _ (by decide)]; exact c2 i hi v hv⟩, v9, hl120, fun i hi => ?_⟩
    rw [gw_set_ne _ _ _ _ (by decide), gw_set_self]
    show upd _ _ _ i = upd _ _ _ i
    unfold upd
    split
    · rfl
    · exact e3 i (Nat.lt_of_le_of_ne (Nat.le_of_lt_succ hi) (by assumption))
  · refine g_iconst (v := 0) C (by decide) dX7_append_36 ?_
    refine g_iret C F dX7_append_37 ?_
    exact cw_fin1 h hw_30 (cw_b0.mp c_33)

