set_option maxHeartbeats 8000000 in
set_option maxRecDepth 100000 in
theorem ok_X7_acts (l a b c : Int32) (A : cw_A) {n m : Nat} (hI : cw_I n m A.1) (hB : cw_B n (m + 20)) (h115 : l = 115 → cw_isW a) : gw_Ok yX7_acts cX7_acts 5 (some .int) sM 7 [.ref 0, .int l, .int a, .int b, .int c] (fun w => cw_RM A w) (fun w vr w1 => vr = some (.int (cw_acts A l a b c).1) ∧ cw_RM (cw_acts A l a b c).2 w1 ∧ w1 0 0 = w 0 0) := by
  refine gw_of (by decide) (Nat.le_of_ble_eq_true rfl) ?_
  intro X w h C F
  have es := cw_es h
  have h6 := hI.m.2
  have hIw : cw_I n m (w 1) := cw_I_cg hI es
  refine g_aload_n C rfl dX7_acts_0 ?_
  refine g_call C (ok_X7_remember A) my_X7_remember vi_X7_233 (by decide) ⟨Nat.le_refl _, Nat.le_refl _⟩ rfl rfl rfl (Nat.le_of_ble_eq_true rfl) dX7_acts_1 rfl (h) (fun v_1 w_1 hp_1 => ?_)
  obtain ⟨rfl, hs9, hk9, hr9⟩ := hp_1
  refine g_aload_n C rfl dX7_acts_4 ?_
  refine g_iload_n C rfl dX7_acts_5 ?_
  refine g_putf C fl_X7_110 fp_5_9 rfl rfl (rfl) (rfl) dX7_acts_6 ?_
  refine g_aload_n C rfl dX7_acts_9 ?_
  refine g_iload_n C rfl dX7_acts_10 ?_
  refine g_putf C fl_X7_113 fp_5_10 rfl rfl (rfl) (rfl) dX7_acts_11 ?_
  refine g_aload_n C rfl dX7_acts_14 ?_
  refine g_iload_n C rfl dX7_acts_15 ?_
  refine g_putf C fl_X7_122 fp_5_11 rfl rfl (rfl) (rfl) dX7_acts_16 ?_
  refine g_aload_n C rfl dX7_acts_19 ?_
  refine g_iload C rfl dX7_acts_20 ?_
  refine g_putf C fl_X7_131 fp_5_12 rfl rfl (rfl) (rfl) dX7_acts_22 ?_
  refine g_genP (P := fun v => (∀ q, q ≠ 0 → v q = w_1 q) ∧ v 0 9 = l ∧ v 0 10 = a ∧ v 0 11 = b ∧ v 0 12 = c ∧ ∀ k, (k < 9 ∨ 12 < k) → v 0 k = w_1 0 k) ⟨fun q hq => by rw [gw_set_ne _ _ _ _ hq, gw_set_ne _ _ _ _ hq, gw_set_ne _ _ _ _ hq, gw_set_ne _ _ _ _ hq], by simp [gw_set], by simp [gw_set], by simp [gw_set], by simp [gw_set], fun k hk => by simp only [gw_set]; simp [show k ≠ 9 by omega, show k ≠ 10 by omega, show k ≠ 11 by omega, show k ≠ 12 by omega]⟩ (fun w5 h5 => ?_)
  obtain ⟨b0, b9, b10, b11, b12, bk⟩ := h5
  have e5 : cw_eq (w5 1) A.1 := by rw [b0 1 (by decide), hs9]; exact es
  have hI5 := cw_I_cg hI e5
  refine g_aload_n C rfl dX7_acts_25 ?_
  refine g_call C (ok_X7_does l a b c hI5 hB h115) my_X7_does vi_X7_202 (by decide) ⟨Nat.le_refl _, Nat.le_refl _⟩ rfl rfl rfl (Nat.le_of_ble_eq_true rfl) dX7_acts_26 rfl (⟨rfl, b9, b10, b11, b12⟩) (fun v_26 w_26 hp_26 => ?_)
  obtain ⟨rfl, s26, h26, hn26⟩ := hp_26
  refine g_iret C F dX7_acts_29 ?_
  have hcg := cw_does_cg hI hB e5 l a b c h115
  have hr5 : cw_RM (cw_rem A) w5 := hr9.cg (by rw [b0 1 (by decide)]) (b0 3 (by decide)) (b0 4 (by decide)) (b0 5 (by decide)) (bk 4 (by omega)) (bk 6 (by omega)) (bk 8 (by omega))
  refine ⟨by rw [show (cw_acts A l a b c).1 = (cw_does A.1 l a b c).1 from rfl, hcg.1], ?_, ?_⟩
  · have hz := cw_RM_S (s := s26) hr5
    rw [hn26, hcg.2] at hz
    rw [h26]; exact hz
  · rw [hr_0 h26, bk 0 (by omega), hk9 0 (by decide)]

set_option maxHeartbeats 8000000 in
set_option maxRecDepth 100000 in
theorem ok_X7_about (k : Int32) (A : cw_A) {n m : Nat} (hI : cw_I n m A.1) (hB : cw_B n (m + 20)) : gw_Ok yX7_about cX7_about 2 (some .int) sM 5 [.ref 0, .int k] (fun w => cw_RM A w) (fun _ vr w1 => cw_FP (sp_about A k) vr w1) := by
  refine gw_of (by decide) (Nat.le_of_ble_eq_true rfl) ?_
  intro X w h C F
  have es := cw_es h
  have h6 := hI.m.2
  have hIw : cw_I n m (w 1) := cw_I_cg hI es
  refine g_aload_n C rfl dX7_about_0 ?_
  refine g_iload_n C rfl dX7_about_1 ?_
  refine g_iconst (v := 0) C (by decide) dX7_about_2 ?_
  refine g_bipush (v := 13) C (by decide) dX7_about_3 ?_
  refine g_callS C (ok_X7_in _ _ _) my_X7_in si_X7_40 (by decide) ⟨Nat.le_refl _, Nat.le_refl _⟩ rfl (Nat.le_of_ble_eq_true rfl) dX7_about_5 rfl (trivial) (fun v_5 w_5 hp_5 => ?_)
  obtain ⟨rfl, hw_5⟩ := hp_5
  have hw_5 := hw_5.symm; subst hw_5
  refine g_join1 16 (cw_if (0 ≤ k ∧ k ≤ 13) 0 1) (fun k_16 => ?_) ?_
  · refine g_if_eq (tgt := 15) C (by decide) dX7_about_8 (fun c_8 => ?_) (fun c_8 => ?_)
    · refine g_iconst (v := 1) C (by decide) dX7_about_15 ?_
      exact k_16 _ (by rw [cw_ie (cw_b0.mp c_8)])
    · refine g_iconst (v := 0) C (by decide) dX7_about_11 ?_
      refine g_goto (tgt := 16) C (by decide) dX7_about_12 ?_
      exact k_16 _ (by rw [cw_it (cw_bn c_8)])
  refine g_call C (ok_X7_holds _) my_X7_holds vi_X7_174 (by decide) ⟨Nat.le_refl _, Nat.le_refl _⟩ rfl rfl rfl (Nat.le_of_ble_eq_true rfl) dX7_about_16 rfl (trivial) (fun v_16 w_16 hp_16 => ?_)
  obtain ⟨rfl, hw_16⟩ := hp_16
  have es2 : cw_eq (w_16 1) A.1 := by rw [hw_16, gw_set_ne _ _ _ _ (by decide)]; exact es
  have hI2 : cw_I n m (w_16 1) := cw_I_cg hI es2
  have hr2 : cw_RM A w_16 := by rw [hw_16]; exact cw_RM_thr h
  refine g_if_eq (tgt := 30) C (by decide) dX7_about_19 (fun c_19 => ?_) (fun c_19 => ?_)
  · refine g_iconst (v := 0) C (by decide) dX7_about_30 ?_
    refine g_iret C F dX7_about_31 ?_
    exact cw_fin1 h hw_16 (cw_b0.mp c_19)
  · have hE := cw_bn c_19
    have ht2 : w_16 0 0 = 0 := by rw [hw_16, gw_set_self, cw_ups]; exact hE
    refine g_aload_n C rfl dX7_about_22 ?_
    refine g_iload_n C rfl dX7_about_23 ?_
    refine g_call C (ok_X7_told _ (cw_ifb (by decide) hE).1 (cw_ifb (by decide) hE).2 hI2.m) my_X7_told vi_X7_218 (by decide) ⟨Nat.le_refl _, Nat.le_refl _⟩ rfl rfl rfl (Nat.le_of_ble_eq_true rfl) dX7_about_24 rfl (rfl) (fun v_24 w_24 hp_24 => ?_)
    obtain ⟨rfl, hw_24⟩ := hp_24
    have hw_24 := hw_24.symm; subst hw_24
    refine g_goto (tgt := 31) C (by decide) dX7_about_27 ?_
    refine g_iret C F dX7_about_31 ?_
    exact cw_fin0 hE (cw_told_cg es2 h6 k) ht2 hr2

set_option maxHeartbeats 8000000 in
set_option maxRecDepth 100000 in
theorem ok_X7_ownerOf (o k : Int32) (A : cw_A) {n m : Nat} (hI : cw_I n m A.1) (hB : cw_B n (m + 20)) : gw_Ok yX7_ownerOf cX7_ownerOf 3 (some .int) sM 4 [.ref 0, .int o, .int k] (fun w => cw_RM A w) (fun _ vr w1 => cw_FP (sp_ownerOf A o k) vr w1) := by
  refine gw_of (by decide) (Nat.le_of_ble_eq_true rfl) ?_
  intro X w h C F
  have es := cw_es h
  have h6 := hI.m.2
  have hIw : cw_I n m (w 1) := cw_I_cg hI es
  refine g_aload_n C rfl dX7_ownerOf_0 ?_
  refine g_aload_n C rfl dX7_ownerOf_1 ?_
  refine g_iload_n C rfl dX7_ownerOf_2 ?_
  refine g_call C (ok_X7_isOwner _) my_X7_isOwner vi_X7_44 (by decide) ⟨Nat.le_refl _, Nat.le_refl _⟩ rfl rfl rfl (Nat.le_of_ble_eq_true rfl) dX7_ownerOf_3 rfl (hr_1 (hr_in rfl)) (fun v_3 w_3 hp_3 => ?_)
  obtain ⟨rfl, hw_3⟩ := hp_3
  have hw_3 := hw_3.symm; subst hw_3
  refine g_top (show _ = cw_b (cw_isO A.1 o) by rw [cw_isO_cg es]) ?_
  refine g_join1 28 (cw_if (cw_isO A.1 o) (cw_if (0 ≤ k ∧ k ≤ 6) 0 2) 1) (fun k_28 => ?_) ?_
  · refine g_if_ne (tgt := 13) C (by decide) dX7_ownerOf_6 (fun c_6 => ?_) (fun c_6 => ?_)
    · refine g_iload_n C rfl dX7_ownerOf_13 ?_
      refine g_iconst (v := 0) C (by decide) dX7_ownerOf_14 ?_
      refine g_bipush (v := 6) C (by decide) dX7_ownerOf_15 ?_
      refine g_callS C (ok_X7_in _ _ _) my_X7_in si_X7_40 (by decide) ⟨Nat.le_refl _, Nat.le_refl _⟩ rfl (Nat.le_of_ble_eq_true rfl) dX7_ownerOf_17 rfl (trivial) (fun v_17 w_17 hp_17 => ?_)
      obtain ⟨rfl, hw_17⟩ := hp_17
      have hw_17 := hw_17.symm; subst hw_17
      refine g_if_eq (tgt := 27) C (by decide) dX7_ownerOf_20 (fun c_20 => ?_) (fun c_20 => ?_)
      · refine g_iconst (v := 2) C (by decide) dX7_ownerOf_27 ?_
        exact k_28 _ (by rw [cw_it (cw_bn c_6), cw_ie (cw_b0.mp c_20)])
      · refine g_iconst (v := 0) C (by decide) dX7_ownerOf_23 ?_
        refine g_goto (tgt := 28) C (by decide) dX7_ownerOf_24 ?_
        exact k_28 _ (by rw [cw_it (cw_bn c_6), cw_it (cw_bn c_20)])
    · refine g_iconst (v := 1) C (by decide) dX7_ownerOf_9 ?_
      refine g_goto (tgt := 28) C (by decide) dX7_ownerOf_10 ?_
      exact k_28 _ (by rw [cw_ie (cw_b0.mp c_6)])
  refine g_call C (ok_X7_holds _) my_X7_holds vi_X7_174 (by decide) ⟨Nat.le_refl _, Nat.le_refl _⟩ rfl rfl rfl (Nat.le_of_ble_eq_true rfl) dX7_ownerOf_28 rfl (trivial) (fun v_28 w_28 hp_28 => ?_)
  obtain ⟨rfl, hw_28⟩ := hp_28
  have es2 : cw_eq (w_28 1) A.1 := by rw [hw_28, gw_set_ne _ _ _ _ (by decide)]; exact es
  have hI2 : cw_I n m (w_28 1) := cw_I_cg hI es2
  have hr2 : cw_RM A w_28 := by rw [hw_28]; exact cw_RM_thr h
  refine g_if_eq (tgt := 43) C (by decide) dX7_ownerOf_31 (fun c_31 => ?_) (fun c_31 => ?_)
  · refine g_iconst (v := 0) C (by decide) dX7_ownerOf_43 ?_
    refine g_iret C F dX7_ownerOf_44 ?_
    exact cw_fin1 h hw_28 (cw_b0.mp c_31)
  · have hE := cw_bn c_31
    have hE1 := cw_if1.mp hE
    obtain ⟨j, rfl, hj⟩ := cw_isO_ix hI.m hE1.1
    have ej : cw_x (nI j) = j := cw_xn (by omega)
    have ht2 : w_28 0 0 = 0 := by rw [hw_28, gw_set_self, cw_ups]; exact hE
    refine g_aload_n C rfl dX7_ownerOf_34 ?_
    refine g_iload_n C rfl dX7_ownerOf_35 ?_
    refine g_iload_n C rfl dX7_ownerOf_36 ?_
    refine g_call C (ok_X7_ofOwner _ _ j rfl (by omega) hE1.2.1 hE1.2.2) my_X7_ofOwner vi_X7_227 (by decide) ⟨Nat.le_refl _, Nat.le_refl _⟩ rfl rfl rfl (Nat.le_of_ble_eq_true rfl) dX7_ownerOf_37 rfl (rfl) (fun v_37 w_37 hp_37 => ?_)
    obtain ⟨rfl, hw_37⟩ := hp_37
    have hw_37 := hw_37.symm; subst hw_37
    refine g_goto (tgt := 44) C (by decide) dX7_ownerOf_40 ?_
    refine g_iret C F dX7_ownerOf_44 ?_
    exact cw_fin0 hE (by show _ = cw_ofO A.1 (cw_x (nI j)) k; rw [ej]; exact cw_ofO_cg es2 (by omega) k) ht2 hr2

set_option maxHeartbeats 8000000 in
set_option maxRecDepth 100000 in
theorem ok_X7_weekOf (k0 k : Int32) (A : cw_A) {n m : Nat} (hI : cw_I n m A.1) (hB : cw_B n (m + 20)) : gw_Ok yX7_weekOf cX7_weekOf 3 (some .int) sM 3 [.ref 0, .int k0, .int k] (fun w => cw_RM A w) (fun _ vr w1 => cw_FP (sp_weekOf A k0 k) vr w1) := by
  refine gw_of (by decide) (Nat.le_of_ble_eq_true rfl) ?_
  intro X w h C F
  have es := cw_es h
  have h6 := hI.m.2
  have hIw : cw_I n m (w 1) := cw_I_cg hI es
  refine g_aload_n C rfl dX7_weekOf_0 ?_
  refine g_iload_n C rfl dX7_weekOf_1 ?_
  refine g_callS C (ok_X7_isWeek _) my_X7_isWeek si_X7_48 (by decide) ⟨Nat.le_refl _, Nat.le_refl _⟩ rfl (Nat.le_of_ble_eq_true rfl) dX7_weekOf_2 rfl (trivial) (fun v_2 w_2 hp_2 => ?_)
  obtain ⟨rfl, hw_2⟩ := hp_2
  have hw_2 := hw_2.symm; subst hw_2
  refine g_join1 26 (cw_if (cw_isW k0) (cw_if (0 ≤ k ∧ k ≤ 4) 0 2) 1) (fun k_26 => ?_) ?_
  · refine g_if_ne (tgt := 12) C (by decide) dX7_weekOf_5 (fun c_5 => ?_) (fun c_5 => ?_)
    · refine g_iload_n C rfl dX7_weekOf_12 ?_
      refine g_iconst (v := 0) C (by decide) dX7_weekOf_13 ?_
      refine g_iconst (v := 4) C (by decide) dX7_weekOf_14 ?_
      refine g_callS C (ok_X7_in _ _ _) my_X7_in si_X7_40 (by decide) ⟨Nat.le_refl _, Nat.le_refl _⟩ rfl (Nat.le_of_ble_eq_true rfl) dX7_weekOf_15 rfl (trivial) (fun v_15 w_15 hp_15 => ?_)
      obtain ⟨rfl, hw_15⟩ := hp_15
      have hw_15 := hw_15.symm; subst hw_15
      refine g_if_eq (tgt := 25) C (by decide) dX7_weekOf_18 (fun c_18 => ?_) (fun c_18 => ?_)
      · refine g_iconst (v := 2) C (by decide) dX7_weekOf_25 ?_
        exact k_26 _ (by rw [cw_it (cw_bn c_5), cw_ie (cw_b0.mp c_18)])
      · refine g_iconst (v := 0) C (by decide) dX7_weekOf_21 ?_
        refine g_goto (tgt := 26) C (by decide) dX7_weekOf_22 ?_
        exact k_26 _ (by rw [cw_it (cw_bn c_5), cw_it (cw_bn c_18)])
    · refine g_iconst (v := 1) C (by decide) dX7_weekOf_8 ?_
      refine g_goto (tgt := 26) C (by decide) dX7_weekOf_9 ?_
      exact k_26 _ (by rw [cw_ie (cw_b0.mp c_5)])
  refine g_call C (ok_X7_holds _) my_X7_holds vi_X7_174 (by decide) ⟨Nat.le_refl _, Nat.le_refl _⟩ rfl rfl rfl (Nat.le_of_ble_eq_true rfl) dX7_weekOf_26 rfl (trivial) (fun v_26 w_26 hp_26 => ?_)
  obtain ⟨rfl, hw_26⟩ := hp_26
  have es2 : cw_eq (w_26 1) A.1 := by rw [hw_26, gw_set_ne _ _ _ _ (by decide)]; exact es
  have hI2 : cw_I n m (w_26 1) := cw_I_cg hI es2
  have hr2 : cw_RM A w_26 := by rw [hw_26]; exact cw_RM_thr h
  refine g_if_ne (tgt := 34) C (by decide) dX7_weekOf_29 (fun c_29 => ?_) (fun c_29 => ?_)
  · have hE := cw_bn c_29
    have hE1 := cw_if1.mp hE
    obtain ⟨i, rfl, hi⟩ := cw_isW_ix hE1.1
    have ei : cw_x (nI i) = i := cw_xn (by omega)
    have hk5 : k = 0 ∨ k = 1 ∨ k = 2 ∨ k = 3 ∨ k = 4 := by
      have q1 := cw_le.mp hE1.2.1
      have q2 := cw_le.mp hE1.2.2
      have z0 : (0 : Int32).toInt = 0 := rfl
      have z4 : (4 : Int32).toInt = 4 := rfl
      have e : k.toInt = 0 ∨ k.toInt = 1 ∨ k.toInt = 2 ∨ k.toInt = 3 ∨ k.toInt = 4 := by omega
      rcases e with e | e | e | e | e
      · exact Or.inl (gw_toInt (v := 0) e)
      · exact Or.inr (Or.inl (gw_toInt (v := 1) e))
      · exact Or.inr (Or.inr (Or.inl (gw_toInt (v := 2) e)))
      · exact Or.inr (Or.inr (Or.inr (Or.inl (gw_toInt (v := 3) e))))
      · exact Or.inr (Or.inr (Or.inr (Or.inr (gw_toInt (v := 4) e))))
    have ht2 : w_26 0 0 = 0 := by rw [hw_26, gw_set_self, cw_ups]; exact hE
    rcases hk5 with rfl | rfl | rfl | rfl | rfl
    · refine g_iload_n C rfl dX7_weekOf_34 ?_
      refine g_iconst (v := 3) C (by decide) dX7_weekOf_35 ?_
      refine g_cmp_ge (tgt := 52) C (by decide) dX7_weekOf_36 (fun c_36 => absurd c_36 (by decide)) (fun c_36 => ?_)
      refine g_aload_n C rfl dX7_weekOf_39 ?_
      refine g_getr C fl_X7_7 rfl rfl dX7_weekOf_40 ?_
      refine g_iload_n C rfl dX7_weekOf_43 ?_
      refine g_iload_n C rfl dX7_weekOf_44 ?_
      refine g_callS C (ok_X7_ofWeek (i := 0) _ _ i rfl rfl) my_X7_ofWeek si_X7_36 (by decide) ⟨Nat.le_refl _, Nat.le_refl _⟩ rfl (Nat.le_of_ble_eq_true rfl) dX7_weekOf_45 rfl (trivial) (fun v_45 w_45 hp_45 => ?_)
      obtain ⟨rfl, hw_45⟩ := hp_45
      have hw_45 := hw_45.symm; subst hw_45
      refine g_iald (j := 25 + 3 * i + 0) C rfl (rfl) (by omega) (by decide) dX7_weekOf_48 ?_
      refine g_goto (tgt := 70) C (by decide) dX7_weekOf_49 ?_
      refine g_iret C F dX7_weekOf_70 ?_
      exact cw_fin0 hE (by show _ = cw_ofW A.1 (cw_x (nI i)) 0; rw [ei]; exact cw_ofW_cg es2 h6 hi 0) ht2 hr2
    · refine g_iload_n C rfl dX7_weekOf_34 ?_
      refine g_iconst (v := 3) C (by decide) dX7_weekOf_35 ?_
      refine g_cmp_ge (tgt := 52) C (by decide) dX7_weekOf_36 (fun c_36 => absurd c_36 (by decide)) (fun c_36 => ?_)
      refine g_aload_n C rfl dX7_weekOf_39 ?_
      refine g_getr C fl_X7_7 rfl rfl dX7_weekOf_40 ?_
      refine g_iload_n C rfl dX7_weekOf_43 ?_
      refine g_iload_n C rfl dX7_weekOf_44 ?_
      refine g_callS C (ok_X7_ofWeek (i := 1) _ _ i rfl rfl) my_X7_ofWeek si_X7_36 (by decide) ⟨Nat.le_refl _, Nat.le_refl _⟩ rfl (Nat.le_of_ble_eq_true rfl) dX7_weekOf_45 rfl (trivial) (fun v_45 w_45 hp_45 => ?_)
      obtain ⟨rfl, hw_45⟩ := hp_45
      have hw_45 := hw_45.symm; subst hw_45
      refine g_iald (j := 25 + 3 * i + 1) C rfl (rfl) (by omega) (by decide) dX7_weekOf_48 ?_
      refine g_goto (tgt := 70) C (by decide) dX7_weekOf_49 ?_
      refine g_iret C F dX7_weekOf_70 ?_
      exact cw_fin0 hE (by show _ = cw_ofW A.1 (cw_x (nI i)) 1; rw [ei]; exact cw_ofW_cg es2 h6 hi 1) ht2 hr2
    · refine g_iload_n C rfl dX7_weekOf_34 ?_
      refine g_iconst (v := 3) C (by decide) dX7_weekOf_35 ?_
      refine g_cmp_ge (tgt := 52) C (by decide) dX7_weekOf_36 (fun c_36 => absurd c_36 (by decide)) (fun c_36 => ?_)
      refine g_aload_n C rfl dX7_weekOf_39 ?_
      refine g_getr C fl_X7_7 rfl rfl dX7_weekOf_40 ?_
      refine g_iload_n C rfl dX7_weekOf_43 ?_
      refine g_iload_n C rfl dX7_weekOf_44 ?_
      refine g_callS C (ok_X7_ofWeek (i := 2) _ _ i rfl rfl) my_X7_ofWeek si_X7_36 (by decide) ⟨Nat.le_refl _, Nat.le_refl _⟩ rfl (Nat.le_of_ble_eq_true rfl) dX7_weekOf_45 rfl (trivial) (fun v_45 w_45 hp_45 => ?_)
      obtain ⟨rfl, hw_45⟩ := hp_45
      have hw_45 := hw_45.symm; subst hw_45
      refine g_iald (j := 25 + 3 * i + 2) C rfl (rfl) (by omega) (by decide) dX7_weekOf_48 ?_
      refine g_goto (tgt := 70) C (by decide) dX7_weekOf_49 ?_
      refine g_iret C F dX7_weekOf_70 ?_
      exact cw_fin0 hE (by show _ = cw_ofW A.1 (cw_x (nI i)) 2; rw [ei]; exact cw_ofW_cg es2 h6 hi 2) ht2 hr2
    · refine g_iload_n C rfl dX7_weekOf_34 ?_
      refine g_iconst (v := 3) C (by decide) dX7_weekOf_35 ?_
      refine g_cmp_ge (tgt := 52) C (by decide) dX7_weekOf_36 (fun c_36 => ?_) (fun c_36 => absurd (by decide) c_36)
      refine g_iload_n C rfl dX7_weekOf_52 ?_
      refine g_iconst (v := 3) C (by decide) dX7_weekOf_53 ?_
      refine g_cmp_ne (tgt := 65) C (by decide) dX7_weekOf_54 (fun c_54 => absurd (rfl) c_54) (fun c_54 => ?_)
      refine g_aload_n C rfl dX7_weekOf_57 ?_
      refine g_iload_n C rfl dX7_weekOf_58 ?_
      refine g_call C (ok_X7_bidsFor _ i rfl hi hI2.m) my_X7_bidsFor vi_X7_75 (by decide) ⟨Nat.le_refl _, Nat.le_refl _⟩ rfl rfl rfl (Nat.le_of_ble_eq_true rfl) dX7_weekOf_59 rfl (rfl) (fun v_59 w_59 hp_59 => ?_)
      obtain ⟨rfl, hw_59⟩ := hp_59
      have hw_59 := hw_59.symm; subst hw_59
      refine g_goto (tgt := 70) C (by decide) dX7_weekOf_62 ?_
      refine g_iret C F dX7_weekOf_70 ?_
      exact cw_fin0 hE (by show _ = cw_ofW A.1 (cw_x (nI i)) 3; rw [ei]; exact cw_ofW_cg es2 h6 hi 3) ht2 hr2
    · refine g_iload_n C rfl dX7_weekOf_34 ?_
      refine g_iconst (v := 3) C (by decide) dX7_weekOf_35 ?_
      refine g_cmp_ge (tgt := 52) C (by decide) dX7_weekOf_36 (fun c_36 => ?_) (fun c_36 => absurd (by decide) c_36)
      refine g_iload_n C rfl dX7_weekOf_52 ?_
      refine g_iconst (v := 3) C (by decide) dX7_weekOf_53 ?_
      refine g_cmp_ne (tgt := 65) C (by decide) dX7_weekOf_54 (fun c_54 => ?_) (fun c_54 => absurd c_54 (by decide))
      refine g_aload_n C rfl dX7_weekOf_65 ?_
      refine g_iload_n C rfl dX7_weekOf_66 ?_
      refine g_call C (ok_X7_greatestFor _ i rfl hi hI2.m) my_X7_greatestFor vi_X7_230 (by decide) ⟨Nat.le_refl _, Nat.le_refl _⟩ rfl rfl rfl (Nat.le_of_ble_eq_true rfl) dX7_weekOf_67 rfl (rfl) (fun v_67 w_67 hp_67 => ?_)
      obtain ⟨rfl, hw_67⟩ := hp_67
      have hw_67 := hw_67.symm; subst hw_67
      refine g_iret C F dX7_weekOf_70 ?_
      exact cw_fin0 hE (by show _ = cw_ofW A.1 (cw_x (nI i)) 4; rw [ei]; exact cw_ofW_cg es2 h6 hi 4) ht2 hr2
  · refine g_iconst (v := 0) C (by decide) dX7_weekOf_32 ?_
    refine g_iret C F dX7_weekOf_33 ?_
    exact cw_fin1 h hw_26 (cw_b0.mp c_29)

set_option maxHeartbeats 8000000 in
set_option maxRecDepth 100000 in
theorem ok_X7_bidOf (o k : Int32) (A : cw_A) {n m : Nat} (hI : cw_I n m A.1) (hB : cw_B n (m + 20)) : gw_Ok yX7_bidOf cX7_bidOf 3 (some .int) sM 4 [.ref 0, .int o, .int k] (fun w => cw_RM A w) (fun _ vr w1 => cw_FP (sp_bidOf A o k) vr w1) := by
  refine gw_of (by decide) (Nat.le_of_ble_eq_true rfl) ?_
  intro X w h C F
  have es := cw_es h
  have h6 := hI.m.2
  have hIw : cw_I n m (w 1) := cw_I_cg hI es
  refine g_aload_n C rfl dX7_bidOf_0 ?_
  refine g_aload_n C rfl dX7_bidOf_1 ?_
  refine g_iload_n C rfl dX7_bidOf_2 ?_
  refine g_iload_n C rfl dX7_bidOf_3 ?_
  refine g_call C (ok_X7_areThere _ _) my_X7_areThere vi_X7_107 (by decide) ⟨Nat.le_refl _, Nat.le_refl _⟩ rfl rfl rfl (Nat.le_of_ble_eq_true rfl) dX7_bidOf_4 rfl (rfl) (fun v_4 w_4 hp_4 => ?_)
  obtain ⟨rfl, hw_4⟩ := hp_4
  have hw_4 := hw_4.symm; subst hw_4
  refine g_top (show _ = cw_b (cw_th A.1 o k) by rw [cw_th_cg es]) ?_
  refine g_join1 15 (cw_if (cw_th A.1 o k) 0 1) (fun k_15 => ?_) ?_
  · refine g_if_eq (tgt := 14) C (by decide) dX7_bidOf_7 (fun c_7 => ?_) (fun c_7 => ?_)
    · refine g_iconst (v := 1) C (by decide) dX7_bidOf_14 ?_
      exact k_15 _ (by rw [cw_ie (cw_b0.mp c_7)])
    · refine g_iconst (v := 0) C (by decide) dX7_bidOf_10 ?_
      refine g_goto (tgt := 15) C (by decide) dX7_bidOf_11 ?_
      exact k_15 _ (by rw [cw_it (cw_bn c_7)])
  refine g_call C (ok_X7_holds _) my_X7_holds vi_X7_174 (by decide) ⟨Nat.le_refl _, Nat.le_refl _⟩ rfl rfl rfl (Nat.le_of_ble_eq_true rfl) dX7_bidOf_15 rfl (trivial) (fun v_15 w_15 hp_15 => ?_)
  obtain ⟨rfl, hw_15⟩ := hp_15
  have es2 : cw_eq (w_15 1) A.1 := by rw [hw_15, gw_set_ne _ _ _ _ (by decide)]; exact es
  have hI2 : cw_I n m (w_15 1) := cw_I_cg hI es2
  have hr2 : cw_RM A w_15 := by rw [hw_15]; exact cw_RM_thr h
  refine g_if_eq (tgt := 34) C (by decide) dX7_bidOf_18 (fun c_18 => ?_) (fun c_18 => ?_)
  · refine g_iconst (v := 0) C (by decide) dX7_bidOf_34 ?_
    refine g_iret C F dX7_bidOf_35 ?_
    exact cw_fin1 h hw_15 (cw_b0.mp c_18)
  · have hE := cw_bn c_18
    have hE1 := cw_ifb (by decide) hE
    obtain ⟨j, rfl, hj⟩ := cw_isO_ix hI.m hE1.1
    obtain ⟨k, rfl, hk⟩ := cw_isW_ix hE1.2
    have ej : cw_x (nI j) = j := cw_xn (by omega)
    have ek : cw_x (nI k) = k := cw_xn (by omega)
    have hj6 : j < 6 := by omega
    have ht2 : w_15 0 0 = 0 := by rw [hw_15, gw_set_self, cw_ups]; exact hE
    refine g_aload_n C rfl dX7_bidOf_21 ?_
    refine g_getr C fl_X7_7 rfl rfl dX7_bidOf_22 ?_
    refine g_iload_n C rfl dX7_bidOf_25 ?_
    refine g_iload_n C rfl dX7_bidOf_26 ?_
    refine g_callS C (ok_X7_ofBid _ _ j k rfl rfl) my_X7_ofBid si_X7_72 (by decide) ⟨Nat.le_refl _, Nat.le_refl _⟩ rfl (Nat.le_of_ble_eq_true rfl) dX7_bidOf_27 rfl (trivial) (fun v_27 w_27 hp_27 => ?_)
    obtain ⟨rfl, hw_27⟩ := hp_27
    have hw_27 := hw_27.symm; subst hw_27
    refine g_iald (j := 85 + 20 * j + k) C rfl (rfl) (by omega) (by decide) dX7_bidOf_30 ?_
    refine g_goto (tgt := 35) C (by decide) dX7_bidOf_31 ?_
    refine g_iret C F dX7_bidOf_35 ?_
    exact cw_fin0 hE (by show _ = A.1 (85 + 20 * cw_x (nI j) + cw_x (nI k)); rw [ej, ek]; exact cw_rd es2 (by omega) (by omega)) ht2 hr2

set_option maxHeartbeats 8000000 in
set_option maxRecDepth 100000 in
theorem ok_X7_offerOf (k0 k : Int32) (A : cw_A) {n m : Nat} (hI : cw_I n m A.1) (hB : cw_B n (m + 20)) : gw_Ok yX7_offerOf cX7_offerOf 3 (some .int) sM 3 [.ref 0, .int k0, .int k] (fun w => cw_RM A w) (fun _ vr w1 => cw_FP (sp_offerOf A k0 k) vr w1) := by
  refine gw_of (by decide) (Nat.le_of_ble_eq_true rfl) ?_
  intro X w h C F
  have es := cw_es h
  have h6 := hI.m.2
  have hIw : cw_I n m (w 1) := cw_I_cg hI es
  refine g_aload_n C rfl dX7_offerOf_0 ?_
  refine g_aload_n C rfl dX7_offerOf_1 ?_
  refine g_iload_n C rfl dX7_offerOf_2 ?_
  refine g_call C (ok_X7_isOffer _) my_X7_isOffer vi_X7_156 (by decide) ⟨Nat.le_refl _, Nat.le_refl _⟩ rfl rfl rfl (Nat.le_of_ble_eq_true rfl) dX7_offerOf_3 rfl (rfl) (fun v_3 w_3 hp_3 => ?_)
  obtain ⟨rfl, hw_3⟩ := hp_3
  have hw_3 := hw_3.symm; subst hw_3
  refine g_top (show _ = cw_b (cw_isK A.1 k0) by rw [cw_isK_cg es]) ?_
  refine g_join1 27 (cw_if (cw_isK A.1 k0) (cw_if (0 ≤ k ∧ k ≤ 3) 0 2) 1) (fun k_27 => ?_) ?_
  · refine g_if_ne (tgt := 13) C (by decide) dX7_offerOf_6 (fun c_6 => ?_) (fun c_6 => ?_)
    · refine g_iload_n C rfl dX7_offerOf_13 ?_
      refine g_iconst (v := 0) C (by decide) dX7_offerOf_14 ?_
      refine g_iconst (v := 3) C (by decide) dX7_offerOf_15 ?_
      refine g_callS C (ok_X7_in _ _ _) my_X7_in si_X7_40 (by decide) ⟨Nat.le_refl _, Nat.le_refl _⟩ rfl (Nat.le_of_ble_eq_true rfl) dX7_offerOf_16 rfl (trivial) (fun v_16 w_16 hp_16 => ?_)
      obtain ⟨rfl, hw_16⟩ := hp_16
      have hw_16 := hw_16.symm; subst hw_16
      refine g_if_eq (tgt := 26) C (by decide) dX7_offerOf_19 (fun c_19 => ?_) (fun c_19 => ?_)
      · refine g_iconst (v := 2) C (by decide) dX7_offerOf_26 ?_
        exact k_27 _ (by rw [cw_it (cw_bn c_6), cw_ie (cw_b0.mp c_19)])
      · refine g_iconst (v := 0) C (by decide) dX7_offerOf_22 ?_
        refine g_goto (tgt := 27) C (by decide) dX7_offerOf_23 ?_
        exact k_27 _ (by rw [cw_it (cw_bn c_6), cw_it (cw_bn c_19)])
    · refine g_iconst (v := 1) C (by decide) dX7_offerOf_9 ?_
      refine g_goto (tgt := 27) C (by decide) dX7_offerOf_10 ?_
      exact k_27 _ (by rw [cw_ie (cw_b0.mp c_6)])
  refine g_call C (ok_X7_holds _) my_X7_holds vi_X7_174 (by decide) ⟨Nat.le_refl _, Nat.le_refl _⟩ rfl rfl rfl (Nat.le_of_ble_eq_true rfl) dX7_offerOf_27 rfl (trivial) (fun v_27 w_27 hp_27 => ?_)
  obtain ⟨rfl, hw_27⟩ := hp_27
  have es2 : cw_eq (w_27 1) A.1 := by rw [hw_27, gw_set_ne _ _ _ _ (by decide)]; exact es
  have hI2 : cw_I n m (w_27 1) := cw_I_cg hI es2
  have hr2 : cw_RM A w_27 := by rw [hw_27]; exact cw_RM_thr h
  refine g_if_ne (tgt := 35) C (by decide) dX7_offerOf_30 (fun c_30 => ?_) (fun c_30 => ?_)
  · have hE := cw_bn c_30
    have hE1 := cw_if1.mp hE
    obtain ⟨i, rfl, hi⟩ := cw_isK_ix hI hE1.1
    have hx8 := (cw_x_lt hI).1
    have ei : cw_x (nI i) = i := cw_xn (by omega)
    have hi2 : i < cw_x (w_27 1 205) := by rw [cw_rd es2 (by omega) (by omega)]; exact hi
    have hk4 : k = 0 ∨ k = 1 ∨ k = 2 ∨ k = 3 := by
      have q1 := cw_le.mp hE1.2.1
      have q2 := cw_le.mp hE1.2.2
      have z0 : (0 : Int32).toInt = 0 := rfl
      have z3 : (3 : Int32).toInt = 3 := rfl
      have e : k.toInt = 0 ∨ k.toInt = 1 ∨ k.toInt = 2 ∨ k.toInt = 3 := by omega
      rcases e with e | e | e | e
      · exact Or.inl (gw_toInt (v := 0) e)
      · exact Or.inr (Or.inl (gw_toInt (v := 1) e))
      · exact Or.inr (Or.inr (Or.inl (gw_toInt (v := 2) e)))
      · exact Or.inr (Or.inr (Or.inr (gw_toInt (v := 3) e)))
    have ht2 : w_27 0 0 = 0 := by rw [hw_27, gw_set_self, cw_ups]; exact hE
    rcases hk4 with rfl | rfl | rfl | rfl
    · refine g_iload_n C rfl dX7_offerOf_35 ?_
      refine g_iconst (v := 3) C (by decide) dX7_offerOf_36 ?_
      refine g_cmp_ge (tgt := 53) C (by decide) dX7_offerOf_37 (fun c_37 => absurd c_37 (by decide)) (fun c_37 => ?_)
      refine g_aload_n C rfl dX7_offerOf_40 ?_
      refine g_getr C fl_X7_7 rfl rfl dX7_offerOf_41 ?_
      refine g_iload_n C rfl dX7_offerOf_44 ?_
      refine g_iload_n C rfl dX7_offerOf_45 ?_
      refine g_callS C (ok_X7_ofOffer (i := 0) _ _ i rfl rfl) my_X7_ofOffer si_X7_91 (by decide) ⟨Nat.le_refl _, Nat.le_refl _⟩ rfl (Nat.le_of_ble_eq_true rfl) dX7_offerOf_46 rfl (trivial) (fun v_46 w_46 hp_46 => ?_)
      obtain ⟨rfl, hw_46⟩ := hp_46
      have hw_46 := hw_46.symm; subst hw_46
      refine g_iald (j := 206 + 3 * i + 0) C rfl (rfl) (by omega) (by decide) dX7_offerOf_49 ?_
      refine g_goto (tgt := 66) C (by decide) dX7_offerOf_50 ?_
      refine g_iret C F dX7_offerOf_66 ?_
      exact cw_fin0 hE (by show _ = cw_ofK A.1 (cw_x (nI i)) 0; rw [ei, ← cw_ofK_cg hI es2 hi 0]; rfl) ht2 hr2
    · refine g_iload_n C rfl dX7_offerOf_35 ?_
      refine g_iconst (v := 3) C (by decide) dX7_offerOf_36 ?_
      refine g_cmp_ge (tgt := 53) C (by decide) dX7_offerOf_37 (fun c_37 => absurd c_37 (by decide)) (fun c_37 => ?_)
      refine g_aload_n C rfl dX7_offerOf_40 ?_
      refine g_getr C fl_X7_7 rfl rfl dX7_offerOf_41 ?_
      refine g_iload_n C rfl dX7_offerOf_44 ?_
      refine g_iload_n C rfl dX7_offerOf_45 ?_
      refine g_callS C (ok_X7_ofOffer (i := 1) _ _ i rfl rfl) my_X7_ofOffer si_X7_91 (by decide) ⟨Nat.le_refl _, Nat.le_refl _⟩ rfl (Nat.le_of_ble_eq_true rfl) dX7_offerOf_46 rfl (trivial) (fun v_46 w_46 hp_46 => ?_)
      obtain ⟨rfl, hw_46⟩ := hp_46
      have hw_46 := hw_46.symm; subst hw_46
      refine g_iald (j := 206 + 3 * i + 1) C rfl (rfl) (by omega) (by decide) dX7_offerOf_49 ?_
      refine g_goto (tgt := 66) C (by decide) dX7_offerOf_50 ?_
      refine g_iret C F dX7_offerOf_66 ?_
      exact cw_fin0 hE (by show _ = cw_ofK A.1 (cw_x (nI i)) 1; rw [ei, ← cw_ofK_cg hI es2 hi 1]; rfl) ht2 hr2
    · refine g_iload_n C rfl dX7_offerOf_35 ?_
      refine g_iconst (v := 3) C (by decide) dX7_offerOf_36 ?_
      refine g_cmp_ge (tgt := 53) C (by decide) dX7_offerOf_37 (fun c_37 => absurd c_37 (by decide)) (fun c_37 => ?_)
      refine g_aload_n C rfl dX7_offerOf_40 ?_
      refine g_getr C fl_X7_7 rfl rfl dX7_offerOf_41 ?_
      refine g_iload_n C rfl dX7_offerOf_44 ?_
      refine g_iload_n C rfl dX7_offerOf_45 ?_
      refine g_callS C (ok_X7_ofOffer (i := 2) _ _ i rfl rfl) my_X7_ofOffer si_X7_91 (by decide) ⟨Nat.le_refl _, Nat.le_refl _⟩ rfl (Nat.le_of_ble_eq_true rfl) dX7_offerOf_46 rfl (trivial) (fun v_46 w_46 hp_46 => ?_)
      obtain ⟨rfl, hw_46⟩ := hp_46
      have hw_46 := hw_46.symm; subst hw_46
      refine g_iald (j := 206 + 3 * i + 2) C rfl (rfl) (by omega) (by decide) dX7_offerOf_49 ?_
      refine g_goto (tgt := 66) C (by decide) dX7_offerOf_50 ?_
      refine g_iret C F dX7_offerOf_66 ?_
      exact cw_fin0 hE (by show _ = cw_ofK A.1 (cw_x (nI i)) 2; rw [ei, ← cw_ofK_cg hI es2 hi 2]; rfl) ht2 hr2
    · refine g_iload_n C rfl dX7_offerOf_35 ?_
      refine g_iconst (v := 3) C (by decide) dX7_offerOf_36 ?_
      refine g_cmp_ge (tgt := 53) C (by decide) dX7_offerOf_37 (fun c_37 => ?_) (fun c_37 => absurd (by decide) c_37)
      refine g_aload_n C rfl dX7_offerOf_53 ?_
      refine g_iload_n C rfl dX7_offerOf_54 ?_
      refine g_call C (ok_X7_isVoid _ i rfl hi2 hI2) my_X7_isVoid vi_X7_94 (by decide) ⟨Nat.le_refl _, Nat.le_refl _⟩ rfl rfl rfl (Nat.le_of_ble_eq_true rfl) dX7_offerOf_55 rfl (rfl) (fun v_55 w_55 hp_55 => ?_)
      obtain ⟨rfl, hw_55⟩ := hp_55
      have hw_55 := hw_55.symm; subst hw_55
      refine g_if_eq (tgt := 65) C (by decide) dX7_offerOf_58 (fun c_58 => ?_) (fun c_58 => ?_)
      · refine g_iconst (v := 0) C (by decide) dX7_offerOf_65 ?_
        refine g_iret C F dX7_offerOf_66 ?_
        exact cw_fin0 hE (by show _ = cw_ofK A.1 (cw_x (nI i)) 3; rw [ei, ← cw_ofK_cg hI es2 hi 3]; exact (cw_bf (cw_b0.mp c_58)).symm) ht2 hr2
      · refine g_iconst (v := 1) C (by decide) dX7_offerOf_61 ?_
        refine g_goto (tgt := 66) C (by decide) dX7_offerOf_62 ?_
        refine g_iret C F dX7_offerOf_66 ?_
        exact cw_fin0 hE (by show _ = cw_ofK A.1 (cw_x (nI i)) 3; rw [ei, ← cw_ofK_cg hI es2 hi 3]; exact (cw_b1 (cw_bn c_58)).symm) ht2 hr2
  · refine g_iconst (v := 0) C (by decide) dX7_offerOf_33 ?_
    refine g_iret C F dX7_offerOf_34 ?_
    exact cw_fin1 h hw_27 (cw_b0.mp c_30)

set_option maxHeartbeats 8000000 in
set_option maxRecDepth 100000 in
theorem ok_X7_why (o k : Int32) (A : cw_A) {n m : Nat} (hI : cw_I n m A.1) (hB : cw_B n (m + 20)) : gw_Ok yX7_why cX7_why 3 (some .int) sM 4 [.ref 0, .int o, .int k] (fun w => cw_RM A w) (fun _ vr w1 => cw_FP (sp_why A o k) vr w1) := by
  refine gw_of (by decide) (Nat.le_of_ble_eq_true rfl) ?_
  intro X w h C F
  have es := cw_es h
  have h6 := hI.m.2
  have hIw : cw_I n m (w 1) := cw_I_cg hI es
  refine g_aload_n C rfl dX7_why_0 ?_
  refine g_aload_n C rfl dX7_why_1 ?_
  refine g_iload_n C rfl dX7_why_2 ?_
  refine g_iload_n C rfl dX7_why_3 ?_
  refine g_call C (ok_X7_areThere _ _) my_X7_areThere vi_X7_107 (by decide) ⟨Nat.le_refl _, Nat.le_refl _⟩ rfl rfl rfl (Nat.le_of_ble_eq_true rfl) dX7_why_4 rfl (rfl) (fun v_4 w_4 hp_4 => ?_)
  obtain ⟨rfl, hw_4⟩ := hp_4
  have hw_4 := hw_4.symm; subst hw_4
  refine g_top (show _ = cw_b (cw_th A.1 o k) by rw [cw_th_cg es]) ?_
  refine g_join1 15 (cw_if (cw_th A.1 o k) 0 1) (fun k_15 => ?_) ?_
  · refine g_if_eq (tgt := 14) C (by decide) dX7_why_7 (fun c_7 => ?_) (fun c_7 => ?_)
    · refine g_iconst (v := 1) C (by decide) dX7_why_14 ?_
      exact k_15 _ (by rw [cw_ie (cw_b0.mp c_7)])
    · refine g_iconst (v := 0) C (by decide) dX7_why_10 ?_
      refine g_goto (tgt := 15) C (by decide) dX7_why_11 ?_
      exact k_15 _ (by rw [cw_it (cw_bn c_7)])
  refine g_call C (ok_X7_holds _) my_X7_holds vi_X7_174 (by decide) ⟨Nat.le_refl _, Nat.le_refl _⟩ rfl rfl rfl (Nat.le_of_ble_eq_true rfl) dX7_why_15 rfl (trivial) (fun v_15 w_15 hp_15 => ?_)
  obtain ⟨rfl, hw_15⟩ := hp_15
  have es2 : cw_eq (w_15 1) A.1 := by rw [hw_15, gw_set_ne _ _ _ _ (by decide)]; exact es
  have hI2 : cw_I n m (w_15 1) := cw_I_cg hI es2
  have hr2 : cw_RM A w_15 := by rw [hw_15]; exact cw_RM_thr h
  refine g_if_eq (tgt := 30) C (by decide) dX7_why_18 (fun c_18 => ?_) (fun c_18 => ?_)
  · refine g_iconst (v := 0) C (by decide) dX7_why_30 ?_
    refine g_iret C F dX7_why_31 ?_
    exact cw_fin1 h hw_15 (cw_b0.mp c_18)
  · have hE := cw_bn c_18
    have hE1 := cw_ifb (by decide) hE
    obtain ⟨j, rfl, hj⟩ := cw_isO_ix hI.m hE1.1
    obtain ⟨k, rfl, hk⟩ := cw_isW_ix hE1.2
    have ej : cw_x (nI j) = j := cw_xn (by omega)
    have ek : cw_x (nI k) = k := cw_xn (by omega)
    have hj6 : j < 6 := by omega
    have ht2 : w_15 0 0 = 0 := by rw [hw_15, gw_set_self, cw_ups]; exact hE
    refine g_aload_n C rfl dX7_why_21 ?_
    refine g_iload_n C rfl dX7_why_22 ?_
    refine g_iload_n C rfl dX7_why_23 ?_
    refine g_call C (ok_X7_hindrance _ _ j k rfl rfl hj6 hk) my_X7_hindrance vi_X7_65 (by decide) ⟨Nat.le_refl _, Nat.le_refl _⟩ rfl rfl rfl (Nat.le_of_ble_eq_true rfl) dX7_why_24 rfl (rfl) (fun v_24 w_24 hp_24 => ?_)
    obtain ⟨rfl, hw_24⟩ := hp_24
    have hw_24 := hw_24.symm; subst hw_24
    refine g_goto (tgt := 31) C (by decide) dX7_why_27 ?_
    refine g_iret C F dX7_why_31 ?_
    exact cw_fin0 hE (by show _ = cw_hind A.1 (cw_x (nI j)) (cw_x (nI k)); rw [ej, ek]; exact cw_hind_cg es2 hj6 hk) ht2 hr2

set_option maxHeartbeats 8000000 in
set_option maxRecDepth 100000 in
theorem ok_X7_ifUpkeep (o k : Int32) (A : cw_A) {n m : Nat} (hI : cw_I n m A.1) (hB : cw_B n (m + 20)) : gw_Ok yX7_ifUpkeep cX7_ifUpkeep 3 (some .int) sM 4 [.ref 0, .int o, .int k] (fun w => cw_RM A w) (fun _ vr w1 => cw_FP (sp_ifUpkeep A o k) vr w1) := by
  refine gw_of (by decide) (Nat.le_of_ble_eq_true rfl) ?_
  intro X w h C F
  have es := cw_es h
  have h6 := hI.m.2
  have hIw : cw_I n m (w 1) := cw_I_cg hI es
  refine g_aload_n C rfl dX7_ifUpkeep_0 ?_
  refine g_aload_n C rfl dX7_ifUpkeep_1 ?_
  refine g_iload_n C rfl dX7_ifUpkeep_2 ?_
  refine g_call C (ok_X7_isOwner _) my_X7_isOwner vi_X7_44 (by decide) ⟨Nat.le_refl _, Nat.le_refl _⟩ rfl rfl rfl (Nat.le_of_ble_eq_true rfl) dX7_ifUpkeep_3 rfl (rfl) (fun v_3 w_3 hp_3 => ?_)
  obtain ⟨rfl, hw_3⟩ := hp_3
  have hw_3 := hw_3.symm; subst hw_3
  refine g_top (show _ = cw_b (cw_isO A.1 o) by rw [cw_isO_cg es]) ?_
  refine g_join1 29 (cw_if (cw_isO A.1 o) (cw_if (1 ≤ k ∧ k ≤ 999) 0 2) 1) (fun k_29 => ?_) ?_
  · refine g_if_ne (tgt := 13) C (by decide) dX7_ifUpkeep_6 (fun c_6 => ?_) (fun c_6 => ?_)
    · refine g_iload_n C rfl dX7_ifUpkeep_13 ?_
      refine g_iconst (v := 1) C (by decide) dX7_ifUpkeep_14 ?_
      refine g_sipush (v := 999) C (by decide) dX7_ifUpkeep_15 ?_
      refine g_callS C (ok_X7_in _ _ _) my_X7_in si_X7_40 (by decide) ⟨Nat.le_refl _, Nat.le_refl _⟩ rfl (Nat.le_of_ble_eq_true rfl) dX7_ifUpkeep_18 rfl (trivial) (fun v_18 w_18 hp_18 => ?_)
      obtain ⟨rfl, hw_18⟩ := hp_18
      have hw_18 := hw_18.symm; subst hw_18
      refine g_if_eq (tgt := 28) C (by decide) dX7_ifUpkeep_21 (fun c_21 => ?_) (fun c_21 => ?_)
      · refine g_iconst (v := 2) C (by decide) dX7_ifUpkeep_28 ?_
        exact k_29 _ (by rw [cw_it (cw_bn c_6), cw_ie (cw_b0.mp c_21)])
      · refine g_iconst (v := 0) C (by decide) dX7_ifUpkeep_24 ?_
        refine g_goto (tgt := 29) C (by decide) dX7_ifUpkeep_25 ?_
        exact k_29 _ (by rw [cw_it (cw_bn c_6), cw_it (cw_bn c_21)])
    · refine g_iconst (v := 1) C (by decide) dX7_ifUpkeep_9 ?_
      refine g_goto (tgt := 29) C (by decide) dX7_ifUpkeep_10 ?_
      exact k_29 _ (by rw [cw_ie (cw_b0.mp c_6)])
  refine g_call C (ok_X7_holds _) my_X7_holds vi_X7_174 (by decide) ⟨Nat.le_refl _, Nat.le_refl _⟩ rfl rfl rfl (Nat.le_of_ble_eq_true rfl) dX7_ifUpkeep_29 rfl (trivial) (fun v_29 w_29 hp_29 => ?_)
  obtain ⟨rfl, hw_29⟩ := hp_29
  have es2 : cw_eq (w_29 1) A.1 := by rw [hw_29, gw_set_ne _ _ _ _ (by decide)]; exact es
  have hI2 : cw_I n m (w_29 1) := cw_I_cg hI es2
  have hr2 : cw_RM A w_29 := by rw [hw_29]; exact cw_RM_thr h
  refine g_if_eq (tgt := 44) C (by decide) dX7_ifUpkeep_32 (fun c_32 => ?_) (fun c_32 => ?_)
  · refine g_iconst (v := 0) C (by decide) dX7_ifUpkeep_44 ?_
    refine g_iret C F dX7_ifUpkeep_45 ?_
    exact cw_fin1 h hw_29 (cw_b0.mp c_32)
  · have hE := cw_bn c_32
    have hE1 := cw_if1.mp hE
    obtain ⟨j, rfl, hj⟩ := cw_isO_ix hI.m hE1.1
    have ej : cw_x (nI j) = j := cw_xn (by omega)
    have ht2 : w_29 0 0 = 0 := by rw [hw_29, gw_set_self, cw_ups]; exact hE
    refine g_aload_n C rfl dX7_ifUpkeep_35 ?_
    refine g_iload_n C rfl dX7_ifUpkeep_36 ?_
    refine g_iload_n C rfl dX7_ifUpkeep_37 ?_
    refine g_call C (ok_X7_partOf _ _ j rfl (by rw [cw_no_cg es2]; exact hj) hI2) my_X7_partOf vi_X7_104 (by decide) ⟨Nat.le_refl _, Nat.le_refl _⟩ rfl rfl rfl (Nat.le_of_ble_eq_true rfl) dX7_ifUpkeep_38 rfl (rfl) (fun v_38 w_38 hp_38 => ?_)
    obtain ⟨rfl, hw_38⟩ := hp_38
    have hw_38 := hw_38.symm; subst hw_38
    refine g_goto (tgt := 45) C (by decide) dX7_ifUpkeep_41 ?_
    refine g_iret C F dX7_ifUpkeep_45 ?_
    exact cw_fin0 hE (by show _ = cw_partOf A.1 (cw_x (nI j)) k; rw [ej]; exact cw_partOf_cg (cw_rd es2 (by omega) (by omega)) h6 (fun q hq => cw_rd es2 (by omega) (by omega)) (by omega) k) ht2 hr2

set_option maxHeartbeats 8000000 in
set_option maxRecDepth 100000 in
theorem ok_X7_owner (a : Int32) (A : cw_A) {n m : Nat} (hI : cw_I n m A.1) (hB : cw_B n (m + 20)) : gw_Ok yX7_owner cX7_owner 2 (some .int) sM 8 [.ref 0, .int a] (fun w => cw_RM A w) (fun _ vr w1 => cw_FP (sp_owner A a) vr w1) := by
  refine gw_of (by decide) (Nat.le_of_ble_eq_true rfl) ?_
  intro X w h C F
  have es := cw_es h
  have h6 := hI.m.2
  have hIw : cw_I n m (w 1) := cw_I_cg hI es
  refine g_aload_n C rfl dX7_owner_0 ?_
  refine g_aload_n C rfl dX7_owner_1 ?_
  refine g_iload_n C rfl dX7_owner_2 ?_
  refine g_call C (ok_X7_errorOfOwner _) my_X7_errorOfOwner vi_X7_116 (by decide) ⟨Nat.le_refl _, Nat.le_refl _⟩ rfl rfl rfl (Nat.le_of_ble_eq_true rfl) dX7_owner_3 rfl (rfl) (fun v_3 w_3 hp_3 => ?_)
  obtain ⟨rfl, hw_3⟩ := hp_3
  have hw_3 := hw_3.symm; subst hw_3
  refine g_top (cw_eOwner_cg es a) ?_
  refine g_call C (ok_X7_holds _) my_X7_holds vi_X7_174 (by decide) ⟨Nat.le_refl _, Nat.le_refl _⟩ rfl rfl rfl (Nat.le_of_ble_eq_true rfl) dX7_owner_6 rfl (trivial) (fun v_6 w_6 hp_6 => ?_)
  obtain ⟨rfl, hw_6⟩ := hp_6
  have es2 : cw_eq (w_6 1) A.1 := by rw [hw_6, gw_set_ne _ _ _ _ (by decide)]; exact es
  have hI2 : cw_I n m (w_6 1) := cw_I_cg hI es2
  have hr2 : cw_RM A w_6 := by rw [hw_6]; exact cw_RM_thr h
  refine g_if_eq (tgt := 24) C (by decide) dX7_owner_9 (fun c_9 => ?_) (fun c_9 => ?_)
  · refine g_iconst (v := 0) C (by decide) dX7_owner_24 ?_
    refine g_iret C F dX7_owner_25 ?_
    exact cw_fin1 h hw_6 (cw_b0.mp c_9)
  · have hE := cw_bn c_9
    have ht2 : w_6 0 0 = 0 := by rw [hw_6, gw_set_self, cw_ups]; exact hE
    refine g_aload_n C rfl dX7_owner_12 ?_
    refine g_bipush (v := 111) C (by decide) dX7_owner_13 ?_
    refine g_iload_n C rfl dX7_owner_15 ?_
    refine g_iconst (v := 0) C (by decide) dX7_owner_16 ?_
    refine g_iconst (v := 0) C (by decide) dX7_owner_17 ?_
    refine g_call C (ok_X7_acts 111 a 0 0 A hI hB (fun q => absurd q (by decide))) my_X7_acts vi_X7_236 (by decide) ⟨Nat.le_refl _, Nat.le_refl _⟩ rfl rfl rfl (Nat.le_of_ble_eq_true rfl) dX7_owner_18 rfl (hr2) (fun v_18 w_18 hp_18 => ?_)
    obtain ⟨rfl, hr18, ht18⟩ := hp_18
    refine g_goto (tgt := 25) C (by decide) dX7_owner_21 ?_
    refine g_iret C F dX7_owner_25 ?_
    exact cw_fin0 hE rfl (by rw [ht18]; exact ht2) hr18

set_option maxHeartbeats 8000000 in
set_option maxRecDepth 100000 in
theorem ok_X7_cost (k a : Int32) (A : cw_A) {n m : Nat} (hI : cw_I n m A.1) (hB : cw_B n (m + 20)) : gw_Ok yX7_cost cX7_cost 3 (some .int) sM 8 [.ref 0, .int k, .int a] (fun w => cw_RM A w) (fun _ vr w1 => cw_FP (sp_cost A k a) vr w1) := by
  refine gw_of (by decide) (Nat.le_of_ble_eq_true rfl) ?_
  intro X w h C F
  have es := cw_es h
  have h6 := hI.m.2
  have hIw : cw_I n m (w 1) := cw_I_cg hI es
  refine g_aload_n C rfl dX7_cost_0 ?_
  refine g_aload_n C rfl dX7_cost_1 ?_
  refine g_iload_n C rfl dX7_cost_2 ?_
  refine g_iload_n C rfl dX7_cost_3 ?_
  refine g_call C (ok_X7_errorOfCost _ _) my_X7_errorOfCost vi_X7_125 (by decide) ⟨Nat.le_refl _, Nat.le_refl _⟩ rfl rfl rfl (Nat.le_of_ble_eq_true rfl) dX7_cost_4 rfl (rfl) (fun v_4 w_4 hp_4 => ?_)
  obtain ⟨rfl, hw_4⟩ := hp_4
  have hw_4 := hw_4.symm; subst hw_4
  refine g_top (rfl) ?_
  refine g_call C (ok_X7_holds _) my_X7_holds vi_X7_174 (by decide) ⟨Nat.le_refl _, Nat.le_refl _⟩ rfl rfl rfl (Nat.le_of_ble_eq_true rfl) dX7_cost_7 rfl (trivial) (fun v_7 w_7 hp_7 => ?_)
  obtain ⟨rfl, hw_7⟩ := hp_7
  have es2 : cw_eq (w_7 1) A.1 := by rw [hw_7, gw_set_ne _ _ _ _ (by decide)]; exact es
  have hI2 : cw_I n m (w_7 1) := cw_I_cg hI es2
  have hr2 : cw_RM A w_7 := by rw [hw_7]; exact cw_RM_thr h
  refine g_if_eq (tgt := 25) C (by decide) dX7_cost_10 (fun c_10 => ?_) (fun c_10 => ?_)
  · refine g_iconst (v := 0) C (by decide) dX7_cost_25 ?_
    refine g_iret C F dX7_cost_26 ?_
    exact cw_fin1 h hw_7 (cw_b0.mp c_10)
  · have hE := cw_bn c_10
    have ht2 : w_7 0 0 = 0 := by rw [hw_7, gw_set_self, cw_ups]; exact hE
    refine g_aload_n C rfl dX7_cost_13 ?_
    refine g_bipush (v := 107) C (by decide) dX7_cost_14 ?_
    refine g_iload_n C rfl dX7_cost_16 ?_
    refine g_iload_n C rfl dX7_cost_17 ?_
    refine g_iconst (v := 0) C (by decide) dX7_cost_18 ?_
    refine g_call C (ok_X7_acts 107 k a 0 A hI hB (fun q => absurd q (by decide))) my_X7_acts vi_X7_236 (by decide) ⟨Nat.le_refl _, Nat.le_refl _⟩ rfl rfl rfl (Nat.le_of_ble_eq_true rfl) dX7_cost_19 rfl (hr2) (fun v_19 w_19 hp_19 => ?_)
    obtain ⟨rfl, hr19, ht19⟩ := hp_19
    refine g_goto (tgt := 26) C (by decide) dX7_cost_22 ?_
    refine g_iret C F dX7_cost_26 ?_
    exact cw_fin0 hE rfl (by rw [ht19]; exact ht2) hr19

set_option maxHeartbeats 8000000 in
set_option maxRecDepth 100000 in
theorem ok_X7_release (o k : Int32) (A : cw_A) {n m : Nat} (hI : cw_I n m A.1) (hB : cw_B n (m + 20)) : gw_Ok yX7_release cX7_release 3 (some .int) sM 8 [.ref 0, .int o, .int k] (fun w => cw_RM A w) (fun _ vr w1 => cw_FP (sp_release A o k) vr w1) := by
  refine gw_of (by decide) (Nat.le_of_ble_eq_true rfl) ?_
  intro X w h C F
  have es := cw_es h
  have h6 := hI.m.2
  have hIw : cw_I n m (w 1) := cw_I_cg hI es
  refine g_aload_n C rfl dX7_release_0 ?_
  refine g_aload_n C rfl dX7_release_1 ?_
  refine g_iload_n C rfl dX7_release_2 ?_
  refine g_iload_n C rfl dX7_release_3 ?_
  refine g_call C (ok_X7_errorOfRelease _ _) my_X7_errorOfRelease vi_X7_144 (by decide) ⟨Nat.le_refl _, Nat.le_refl _⟩ rfl rfl rfl (Nat.le_of_ble_eq_true rfl) dX7_release_4 rfl (rfl) (fun v_4 w_4 hp_4 => ?_)
  obtain ⟨rfl, hw_4⟩ := hp_4
  have hw_4 := hw_4.symm; subst hw_4
  refine g_top (cw_eRel_cg hI es o k) ?_
  refine g_call C (ok_X7_holds _) my_X7_holds vi_X7_174 (by decide) ⟨Nat.le_refl _, Nat.le_refl _⟩ rfl rfl rfl (Nat.le_of_ble_eq_true rfl) dX7_release_7 rfl (trivial) (fun v_7 w_7 hp_7 => ?_)
  obtain ⟨rfl, hw_7⟩ := hp_7
  have es2 : cw_eq (w_7 1) A.1 := by rw [hw_7, gw_set_ne _ _ _ _ (by decide)]; exact es
  have hI2 : cw_I n m (w_7 1) := cw_I_cg hI es2
  have hr2 : cw_RM A w_7 := by rw [hw_7]; exact cw_RM_thr h
  refine g_if_eq (tgt := 25) C (by decide) dX7_release_10 (fun c_10 => ?_) (fun c_10 => ?_)
  · refine g_iconst (v := 0) C (by decide) dX7_release_25 ?_
    refine g_iret C F dX7_release_26 ?_
    exact cw_fin1 h hw_7 (cw_b0.mp c_10)
  · have hE := cw_bn c_10
    have ht2 : w_7 0 0 = 0 := by rw [hw_7, gw_set_self, cw_ups]; exact hE
    refine g_aload_n C rfl dX7_release_13 ?_
    refine g_bipush (v := 114) C (by decide) dX7_release_14 ?_
    refine g_iload_n C rfl dX7_release_16 ?_
    refine g_iload_n C rfl dX7_release_17 ?_
    refine g_iconst (v := 0) C (by decide) dX7_release_18 ?_
    refine g_call C (ok_X7_acts 114 o k 0 A hI hB (fun q => absurd q (by decide))) my_X7_acts vi_X7_236 (by decide) ⟨Nat.le_refl _, Nat.le_refl _⟩ rfl rfl rfl (Nat.le_of_ble_eq_true rfl) dX7_release_19 rfl (hr2) (fun v_19 w_19 hp_19 => ?_)
    obtain ⟨rfl, hr19, ht19⟩ := hp_19
    refine g_goto (tgt := 26) C (by decide) dX7_release_22 ?_
    refine g_iret C F dX7_release_26 ?_
    exact cw_fin0 hE rfl (by rw [ht19]; exact ht2) hr19

set_option maxHeartbeats 8000000 in
set_option maxRecDepth 100000 in
theorem ok_X7_bid (o k a : Int32) (A : cw_A) {n m : Nat} (hI : cw_I n m A.1) (hB : cw_B n (m + 20)) : gw_Ok yX7_bid cX7_bid 4 (some .int) sM 8 [.ref 0, .int o, .int k, .int a] (fun w => cw_RM A w) (fun _ vr w1 => cw_FP (sp_bid A o k a) vr w1) := by
  refine gw_of (by decide) (Nat.le_of_ble_eq_true rfl) ?_
  intro X w h C F
  have es := cw_es h
  have h6 := hI.m.2
  have hIw : cw_I n m (w 1) := cw_I_cg hI es
  refine g_aload_n C rfl dX7_bid_0 ?_
  refine g_aload_n C rfl dX7_bid_1 ?_
  refine g_iload_n C rfl dX7_bid_2 ?_
  refine g_iload_n C rfl dX7_bid_3 ?_
  refine g_iload_n C rfl dX7_bid_4 ?_
  refine g_call C (ok_X7_errorOfBid _ _ _) my_X7_errorOfBid vi_X7_134 (by decide) ⟨Nat.le_refl _, Nat.le_refl _⟩ rfl rfl rfl (Nat.le_of_ble_eq_true rfl) dX7_bid_5 rfl (rfl) (fun v_5 w_5 hp_5 => ?_)
  obtain ⟨rfl, hw_5⟩ := hp_5
  have hw_5 := hw_5.symm; subst hw_5
  refine g_top (cw_eBid_cg hI es o k a) ?_
  refine g_call C (ok_X7_holds _) my_X7_holds vi_X7_174 (by decide) ⟨Nat.le_refl _, Nat.le_refl _⟩ rfl rfl rfl (Nat.le_of_ble_eq_true rfl) dX7_bid_8 rfl (trivial) (fun v_8 w_8 hp_8 => ?_)
  obtain ⟨rfl, hw_8⟩ := hp_8
  have es2 : cw_eq (w_8 1) A.1 := by rw [hw_8, gw_set_ne _ _ _ _ (by decide)]; exact es
  have hI2 : cw_I n m (w_8 1) := cw_I_cg hI es2
  have hr2 : cw_RM A w_8 := by rw [hw_8]; exact cw_RM_thr h
  refine g_if_eq (tgt := 26) C (by decide) dX7_bid_11 (fun c_11 => ?_) (fun c_11 => ?_)
  · refine g_iconst (v := 0) C (by decide) dX7_bid_26 ?_
    refine g_iret C F dX7_bid_27 ?_
    exact cw_fin1 h hw_8 (cw_b0.mp c_11)
  · have hE := cw_bn c_11
    have ht2 : w_8 0 0 = 0 := by rw [hw_8, gw_set_self, cw_ups]; exact hE
    refine g_aload_n C rfl dX7_bid_14 ?_
    refine g_bipush (v := 98) C (by decide) dX7_bid_15 ?_
    refine g_iload_n C rfl dX7_bid_17 ?_
    refine g_iload_n C rfl dX7_bid_18 ?_
    refine g_iload_n C rfl dX7_bid_19 ?_
    refine g_call C (ok_X7_acts 98 o k a A hI hB (fun q => absurd q (by decide))) my_X7_acts vi_X7_236 (by decide) ⟨Nat.le_refl _, Nat.le_refl _⟩ rfl rfl rfl (Nat.le_of_ble_eq_true rfl) dX7_bid_20 rfl (hr2) (fun v_20 w_20 hp_20 => ?_)
    obtain ⟨rfl, hr20, ht20⟩ := hp_20
    refine g_goto (tgt := 27) C (by decide) dX7_bid_23 ?_
    refine g_iret C F dX7_bid_27 ?_
    exact cw_fin0 hE rfl (by rw [ht20]; exact ht2) hr20

set_option maxHeartbeats 8000000 in
set_option maxRecDepth 100000 in
theorem ok_X7_offer (o k x : Int32) (A : cw_A) {n m : Nat} (hI : cw_I n m A.1) (hB : cw_B n (m + 20)) : gw_Ok yX7_offer cX7_offer 4 (some .int) sM 8 [.ref 0, .int o, .int k, .int x] (fun w => cw_RM A w) (fun _ vr w1 => cw_FP (sp_offer A o k x) vr w1) := by
  refine gw_of (by decide) (Nat.le_of_ble_eq_true rfl) ?_
  intro X w h C F
  have es := cw_es h
  have h6 := hI.m.2
  have hIw : cw_I n m (w 1) := cw_I_cg hI es
  refine g_aload_n C rfl dX7_offer_0 ?_
  refine g_aload_n C rfl dX7_offer_1 ?_
  refine g_iload_n C rfl dX7_offer_2 ?_
  refine g_iload_n C rfl dX7_offer_3 ?_
  refine g_iload_n C rfl dX7_offer_4 ?_
  refine g_call C (ok_X7_errorOfOffer _ _ _) my_X7_errorOfOffer vi_X7_150 (by decide) ⟨Nat.le_refl _, Nat.le_refl _⟩ rfl rfl rfl (Nat.le_of_ble_eq_true rfl) dX7_offer_5 rfl (rfl) (fun v_5 w_5 hp_5 => ?_)
  obtain ⟨rfl, hw_5⟩ := hp_5
  have hw_5 := hw_5.symm; subst hw_5
  refine g_top (cw_eOff_cg es o k x) ?_
  refine g_call C (ok_X7_holds _) my_X7_holds vi_X7_174 (by decide) ⟨Nat.le_refl _, Nat.le_refl _⟩ rfl rfl rfl (Nat.le_of_ble_eq_true rfl) dX7_offer_8 rfl (trivial) (fun v_8 w_8 hp_8 => ?_)
  obtain ⟨rfl, hw_8⟩ := hp_8
  have es2 : cw_eq (w_8 1) A.1 := by rw [hw_8, gw_set_ne _ _ _ _ (by decide)]; exact es
  have hI2 : cw_I n m (w_8 1) := cw_I_cg hI es2
  have hr2 : cw_RM A w_8 := by rw [hw_8]; exact cw_RM_thr h
  refine g_if_eq (tgt := 26) C (by decide) dX7_offer_11 (fun c_11 => ?_) (fun c_11 => ?_)
  · refine g_iconst (v := 0) C (by decide) dX7_offer_26 ?_
    refine g_iret C F dX7_offer_27 ?_
    exact cw_fin1 h hw_8 (cw_b0.mp c_11)
  · have hE := cw_bn c_11
    have ht2 : w_8 0 0 = 0 := by rw [hw_8, gw_set_self, cw_ups]; exact hE
    refine g_aload_n C rfl dX7_offer_14 ?_
    refine g_bipush (v := 102) C (by decide) dX7_offer_15 ?_
    refine g_iload_n C rfl dX7_offer_17 ?_
    refine g_iload_n C rfl dX7_offer_18 ?_
    refine g_iload_n C rfl dX7_offer_19 ?_
    refine g_call C (ok_X7_acts 102 o k x A hI hB (fun q => absurd q (by decide))) my_X7_acts vi_X7_236 (by decide) ⟨Nat.le_refl _, Nat.le_refl _⟩ rfl rfl rfl (Nat.le_of_ble_eq_true rfl) dX7_offer_20 rfl (hr2) (fun v_20 w_20 hp_20 => ?_)
    obtain ⟨rfl, hr20, ht20⟩ := hp_20
    refine g_goto (tgt := 27) C (by decide) dX7_offer_23 ?_
    refine g_iret C F dX7_offer_27 ?_
    exact cw_fin0 hE rfl (by rw [ht20]; exact ht2) hr20

set_option maxHeartbeats 8000000 in
set_option maxRecDepth 100000 in
theorem ok_X7_upkeep (a : Int32) (A : cw_A) {n m : Nat} (hI : cw_I n m A.1) (hB : cw_B n (m + 20)) : gw_Ok yX7_upkeep cX7_upkeep 2 (some .int) sM 8 [.ref 0, .int a] (fun w => cw_RM A w) (fun _ vr w1 => cw_FP (sp_upkeep A a) vr w1) := by
  refine gw_of (by decide) (Nat.le_of_ble_eq_true rfl) ?_
  intro X w h C F
  have es := cw_es h
  have h6 := hI.m.2
  have hIw : cw_I n m (w 1) := cw_I_cg hI es
  refine g_aload_n C rfl dX7_upkeep_0 ?_
  refine g_aload_n C rfl dX7_upkeep_1 ?_
  refine g_iload_n C rfl dX7_upkeep_2 ?_
  refine g_call C (ok_X7_errorOfUpkeep _) my_X7_errorOfUpkeep vi_X7_162 (by decide) ⟨Nat.le_refl _, Nat.le_refl _⟩ rfl rfl rfl (Nat.le_of_ble_eq_true rfl) dX7_upkeep_3 rfl (rfl) (fun v_3 w_3 hp_3 => ?_)
  obtain ⟨rfl, hw_3⟩ := hp_3
  have hw_3 := hw_3.symm; subst hw_3
  refine g_top (cw_eUpk_cg es a) ?_
  refine g_call C (ok_X7_holds _) my_X7_holds vi_X7_174 (by decide) ⟨Nat.le_refl _, Nat.le_refl _⟩ rfl rfl rfl (Nat.le_of_ble_eq_true rfl) dX7_upkeep_6 rfl (trivial) (fun v_6 w_6 hp_6 => ?_)
  obtain ⟨rfl, hw_6⟩ := hp_6
  have es2 : cw_eq (w_6 1) A.1 := by rw [hw_6, gw_set_ne _ _ _ _ (by decide)]; exact es
  have hI2 : cw_I n m (w_6 1) := cw_I_cg hI es2
  have hr2 : cw_RM A w_6 := by rw [hw_6]; exact cw_RM_thr h
  refine g_if_eq (tgt := 24) C (by decide) dX7_upkeep_9 (fun c_9 => ?_) (fun c_9 => ?_)
  · refine g_iconst (v := 0) C (by decide) dX7_upkeep_24 ?_
    refine g_iret C F dX7_upkeep_25 ?_
    exact cw_fin1 h hw_6 (cw_b0.mp c_9)
  · have hE := cw_bn c_9
    have ht2 : w_6 0 0 = 0 := by rw [hw_6, gw_set_self, cw_ups]; exact hE
    refine g_aload_n C rfl dX7_upkeep_12 ?_
    refine g_bipush (v := 117) C (by decide) dX7_upkeep_13 ?_
    refine g_iload_n C rfl dX7_upkeep_15 ?_
    refine g_iconst (v := 0) C (by decide) dX7_upkeep_16 ?_
    refine g_iconst (v := 0) C (by decide) dX7_upkeep_17 ?_
    refine g_call C (ok_X7_acts 117 a 0 0 A hI hB (fun q => absurd q (by decide))) my_X7_acts vi_X7_236 (by decide) ⟨Nat.le_refl _, Nat.le_refl _⟩ rfl rfl rfl (Nat.le_of_ble_eq_true rfl) dX7_upkeep_18 rfl (hr2) (fun v_18 w_18 hp_18 => ?_)
    obtain ⟨rfl, hr18, ht18⟩ := hp_18
    refine g_goto (tgt := 25) C (by decide) dX7_upkeep_21 ?_
    refine g_iret C F dX7_upkeep_25 ?_
    exact cw_fin0 hE rfl (by rw [ht18]; exact ht2) hr18

