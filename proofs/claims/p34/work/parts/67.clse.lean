set_option maxHeartbeats 8000000 in
set_option maxRecDepth 100000 in
theorem ok_X0_takeBack (o c : Nat) (ho2 : o < 14) (hc : c ≤ 14) : gw_Ok yX0_takeBack cX0_takeBack 2 (some .int) sC 2 [.ref 253, .ref 0] (fun w => w 253 1 = nI o ∧ w 253 2 = nI c ∧ (0 < c → ∀ k, k < 20 → cw_r 0 1 (w (14 * ((o + (c - 1)) % 14 + 2) + 8) k))) (fun w vr w1 => vr = some (.int (nI (c - 1))) ∧ w1 253 2 = nI (c - 1) ∧ w1 253 1 = nI o ∧ (0 < c → ho (cw_hs 0 w1) = ho (cw_hs ((o + (c - 1)) % 14 + 2) w)) ∧ (∀ q, q ≠ 253 → 14 ≤ q → w1 q = w q) ∧ (c = 0 → w1 = w)) := by
  refine gw_of (by decide) (Nat.le_of_ble_eq_true rfl) ?_
  intro X w h C F
  obtain ⟨ho1, hc1, hs⟩ := h
  refine g_aload_n C rfl dX0_takeBack_0 ?_
  refine g_getf C fl_X0_18 rfl rfl dX0_takeBack_1 ?_
  refine g_top hc1 ?_
  refine g_if_le (tgt := 38) C (by decide) dX0_takeBack_4 (fun c_4 => ?_) (fun c_4 => ?_)
  · have hc0 : c = 0 := by have z := (cw_nle (a := c) (b := 0) (by omega) (by omega)).mp c_4; omega
    refine g_aload_n C rfl dX0_takeBack_38 ?_
    refine g_getf C fl_X0_18 rfl rfl dX0_takeBack_39 ?_
    refine g_top (show _ = nI (c - 1) by rw [hc1, hc0]) ?_
    refine g_iret C F dX0_takeBack_42 ?_
    exact ⟨by rw [hc0], by rw [hc1, hc0], ho1, fun q => absurd q (by omega), fun _ _ _ => rfl, fun _ => rfl⟩
  · have hcp : 0 < c := Nat.lt_of_not_le (fun q => c_4 ((cw_nle (a := c) (b := 0) (by omega) (by omega)).mpr q))
    refine g_aload_n C rfl dX0_takeBack_7 ?_
    refine g_dup C rfl dX0_takeBack_8 ?_
    refine g_getf C fl_X0_18 rfl rfl dX0_takeBack_9 ?_
    refine g_top hc1 ?_
    refine g_iconst (v := 1) C (by decide) dX0_takeBack_12 ?_
    refine g_isub C dX0_takeBack_13 ?_
    refine g_top (show nI c - nI 1 = nI (c - 1) from cw_nsub hcp (by omega)) ?_
    refine g_putf C fl_X0_18 fp_0_2 rfl rfl (rfl) (rfl) dX0_takeBack_14 ?_
    refine g_genP (P := fun v => (∀ q, q ≠ 253 → v q = w q) ∧ v 253 1 = nI o ∧ v 253 2 = nI (c - 1)) ⟨fun q hq => by rw [gw_set_ne _ _ _ _ hq], by rw [gw_set_self, cw_upn _ _ (by decide)]; exact ho1, by rw [gw_set_self, cw_ups]⟩ (fun w5 h5 => ?_)
    obtain ⟨b0, b1, b2⟩ := h5
    refine g_aload_n C rfl dX0_takeBack_17 ?_
    refine g_aload_n C rfl dX0_takeBack_18 ?_
    refine g_getr C fl_X0_11 rfl rfl dX0_takeBack_19 ?_
    refine g_aload_n C rfl dX0_takeBack_22 ?_
    refine g_getf C fl_X0_22 rfl rfl dX0_takeBack_23 ?_
    refine g_top b1 ?_
    refine g_aload_n C rfl dX0_takeBack_26 ?_
    refine g_getf C fl_X0_18 rfl rfl dX0_takeBack_27 ?_
    refine g_top b2 ?_
    refine g_iadd C dX0_takeBack_30 ?_
    refine g_bipush (v := 14) C (by decide) dX0_takeBack_31 ?_
    refine g_irem C (by decide) dX0_takeBack_33 ?_
    refine g_top (show cw_md (nI o + nI (c - 1)) (nI 14) = nI ((o + (c - 1)) % 14) by rw [nI_add]; exact cw_mn14 (by omega) (by omega) (by omega)) ?_
    refine g_aald (j := (o + (c - 1)) % 14) C rfl (rfl) (by omega) (by decide) dX0_takeBack_34 ?_
    refine g_callW C (cw_emb_2 (0) ((o + (c - 1)) % 14 + 2) (by omega) (by omega) (by omega)) (ok_X1_copyFrom (cw_w0 0 ((o + (c - 1)) % 14 + 2) w5) (fun k hk => by show cw_r 0 1 (w5 (14 * ((o + (c - 1)) % 14 + 2) + 8) k); rw [b0 _ (by omega)]; exact hs hcp k hk)) my_X1_copyFrom vi_X0_25 (by decide) ⟨Nat.le_refl _, Nat.le_refl _⟩ rfl (((cw_emb_2 (0) ((o + (c - 1)) % 14 + 2) (by omega) (by omega) (by omega)).1 0 (by decide))) rfl (cw_wp2 (0) ((o + (c - 1)) % 14 + 2) w5) (cw_wp2_i (by omega)) (cw_wp2_o) (cw_w0 (0) ((o + (c - 1)) % 14 + 2) w5) (fun _ _ => rfl) (Nat.le_of_ble_eq_true rfl) dX0_takeBack_35 rfl (rfl) (fun v_35 w_35 hp_35 => ?_)
    obtain ⟨rfl, hq35, hc35⟩ := hp_35
    refine g_aload_n C rfl dX0_takeBack_38 ?_
    refine g_getf C fl_X0_18 rfl rfl dX0_takeBack_39 ?_
    refine g_top (show _ = nI (c - 1) by rw [(cw_copied (h := 0) (g := (o + (c - 1)) % 14 + 2) (by omega) hq35 hc35).2 253 (by omega)]; exact b2) ?_
    refine g_iret C F dX0_takeBack_42 ?_
    obtain ⟨k1, k2⟩ := cw_copied (h := 0) (g := (o + (c - 1)) % 14 + 2) (by omega) hq35 hc35
    refine ⟨rfl, ?_, ?_, fun _ => ?_, fun q n1 n2 => ?_, fun q => absurd q (by omega)⟩
    · rw [k2 253 (by omega)]; exact b2
    · rw [k2 253 (by omega)]; exact b1
    · exact k1.trans (cw_ho_cg (fun q hq => b0 _ (by omega)))
    · rw [k2 q (by omega)]; exact b0 q n1
