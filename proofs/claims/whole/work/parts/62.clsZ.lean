theorem cw_tst_1 {tx : Nat → Int32} {len : Nat} (h : cw_sgn tx len 0 = 67) : 0 < len ∧ cw_tst tx len = (false, 1) := by
  have hp : 0 < len := Classical.byContradiction (fun q => by rw [cw_sgn, cw_ie q] at h; exact absurd h (by decide))
  rw [cw_sgn, cw_it hp] at h
  refine ⟨hp, ?_⟩
  unfold cw_tst cw_take
  rw [cw_it ⟨rfl, hp, by show _ ≤ tx 0; rw [h]; decide, by show tx 0 ≤ _; rw [h]; decide⟩]
theorem cw_tst_0 {tx : Nat → Int32} {len : Nat} (h : ¬ cw_sgn tx len 0 = 67) : cw_tst tx len = (true, 0) := by
  unfold cw_tst cw_take
  rw [cw_ie (fun q => h ?_)]
  rw [cw_sgn, cw_it q.2.1]
  have z1 : (67 : Int32).toInt ≤ (tx 0).toInt := cw_le.mp q.2.2.1
  have z2 : (tx 0).toInt ≤ (67 : Int32).toInt := cw_le.mp q.2.2.2
  apply Int32.toInt_inj.mp
  show (tx 0).toInt = _
  omega

set_option maxHeartbeats 8000000 in
set_option maxRecDepth 100000 in
theorem ok_X5_startReading {tx : Nat → Int32} {len : Nat} : gw_Ok yX5_startReading cX5_startReading 1 none sT 2 [.ref 0] (fun w => cw_TX tx len w) (fun w vr w1 => vr = none ∧ cw_TS tx len (cw_tst tx len) w1 ∧ w1 1 = w 1) := by
  refine gw_of (by decide) (Nat.le_of_ble_eq_true rfl) ?_
  intro X w h C F
  refine g_aload_n C rfl dX5_startReading_0 ?_
  refine g_iconst (v := 0) C (by decide) dX5_startReading_1 ?_
  refine g_putf C fl_X5_41 fp_3_2 rfl rfl (rfl) (rfl) dX5_startReading_2 ?_
  refine g_aload_n C rfl dX5_startReading_5 ?_
  refine g_aload_n C rfl dX5_startReading_6 ?_
  refine g_call C (ok_X5_nextSign (tx := tx) (len := len) 0) my_X5_nextSign vi_X5_48 (by decide) ⟨Nat.le_refl _, Nat.le_refl _⟩ rfl rfl rfl (Nat.le_of_ble_eq_true rfl) dX5_startReading_7 rfl (⟨h.set (by decide), by rw [gw_set_self, cw_ups]; rfl, Nat.zero_le _⟩) (fun v_7 w_7 hp_7 => ?_)
  obtain ⟨rfl, hw_7⟩ := hp_7
  have hw_7 := hw_7.symm; subst hw_7
  refine g_bipush (v := 67) C (by decide) dX5_startReading_10 ?_
  refine g_cmp_eq (tgt := 19) C (by decide) dX5_startReading_12 (fun c_12 => ?_) (fun c_12 => ?_)
  · refine g_iconst (v := 0) C (by decide) dX5_startReading_19 ?_
    refine g_putf C fl_X5_37 fp_3_3 rfl rfl (rfl) (rfl) dX5_startReading_20 ?_
    refine g_aload_n C rfl dX5_startReading_23 ?_
    refine g_getf C fl_X5_37 rfl rfl dX5_startReading_24 ?_
    refine g_top (show _ = 0 by rw [gw_set_self, cw_ups]) ?_
    refine g_if_ne (tgt := 40) C (by decide) dX5_startReading_27 (fun c_27 => absurd c_27 (by decide)) (fun c_27 => ?_)
    refine g_aload_n C rfl dX5_startReading_30 ?_
    refine g_dup C rfl dX5_startReading_31 ?_
    refine g_getf C fl_X5_41 rfl rfl dX5_startReading_32 ?_
    refine g_iconst (v := 1) C (by decide) dX5_startReading_35 ?_
    refine g_iadd C dX5_startReading_36 ?_
    refine g_top (show _ = 1 by rw [gw_set_self, cw_upn _ _ (by decide), gw_set_self, cw_ups]; rfl) ?_
    refine g_putf C fl_X5_41 fp_3_2 rfl rfl (rfl) (rfl) dX5_startReading_37 ?_
    refine g_vret C F dX5_startReading_40 ?_
    exact ⟨rfl, by rw [(cw_tst_1 c_12).2]; exact ⟨((h.set (by decide)).set (by decide)).set (by decide), by rw [gw_set_self, cw_ups]; rfl, by rw [gw_set_self, cw_upn _ _ (by decide), gw_set_self, cw_ups]; rfl, by show 1 ≤ 120; decide⟩, by rw [gw_set_ne _ _ _ _ (by decide), gw_set_ne _ _ _ _ (by decide), gw_set_ne _ _ _ _ (by decide)]⟩
  · refine g_iconst (v := 1) C (by decide) dX5_startReading_15 ?_
    refine g_goto (tgt := 20) C (by decide) dX5_startReading_16 ?_
    refine g_putf C fl_X5_37 fp_3_3 rfl rfl (rfl) (rfl) dX5_startReading_20 ?_
    refine g_aload_n C rfl dX5_startReading_23 ?_
    refine g_getf C fl_X5_37 rfl rfl dX5_startReading_24 ?_
    refine g_top (show _ = 1 by rw [gw_set_self, cw_ups]) ?_
    refine g_if_ne (tgt := 40) C (by decide) dX5_startReading_27 (fun c_27 => ?_) (fun c_27 => absurd c_27 (by decide))
    refine g_vret C F dX5_startReading_40 ?_
    exact ⟨rfl, by rw [cw_tst_0 c_12]; exact ⟨(h.set (by decide)).set (by decide), by rw [gw_set_self, cw_upn _ _ (by decide), gw_set_self, cw_ups]; rfl, by rw [gw_set_self, cw_ups]; rfl, Nat.zero_le _⟩, by rw [gw_set_ne _ _ _ _ (by decide), gw_set_ne _ _ _ _ (by decide)]⟩

/-- text and house -/
def sTH : gw_S := (17, fun i => if i < 3 then sT.2 i else gw_pi (fun j => 3 + j) (sH.2 (i - 3)))
def cw_wp (b n : Nat) (w w1 : gw_M) : gw_M := fun j => if b ≤ j ∧ j < b + n then w1 (j - b) else w j
def cw_ws (b : Nat) (w : gw_M) : gw_M := fun i => w (b + i)
theorem cw_wp_i {b n : Nat} {w : gw_M} : ∀ (w1 : gw_M) (i : Nat), i < n → cw_wp b n w w1 (b + i) = w1 i := fun w1 i hi => by
  unfold cw_wp; rw [if_pos (by omega), Nat.add_sub_cancel_left]
theorem cw_wp_o {b n N : Nat} {w : gw_M} : ∀ (w1 : gw_M) (j : Nat), j < N → (∀ i, i < n → b + i ≠ j) → cw_wp b n w w1 j = w j := fun w1 j _ h => by
  unfold cw_wp; rw [if_neg]; intro q; exact h (j - b) (by omega) (by omega)
theorem cw_emb_H : gw_emb sTH sH (fun i => 3 + i) := ⟨fun i hi => by
  have h2 : i < 14 := hi
  have h3 : ¬ 3 + i < 3 := by omega
  simp [gw_at, sTH, h3, show 3 + i < 17 by omega], fun i j _ _ h => by have h : 3 + i = 3 + j := h; omega⟩
theorem cw_emb_T : gw_emb sTH sT (fun i => i) := ⟨fun i hi => by
  have h2 : i < 3 := hi
  rw [gw_pi_id]
  simp [gw_at, sTH, h2, show i < 17 by omega], fun i j _ _ h => h⟩

