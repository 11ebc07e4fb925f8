set_option maxHeartbeats 8000000 in
set_option maxRecDepth 100000 in
theorem ok_X7_readCommand (tx : Nat → Int32) (len p : Nat) (hpl : p < len) : gw_Ok yX7_readCommand cX7_readCommand 2 none sM 4 [.ref 0] (fun w => w 0 13 = nI p ∧ w 0 14 = cw_bi false ∧ cw_tx tx len w) (fun w vr w1 => vr = none ∧ w1 0 13 = nI (cw_cmd tx len p).1.2 ∧ w1 0 14 = cw_bi (cw_cmd tx len p).1.1 ∧ w1 0 9 = tx p ∧ w1 0 10 = (cw_cmd tx len p).2.1 ∧ ((tx p = 107 ∨ tx p = 115 ∨ tx p = 116 ∨ tx p = 98 ∨ tx p = 114 ∨ tx p = 102) → w1 0 11 = (cw_cmd tx len p).2.2.1) ∧ ((tx p = 98 ∨ tx p = 102) → w1 0 12 = (cw_cmd tx len p).2.2.2) ∧ (∀ q, q ≠ 0 → w1 q = w q) ∧ ∀ k, (k < 9 ∨ 14 < k) → w1 0 k = w 0 k) := by
  refine gw_of (by decide) (Nat.le_of_ble_eq_true rfl) ?_
  intro X w h C F
  obtain ⟨e13, e14, htx⟩ := h
  have h := cw_T_in (g := (false, p)) e13 e14
  have hl := htx.2.1
  have hp1 : (false, p + 1).2 ≤ 120 := by show p + 1 ≤ 120; omega
  refine g_aload_n C rfl dX7_readCommand_0 ?_
  refine g_aload_n C rfl dX7_readCommand_1 ?_
  refine g_getr C fl_X7_22 rfl rfl dX7_readCommand_2 ?_
  refine g_aload_n C rfl dX7_readCommand_5 ?_
  refine g_getf C fl_X7_181 rfl rfl dX7_readCommand_6 ?_
  refine g_top (cw_T13 h) ?_
  refine g_iald (j := p) C rfl (rfl) (by omega) (by decide) dX7_readCommand_9 ?_
  refine g_top ((congrFun (cw_Tq h (q := 5) (by decide)) _).trans (htx.2.2 _ (hpl))) ?_
  refine g_putf C fl_X7_110 fp_5_9 rfl rfl (rfl) (rfl) dX7_readCommand_10 ?_
  refine g_genR (cw_T_put h (by decide)) (fun w1 h1 => ?_)
  have htx := cw_tx_h h1 htx (by decide)
  refine g_aload_n C rfl dX7_readCommand_13 ?_
  refine g_aload_n C rfl dX7_readCommand_14 ?_
  refine g_getf C fl_X7_110 rfl rfl dX7_readCommand_15 ?_
  refine g_top ((cw_Tk h1 (by decide)).trans ((show _ = tx p by simp [gw_set]))) ?_
  refine g_callS C (ok_X7_isLetter _) my_X7_isLetter si_X7_187 (by decide) ⟨Nat.le_refl _, Nat.le_refl _⟩ rfl (Nat.le_of_ble_eq_true rfl) dX7_readCommand_18 rfl (trivial) (fun v_18 w_18 hp_18 => ?_)
  obtain ⟨rfl, hw_18⟩ := hp_18
  have hw_18 := hw_18.symm; subst hw_18
  refine g_if_ne (tgt := 28) C (by decide) dX7_readCommand_21 (fun c_21 => ?_) (fun c_21 => ?_)
  · refine g_iconst (v := 0) C (by decide) dX7_readCommand_28 ?_
    refine g_top (show _ = cw_bi false from rfl) ?_
    refine g_putf C fl_X7_177 fp_5_14 rfl rfl (cw_bi_nar _) (cw_bi_fit _) dX7_readCommand_29 ?_
    refine g_genR (cw_T_p14 h1) (fun w2 h2 => ?_)
    refine g_aload_n C rfl dX7_readCommand_32 ?_
    refine g_dup C rfl dX7_readCommand_33 ?_
    refine g_getf C fl_X7_181 rfl rfl dX7_readCommand_34 ?_
    refine g_top (cw_T13 h2) ?_
    refine g_aload_n C rfl dX7_readCommand_37 ?_
    refine g_getf C fl_X7_177 rfl rfl dX7_readCommand_38 ?_
    refine g_top (cw_T14 h2) ?_
    refine g_if_eq (tgt := 48) C (by decide) dX7_readCommand_41 (fun c_41 => ?_) (fun c_41 => absurd (rfl) c_41)
    refine g_iconst (v := 1) C (by decide) dX7_readCommand_48 ?_
    refine g_iadd C dX7_readCommand_49 ?_
    refine g_top (nI_1 p) ?_
    refine g_putf C fl_X7_181 fp_5_13 rfl rfl (rfl) (rfl) dX7_readCommand_50 ?_
    refine g_genR (cw_T_p13 h2) (fun w3 h3 => ?_)
    refine g_aload_n C rfl dX7_readCommand_53 ?_
    refine g_getf C fl_X7_110 rfl rfl dX7_readCommand_54 ?_
    refine g_top ((cw_Tk h3 (by decide)).trans ((show _ = tx p by simp [gw_set]))) ?_
    have hsw_57 : ((tx p).toInt < 97 ∨ 117 < (tx p).toInt) ∨ (tx p).toInt = 97 ∨ (tx p).toInt = 98 ∨ (tx p).toInt = 99 ∨ (tx p).toInt = 100 ∨ (tx p).toInt = 101 ∨ (tx p).toInt = 102 ∨ (tx p).toInt = 103 ∨ (tx p).toInt = 104 ∨ (tx p).toInt = 105 ∨ (tx p).toInt = 106 ∨ (tx p).toInt = 107 ∨ (tx p).toInt = 108 ∨ (tx p).toInt = 109 ∨ (tx p).toInt = 110 ∨ (tx p).toInt = 111 ∨ (tx p).toInt = 112 ∨ (tx p).toInt = 113 ∨ (tx p).toInt = 114 ∨ (tx p).toInt = 115 ∨ (tx p).toInt = 116 ∨ (tx p).toInt = 117 := by omega
    rcases hsw_57 with hsw_57 | hsw_57 | hsw_57 | hsw_57 | hsw_57 | hsw_57 | hsw_57 | hsw_57 | hsw_57 | hsw_57 | hsw_57 | hsw_57 | hsw_57 | hsw_57 | hsw_57 | hsw_57 | hsw_57 | hsw_57 | hsw_57 | hsw_57 | hsw_57 | hsw_57
    · refine g_tabOut (tgt := 357) C hsw_57 (by decide) dX7_readCommand_57 ?_
      have hl121 : tx p = 121 := by
        have q := cw_bn c_21
        unfold cw_isL at q
        rcases q with q | q | q | q | q | q | q | q | q | q | q
        all_goals first | exact q | (exfalso; rw [q] at hsw_57; revert hsw_57; decide)
      have hcm := cw_cmd_121 (len := len) hl121
      refine g_aload_n C rfl dX7_readCommand_357 ?_
      refine g_iconst (v := 0) C (by decide) dX7_readCommand_358 ?_
      refine g_putf C fl_X7_113 fp_5_10 rfl rfl (rfl) (rfl) dX7_readCommand_359 ?_
      refine g_genR (cw_T_put h3 (by decide)) (fun w4 h4 => ?_)
      have htx := cw_tx_h h4 htx (by decide)
      refine g_vret C F dX7_readCommand_362 ?_
      refine ⟨rfl, by rw [cw_T13 h4, hcm], by rw [cw_T14 h4, hcm], by rw [cw_Tk h4 (by decide)]; simp [gw_set], by rw [hcm, cw_Tk h4 (by decide)]; simp [gw_set], (fun q => by rw [hl121] at q; exact absurd q (by decide)), (fun q => by rw [hl121] at q; exact absurd q (by decide)), fun q hq => ?_, fun k hk => ?_⟩
      · rw [cw_Tq h4 hq]; funext j; simp [gw_set, hq]
      · rw [cw_Tk h4 (by omega)]
        simp only [gw_set]
        simp [show k ≠ 9 by omega, show k ≠ 10 by omega, show k ≠ 11 by omega, show k ≠ 12 by omega]
    · have hsx_57 : (tx p) = 97 := gw_toInt hsw_57
      refine g_tabIn (off := 274) (tgt := 331) C (by omega) (by omega) (by rw [hsw_57]; rfl) (by decide) dX7_readCommand_57 ?_
      have hcm := cw_cmd_97 (len := len) hsx_57
      refine g_aload_n C rfl dX7_readCommand_331 ?_
      refine g_aload_n C rfl dX7_readCommand_332 ?_
      refine g_bipush (v := 48) C (by decide) dX7_readCommand_333 ?_
      refine g_bipush (v := 55) C (by decide) dX7_readCommand_335 ?_
      refine g_call C (ok_X7_takesOne _ _ tx len _) my_X7_takesOne vi_X7_184 (by decide) ⟨Nat.le_refl _, Nat.le_refl _⟩ rfl rfl rfl (Nat.le_of_ble_eq_true rfl) dX7_readCommand_337 rfl (⟨cw_T13 h3, cw_T14 h3, cw_Ttx h3 htx, hp1⟩) (fun v_337 w_337 hp_337 => ?_)
      obtain ⟨rfl, h_337⟩ := hp_337
      have h_337 := cw_Tc h3 h_337
      refine g_putf C fl_X7_113 fp_5_10 rfl rfl (rfl) (rfl) dX7_readCommand_340 ?_
      refine g_genR (cw_T_put h_337 (by decide)) (fun w5 h5 => ?_)
      have htx := cw_tx_h h5 htx (by decide)
      refine g_goto (tgt := 362) C (by decide) dX7_readCommand_343 ?_
      refine g_vret C F dX7_readCommand_362 ?_
      refine ⟨rfl, by rw [cw_T13 h5, hcm], by rw [cw_T14 h5, hcm], by rw [cw_Tk h5 (by decide)]; simp [gw_set], by rw [hcm, cw_Tk h5 (by decide)]; simp [gw_set], (fun q => by rw [hsx_57] at q; exact absurd q (by decide)), (fun q => by rw [hsx_57] at q; exact absurd q (by decide)), fun q hq => ?_, fun k hk => ?_⟩
      · rw [cw_Tq h5 hq]; funext j; simp [gw_set, hq]
      · rw [cw_Tk h5 (by omega)]
        simp only [gw_set]
        simp [show k ≠ 9 by omega, show k ≠ 10 by omega, show k ≠ 11 by omega, show k ≠ 12 by omega]
    · have hsx_57 : (tx p) = 98 := gw_toInt hsw_57
      refine g_tabIn (off := 214) (tgt := 271) C (by omega) (by omega) (by rw [hsw_57]; rfl) (by decide) dX7_readCommand_57 ?_
      have hcm := cw_cmd_98 (len := len) hsx_57
      refine g_aload_n C rfl dX7_readCommand_271 ?_
      refine g_aload_n C rfl dX7_readCommand_272 ?_
      refine g_bipush (v := 48) C (by decide) dX7_readCommand_273 ?_
      refine g_bipush (v := 53) C (by decide) dX7_readCommand_275 ?_
      refine g_call C (ok_X7_takesOne _ _ tx len _) my_X7_takesOne vi_X7_184 (by decide) ⟨Nat.le_refl _, Nat.le_refl _⟩ rfl rfl rfl (Nat.le_of_ble_eq_true rfl) dX7_readCommand_277 rfl (⟨cw_T13 h3, cw_T14 h3, cw_Ttx h3 htx, hp1⟩) (fun v_277 w_277 hp_277 => ?_)
      obtain ⟨rfl, h_277⟩ := hp_277
      have h_277 := cw_Tc h3 h_277
      refine g_putf C fl_X7_113 fp_5_10 rfl rfl (rfl) (rfl) dX7_readCommand_280 ?_
      refine g_genR (cw_T_put h_277 (by decide)) (fun w6 h6 => ?_)
      have htx := cw_tx_h h6 htx (by decide)
      refine g_aload_n C rfl dX7_readCommand_283 ?_
      refine g_aload_n C rfl dX7_readCommand_284 ?_
      refine g_call C (ok_X7_readWeek tx len _) my_X7_readWeek vi_X7_190 (by decide) ⟨Nat.le_refl _, Nat.le_refl _⟩ rfl rfl rfl (Nat.le_of_ble_eq_true rfl) dX7_readCommand_285 rfl (⟨cw_T13 h6, cw_T14 h6, cw_Ttx h6 htx, cw_take_le _ _ _ _ _ hl hp1⟩) (fun v_285 w_285 hp_285 => ?_)
      obtain ⟨rfl, h_285⟩ := hp_285
      have h_285 := cw_Tc h6 h_285
      refine g_putf C fl_X7_122 fp_5_11 rfl rfl (rfl) (rfl) dX7_readCommand_288 ?_
      refine g_genR (cw_T_put h_285 (by decide)) (fun w7 h7 => ?_)
      have htx := cw_tx_h h7 htx (by decide)
      refine g_aload_n C rfl dX7_readCommand_291 ?_
      refine g_aload_n C rfl dX7_readCommand_292 ?_
      refine g_getf C fl_X7_110 rfl rfl dX7_readCommand_293 ?_
      refine g_top ((cw_Tk h7 (by decide)).trans ((show _ = tx p by simp [gw_set]))) ?_
      refine g_bipush (v := 98) C (by decide) dX7_readCommand_296 ?_
      refine g_cmp_ne (tgt := 308) C (by decide) dX7_readCommand_298 (fun c_298 => absurd (hsx_57) c_298) (fun c_298 => ?_)
      refine g_aload_n C rfl dX7_readCommand_301 ?_
      refine g_call C (ok_X7_readExtra tx len _) my_X7_readExtra vi_X7_193 (by decide) ⟨Nat.le_refl _, Nat.le_refl _⟩ rfl rfl rfl (Nat.le_of_ble_eq_true rfl) dX7_readCommand_302 rfl (⟨cw_T13 h7, cw_T14 h7, cw_Ttx h7 htx, cw_week_le _ _ _ hl (cw_take_le _ _ _ _ _ hl hp1)⟩) (fun v_302 w_302 hp_302 => ?_)
      obtain ⟨rfl, h_302⟩ := hp_302
      have h_302 := cw_Tc h7 h_302
      refine g_goto (tgt := 325) C (by decide) dX7_readCommand_305 ?_
      refine g_putf C fl_X7_131 fp_5_12 rfl rfl (rfl) (rfl) dX7_readCommand_325 ?_
      refine g_genR (cw_T_put h_302 (by decide)) (fun w8 h8 => ?_)
      have htx := cw_tx_h h8 htx (by decide)
      refine g_goto (tgt := 362) C (by decide) dX7_readCommand_328 ?_
      refine g_vret C F dX7_readCommand_362 ?_
      refine ⟨rfl, by rw [cw_T13 h8, hcm], by rw [cw_T14 h8, hcm], by rw [cw_Tk h8 (by decide)]; simp [gw_set], by rw [hcm, cw_Tk h8 (by decide)]; simp [gw_set], (fun _ => by rw [hcm, cw_Tk h8 (by decide)]; simp [gw_set]), (fun _ => by rw [hcm, cw_Tk h8 (by decide)]; simp [gw_set]), fun q hq => ?_, fun k hk => ?_⟩
      · rw [cw_Tq h8 hq]; funext j; simp [gw_set, hq]
      · rw [cw_Tk h8 (by omega)]
        simp only [gw_set]
        simp [show k ≠ 9 by omega, show k ≠ 10 by omega, show k ≠ 11 by omega, show k ≠ 12 by omega]
    · have hsx_57 : (tx p) = 99 := gw_toInt hsw_57
      refine g_tabIn (off := 300) (tgt := 357) C (by omega) (by omega) (by rw [hsw_57]; rfl) (by decide) dX7_readCommand_57 ?_
      exact absurd (cw_bn c_21) (by unfold cw_isL; rw [hsx_57]; decide)
    · have hsx_57 : (tx p) = 100 := gw_toInt hsw_57
      refine g_tabIn (off := 300) (tgt := 357) C (by omega) (by omega) (by rw [hsw_57]; rfl) (by decide) dX7_readCommand_57 ?_
      exact absurd (cw_bn c_21) (by unfold cw_isL; rw [hsx_57]; decide)
    · have hsx_57 : (tx p) = 101 := gw_toInt hsw_57
      refine g_tabIn (off := 300) (tgt := 357) C (by omega) (by omega) (by rw [hsw_57]; rfl) (by decide) dX7_readCommand_57 ?_
      have hcm := cw_cmd_101 (len := len) hsx_57
      refine g_aload_n C rfl dX7_readCommand_357 ?_
      refine g_iconst (v := 0) C (by decide) dX7_readCommand_358 ?_
      refine g_putf C fl_X7_113 fp_5_10 rfl rfl (rfl) (rfl) dX7_readCommand_359 ?_
      refine g_genR (cw_T_put h3 (by decide)) (fun w9 h9 => ?_)
      have htx := cw_tx_h h9 htx (by decide)
      refine g_vret C F dX7_readCommand_362 ?_
      refine ⟨rfl, by rw [cw_T13 h9, hcm], by rw [cw_T14 h9, hcm], by rw [cw_Tk h9 (by decide)]; simp [gw_set], by rw [hcm, cw_Tk h9 (by decide)]; simp [gw_set], (fun q => by rw [hsx_57] at q; exact absurd q (by decide)), (fun q => by rw [hsx_57] at q; exact absurd q (by decide)), fun q hq => ?_, fun k hk => ?_⟩
      · rw [cw_Tq h9 hq]; funext j; simp [gw_set, hq]
      · rw [cw_Tk h9 (by omega)]
        simp only [gw_set]
        simp [show k ≠ 9 by omega, show k ≠ 10 by omega, show k ≠ 11 by omega, show k ≠ 12 by omega]
    · have hsx_57 : (tx p) = 102 := gw_toInt hsw_57
      refine g_tabIn (off := 214) (tgt := 271) C (by omega) (by omega) (by rw [hsw_57]; rfl) (by decide) dX7_readCommand_57 ?_
      have hcm := cw_cmd_102 (len := len) hsx_57
      refine g_aload_n C rfl dX7_readCommand_271 ?_
      refine g_aload_n C rfl dX7_readCommand_272 ?_
      refine g_bipush (v := 48) C (by decide) dX7_readCommand_273 ?_
      refine g_bipush (v := 53) C (by decide) dX7_readCommand_275 ?_
      refine g_call C (ok_X7_takesOne _ _ tx len _) my_X7_takesOne vi_X7_184 (by decide) ⟨Nat.le_refl _, Nat.le_refl _⟩ rfl rfl rfl (Nat.le_of_ble_eq_true rfl) dX7_readCommand_277 rfl (⟨cw_T13 h3, cw_T14 h3, cw_Ttx h3 htx, hp1⟩) (fun v_277 w_277 hp_277 => ?_)
      obtain ⟨rfl, h_277⟩ := hp_277
      have h_277 := cw_Tc h3 h_277
      refine g_putf C fl_X7_113 fp_5_10 rfl rfl (rfl) (rfl) dX7_readCommand_280 ?_
      refine g_genR (cw_T_put h_277 (by decide)) (fun w10 h10 => ?_)
      have htx := cw_tx_h h10 htx (by decide)
      refine g_aload_n C rfl dX7_readCommand_283 ?_
      refine g_aload_n C rfl dX7_readCommand_284 ?_
      refine g_call C (ok_X7_readWeek tx len _) my_X7_readWeek vi_X7_190 (by decide) ⟨Nat.le_refl _, Nat.le_refl _⟩ rfl rfl rfl (Nat.le_of_ble_eq_true rfl) dX7_readCommand_285 rfl (⟨cw_T13 h10, cw_T14 h10, cw_Ttx h10 htx, cw_take_le _ _ _ _ _ hl hp1⟩) (fun v_285 w_285 hp_285 => ?_)
      obtain ⟨rfl, h_285⟩ := hp_285
      have h_285 := cw_Tc h10 h_285
      refine g_putf C fl_X7_122 fp_5_11 rfl rfl (rfl) (rfl) dX7_readCommand_288 ?_
      refine g_genR (cw_T_put h_285 (by decide)) (fun w11 h11 => ?_)
      have htx := cw_tx_h h11 htx (by decide)
      refine g_aload_n C rfl dX7_readCommand_291 ?_
      refine g_aload_n C rfl dX7_readCommand_292 ?_
      refine g_getf C fl_X7_110 rfl rfl dX7_readCommand_293 ?_
      refine g_top ((cw_Tk h11 (by decide)).trans ((show _ = tx p by simp [gw_set]))) ?_
      refine g_bipush (v := 98) C (by decide) dX7_readCommand_296 ?_
      refine g_cmp_ne (tgt := 308) C (by decide) dX7_readCommand_298 (fun c_298 => ?_) (fun c_298 => absurd c_298 (by rw [hsx_57]; decide))
      refine g_aload_n C rfl dX7_readCommand_308 ?_
      refine g_getf C fl_X7_110 rfl rfl dX7_readCommand_309 ?_
      refine g_top ((cw_Tk h11 (by decide)).trans ((show _ = tx p by simp [gw_set]))) ?_
      refine g_bipush (v := 102) C (by decide) dX7_readCommand_312 ?_
      refine g_cmp_ne (tgt := 324) C (by decide) dX7_readCommand_314 (fun c_314 => absurd (hsx_57) c_314) (fun c_314 => ?_)
      refine g_aload_n C rfl dX7_readCommand_317 ?_
      refine g_call C (ok_X7_readWeek tx len _) my_X7_readWeek vi_X7_190 (by decide) ⟨Nat.le_refl _, Nat.le_refl _⟩ rfl rfl rfl (Nat.le_of_ble_eq_true rfl) dX7_readCommand_318 rfl (⟨cw_T13 h11, cw_T14 h11, cw_Ttx h11 htx, cw_week_le _ _ _ hl (cw_take_le _ _ _ _ _ hl hp1)⟩) (fun v_318 w_318 hp_318 => ?_)
      obtain ⟨rfl, h_318⟩ := hp_318
      have h_318 := cw_Tc h11 h_318
      refine g_goto (tgt := 325) C (by decide) dX7_readCommand_321 ?_
      refine g_putf C fl_X7_131 fp_5_12 rfl rfl (rfl) (rfl) dX7_readCommand_325 ?_
      refine g_genR (cw_T_put h_318 (by decide)) (fun w12 h12 => ?_)
      have htx := cw_tx_h h12 htx (by decide)
      refine g_goto (tgt := 362) C (by decide) dX7_readCommand_328 ?_
      refine g_vret C F dX7_readCommand_362 ?_
      refine ⟨rfl, by rw [cw_T13 h12, hcm], by rw [cw_T14 h12, hcm], by rw [cw_Tk h12 (by decide)]; simp [gw_set], by rw [hcm, cw_Tk h12 (by decide)]; simp [gw_set], (fun _ => by rw [hcm, cw_Tk h12 (by decide)]; simp [gw_set]), (fun _ => by rw [hcm, cw_Tk h12 (by decide)]; simp [gw_set]), fun q hq => ?_, fun k hk => ?_⟩
      · rw [cw_Tq h12 hq]; funext j; simp [gw_set, hq]
      · rw [cw_Tk h12 (by omega)]
        simp only [gw_set]
        simp [show k ≠ 9 by omega, show k ≠ 10 by omega, show k ≠ 11 by omega, show k ≠ 12 by omega]
    · have hsx_57 : (tx p) = 103 := gw_toInt hsw_57
      refine g_tabIn (off := 300) (tgt := 357) C (by omega) (by omega) (by rw [hsw_57]; rfl) (by decide) dX7_readCommand_57 ?_
      exact absurd (cw_bn c_21) (by unfold cw_isL; rw [hsx_57]; decide)
    · have hsx_57 : (tx p) = 104 := gw_toInt hsw_57
      refine g_tabIn (off := 300) (tgt := 357) C (by omega) (by omega) (by rw [hsw_57]; rfl) (by decide) dX7_readCommand_57 ?_
      exact absurd (cw_bn c_21) (by unfold cw_isL; rw [hsx_57]; decide)
    · have hsx_57 : (tx p) = 105 := gw_toInt hsw_57
      refine g_tabIn (off := 300) (tgt := 357) C (by omega) (by omega) (by rw [hsw_57]; rfl) (by decide) dX7_readCommand_57 ?_
      exact absurd (cw_bn c_21) (by unfold cw_isL; rw [hsx_57]; decide)
    · have hsx_57 : (tx p) = 106 := gw_toInt hsw_57
      refine g_tabIn (off := 300) (tgt := 357) C (by omega) (by omega) (by rw [hsw_57]; rfl) (by decide) dX7_readCommand_57 ?_
      exact absurd (cw_bn c_21) (by unfold cw_isL; rw [hsx_57]; decide)
    · have hsx_57 : (tx p) = 107 := gw_toInt hsw_57
      refine g_tabIn (off := 116) (tgt := 173) C (by omega) (by omega) (by rw [hsw_57]; rfl) (by decide) dX7_readCommand_57 ?_
      have hcm := cw_cmd_107 (len := len) hsx_57
      refine g_aload_n C rfl dX7_readCommand_173 ?_
      refine g_aload_n C rfl dX7_readCommand_174 ?_
      refine g_call C (ok_X7_readWeek tx len _) my_X7_readWeek vi_X7_190 (by decide) ⟨Nat.le_refl _, Nat.le_refl _⟩ rfl rfl rfl (Nat.le_of_ble_eq_true rfl) dX7_readCommand_175 rfl (⟨cw_T13 h3, cw_T14 h3, cw_Ttx h3 htx, hp1⟩) (fun v_175 w_175 hp_175 => ?_)
      obtain ⟨rfl, h_175⟩ := hp_175
      have h_175 := cw_Tc h3 h_175
      refine g_putf C fl_X7_113 fp_5_10 rfl rfl (rfl) (rfl) dX7_readCommand_178 ?_
      refine g_genR (cw_T_put h_175 (by decide)) (fun w13 h13 => ?_)
      have htx := cw_tx_h h13 htx (by decide)
      refine g_aload_n C rfl dX7_readCommand_181 ?_
      refine g_iconst (v := 1) C (by decide) dX7_readCommand_182 ?_
      refine g_aload_n C rfl dX7_readCommand_183 ?_
      refine g_bipush (v := 49) C (by decide) dX7_readCommand_184 ?_
      refine g_bipush (v := 57) C (by decide) dX7_readCommand_186 ?_
      refine g_call C (ok_X7_takesOne _ _ tx len _) my_X7_takesOne vi_X7_184 (by decide) ⟨Nat.le_refl _, Nat.le_refl _⟩ rfl rfl rfl (Nat.le_of_ble_eq_true rfl) dX7_readCommand_188 rfl (⟨cw_T13 h13, cw_T14 h13, cw_Ttx h13 htx, cw_week_le _ _ _ hl hp1⟩) (fun v_188 w_188 hp_188 => ?_)
      obtain ⟨rfl, h_188⟩ := hp_188
      have h_188 := cw_Tc h13 h_188
      refine g_iadd C dX7_readCommand_191 ?_
      refine g_putf C fl_X7_122 fp_5_11 rfl rfl (rfl) (rfl) dX7_readCommand_192 ?_
      refine g_genR (cw_T_put h_188 (by decide)) (fun w14 h14 => ?_)
      have htx := cw_tx_h h14 htx (by decide)
      refine g_goto (tgt := 362) C (by decide) dX7_readCommand_195 ?_
      refine g_vret C F dX7_readCommand_362 ?_
      refine ⟨rfl, by rw [cw_T13 h14, hcm], by rw [cw_T14 h14, hcm], by rw [cw_Tk h14 (by decide)]; simp [gw_set], by rw [hcm, cw_Tk h14 (by decide)]; simp [gw_set], (fun _ => by rw [hcm, cw_Tk h14 (by decide)]; simp [gw_set]), (fun q => by rw [hsx_57] at q; exact absurd q (by decide)), fun q hq => ?_, fun k hk => ?_⟩
      · rw [cw_Tq h14 hq]; funext j; simp [gw_set, hq]
      · rw [cw_Tk h14 (by omega)]
        simp only [gw_set]
        simp [show k ≠ 9 by omega, show k ≠ 10 by omega, show k ≠ 11 by omega, show k ≠ 12 by omega]
    · have hsx_57 : (tx p) = 108 := gw_toInt hsw_57
      refine g_tabIn (off := 300) (tgt := 357) C (by omega) (by omega) (by rw [hsw_57]; rfl) (by decide) dX7_readCommand_57 ?_
      exact absurd (cw_bn c_21) (by unfold cw_isL; rw [hsx_57]; decide)
    · have hsx_57 : (tx p) = 109 := gw_toInt hsw_57
      refine g_tabIn (off := 300) (tgt := 357) C (by omega) (by omega) (by rw [hsw_57]; rfl) (by decide) dX7_readCommand_57 ?_
      exact absurd (cw_bn c_21) (by unfold cw_isL; rw [hsx_57]; decide)
    · have hsx_57 : (tx p) = 110 := gw_toInt hsw_57
      refine g_tabIn (off := 300) (tgt := 357) C (by omega) (by omega) (by rw [hsw_57]; rfl) (by decide) dX7_readCommand_57 ?_
      exact absurd (cw_bn c_21) (by unfold cw_isL; rw [hsx_57]; decide)
    · have hsx_57 : (tx p) = 111 := gw_toInt hsw_57
      refine g_tabIn (off := 99) (tgt := 156) C (by omega) (by omega) (by rw [hsw_57]; rfl) (by decide) dX7_readCommand_57 ?_
      have hcm := cw_cmd_111 (len := len) hsx_57
      refine g_aload_n C rfl dX7_readCommand_156 ?_
      refine g_iconst (v := 1) C (by decide) dX7_readCommand_157 ?_
      refine g_aload_n C rfl dX7_readCommand_158 ?_
      refine g_bipush (v := 49) C (by decide) dX7_readCommand_159 ?_
      refine g_bipush (v := 57) C (by decide) dX7_readCommand_161 ?_
      refine g_call C (ok_X7_takesOne _ _ tx len _) my_X7_takesOne vi_X7_184 (by decide) ⟨Nat.le_refl _, Nat.le_refl _⟩ rfl rfl rfl (Nat.le_of_ble_eq_true rfl) dX7_readCommand_163 rfl (⟨cw_T13 h3, cw_T14 h3, cw_Ttx h3 htx, hp1⟩) (fun v_163 w_163 hp_163 => ?_)
      obtain ⟨rfl, h_163⟩ := hp_163
      have h_163 := cw_Tc h3 h_163
      refine g_iadd C dX7_readCommand_166 ?_
      refine g_putf C fl_X7_113 fp_5_10 rfl rfl (rfl) (rfl) dX7_readCommand_167 ?_
      refine g_genR (cw_T_put h_163 (by decide)) (fun w15 h15 => ?_)
      have htx := cw_tx_h h15 htx (by decide)
      refine g_goto (tgt := 362) C (by decide) dX7_readCommand_170 ?_
      refine g_vret C F dX7_readCommand_362 ?_
      refine ⟨rfl, by rw [cw_T13 h15, hcm], by rw [cw_T14 h15, hcm], by rw [cw_Tk h15 (by decide)]; simp [gw_set], by rw [hcm, cw_Tk h15 (by decide)]; simp [gw_set], (fun q => by rw [hsx_57] at q; exact absurd q (by decide)), (fun q => by rw [hsx_57] at q; exact absurd q (by decide)), fun q hq => ?_, fun k hk => ?_⟩
      · rw [cw_Tq h15 hq]; funext j; simp [gw_set, hq]
      · rw [cw_Tk h15 (by omega)]
        simp only [gw_set]
        simp [show k ≠ 9 by omega, show k ≠ 10 by omega, show k ≠ 11 by omega, show k ≠ 12 by omega]
    · have hsx_57 : (tx p) = 112 := gw_toInt hsw_57
      refine g_tabIn (off := 300) (tgt := 357) C (by omega) (by omega) (by rw [hsw_57]; rfl) (by decide) dX7_readCommand_57 ?_
      exact absurd (cw_bn c_21) (by unfold cw_isL; rw [hsx_57]; decide)
    · have hsx_57 : (tx p) = 113 := gw_toInt hsw_57
      refine g_tabIn (off := 300) (tgt := 357) C (by omega) (by omega) (by rw [hsw_57]; rfl) (by decide) dX7_readCommand_57 ?_
      exact absurd (cw_bn c_21) (by unfold cw_isL; rw [hsx_57]; decide)
    · have hsx_57 : (tx p) = 114 := gw_toInt hsw_57
      refine g_tabIn (off := 214) (tgt := 271) C (by omega) (by omega) (by rw [hsw_57]; rfl) (by decide) dX7_readCommand_57 ?_
      have hcm := cw_cmd_114 (len := len) hsx_57
      refine g_aload_n C rfl dX7_readCommand_271 ?_
      refine g_aload_n C rfl dX7_readCommand_272 ?_
      refine g_bipush (v := 48) C (by decide) dX7_readCommand_273 ?_
      refine g_bipush (v := 53) C (by decide) dX7_readCommand_275 ?_
      refine g_call C (ok_X7_takesOne _ _ tx len _) my_X7_takesOne vi_X7_184 (by decide) ⟨Nat.le_refl _, Nat.le_refl _⟩ rfl rfl rfl (Nat.le_of_ble_eq_true rfl) dX7_readCommand_277 rfl (⟨cw_T13 h3, cw_T14 h3, cw_Ttx h3 htx, hp1⟩) (fun v_277 w_277 hp_277 => ?_)
      obtain ⟨rfl, h_277⟩ := hp_277
      have h_277 := cw_Tc h3 h_277
      refine g_putf C fl_X7_113 fp_5_10 rfl rfl (rfl) (rfl) dX7_readCommand_280 ?_
      refine g_genR (cw_T_put h_277 (by decide)) (fun w16 h16 => ?_)
      have htx := cw_tx_h h16 htx (by decide)
      refine g_aload_n C rfl dX7_readCommand_283 ?_
      refine g_aload_n C rfl dX7_readCommand_284 ?_
      refine g_call C (ok_X7_readWeek tx len _) my_X7_readWeek vi_X7_190 (by decide) ⟨Nat.le_refl _, Nat.le_refl _⟩ rfl rfl rfl (Nat.le_of_ble_eq_true rfl) dX7_readCommand_285 rfl (⟨cw_T13 h16, cw_T14 h16, cw_Ttx h16 htx, cw_take_le _ _ _ _ _ hl hp1⟩) (fun v_285 w_285 hp_285 => ?_)
      obtain ⟨rfl, h_285⟩ := hp_285
      have h_285 := cw_Tc h16 h_285
      refine g_putf C fl_X7_122 fp_5_11 rfl rfl (rfl) (rfl) dX7_readCommand_288 ?_
      refine g_genR (cw_T_put h_285 (by decide)) (fun w17 h17 => ?_)
      have htx := cw_tx_h h17 htx (by decide)
      refine g_aload_n C rfl dX7_readCommand_291 ?_
      refine g_aload_n C rfl dX7_readCommand_292 ?_
      refine g_getf C fl_X7_110 rfl rfl dX7_readCommand_293 ?_
      refine g_top ((cw_Tk h17 (by decide)).trans ((show _ = tx p by simp [gw_set]))) ?_
      refine g_bipush (v := 98) C (by decide) dX7_readCommand_296 ?_
      refine g_cmp_ne (tgt := 308) C (by decide) dX7_readCommand_298 (fun c_298 => ?_) (fun c_298 => absurd c_298 (by rw [hsx_57]; decide))
      refine g_aload_n C rfl dX7_readCommand_308 ?_
      refine g_getf C fl_X7_110 rfl rfl dX7_readCommand_309 ?_
      refine g_top ((cw_Tk h17 (by decide)).trans ((show _ = tx p by simp [gw_set]))) ?_
      refine g_bipush (v := 102) C (by decide) dX7_readCommand_312 ?_
      refine g_cmp_ne (tgt := 324) C (by decide) dX7_readCommand_314 (fun c_314 => ?_) (fun c_314 => absurd c_314 (by rw [hsx_57]; decide))
      refine g_iconst (v := 0) C (by decide) dX7_readCommand_324 ?_
      refine g_putf C fl_X7_131 fp_5_12 rfl rfl (rfl) (rfl) dX7_readCommand_325 ?_
      refine g_genR (cw_T_put h17 (by decide)) (fun w18 h18 => ?_)
      have htx := cw_tx_h h18 htx (by decide)
      refine g_goto (tgt := 362) C (by decide) dX7_readCommand_328 ?_
      refine g_vret C F dX7_readCommand_362 ?_
      refine ⟨rfl, by rw [cw_T13 h18, hcm], by rw [cw_T14 h18, hcm], by rw [cw_Tk h18 (by decide)]; simp [gw_set], by rw [hcm, cw_Tk h18 (by decide)]; simp [gw_set], (fun _ => by rw [hcm, cw_Tk h18 (by decide)]; simp [gw_set]), (fun q => by rw [hsx_57] at q; exact absurd q (by decide)), fun q hq => ?_, fun k hk => ?_⟩
      · rw [cw_Tq h18 hq]; funext j; simp [gw_set, hq]
      · rw [cw_Tk h18 (by omega)]
        simp only [gw_set]
        simp [show k ≠ 9 by omega, show k ≠ 10 by omega, show k ≠ 11 by omega, show k ≠ 12 by omega]
    · have hsx_57 : (tx p) = 115 := gw_toInt hsw_57
      refine g_tabIn (off := 141) (tgt := 198) C (by omega) (by omega) (by rw [hsw_57]; rfl) (by decide) dX7_readCommand_57 ?_
      have hcm := cw_cmd_115 (len := len) hsx_57
      refine g_aload_n C rfl dX7_readCommand_198 ?_
      refine g_aload_n C rfl dX7_readCommand_199 ?_
      refine g_call C (ok_X7_readWeek tx len _) my_X7_readWeek vi_X7_190 (by decide) ⟨Nat.le_refl _, Nat.le_refl _⟩ rfl rfl rfl (Nat.le_of_ble_eq_true rfl) dX7_readCommand_200 rfl (⟨cw_T13 h3, cw_T14 h3, cw_Ttx h3 htx, hp1⟩) (fun v_200 w_200 hp_200 => ?_)
      obtain ⟨rfl, h_200⟩ := hp_200
      have h_200 := cw_Tc h3 h_200
      refine g_putf C fl_X7_113 fp_5_10 rfl rfl (rfl) (rfl) dX7_readCommand_203 ?_
      refine g_genR (cw_T_put h_200 (by decide)) (fun w19 h19 => ?_)
      have htx := cw_tx_h h19 htx (by decide)
      refine g_aload_n C rfl dX7_readCommand_206 ?_
      refine g_aload_n C rfl dX7_readCommand_207 ?_
      refine g_getf C fl_X7_181 rfl rfl dX7_readCommand_208 ?_
      refine g_top (cw_T13 h19) ?_
      refine g_aload_n C rfl dX7_readCommand_211 ?_
      refine g_getf C fl_X7_171 rfl rfl dX7_readCommand_212 ?_
      refine g_top ((cw_Tk h19 (by decide)).trans htx.1) ?_
      refine g_cmp_ge (tgt := 236) C (by decide) dX7_readCommand_215 (fun c_215 => ?_) (fun c_215 => ?_)
      · have hzw := cw_week_le tx len (false, p + 1) hl hp1
        refine g_iconst (v := 0) C (by decide) dX7_readCommand_236 ?_
        have hz1 : ¬ cw_plus tx len (cw_week tx len (false, p + 1)).2 := fun q => nI_ge q.1 (by omega) c_215
        have hz2 := cw_bf hz1
        refine g_putf C fl_X7_122 fp_5_11 rfl rfl (rfl) (rfl) dX7_readCommand_237 ?_
        refine g_genR (cw_T_put h19 (by decide)) (fun w20 h20 => ?_)
        have htx := cw_tx_h h20 htx (by decide)
        refine g_aload_n C rfl dX7_readCommand_240 ?_
        refine g_getf C fl_X7_122 rfl rfl dX7_readCommand_241 ?_
        refine g_top ((cw_Tk h20 (by decide)).trans ((show _ = (0 : Int32) by simp [gw_set]))) ?_
        refine g_iconst (v := 1) C (by decide) dX7_readCommand_244 ?_
        refine g_cmp_ne (tgt := 259) C (by decide) dX7_readCommand_245 (fun c_245 => ?_) (fun c_245 => absurd c_245 (by decide))
        refine g_aload_n C rfl dX7_readCommand_259 ?_
        refine g_bipush (v := 45) C (by decide) dX7_readCommand_260 ?_
        refine g_bipush (v := 45) C (by decide) dX7_readCommand_262 ?_
        refine g_call C (ok_X7_takesOne _ _ tx len _) my_X7_takesOne vi_X7_184 (by decide) ⟨Nat.le_refl _, Nat.le_refl _⟩ rfl rfl rfl (Nat.le_of_ble_eq_true rfl) dX7_readCommand_264 rfl (⟨cw_T13 h20, cw_T14 h20, cw_Ttx h20 htx, cw_week_le _ _ _ hl hp1⟩) (fun v_264 w_264 hp_264 => ?_)
        obtain ⟨rfl, h_264⟩ := hp_264
        have h_264 := cw_Tc h20 h_264
        refine g_istore_n C (by decide) dX7_readCommand_267 ?_
        refine g_goto (tgt := 362) C (by decide) dX7_readCommand_268 ?_
        refine g_vret C F dX7_readCommand_362 ?_
        have hcm2 : cw_sign tx len (cw_week tx len (false, p + 1)).2 = _ := cw_ie hz1
        rw [hcm2] at hcm
        refine ⟨rfl, by rw [cw_T13 h_264, hcm], by rw [cw_T14 h_264, hcm], by rw [cw_Tk h_264 (by decide)]; simp [gw_set], by rw [hcm, cw_Tk h_264 (by decide)]; simp [gw_set], (fun _ => by rw [hcm, cw_Tk h_264 (by decide)]; simp [gw_set, hz2]), (fun q => by rw [hsx_57] at q; exact absurd q (by decide)), fun q hq => ?_, fun k hk => ?_⟩
        · rw [cw_Tq h_264 hq]; funext j; simp [gw_set, hq]
        · rw [cw_Tk h_264 (by omega)]
          simp only [gw_set]
          simp [show k ≠ 9 by omega, show k ≠ 10 by omega, show k ≠ 11 by omega, show k ≠ 12 by omega]
      · have hzw := cw_week_le tx len (false, p + 1) hl hp1
        have hz4 : (cw_week tx len (false, p + 1)).2.2 < len := by
          rcases Nat.lt_or_ge (cw_week tx len (false, p + 1)).2.2 len with q | q
          · exact q
          · exact absurd (nI_le q (by omega)) c_215
        refine g_aload_n C rfl dX7_readCommand_218 ?_
        refine g_getr C fl_X7_22 rfl rfl dX7_readCommand_219 ?_
        refine g_aload_n C rfl dX7_readCommand_222 ?_
        refine g_getf C fl_X7_181 rfl rfl dX7_readCommand_223 ?_
        refine g_top (cw_T13 h19) ?_
        refine g_iald (j := (cw_week tx len (false, p + 1)).2.2) C rfl (rfl) (by omega) (by decide) dX7_readCommand_226 ?_
        refine g_top ((congrFun (cw_Tq h19 (q := 5) (by decide)) _).trans (htx.2.2 _ (hz4))) ?_
        refine g_bipush (v := 43) C (by decide) dX7_readCommand_227 ?_
        refine g_cmp_ne (tgt := 236) C (by decide) dX7_readCommand_229 (fun c_229 => ?_) (fun c_229 => ?_)
        · refine g_iconst (v := 0) C (by decide) dX7_readCommand_236 ?_
          have hz1 : ¬ cw_plus tx len (cw_week tx len (false, p + 1)).2 := fun q => c_229 q.2
          have hz2 := cw_bf hz1
          refine g_putf C fl_X7_122 fp_5_11 rfl rfl (rfl) (rfl) dX7_readCommand_237 ?_
          refine g_genR (cw_T_put h19 (by decide)) (fun w21 h21 => ?_)
          have htx := cw_tx_h h21 htx (by decide)
          refine g_aload_n C rfl dX7_readCommand_240 ?_
          refine g_getf C fl_X7_122 rfl rfl dX7_readCommand_241 ?_
          refine g_top ((cw_Tk h21 (by decide)).trans ((show _ = (0 : Int32) by simp [gw_set]))) ?_
          refine g_iconst (v := 1) C (by decide) dX7_readCommand_244 ?_
          refine g_cmp_ne (tgt := 259) C (by decide) dX7_readCommand_245 (fun c_245 => ?_) (fun c_245 => absurd c_245 (by decide))
          refine g_aload_n C rfl dX7_readCommand_259 ?_
          refine g_bipush (v := 45) C (by decide) dX7_readCommand_260 ?_
          refine g_bipush (v := 45) C (by decide) dX7_readCommand_262 ?_
          refine g_call C (ok_X7_takesOne _ _ tx len _) my_X7_takesOne vi_X7_184 (by decide) ⟨Nat.le_refl _, Nat.le_refl _⟩ rfl rfl rfl (Nat.le_of_ble_eq_true rfl) dX7_readCommand_264 rfl (⟨cw_T13 h21, cw_T14 h21, cw_Ttx h21 htx, cw_week_le _ _ _ hl hp1⟩) (fun v_264 w_264 hp_264 => ?_)
          obtain ⟨rfl, h_264⟩ := hp_264
          have h_264 := cw_Tc h21 h_264
          refine g_istore_n C (by decide) dX7_readCommand_267 ?_
          refine g_goto (tgt := 362) C (by decide) dX7_readCommand_268 ?_
          refine g_vret C F dX7_readCommand_362 ?_
          have hcm2 : cw_sign tx len (cw_week tx len (false, p + 1)).2 = _ := cw_ie hz1
          rw [hcm2] at hcm
          refine ⟨rfl, by rw [cw_T13 h_264, hcm], by rw [cw_T14 h_264, hcm], by rw [cw_Tk h_264 (by decide)]; simp [gw_set], by rw [hcm, cw_Tk h_264 (by decide)]; simp [gw_set], (fun _ => by rw [hcm, cw_Tk h_264 (by decide)]; simp [gw_set, hz2]), (fun q => by rw [hsx_57] at q; exact absurd q (by decide)), fun q hq => ?_, fun k hk => ?_⟩
          · rw [cw_Tq h_264 hq]; funext j; simp [gw_set, hq]
          · rw [cw_Tk h_264 (by omega)]
            simp only [gw_set]
            simp [show k ≠ 9 by omega, show k ≠ 10 by omega, show k ≠ 11 by omega, show k ≠ 12 by omega]
        · refine g_iconst (v := 1) C (by decide) dX7_readCommand_232 ?_
          refine g_goto (tgt := 237) C (by decide) dX7_readCommand_233 ?_
          have hz1 : cw_plus tx len (cw_week tx len (false, p + 1)).2 := ⟨hz4, c_229⟩
          have hz2 := cw_b1 hz1
          refine g_putf C fl_X7_122 fp_5_11 rfl rfl (rfl) (rfl) dX7_readCommand_237 ?_
          refine g_genR (cw_T_put h19 (by decide)) (fun w22 h22 => ?_)
          have htx := cw_tx_h h22 htx (by decide)
          refine g_aload_n C rfl dX7_readCommand_240 ?_
          refine g_getf C fl_X7_122 rfl rfl dX7_readCommand_241 ?_
          refine g_top ((cw_Tk h22 (by decide)).trans ((show _ = (1 : Int32) by simp [gw_set]))) ?_
          refine g_iconst (v := 1) C (by decide) dX7_readCommand_244 ?_
          refine g_cmp_ne (tgt := 259) C (by decide) dX7_readCommand_245 (fun c_245 => absurd (rfl) c_245) (fun c_245 => ?_)
          refine g_aload_n C rfl dX7_readCommand_248 ?_
          refine g_bipush (v := 43) C (by decide) dX7_readCommand_249 ?_
          refine g_bipush (v := 43) C (by decide) dX7_readCommand_251 ?_
          refine g_call C (ok_X7_takesOne _ _ tx len _) my_X7_takesOne vi_X7_184 (by decide) ⟨Nat.le_refl _, Nat.le_refl _⟩ rfl rfl rfl (Nat.le_of_ble_eq_true rfl) dX7_readCommand_253 rfl (⟨cw_T13 h22, cw_T14 h22, cw_Ttx h22 htx, cw_week_le _ _ _ hl hp1⟩) (fun v_253 w_253 hp_253 => ?_)
          obtain ⟨rfl, h_253⟩ := hp_253
          have h_253 := cw_Tc h22 h_253
          refine g_goto (tgt := 267) C (by decide) dX7_readCommand_256 ?_
          refine g_istore_n C (by decide) dX7_readCommand_267 ?_
          refine g_goto (tgt := 362) C (by decide) dX7_readCommand_268 ?_
          refine g_vret C F dX7_readCommand_362 ?_
          have hcm2 : cw_sign tx len (cw_week tx len (false, p + 1)).2 = _ := cw_it hz1
          rw [hcm2] at hcm
          refine ⟨rfl, by rw [cw_T13 h_253, hcm], by rw [cw_T14 h_253, hcm], by rw [cw_Tk h_253 (by decide)]; simp [gw_set], by rw [hcm, cw_Tk h_253 (by decide)]; simp [gw_set], (fun _ => by rw [hcm, cw_Tk h_253 (by decide)]; simp [gw_set, hz2]), (fun q => by rw [hsx_57] at q; exact absurd q (by decide)), fun q hq => ?_, fun k hk => ?_⟩
          · rw [cw_Tq h_253 hq]; funext j; simp [gw_set, hq]
          · rw [cw_Tk h_253 (by omega)]
            simp only [gw_set]
            simp [show k ≠ 9 by omega, show k ≠ 10 by omega, show k ≠ 11 by omega, show k ≠ 12 by omega]
    · have hsx_57 : (tx p) = 116 := gw_toInt hsw_57
      refine g_tabIn (off := 214) (tgt := 271) C (by omega) (by omega) (by rw [hsw_57]; rfl) (by decide) dX7_readCommand_57 ?_
      have hcm := cw_cmd_116 (len := len) hsx_57
      refine g_aload_n C rfl dX7_readCommand_271 ?_
      refine g_aload_n C rfl dX7_readCommand_272 ?_
      refine g_bipush (v := 48) C (by decide) dX7_readCommand_273 ?_
      refine g_bipush (v := 53) C (by decide) dX7_readCommand_275 ?_
      refine g_call C (ok_X7_takesOne _ _ tx len _) my_X7_takesOne vi_X7_184 (by decide) ⟨Nat.le_refl _, Nat.le_refl _⟩ rfl rfl rfl (Nat.le_of_ble_eq_true rfl) dX7_readCommand_277 rfl (⟨cw_T13 h3, cw_T14 h3, cw_Ttx h3 htx, hp1⟩) (fun v_277 w_277 hp_277 => ?_)
      obtain ⟨rfl, h_277⟩ := hp_277
      have h_277 := cw_Tc h3 h_277
      refine g_putf C fl_X7_113 fp_5_10 rfl rfl (rfl) (rfl) dX7_readCommand_280 ?_
      refine g_genR (cw_T_put h_277 (by decide)) (fun w23 h23 => ?_)
      have htx := cw_tx_h h23 htx (by decide)
      refine g_aload_n C rfl dX7_readCommand_283 ?_
      refine g_aload_n C rfl dX7_readCommand_284 ?_
      refine g_call C (ok_X7_readWeek tx len _) my_X7_readWeek vi_X7_190 (by decide) ⟨Nat.le_refl _, Nat.le_refl _⟩ rfl rfl rfl (Nat.le_of_ble_eq_true rfl) dX7_readCommand_285 rfl (⟨cw_T13 h23, cw_T14 h23, cw_Ttx h23 htx, cw_take_le _ _ _ _ _ hl hp1⟩) (fun v_285 w_285 hp_285 => ?_)
      obtain ⟨rfl, h_285⟩ := hp_285
      have h_285 := cw_Tc h23 h_285
      refine g_putf C fl_X7_122 fp_5_11 rfl rfl (rfl) (rfl) dX7_readCommand_288 ?_
      refine g_genR (cw_T_put h_285 (by decide)) (fun w24 h24 => ?_)
      have htx := cw_tx_h h24 htx (by decide)
      refine g_aload_n C rfl dX7_readCommand_291 ?_
      refine g_aload_n C rfl dX7_readCommand_292 ?_
      refine g_getf C fl_X7_110 rfl rfl dX7_readCommand_293 ?_
      refine g_top ((cw_Tk h24 (by decide)).trans ((show _ = tx p by simp [gw_set]))) ?_
      refine g_bipush (v := 98) C (by decide) dX7_readCommand_296 ?_
      refine g_cmp_ne (tgt := 308) C (by decide) dX7_readCommand_298 (fun c_298 => ?_) (fun c_298 => absurd c_298 (by rw [hsx_57]; decide))
      refine g_aload_n C rfl dX7_readCommand_308 ?_
      refine g_getf C fl_X7_110 rfl rfl dX7_readCommand_309 ?_
      refine g_top ((cw_Tk h24 (by decide)).trans ((show _ = tx p by simp [gw_set]))) ?_
      refine g_bipush (v := 102) C (by decide) dX7_readCommand_312 ?_
      refine g_cmp_ne (tgt := 324) C (by decide) dX7_readCommand_314 (fun c_314 => ?_) (fun c_314 => absurd c_314 (by rw [hsx_57]; decide))
      refine g_iconst (v := 0) C (by decide) dX7_readCommand_324 ?_
      refine g_putf C fl_X7_131 fp_5_12 rfl rfl (rfl) (rfl) dX7_readCommand_325 ?_
      refine g_genR (cw_T_put h24 (by decide)) (fun w25 h25 => ?_)
      have htx := cw_tx_h h25 htx (by decide)
      refine g_goto (tgt := 362) C (by decide) dX7_readCommand_328 ?_
      refine g_vret C F dX7_readCommand_362 ?_
      refine ⟨rfl, by rw [cw_T13 h25, hcm], by rw [cw_T14 h25, hcm], by rw [cw_Tk h25 (by decide)]; simp [gw_set], by rw [hcm, cw_Tk h25 (by decide)]; simp [gw_set], (fun _ => by rw [hcm, cw_Tk h25 (by decide)]; simp [gw_set]), (fun q => by rw [hsx_57] at q; exact absurd q (by decide)), fun q hq => ?_, fun k hk => ?_⟩
      · rw [cw_Tq h25 hq]; funext j; simp [gw_set, hq]
      · rw [cw_Tk h25 (by omega)]
        simp only [gw_set]
        simp [show k ≠ 9 by omega, show k ≠ 10 by omega, show k ≠ 11 by omega, show k ≠ 12 by omega]
    · have hsx_57 : (tx p) = 117 := gw_toInt hsw_57
      refine g_tabIn (off := 289) (tgt := 346) C (by omega) (by omega) (by rw [hsw_57]; rfl) (by decide) dX7_readCommand_57 ?_
      have hcm := cw_cmd_117 (len := len) hsx_57
      refine g_aload_n C rfl dX7_readCommand_346 ?_
      refine g_aload_n C rfl dX7_readCommand_347 ?_
      refine g_call C (ok_X7_readCoins tx len _) my_X7_readCoins vi_X7_196 (by decide) ⟨Nat.le_refl _, Nat.le_refl _⟩ rfl rfl rfl (Nat.le_of_ble_eq_true rfl) dX7_readCommand_348 rfl (⟨cw_T13 h3, cw_T14 h3, cw_Ttx h3 htx, hp1⟩) (fun v_348 w_348 hp_348 => ?_)
      obtain ⟨rfl, h_348⟩ := hp_348
      have h_348 := cw_Tc h3 h_348
      refine g_putf C fl_X7_113 fp_5_10 rfl rfl (rfl) (rfl) dX7_readCommand_351 ?_
      refine g_genR (cw_T_put h_348 (by decide)) (fun w26 h26 => ?_)
      have htx := cw_tx_h h26 htx (by decide)
      refine g_goto (tgt := 362) C (by decide) dX7_readCommand_354 ?_
      refine g_vret C F dX7_readCommand_362 ?_
      refine ⟨rfl, by rw [cw_T13 h26, hcm], by rw [cw_T14 h26, hcm], by rw [cw_Tk h26 (by decide)]; simp [gw_set], by rw [hcm, cw_Tk h26 (by decide)]; simp [gw_set], (fun q => by rw [hsx_57] at q; exact absurd q (by decide)), (fun q => by rw [hsx_57] at q; exact absurd q (by decide)), fun q hq => ?_, fun k hk => ?_⟩
      · rw [cw_Tq h26 hq]; funext j; simp [gw_set, hq]
      · rw [cw_Tk h26 (by omega)]
        simp only [gw_set]
        simp [show k ≠ 9 by omega, show k ≠ 10 by omega, show k ≠ 11 by omega, show k ≠ 12 by omega]
  · refine g_iconst (v := 1) C (by decide) dX7_readCommand_24 ?_
    refine g_goto (tgt := 29) C (by decide) dX7_readCommand_25 ?_
    refine g_top (show _ = cw_bi true from rfl) ?_
    refine g_putf C fl_X7_177 fp_5_14 rfl rfl (cw_bi_nar _) (cw_bi_fit _) dX7_readCommand_29 ?_
    refine g_genR (cw_T_p14 h1) (fun w27 h27 => ?_)
    refine g_aload_n C rfl dX7_readCommand_32 ?_
    refine g_dup C rfl dX7_readCommand_33 ?_
    refine g_getf C fl_X7_181 rfl rfl dX7_readCommand_34 ?_
    refine g_top (cw_T13 h27) ?_
    refine g_aload_n C rfl dX7_readCommand_37 ?_
    refine g_getf C fl_X7_177 rfl rfl dX7_readCommand_38 ?_
    refine g_top (cw_T14 h27) ?_
    refine g_if_eq (tgt := 48) C (by decide) dX7_readCommand_41 (fun c_41 => absurd c_41 (show ¬ cw_bi true = 0 by decide)) (fun c_41 => ?_)
    refine g_iconst (v := 0) C (by decide) dX7_readCommand_44 ?_
    refine g_goto (tgt := 49) C (by decide) dX7_readCommand_45 ?_
    refine g_iadd C dX7_readCommand_49 ?_
    refine g_top (Int32.add_zero (nI p)) ?_
    refine g_putf C fl_X7_181 fp_5_13 rfl rfl (rfl) (rfl) dX7_readCommand_50 ?_
    refine g_genR (cw_T_p13 h27) (fun w28 h28 => ?_)
    refine g_aload_n C rfl dX7_readCommand_53 ?_
    refine g_getf C fl_X7_110 rfl rfl dX7_readCommand_54 ?_
    refine g_top ((cw_Tk h28 (by decide)).trans ((show _ = tx p by simp [gw_set]))) ?_
    have hsw_57 : ((tx p).toInt < 97 ∨ 117 < (tx p).toInt) ∨ (tx p).toInt = 97 ∨ (tx p).toInt = 98 ∨ (tx p).toInt = 99 ∨ (tx p).toInt = 100 ∨ (tx p).toInt = 101 ∨ (tx p).toInt = 102 ∨ (tx p).toInt = 103 ∨ (tx p).toInt = 104 ∨ (tx p).toInt = 105 ∨ (tx p).toInt = 106 ∨ (tx p).toInt = 107 ∨ (tx p).toInt = 108 ∨ (tx p).toInt = 109 ∨ (tx p).toInt = 110 ∨ (tx p).toInt = 111 ∨ (tx p).toInt = 112 ∨ (tx p).toInt = 113 ∨ (tx p).toInt = 114 ∨ (tx p).toInt = 115 ∨ (tx p).toInt = 116 ∨ (tx p).toInt = 117 := by omega
    rcases hsw_57 with hsw_57 | hsw_57 | hsw_57 | hsw_57 | hsw_57 | hsw_57 | hsw_57 | hsw_57 | hsw_57 | hsw_57 | hsw_57 | hsw_57 | hsw_57 | hsw_57 | hsw_57 | hsw_57 | hsw_57 | hsw_57 | hsw_57 | hsw_57 | hsw_57 | hsw_57
    · refine g_tabOut (tgt := 357) C hsw_57 (by decide) dX7_readCommand_57 ?_
      refine g_aload_n C rfl dX7_readCommand_357 ?_
      refine g_iconst (v := 0) C (by decide) dX7_readCommand_358 ?_
      refine g_putf C fl_X7_113 fp_5_10 rfl rfl (rfl) (rfl) dX7_readCommand_359 ?_
      refine g_genR (cw_T_put h28 (by decide)) (fun w29 h29 => ?_)
      have htx := cw_tx_h h29 htx (by decide)
      refine g_vret C F dX7_readCommand_362 ?_
      have hcm := cw_cmd_no (len := len) (cw_b0.mp c_21)
      refine ⟨rfl, by rw [cw_T13 h29, hcm], by rw [cw_T14 h29, hcm], by rw [cw_Tk h29 (by decide)]; simp [gw_set], by rw [hcm, cw_Tk h29 (by decide)]; simp [gw_set], (fun q => absurd (by unfold cw_isL; rcases q with q | q | q | q | q | q <;> rw [q] <;> decide) (cw_b0.mp c_21)), (fun q => absurd (by unfold cw_isL; rcases q with q | q <;> rw [q] <;> decide) (cw_b0.mp c_21)), fun q hq => ?_, fun k hk => ?_⟩
      · rw [cw_Tq h29 hq]; funext j; simp [gw_set, hq]
      · rw [cw_Tk h29 (by omega)]
        simp only [gw_set]
        simp [show k ≠ 9 by omega, show k ≠ 10 by omega, show k ≠ 11 by omega, show k ≠ 12 by omega]
    · have hsx_57 : (tx p) = 97 := gw_toInt hsw_57
      refine g_tabIn (off := 274) (tgt := 331) C (by omega) (by omega) (by rw [hsw_57]; rfl) (by decide) dX7_readCommand_57 ?_
      exact absurd (by unfold cw_isL; rw [hsx_57]; decide) (cw_b0.mp c_21)
    · have hsx_57 : (tx p) = 98 := gw_toInt hsw_57
      refine g_tabIn (off := 214) (tgt := 271) C (by omega) (by omega) (by rw [hsw_57]; rfl) (by decide) dX7_readCommand_57 ?_
      exact absurd (by unfold cw_isL; rw [hsx_57]; decide) (cw_b0.mp c_21)
    · have hsx_57 : (tx p) = 99 := gw_toInt hsw_57
      refine g_tabIn (off := 300) (tgt := 357) C (by omega) (by omega) (by rw [hsw_57]; rfl) (by decide) dX7_readCommand_57 ?_
      refine g_aload_n C rfl dX7_readCommand_357 ?_
      refine g_iconst (v := 0) C (by decide) dX7_readCommand_358 ?_
      refine g_putf C fl_X7_113 fp_5_10 rfl rfl (rfl) (rfl) dX7_readCommand_359 ?_
      refine g_genR (cw_T_put h28 (by decide)) (fun w30 h30 => ?_)
      have htx := cw_tx_h h30 htx (by decide)
      refine g_vret C F dX7_readCommand_362 ?_
      have hcm := cw_cmd_no (len := len) (cw_b0.mp c_21)
      refine ⟨rfl, by rw [cw_T13 h30, hcm], by rw [cw_T14 h30, hcm], by rw [cw_Tk h30 (by decide)]; simp [gw_set], by rw [hcm, cw_Tk h30 (by decide)]; simp [gw_set], (fun q => absurd (by unfold cw_isL; rcases q with q | q | q | q | q | q <;> rw [q] <;> decide) (cw_b0.mp c_21)), (fun q => absurd (by unfold cw_isL; rcases q with q | q <;> rw [q] <;> decide) (cw_b0.mp c_21)), fun q hq => ?_, fun k hk => ?_⟩
      · rw [cw_Tq h30 hq]; funext j; simp [gw_set, hq]
      · rw [cw_Tk h30 (by omega)]
        simp only [gw_set]
        simp [show k ≠ 9 by omega, show k ≠ 10 by omega, show k ≠ 11 by omega, show k ≠ 12 by omega]
    · have hsx_57 : (tx p) = 100 := gw_toInt hsw_57
      refine g_tabIn (off := 300) (tgt := 357) C (by omega) (by omega) (by rw [hsw_57]; rfl) (by decide) dX7_readCommand_57 ?_
      refine g_aload_n C rfl dX7_readCommand_357 ?_
      refine g_iconst (v := 0) C (by decide) dX7_readCommand_358 ?_
      refine g_putf C fl_X7_113 fp_5_10 rfl rfl (rfl) (rfl) dX7_readCommand_359 ?_
      refine g_genR (cw_T_put h28 (by decide)) (fun w31 h31 => ?_)
      have htx := cw_tx_h h31 htx (by decide)
      refine g_vret C F dX7_readCommand_362 ?_
      have hcm := cw_cmd_no (len := len) (cw_b0.mp c_21)
      refine ⟨rfl, by rw [cw_T13 h31, hcm], by rw [cw_T14 h31, hcm], by rw [cw_Tk h31 (by decide)]; simp [gw_set], by rw [hcm, cw_Tk h31 (by decide)]; simp [gw_set], (fun q => absurd (by unfold cw_isL; rcases q with q | q | q | q | q | q <;> rw [q] <;> decide) (cw_b0.mp c_21)), (fun q => absurd (by unfold cw_isL; rcases q with q | q <;> rw [q] <;> decide) (cw_b0.mp c_21)), fun q hq => ?_, fun k hk => ?_⟩
      · rw [cw_Tq h31 hq]; funext j; simp [gw_set, hq]
      · rw [cw_Tk h31 (by omega)]
        simp only [gw_set]
        simp [show k ≠ 9 by omega, show k ≠ 10 by omega, show k ≠ 11 by omega, show k ≠ 12 by omega]
    · have hsx_57 : (tx p) = 101 := gw_toInt hsw_57
      refine g_tabIn (off := 300) (tgt := 357) C (by omega) (by omega) (by rw [hsw_57]; rfl) (by decide) dX7_readCommand_57 ?_
      exact absurd (by unfold cw_isL; rw [hsx_57]; decide) (cw_b0.mp c_21)
    · have hsx_57 : (tx p) = 102 := gw_toInt hsw_57
      refine g_tabIn (off := 214) (tgt := 271) C (by omega) (by omega) (by rw [hsw_57]; rfl) (by decide) dX7_readCommand_57 ?_
      exact absurd (by unfold cw_isL; rw [hsx_57]; decide) (cw_b0.mp c_21)
    · have hsx_57 : (tx p) = 103 := gw_toInt hsw_57
      refine g_tabIn (off := 300) (tgt := 357) C (by omega) (by omega) (by rw [hsw_57]; rfl) (by decide) dX7_readCommand_57 ?_
      refine g_aload_n C rfl dX7_readCommand_357 ?_
      refine g_iconst (v := 0) C (by decide) dX7_readCommand_358 ?_
      refine g_putf C fl_X7_113 fp_5_10 rfl rfl (rfl) (rfl) dX7_readCommand_359 ?_
      refine g_genR (cw_T_put h28 (by decide)) (fun w32 h32 => ?_)
      have htx := cw_tx_h h32 htx (by decide)
      refine g_vret C F dX7_readCommand_362 ?_
      have hcm := cw_cmd_no (len := len) (cw_b0.mp c_21)
      refine ⟨rfl, by rw [cw_T13 h32, hcm], by rw [cw_T14 h32, hcm], by rw [cw_Tk h32 (by decide)]; simp [gw_set], by rw [hcm, cw_Tk h32 (by decide)]; simp [gw_set], (fun q => absurd (by unfold cw_isL; rcases q with q | q | q | q | q | q <;> rw [q] <;> decide) (cw_b0.mp c_21)), (fun q => absurd (by unfold cw_isL; rcases q with q | q <;> rw [q] <;> decide) (cw_b0.mp c_21)), fun q hq => ?_, fun k hk => ?_⟩
      · rw [cw_Tq h32 hq]; funext j; simp [gw_set, hq]
      · rw [cw_Tk h32 (by omega)]
        simp only [gw_set]
        simp [show k ≠ 9 by omega, show k ≠ 10 by omega, show k ≠ 11 by omega, show k ≠ 12 by omega]
    · have hsx_57 : (tx p) = 104 := gw_toInt hsw_57
      refine g_tabIn (off := 300) (tgt := 357) C (by omega) (by omega) (by rw [hsw_57]; rfl) (by decide) dX7_readCommand_57 ?_
      refine g_aload_n C rfl dX7_readCommand_357 ?_
      refine g_iconst (v := 0) C (by decide) dX7_readCommand_358 ?_
      refine g_putf C fl_X7_113 fp_5_10 rfl rfl (rfl) (rfl) dX7_readCommand_359 ?_
      refine g_genR (cw_T_put h28 (by decide)) (fun w33 h33 => ?_)
      have htx := cw_tx_h h33 htx (by decide)
      refine g_vret C F dX7_readCommand_362 ?_
      have hcm := cw_cmd_no (len := len) (cw_b0.mp c_21)
      refine ⟨rfl, by rw [cw_T13 h33, hcm], by rw [cw_T14 h33, hcm], by rw [cw_Tk h33 (by decide)]; simp [gw_set], by rw [hcm, cw_Tk h33 (by decide)]; simp [gw_set], (fun q => absurd (by unfold cw_isL; rcases q with q | q | q | q | q | q <;> rw [q] <;> decide) (cw_b0.mp c_21)), (fun q => absurd (by unfold cw_isL; rcases q with q | q <;> rw [q] <;> decide) (cw_b0.mp c_21)), fun q hq => ?_, fun k hk => ?_⟩
      · rw [cw_Tq h33 hq]; funext j; simp [gw_set, hq]
      · rw [cw_Tk h33 (by omega)]
        simp only [gw_set]
        simp [show k ≠ 9 by omega, show k ≠ 10 by omega, show k ≠ 11 by omega, show k ≠ 12 by omega]
    · have hsx_57 : (tx p) = 105 := gw_toInt hsw_57
      refine g_tabIn (off := 300) (tgt := 357) C (by omega) (by omega) (by rw [hsw_57]; rfl) (by decide) dX7_readCommand_57 ?_
      refine g_aload_n C rfl dX7_readCommand_357 ?_
      refine g_iconst (v := 0) C (by decide) dX7_readCommand_358 ?_
      refine g_putf C fl_X7_113 fp_5_10 rfl rfl (rfl) (rfl) dX7_readCommand_359 ?_
      refine g_genR (cw_T_put h28 (by decide)) (fun w34 h34 => ?_)
      have htx := cw_tx_h h34 htx (by decide)
      refine g_vret C F dX7_readCommand_362 ?_
      have hcm := cw_cmd_no (len := len) (cw_b0.mp c_21)
      refine ⟨rfl, by rw [cw_T13 h34, hcm], by rw [cw_T14 h34, hcm], by rw [cw_Tk h34 (by decide)]; simp [gw_set], by rw [hcm, cw_Tk h34 (by decide)]; simp [gw_set], (fun q => absurd (by unfold cw_isL; rcases q with q | q | q | q | q | q <;> rw [q] <;> decide) (cw_b0.mp c_21)), (fun q => absurd (by unfold cw_isL; rcases q with q | q <;> rw [q] <;> decide) (cw_b0.mp c_21)), fun q hq => ?_, fun k hk => ?_⟩
      · rw [cw_Tq h34 hq]; funext j; simp [gw_set, hq]
      · rw [cw_Tk h34 (by omega)]
        simp only [gw_set]
        simp [show k ≠ 9 by omega, show k ≠ 10 by omega, show k ≠ 11 by omega, show k ≠ 12 by omega]
    · have hsx_57 : (tx p) = 106 := gw_toInt hsw_57
      refine g_tabIn (off := 300) (tgt := 357) C (by omega) (by omega) (by rw [hsw_57]; rfl) (by decide) dX7_readCommand_57 ?_
      refine g_aload_n C rfl dX7_readCommand_357 ?_
      refine g_iconst (v := 0) C (by decide) dX7_readCommand_358 ?_
      refine g_putf C fl_X7_113 fp_5_10 rfl rfl (rfl) (rfl) dX7_readCommand_359 ?_
      refine g_genR (cw_T_put h28 (by decide)) (fun w35 h35 => ?_)
      have htx := cw_tx_h h35 htx (by decide)
      refine g_vret C F dX7_readCommand_362 ?_
      have hcm := cw_cmd_no (len := len) (cw_b0.mp c_21)
      refine ⟨rfl, by rw [cw_T13 h35, hcm], by rw [cw_T14 h35, hcm], by rw [cw_Tk h35 (by decide)]; simp [gw_set], by rw [hcm, cw_Tk h35 (by decide)]; simp [gw_set], (fun q => absurd (by unfold cw_isL; rcases q with q | q | q | q | q | q <;> rw [q] <;> decide) (cw_b0.mp c_21)), (fun q => absurd (by unfold cw_isL; rcases q with q | q <;> rw [q] <;> decide) (cw_b0.mp c_21)), fun q hq => ?_, fun k hk => ?_⟩
      · rw [cw_Tq h35 hq]; funext j; simp [gw_set, hq]
      · rw [cw_Tk h35 (by omega)]
        simp only [gw_set]
        simp [show k ≠ 9 by omega, show k ≠ 10 by omega, show k ≠ 11 by omega, show k ≠ 12 by omega]
    · have hsx_57 : (tx p) = 107 := gw_toInt hsw_57
      refine g_tabIn (off := 116) (tgt := 173) C (by omega) (by omega) (by rw [hsw_57]; rfl) (by decide) dX7_readCommand_57 ?_
      exact absurd (by unfold cw_isL; rw [hsx_57]; decide) (cw_b0.mp c_21)
    · have hsx_57 : (tx p) = 108 := gw_toInt hsw_57
      refine g_tabIn (off := 300) (tgt := 357) C (by omega) (by omega) (by rw [hsw_57]; rfl) (by decide) dX7_readCommand_57 ?_
      refine g_aload_n C rfl dX7_readCommand_357 ?_
      refine g_iconst (v := 0) C (by decide) dX7_readCommand_358 ?_
      refine g_putf C fl_X7_113 fp_5_10 rfl rfl (rfl) (rfl) dX7_readCommand_359 ?_
      refine g_genR (cw_T_put h28 (by decide)) (fun w36 h36 => ?_)
      have htx := cw_tx_h h36 htx (by decide)
      refine g_vret C F dX7_readCommand_362 ?_
      have hcm := cw_cmd_no (len := len) (cw_b0.mp c_21)
      refine ⟨rfl, by rw [cw_T13 h36, hcm], by rw [cw_T14 h36, hcm], by rw [cw_Tk h36 (by decide)]; simp [gw_set], by rw [hcm, cw_Tk h36 (by decide)]; simp [gw_set], (fun q => absurd (by unfold cw_isL; rcases q with q | q | q | q | q | q <;> rw [q] <;> decide) (cw_b0.mp c_21)), (fun q => absurd (by unfold cw_isL; rcases q with q | q <;> rw [q] <;> decide) (cw_b0.mp c_21)), fun q hq => ?_, fun k hk => ?_⟩
      · rw [cw_Tq h36 hq]; funext j; simp [gw_set, hq]
      · rw [cw_Tk h36 (by omega)]
        simp only [gw_set]
        simp [show k ≠ 9 by omega, show k ≠ 10 by omega, show k ≠ 11 by omega, show k ≠ 12 by omega]
    · have hsx_57 : (tx p) = 109 := gw_toInt hsw_57
      refine g_tabIn (off := 300) (tgt := 357) C (by omega) (by omega) (by rw [hsw_57]; rfl) (by decide) dX7_readCommand_57 ?_
      refine g_aload_n C rfl dX7_readCommand_357 ?_
      refine g_iconst (v := 0) C (by decide) dX7_readCommand_358 ?_
      refine g_putf C fl_X7_113 fp_5_10 rfl rfl (rfl) (rfl) dX7_readCommand_359 ?_
      refine g_genR (cw_T_put h28 (by decide)) (fun w37 h37 => ?_)
      have htx := cw_tx_h h37 htx (by decide)
      refine g_vret C F dX7_readCommand_362 ?_
      have hcm := cw_cmd_no (len := len) (cw_b0.mp c_21)
      refine ⟨rfl, by rw [cw_T13 h37, hcm], by rw [cw_T14 h37, hcm], by rw [cw_Tk h37 (by decide)]; simp [gw_set], by rw [hcm, cw_Tk h37 (by decide)]; simp [gw_set], (fun q => absurd (by unfold cw_isL; rcases q with q | q | q | q | q | q <;> rw [q] <;> decide) (cw_b0.mp c_21)), (fun q => absurd (by unfold cw_isL; rcases q with q | q <;> rw [q] <;> decide) (cw_b0.mp c_21)), fun q hq => ?_, fun k hk => ?_⟩
      · rw [cw_Tq h37 hq]; funext j; simp [gw_set, hq]
      · rw [cw_Tk h37 (by omega)]
        simp only [gw_set]
        simp [show k ≠ 9 by omega, show k ≠ 10 by omega, show k ≠ 11 by omega, show k ≠ 12 by omega]
    · have hsx_57 : (tx p) = 110 := gw_toInt hsw_57
      refine g_tabIn (off := 300) (tgt := 357) C (by omega) (by omega) (by rw [hsw_57]; rfl) (by decide) dX7_readCommand_57 ?_
      refine g_aload_n C rfl dX7_readCommand_357 ?_
      refine g_iconst (v := 0) C (by decide) dX7_readCommand_358 ?_
      refine g_putf C fl_X7_113 fp_5_10 rfl rfl (rfl) (rfl) dX7_readCommand_359 ?_
      refine g_genR (cw_T_put h28 (by decide)) (fun w38 h38 => ?_)
      have htx := cw_tx_h h38 htx (by decide)
      refine g_vret C F dX7_readCommand_362 ?_
      have hcm := cw_cmd_no (len := len) (cw_b0.mp c_21)
      refine ⟨rfl, by rw [cw_T13 h38, hcm], by rw [cw_T14 h38, hcm], by rw [cw_Tk h38 (by decide)]; simp [gw_set], by rw [hcm, cw_Tk h38 (by decide)]; simp [gw_set], (fun q => absurd (by unfold cw_isL; rcases q with q | q | q | q | q | q <;> rw [q] <;> decide) (cw_b0.mp c_21)), (fun q => absurd (by unfold cw_isL; rcases q with q | q <;> rw [q] <;> decide) (cw_b0.mp c_21)), fun q hq => ?_, fun k hk => ?_⟩
      · rw [cw_Tq h38 hq]; funext j; simp [gw_set, hq]
      · rw [cw_Tk h38 (by omega)]
        simp only [gw_set]
        simp [show k ≠ 9 by omega, show k ≠ 10 by omega, show k ≠ 11 by omega, show k ≠ 12 by omega]
    · have hsx_57 : (tx p) = 111 := gw_toInt hsw_57
      refine g_tabIn (off := 99) (tgt := 156) C (by omega) (by omega) (by rw [hsw_57]; rfl) (by decide) dX7_readCommand_57 ?_
      exact absurd (by unfold cw_isL; rw [hsx_57]; decide) (cw_b0.mp c_21)
    · have hsx_57 : (tx p) = 112 := gw_toInt hsw_57
      refine g_tabIn (off := 300) (tgt := 357) C (by omega) (by omega) (by rw [hsw_57]; rfl) (by decide) dX7_readCommand_57 ?_
      refine g_aload_n C rfl dX7_readCommand_357 ?_
      refine g_iconst (v := 0) C (by decide) dX7_readCommand_358 ?_
      refine g_putf C fl_X7_113 fp_5_10 rfl rfl (rfl) (rfl) dX7_readCommand_359 ?_
      refine g_genR (cw_T_put h28 (by decide)) (fun w39 h39 => ?_)
      have htx := cw_tx_h h39 htx (by decide)
      refine g_vret C F dX7_readCommand_362 ?_
      have hcm := cw_cmd_no (len := len) (cw_b0.mp c_21)
      refine ⟨rfl, by rw [cw_T13 h39, hcm], by rw [cw_T14 h39, hcm], by rw [cw_Tk h39 (by decide)]; simp [gw_set], by rw [hcm, cw_Tk h39 (by decide)]; simp [gw_set], (fun q => absurd (by unfold cw_isL; rcases q with q | q | q | q | q | q <;> rw [q] <;> decide) (cw_b0.mp c_21)), (fun q => absurd (by unfold cw_isL; rcases q with q | q <;> rw [q] <;> decide) (cw_b0.mp c_21)), fun q hq => ?_, fun k hk => ?_⟩
      · rw [cw_Tq h39 hq]; funext j; simp [gw_set, hq]
      · rw [cw_Tk h39 (by omega)]
        simp only [gw_set]
        simp [show k ≠ 9 by omega, show k ≠ 10 by omega, show k ≠ 11 by omega, show k ≠ 12 by omega]
    · have hsx_57 : (tx p) = 113 := gw_toInt hsw_57
      refine g_tabIn (off := 300) (tgt := 357) C (by omega) (by omega) (by rw [hsw_57]; rfl) (by decide) dX7_readCommand_57 ?_
      refine g_aload_n C rfl dX7_readCommand_357 ?_
      refine g_iconst (v := 0) C (by decide) dX7_readCommand_358 ?_
      refine g_putf C fl_X7_113 fp_5_10 rfl rfl (rfl) (rfl) dX7_readCommand_359 ?_
      refine g_genR (cw_T_put h28 (by decide)) (fun w40 h40 => ?_)
      have htx := cw_tx_h h40 htx (by decide)
      refine g_vret C F dX7_readCommand_362 ?_
      have hcm := cw_cmd_no (len := len) (cw_b0.mp c_21)
      refine ⟨rfl, by rw [cw_T13 h40, hcm], by rw [cw_T14 h40, hcm], by rw [cw_Tk h40 (by decide)]; simp [gw_set], by rw [hcm, cw_Tk h40 (by decide)]; simp [gw_set], (fun q => absurd (by unfold cw_isL; rcases q with q | q | q | q | q | q <;> rw [q] <;> decide) (cw_b0.mp c_21)), (fun q => absurd (by unfold cw_isL; rcases q with q | q <;> rw [q] <;> decide) (cw_b0.mp c_21)), fun q hq => ?_, fun k hk => ?_⟩
      · rw [cw_Tq h40 hq]; funext j; simp [gw_set, hq]
      · rw [cw_Tk h40 (by omega)]
        simp only [gw_set]
        simp [show k ≠ 9 by omega, show k ≠ 10 by omega, show k ≠ 11 by omega, show k ≠ 12 by omega]
    · have hsx_57 : (tx p) = 114 := gw_toInt hsw_57
      refine g_tabIn (off := 214) (tgt := 271) C (by omega) (by omega) (by rw [hsw_57]; rfl) (by decide) dX7_readCommand_57 ?_
      exact absurd (by unfold cw_isL; rw [hsx_57]; decide) (cw_b0.mp c_21)
    · have hsx_57 : (tx p) = 115 := gw_toInt hsw_57
      refine g_tabIn (off := 141) (tgt := 198) C (by omega) (by omega) (by rw [hsw_57]; rfl) (by decide) dX7_readCommand_57 ?_
      exact absurd (by unfold cw_isL; rw [hsx_57]; decide) (cw_b0.mp c_21)
    · have hsx_57 : (tx p) = 116 := gw_toInt hsw_57
      refine g_tabIn (off := 214) (tgt := 271) C (by omega) (by omega) (by rw [hsw_57]; rfl) (by decide) dX7_readCommand_57 ?_
      exact absurd (by unfold cw_isL; rw [hsx_57]; decide) (cw_b0.mp c_21)
    · have hsx_57 : (tx p) = 117 := gw_toInt hsw_57
      refine g_tabIn (off := 289) (tgt := 346) C (by omega) (by omega) (by rw [hsw_57]; rfl) (by decide) dX7_readCommand_57 ?_
      exact absurd (by unfold cw_isL; rw [hsx_57]; decide) (cw_b0.mp c_21)

