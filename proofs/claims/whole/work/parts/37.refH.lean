set_option maxHeartbeats 8000000 in
set_option maxRecDepth 100000 in
theorem ok_X7_look (tx : Nat → Int32) (len : Nat) : gw_Ok yX7_goesThrough cX7_goesThrough 5 (some .int) sM 5 [.ref 0, .int 0] (fun w => cw_tx tx len w) (fun w vr w1 => vr = some (.int 0) ∧ w1 0 13 = nI (cw_parse tx len 120).2 ∧ w1 0 14 = cw_bi (cw_parse tx len 120).1 ∧ (∀ q, q ≠ 0 → w1 q = w q) ∧ ∀ k, (k < 9 ∨ 14 < k) → w1 0 k = w 0 k) := by
  refine gw_of (by decide) (Nat.le_of_ble_eq_true rfl) ?_
  intro X w h C F
  have htx := h
  have hl := htx.2.1
  refine g_aload_n C rfl dX7_goesThrough_0 ?_
  refine g_iconst (v := 0) C (by decide) dX7_goesThrough_1 ?_
  refine g_putf C fl_X7_181 fp_5_13 rfl rfl (rfl) (rfl) dX7_goesThrough_2 ?_
  refine g_aload_n C rfl dX7_goesThrough_5 ?_
  refine g_iconst (v := 0) C (by decide) dX7_goesThrough_6 ?_
  refine g_putf C fl_X7_177 fp_5_14 rfl rfl (rfl) (rfl) dX7_goesThrough_7 ?_
  refine g_genR (show _ = cw_T w (false, 0) from rfl) (fun w5 h5 => ?_)
  refine g_aload_n C rfl dX7_goesThrough_10 ?_
  refine g_bipush (v := 67) C (by decide) dX7_goesThrough_11 ?_
  refine g_bipush (v := 67) C (by decide) dX7_goesThrough_13 ?_
  refine g_call C (ok_X7_takesOne _ _ tx len (false, 0)) my_X7_takesOne vi_X7_184 (by decide) ⟨Nat.le_refl _, Nat.le_refl _⟩ rfl rfl rfl (Nat.le_of_ble_eq_true rfl) dX7_goesThrough_15 rfl (⟨cw_T13 h5, cw_T14 h5, cw_Ttx h5 htx, Nat.zero_le _⟩) (fun v_15 w_15 hp_15 => ?_)
  obtain ⟨rfl, h_15⟩ := hp_15
  have h15 := cw_Tc h5 h_15
  refine g_istore_n C (by decide) dX7_goesThrough_18 ?_
  refine g_iconst (v := 0) C (by decide) dX7_goesThrough_19 ?_
  refine g_istore_n C (by decide) dX7_goesThrough_20 ?_
  refine g_sub rfl (g_for (α := cw_sg) 120 (fun i9 x => [(0, .ref 0), (1, .int 0), (3, .int 0)]) (fun i9 x w1 => x = cw_parse tx len i9 ∧ w1 0 13 = nI (x).2 ∧ w1 0 14 = cw_bi (x).1 ∧ cw_tx tx len w1 ∧ (∀ q, q ≠ 0 → w1 q = w q) ∧ ∀ k, (k < 9 ∨ 14 < k) → w1 0 k = w 0 k) 0 (cw_tst tx len) _ (Nat.zero_le _) (⟨rfl, cw_T13 h15, cw_T14 h15, cw_Ttx h15 htx, fun q hq => cw_Tq h15 hq, fun k hk => cw_Tk h15 (by omega)⟩) (fun i9 x w1 hi1 hR1 ih1 => ?_) (fun x w1 hR1 => ?_))
  · obtain ⟨hx9, g13, g14, gtx, gq, gk⟩ := hR1
    have hpb := cw_parse_b tx len hl i9
    rw [← hx9] at hpb
    refine g_aload_n C rfl dX7_goesThrough_21 ?_
    refine g_getf C fl_X7_177 rfl rfl dX7_goesThrough_22 ?_
    refine g_top g14 ?_
    refine g_if_ne (tgt := 93) C (by decide) dX7_goesThrough_25 (fun c_25 => ?_) (fun c_25 => ?_)
    · refine g_iload_n C rfl dX7_goesThrough_93 ?_
      refine g_iret C F dX7_goesThrough_94 ?_
      have hnd : ¬ (x.1 = false ∧ x.2 < len) := fun q => c_25 (by rw [q.1]; rfl)
      have hz : cw_parse tx len 120 = x := by rw [hx9]; all_goals (have := cw_parse_end tx len i9 (by rw [← hx9]; exact hnd) (120 - i9); rwa [show i9 + (120 - i9) = 120 by omega] at this)
      exact ⟨rfl, by rw [hz]; exact g13, by rw [hz]; exact g14, gq, gk⟩
    · refine g_aload_n C rfl dX7_goesThrough_28 ?_
      refine g_getf C fl_X7_181 rfl rfl dX7_goesThrough_29 ?_
      refine g_top g13 ?_
      refine g_aload_n C rfl dX7_goesThrough_32 ?_
      refine g_getf C fl_X7_171 rfl rfl dX7_goesThrough_33 ?_
      refine g_top gtx.1 ?_
      refine g_cmp_ge (tgt := 93) C (by decide) dX7_goesThrough_36 (fun c_36 => ?_) (fun c_36 => ?_)
      · refine g_iload_n C rfl dX7_goesThrough_93 ?_
        refine g_iret C F dX7_goesThrough_94 ?_
        have hnd : ¬ (x.1 = false ∧ x.2 < len) := fun q => nI_ge q.2 (by omega) c_36
        have hz : cw_parse tx len 120 = x := by rw [hx9]; all_goals (have := cw_parse_end tx len i9 (by rw [← hx9]; exact hnd) (120 - i9); rwa [show i9 + (120 - i9) = 120 by omega] at this)
        exact ⟨rfl, by rw [hz]; exact g13, by rw [hz]; exact g14, gq, gk⟩
      · have hlt : x.2 < len := by
          rcases Nat.lt_or_ge x.2 len with q | q
          · exact q
          · exact absurd (nI_le q (by omega)) c_36
        refine g_aload_n C rfl dX7_goesThrough_39 ?_
        refine g_call C (ok_X7_readCommand tx len x.2 hlt) my_X7_readCommand vi_X7_199 (by decide) ⟨Nat.le_refl _, Nat.le_refl _⟩ rfl rfl rfl (Nat.le_of_ble_eq_true rfl) dX7_goesThrough_40 rfl (⟨g13, by rw [g14, cw_bi_0 c_25], gtx⟩) (fun v_40 w_40 hp_40 => ?_)
        obtain ⟨rfl, a13, a14, a9, a10, a11, a12, aq, ak⟩ := hp_40
        refine g_iload_n C rfl dX7_goesThrough_43 ?_
        refine g_if_eq (tgt := 54) C (by decide) dX7_goesThrough_44 (fun c_44 => ?_) (fun c_44 => absurd (rfl) c_44)
        refine g_iconst (v := 0) C (by decide) dX7_goesThrough_54 ?_
        refine g_istore C (by decide) dX7_goesThrough_55 ?_
        refine g_iload_n C rfl dX7_goesThrough_57 ?_
        refine g_iload C rfl dX7_goesThrough_58 ?_
        refine g_bipush (v := (-9)) C (by decide) dX7_goesThrough_60 ?_
        refine g_cmp_eq (tgt := 83) C (by decide) dX7_goesThrough_62 (fun c_62 => absurd c_62 (by decide)) (fun c_62 => ?_)
        refine g_iload_n C rfl dX7_goesThrough_65 ?_
        refine g_if_eq (tgt := 87) C (by decide) dX7_goesThrough_66 (fun c_66 => ?_) (fun c_66 => absurd (rfl) c_66)
        refine g_iconst (v := 0) C (by decide) dX7_goesThrough_87 ?_
        refine g_iadd C dX7_goesThrough_88 ?_
        refine g_istore_n C (by decide) dX7_goesThrough_89 ?_
        refine g_goto (tgt := 21) C (by decide) dX7_goesThrough_90 ?_
        exact g_sub rfl (ih1 _ _ ⟨by rw [cw_parse_1, ← hx9]; exact (cw_it ⟨cw_bi_0 c_25, hlt⟩).symm, a13, a14, ⟨(ak 8 (by omega)).trans gtx.1, gtx.2.1, fun z hz => by rw [aq 5 (by decide)]; exact gtx.2.2 z hz⟩, fun q hq => (aq q hq).trans (gq q hq), fun k hk => (ak k hk).trans (gk k hk)⟩)
  obtain ⟨hx9, g13, g14, gtx, gq, gk⟩ := hR1
  have hpb := cw_parse_b tx len hl 120
  rw [← hx9] at hpb
  have hfin : ¬ (x.1 = false ∧ x.2 < len) := fun q => by have := hpb.2.2 q.1; omega
  refine g_aload_n C rfl dX7_goesThrough_21 ?_
  refine g_getf C fl_X7_177 rfl rfl dX7_goesThrough_22 ?_
  refine g_top g14 ?_
  refine g_if_ne (tgt := 93) C (by decide) dX7_goesThrough_25 (fun c_25 => ?_) (fun c_25 => ?_)
  · refine g_iload_n C rfl dX7_goesThrough_93 ?_
    refine g_iret C F dX7_goesThrough_94 ?_
    have hnd : ¬ (x.1 = false ∧ x.2 < len) := fun q => c_25 (by rw [q.1]; rfl)
    have hz : cw_parse tx len 120 = x := by rw [hx9]; all_goals (have := cw_parse_end tx len 120 (by rw [← hx9]; exact hnd) (120 - 120); rwa [show 120 + (120 - 120) = 120 by omega] at this)
    exact ⟨rfl, by rw [hz]; exact g13, by rw [hz]; exact g14, gq, gk⟩
  · refine g_aload_n C rfl dX7_goesThrough_28 ?_
    refine g_getf C fl_X7_181 rfl rfl dX7_goesThrough_29 ?_
    refine g_top g13 ?_
    refine g_aload_n C rfl dX7_goesThrough_32 ?_
    refine g_getf C fl_X7_171 rfl rfl dX7_goesThrough_33 ?_
    refine g_top gtx.1 ?_
    refine g_cmp_ge (tgt := 93) C (by decide) dX7_goesThrough_36 (fun c_36 => ?_) (fun c_36 => absurd (nI_le (Nat.not_lt.mp (fun q => hfin ⟨cw_bi_0 c_25, q⟩)) (by omega)) c_36)
    refine g_iload_n C rfl dX7_goesThrough_93 ?_
    refine g_iret C F dX7_goesThrough_94 ?_
    have hnd : ¬ (x.1 = false ∧ x.2 < len) := hfin
    have hz : cw_parse tx len 120 = x := by rw [hx9]; all_goals (have := cw_parse_end tx len 120 (by rw [← hx9]; exact hnd) (120 - 120); rwa [show 120 + (120 - 120) = 120 by omega] at this)
    exact ⟨rfl, by rw [hz]; exact g13, by rw [hz]; exact g14, gq, gk⟩

set_option maxHeartbeats 8000000 in
set_option maxRecDepth 100000 in
theorem ok_X7_run (tx : Nat → Int32) (len : Nat) (hok : (cw_parse tx len 120).1 = false) : gw_Ok yX7_goesThrough cX7_goesThrough 5 (some .int) sM 7 [.ref 0, .int 1] (fun w => cw_tx tx len w ∧ cw_nf (w 1) = cw_new) (fun w vr w1 => vr = some (.int (cw_run tx len 120).2.2) ∧ cw_nf (w1 1) = cw_nf (cw_run tx len 120).2.1 ∧ (∀ q, q ≠ 0 → q ≠ 1 → w1 q = w q) ∧ ∀ k, (k < 9 ∨ 14 < k) → w1 0 k = w 0 k) := by
  refine gw_of (by decide) (Nat.le_of_ble_eq_true rfl) ?_
  intro X w h C F
  obtain ⟨htx, hnew⟩ := h
  have hl := htx.2.1
  refine g_aload_n C rfl dX7_goesThrough_0 ?_
  refine g_iconst (v := 0) C (by decide) dX7_goesThrough_1 ?_
  refine g_putf C fl_X7_181 fp_5_13 rfl rfl (rfl) (rfl) dX7_goesThrough_2 ?_
  refine g_aload_n C rfl dX7_goesThrough_5 ?_
  refine g_iconst (v := 0) C (by decide) dX7_goesThrough_6 ?_
  refine g_putf C fl_X7_177 fp_5_14 rfl rfl (rfl) (rfl) dX7_goesThrough_7 ?_
  refine g_genR (show _ = cw_T w (false, 0) from rfl) (fun w5 h5 => ?_)
  refine g_aload_n C rfl dX7_goesThrough_10 ?_
  refine g_bipush (v := 67) C (by decide) dX7_goesThrough_11 ?_
  refine g_bipush (v := 67) C (by decide) dX7_goesThrough_13 ?_
  refine g_call C (ok_X7_takesOne _ _ tx len (false, 0)) my_X7_takesOne vi_X7_184 (by decide) ⟨Nat.le_refl _, Nat.le_refl _⟩ rfl rfl rfl (Nat.le_of_ble_eq_true rfl) dX7_goesThrough_15 rfl (⟨cw_T13 h5, cw_T14 h5, cw_Ttx h5 htx, Nat.zero_le _⟩) (fun v_15 w_15 hp_15 => ?_)
  obtain ⟨rfl, h_15⟩ := hp_15
  have h15 := cw_Tc h5 h_15
  refine g_istore_n C (by decide) dX7_goesThrough_18 ?_
  refine g_iconst (v := 0) C (by decide) dX7_goesThrough_19 ?_
  refine g_istore_n C (by decide) dX7_goesThrough_20 ?_
  refine g_sub rfl (g_for (α := cw_D) 120 (fun i9 x => [(0, .ref 0), (1, .int 1), (3, .int (x).2.2)]) (fun i9 x w1 => x = cw_run tx len i9 ∧ w1 0 13 = nI (x).1.2 ∧ w1 0 14 = cw_bi (x).1.1 ∧ cw_tx tx len w1 ∧ cw_nf (w1 1) = cw_nf (x).2.1 ∧ (∀ q, q ≠ 0 → q ≠ 1 → w1 q = w q) ∧ ∀ k, (k < 9 ∨ 14 < k) → w1 0 k = w 0 k) 0 (cw_tst tx len, cw_new, 0) _ (Nat.zero_le _) (⟨rfl, cw_T13 h15, cw_T14 h15, cw_Ttx h15 htx, by rw [cw_Tq h15 (by decide)]; exact hnew.trans cw_nf_new.symm, fun q hq _ => cw_Tq h15 hq, fun k hk => cw_Tk h15 (by omega)⟩) (fun i9 x w1 hi1 hR1 ih1 => ?_) (fun x w1 hR1 => ?_))
  · obtain ⟨hx9, g13, g14, gtx, gn, gq, gk⟩ := hR1
    have hpb := cw_parse_b tx len hl i9
    rw [← cw_run_parse, ← hx9] at hpb
    refine g_aload_n C rfl dX7_goesThrough_21 ?_
    refine g_getf C fl_X7_177 rfl rfl dX7_goesThrough_22 ?_
    refine g_top g14 ?_
    refine g_if_ne (tgt := 93) C (by decide) dX7_goesThrough_25 (fun c_25 => ?_) (fun c_25 => ?_)
    · refine g_iload_n C rfl dX7_goesThrough_93 ?_
      refine g_iret C F dX7_goesThrough_94 ?_
      have hnd : ¬ (x.1.1 = false ∧ x.1.2 < len) := fun q => c_25 (by rw [q.1]; rfl)
      have hz : cw_run tx len 120 = x := by rw [hx9]; all_goals (have := cw_run_end tx len i9 (by rw [← cw_run_parse, ← hx9]; exact hnd) (120 - i9); rwa [show i9 + (120 - i9) = 120 by omega] at this)
      exact ⟨by rw [hz], by rw [hz]; exact gn, gq, gk⟩
    · refine g_aload_n C rfl dX7_goesThrough_28 ?_
      refine g_getf C fl_X7_181 rfl rfl dX7_goesThrough_29 ?_
      refine g_top g13 ?_
      refine g_aload_n C rfl dX7_goesThrough_32 ?_
      refine g_getf C fl_X7_171 rfl rfl dX7_goesThrough_33 ?_
      refine g_top gtx.1 ?_
      refine g_cmp_ge (tgt := 93) C (by decide) dX7_goesThrough_36 (fun c_36 => ?_) (fun c_36 => ?_)
      · refine g_iload_n C rfl dX7_goesThrough_93 ?_
        refine g_iret C F dX7_goesThrough_94 ?_
        have hnd : ¬ (x.1.1 = false ∧ x.1.2 < len) := fun q => nI_ge q.2 (by omega) c_36
        have hz : cw_run tx len 120 = x := by rw [hx9]; all_goals (have := cw_run_end tx len i9 (by rw [← cw_run_parse, ← hx9]; exact hnd) (120 - i9); rwa [show i9 + (120 - i9) = 120 by omega] at this)
        exact ⟨by rw [hz], by rw [hz]; exact gn, gq, gk⟩
      · have hlt : x.1.2 < len := by
          rcases Nat.lt_or_ge x.1.2 len with q | q
          · exact q
          · exact absurd (nI_le q (by omega)) c_36
        refine g_aload_n C rfl dX7_goesThrough_39 ?_
        refine g_call C (ok_X7_readCommand tx len x.1.2 hlt) my_X7_readCommand vi_X7_199 (by decide) ⟨Nat.le_refl _, Nat.le_refl _⟩ rfl rfl rfl (Nat.le_of_ble_eq_true rfl) dX7_goesThrough_40 rfl (⟨g13, by rw [g14, cw_bi_0 c_25], gtx⟩) (fun v_40 w_40 hp_40 => ?_)
        obtain ⟨rfl, a13, a14, a9, a10, a11, a12, aq, ak⟩ := hp_40
        refine g_iload_n C rfl dX7_goesThrough_43 ?_
        refine g_if_eq (tgt := 54) C (by decide) dX7_goesThrough_44 (fun c_44 => absurd c_44 (by decide)) (fun c_44 => ?_)
        refine g_aload_n C rfl dX7_goesThrough_47 ?_
        have hq9 : x.1.1 = false ∧ x.1.2 < len := ⟨cw_bi_0 c_25, hlt⟩
        have hIr := cw_run_I tx len hok i9 (by omega)
        rw [← hx9] at hIr
        have e1 : cw_nf (w_40 1) = cw_nf x.2.1 := by rw [aq 1 (by decide)]; exact gn
        have ok1 : (cw_parse tx len (i9 + 1)).1 = false := cw_parse_ok tx len (i9 + 1) (119 - i9) (by rw [show i9 + 1 + (119 - i9) = 120 by omega]; exact hok)
        have ok2 : (cw_cmd tx len x.1.2).1.1 = false := by rw [cw_parse_1, ← cw_run_parse, ← hx9, cw_pst, cw_it hq9] at ok1; exact ok1
        have h115 : tx x.1.2 = 115 → cw_isW (cw_cmd tx len x.1.2).2.1 := fun z => (cw_cmd_s z ok2).1
        have hBr : cw_B (180 * i9) (20 * i9 + 20) := ⟨by omega, by omega⟩
        refine g_call C (ok_X7_does (tx x.1.2) (w_40 0 10) (w_40 0 11) (w_40 0 12) (cw_I_cg hIr e1) hBr (fun z => by rw [a10]; exact h115 z)) my_X7_does vi_X7_202 (by decide) ⟨Nat.le_refl _, Nat.le_refl _⟩ rfl rfl rfl (Nat.le_of_ble_eq_true rfl) dX7_goesThrough_48 rfl (⟨rfl, a9, rfl, rfl, rfl⟩) (fun v_48 w_48 hp_48 => ?_)
        obtain ⟨rfl, s48, h48, hn48⟩ := hp_48
        have hdd : cw_does (w_40 1) (tx x.1.2) (w_40 0 10) (w_40 0 11) (w_40 0 12) = cw_does (w_40 1) (tx x.1.2) (cw_cmd tx len x.1.2).2.1 (cw_cmd tx len x.1.2).2.2.1 (cw_cmd tx len x.1.2).2.2.2 := by rw [a10]; exact cw_does_use a11 a12
        have hcg := cw_does_cg hIr hBr e1 (tx x.1.2) (cw_cmd tx len x.1.2).2.1 (cw_cmd tx len x.1.2).2.2.1 (cw_cmd tx len x.1.2).2.2.2 h115
        rw [hdd] at hn48
        refine g_top (show _ = (cw_dcm tx len x).1 by rw [hdd]; exact hcg.1) ?_
        refine g_goto (tgt := 55) C (by decide) dX7_goesThrough_51 ?_
        refine g_istore C (by decide) dX7_goesThrough_55 ?_
        refine g_iload_n C rfl dX7_goesThrough_57 ?_
        refine g_iload C rfl dX7_goesThrough_58 ?_
        refine g_bipush (v := (-9)) C (by decide) dX7_goesThrough_60 ?_
        refine g_cmp_eq (tgt := 83) C (by decide) dX7_goesThrough_62 (fun c_62 => ?_) (fun c_62 => ?_)
        · refine g_iconst (v := 1) C (by decide) dX7_goesThrough_83 ?_
          refine g_goto (tgt := 88) C (by decide) dX7_goesThrough_84 ?_
          refine g_iadd C dX7_goesThrough_88 ?_
          refine g_istore_n C (by decide) dX7_goesThrough_89 ?_
          refine g_goto (tgt := 21) C (by decide) dX7_goesThrough_90 ?_
          have hst : cw_run tx len (i9 + 1) = ((cw_cmd tx len x.1.2).1, cw_nf (cw_dcm tx len x).2, x.2.2 + cw_left (cw_dcm tx len x).1 (tx x.1.2)) := by rw [cw_run_1, ← hx9, cw_dst, cw_it hq9]
          have hlf : cw_left (cw_dcm tx len x).1 (tx x.1.2) = 1 := by rw [cw_left, cw_b1 (Or.inl c_62)]
          rw [hlf] at hst
          exact g_sub rfl (ih1 _ _ ⟨hst.symm, (hr_0 h48).trans a13, (hr_0 h48).trans a14, ⟨(hr_0 h48).trans ((ak 8 (by omega)).trans gtx.1), gtx.2.1, fun z hz => by rw [hr_q h48 (by decide), aq 5 (by decide)]; exact gtx.2.2 z hz⟩, by rw [hr_1 h48, hn48, cw_nf_nf]; exact hcg.2, fun q hq hq1 => (hr_q h48 hq1).trans ((aq q hq).trans (gq q hq hq1)), fun k hk => (hr_0 h48).trans ((ak k hk).trans (gk k hk))⟩)
        · refine g_iload_n C rfl dX7_goesThrough_65 ?_
          refine g_if_eq (tgt := 87) C (by decide) dX7_goesThrough_66 (fun c_66 => absurd c_66 (by decide)) (fun c_66 => ?_)
          refine g_aload_n C rfl dX7_goesThrough_69 ?_
          refine g_getf C fl_X7_110 rfl rfl dX7_goesThrough_70 ?_
          refine g_top ((hr_0 h48).trans a9) ?_
          refine g_bipush (v := 116) C (by decide) dX7_goesThrough_73 ?_
          refine g_cmp_ne (tgt := 87) C (by decide) dX7_goesThrough_75 (fun c_75 => ?_) (fun c_75 => ?_)
          · refine g_iconst (v := 0) C (by decide) dX7_goesThrough_87 ?_
            refine g_iadd C dX7_goesThrough_88 ?_
            refine g_istore_n C (by decide) dX7_goesThrough_89 ?_
            refine g_goto (tgt := 21) C (by decide) dX7_goesThrough_90 ?_
            have hst : cw_run tx len (i9 + 1) = ((cw_cmd tx len x.1.2).1, cw_nf (cw_dcm tx len x).2, x.2.2 + cw_left (cw_dcm tx len x).1 (tx x.1.2)) := by rw [cw_run_1, ← hx9, cw_dst, cw_it hq9]
            have hlf : cw_left (cw_dcm tx len x).1 (tx x.1.2) = 0 := by rw [cw_left, cw_bf (fun q => q.elim c_62 (fun z => c_75 z.1))]
            rw [hlf] at hst
            exact g_sub rfl (ih1 _ _ ⟨hst.symm, (hr_0 h48).trans a13, (hr_0 h48).trans a14, ⟨(hr_0 h48).trans ((ak 8 (by omega)).trans gtx.1), gtx.2.1, fun z hz => by rw [hr_q h48 (by decide), aq 5 (by decide)]; exact gtx.2.2 z hz⟩, by rw [hr_1 h48, hn48, cw_nf_nf]; exact hcg.2, fun q hq hq1 => (hr_q h48 hq1).trans ((aq q hq).trans (gq q hq hq1)), fun k hk => (hr_0 h48).trans ((ak k hk).trans (gk k hk))⟩)
          · refine g_iload C rfl dX7_goesThrough_78 ?_
            refine g_if_le (tgt := 87) C (by decide) dX7_goesThrough_80 (fun c_80 => ?_) (fun c_80 => ?_)
            · refine g_iconst (v := 0) C (by decide) dX7_goesThrough_87 ?_
              refine g_iadd C dX7_goesThrough_88 ?_
              refine g_istore_n C (by decide) dX7_goesThrough_89 ?_
              refine g_goto (tgt := 21) C (by decide) dX7_goesThrough_90 ?_
              have hst : cw_run tx len (i9 + 1) = ((cw_cmd tx len x.1.2).1, cw_nf (cw_dcm tx len x).2, x.2.2 + cw_left (cw_dcm tx len x).1 (tx x.1.2)) := by rw [cw_run_1, ← hx9, cw_dst, cw_it hq9]
              have hlf : cw_left (cw_dcm tx len x).1 (tx x.1.2) = 0 := by rw [cw_left, cw_bf (fun q => q.elim c_62 (fun z => z.2 c_80))]
              rw [hlf] at hst
              exact g_sub rfl (ih1 _ _ ⟨hst.symm, (hr_0 h48).trans a13, (hr_0 h48).trans a14, ⟨(hr_0 h48).trans ((ak 8 (by omega)).trans gtx.1), gtx.2.1, fun z hz => by rw [hr_q h48 (by decide), aq 5 (by decide)]; exact gtx.2.2 z hz⟩, by rw [hr_1 h48, hn48, cw_nf_nf]; exact hcg.2, fun q hq hq1 => (hr_q h48 hq1).trans ((aq q hq).trans (gq q hq hq1)), fun k hk => (hr_0 h48).trans ((ak k hk).trans (gk k hk))⟩)
            · refine g_iconst (v := 1) C (by decide) dX7_goesThrough_83 ?_
              refine g_goto (tgt := 88) C (by decide) dX7_goesThrough_84 ?_
              refine g_iadd C dX7_goesThrough_88 ?_
              refine g_istore_n C (by decide) dX7_goesThrough_89 ?_
              refine g_goto (tgt := 21) C (by decide) dX7_goesThrough_90 ?_
              have hst : cw_run tx len (i9 + 1) = ((cw_cmd tx len x.1.2).1, cw_nf (cw_dcm tx len x).2, x.2.2 + cw_left (cw_dcm tx len x).1 (tx x.1.2)) := by rw [cw_run_1, ← hx9, cw_dst, cw_it hq9]
              have hlf : cw_left (cw_dcm tx len x).1 (tx x.1.2) = 1 := by rw [cw_left, cw_b1 (Or.inr ⟨c_75, c_80⟩)]
              rw [hlf] at hst
              exact g_sub rfl (ih1 _ _ ⟨hst.symm, (hr_0 h48).trans a13, (hr_0 h48).trans a14, ⟨(hr_0 h48).trans ((ak 8 (by omega)).trans gtx.1), gtx.2.1, fun z hz => by rw [hr_q h48 (by decide), aq 5 (by decide)]; exact gtx.2.2 z hz⟩, by rw [hr_1 h48, hn48, cw_nf_nf]; exact hcg.2, fun q hq hq1 => (hr_q h48 hq1).trans ((aq q hq).trans (gq q hq hq1)), fun k hk => (hr_0 h48).trans ((ak k hk).trans (gk k hk))⟩)
  obtain ⟨hx9, g13, g14, gtx, gn, gq, gk⟩ := hR1
  have hpb := cw_parse_b tx len hl 120
  rw [← cw_run_parse, ← hx9] at hpb
  have hfin : ¬ (x.1.1 = false ∧ x.1.2 < len) := fun q => by have := hpb.2.2 q.1; omega
  refine g_aload_n C rfl dX7_goesThrough_21 ?_
  refine g_getf C fl_X7_177 rfl rfl dX7_goesThrough_22 ?_
  refine g_top g14 ?_
  refine g_if_ne (tgt := 93) C (by decide) dX7_goesThrough_25 (fun c_25 => ?_) (fun c_25 => ?_)
  · refine g_iload_n C rfl dX7_goesThrough_93 ?_
    refine g_iret C F dX7_goesThrough_94 ?_
    have hnd : ¬ (x.1.1 = false ∧ x.1.2 < len) := fun q => c_25 (by rw [q.1]; rfl)
    have hz : cw_run tx len 120 = x := by rw [hx9]; all_goals (have := cw_run_end tx len 120 (by rw [← cw_run_parse, ← hx9]; exact hnd) (120 - 120); rwa [show 120 + (120 - 120) = 120 by omega] at this)
    exact ⟨by rw [hz], by rw [hz]; exact gn, gq, gk⟩
  · refine g_aload_n C rfl dX7_goesThrough_28 ?_
    refine g_getf C fl_X7_181 rfl rfl dX7_goesThrough_29 ?_
    refine g_top g13 ?_
    refine g_aload_n C rfl dX7_goesThrough_32 ?_
    refine g_getf C fl_X7_171 rfl rfl dX7_goesThrough_33 ?_
    refine g_top gtx.1 ?_
    refine g_cmp_ge (tgt := 93) C (by decide) dX7_goesThrough_36 (fun c_36 => ?_) (fun c_36 => absurd (nI_le (Nat.not_lt.mp (fun q => hfin ⟨cw_bi_0 c_25, q⟩)) (by omega)) c_36)
    refine g_iload_n C rfl dX7_goesThrough_93 ?_
    refine g_iret C F dX7_goesThrough_94 ?_
    have hnd : ¬ (x.1.1 = false ∧ x.1.2 < len) := hfin
    have hz : cw_run tx len 120 = x := by rw [hx9]; all_goals (have := cw_run_end tx len 120 (by rw [← cw_run_parse, ← hx9]; exact hnd) (120 - 120); rwa [show 120 + (120 - 120) = 120 by omega] at this)
    exact ⟨by rw [hz], by rw [hz]; exact gn, gq, gk⟩

