theorem cw_isL_cmd (x : Int32) : (∃ i, i < 11 ∧ gw_cmd.getD i 0 = x) ↔ cw_isL x := by
  constructor
  · rintro ⟨i, hi, rfl⟩
    exact (by unfold cw_isL; decide +kernel : ∀ i : Fin 11, cw_isL (gw_cmd.getD i.val 0)) ⟨i, hi⟩
  · intro h
    unfold cw_isL at h
    rcases h with rfl | rfl | rfl | rfl | rfl | rfl | rfl | rfl | rfl | rfl | rfl
    · exact ⟨0, by decide, rfl⟩
    · exact ⟨1, by decide, rfl⟩
    · exact ⟨2, by decide, rfl⟩
    · exact ⟨3, by decide, rfl⟩
    · exact ⟨4, by decide, rfl⟩
    · exact ⟨5, by decide, rfl⟩
    · exact ⟨6, by decide, rfl⟩
    · exact ⟨7, by decide, rfl⟩
    · exact ⟨8, by decide, rfl⟩
    · exact ⟨9, by decide, rfl⟩
    · exact ⟨10, by decide, rfl⟩
theorem cw_TS.set5 {tx : Nat → Int32} {len : Nat} {g : cw_sg} {w : gw_M} (h : cw_TS tx len g w) (x : Int32) : cw_TS tx len g (gw_set w 0 5 x) :=
  ⟨h.1.set (by decide), by rw [gw_set_self, cw_upn _ _ (by decide)]; exact h.2.1, by rw [gw_set_self, cw_upn _ _ (by decide)]; exact h.2.2.1, h.2.2.2⟩

set_option maxHeartbeats 8000000 in
set_option maxRecDepth 100000 in
theorem ok_X5_readCommand {tx : Nat → Int32} {len : Nat} (hx : cw_ch tx len) (g : cw_sg) (hg : g.1 = false ∧ g.2 < len) : gw_Ok yX5_readCommand cX5_readCommand 2 (some .int) sT 5 [.ref 0] (fun w => cw_TS tx len g w) (fun w vr w1 => vr = some (.int (tx g.2)) ∧ cw_TS tx len (cw_cmd tx len g.2).1 w1 ∧ w1 1 = w 1 ∧ ((cw_cmd tx len g.2).1.1 = false → cw_isL (tx g.2) ∧ (tx g.2 = 115 → w1 2 0 = (cw_cmd tx len g.2).2.1 ∧ w1 2 1 = (cw_cmd tx len g.2).2.2.1) ∧ ∀ s, cw_does s (tx g.2) (w1 2 0) (w1 2 1) (w1 2 2) = cw_does s (tx g.2) (cw_cmd tx len g.2).2.1 (cw_cmd tx len g.2).2.2.1 (cw_cmd tx len g.2).2.2.2)) := by
  refine gw_of (by decide) (Nat.le_of_ble_eq_true rfl) ?_
  intro X w h C F
  have hg2 := hg.2
  obtain ⟨j, hj0, hj, hej⟩ := hx g.2 hg.2
  have h12 := h.1.2.1
  refine g_aload_n C rfl dX5_readCommand_0 ?_
  refine g_call C (ok_X5_nextSign (tx := tx) (len := len) g.2) my_X5_nextSign vi_X5_48 (by decide) ⟨Nat.le_refl _, Nat.le_refl _⟩ rfl rfl rfl (Nat.le_of_ble_eq_true rfl) dX5_readCommand_1 rfl (⟨h.1, h.2.1, h.2.2.2⟩) (fun v_1 w_1 hp_1 => ?_)
  obtain ⟨rfl, hw_1⟩ := hp_1
  have hw_1 := hw_1.symm; subst hw_1
  refine g_top (show _ = tx g.2 by rw [cw_sgn, cw_it hg.2]) ?_
  refine g_istore_n C (by decide) dX5_readCommand_4 ?_
  refine g_aload_n C rfl dX5_readCommand_5 ?_
  refine g_iconst (v := 0) C (by decide) dX5_readCommand_6 ?_
  refine g_putf C fl_X5_51 fp_3_5 rfl rfl (rfl) (rfl) dX5_readCommand_7 ?_
  refine g_aload_n C rfl dX5_readCommand_10 ?_
  refine g_iload_n C rfl dX5_readCommand_11 ?_
  refine g_iconst (v := (-1)) C (by decide) dX5_readCommand_12 ?_
  refine g_cmp_eq (tgt := 26) C (by decide) dX5_readCommand_13 (fun c_13 => absurd c_13 (fun q => by rw [hej] at q; exact absurd q (fun z => nI_pos (n := j) (by omega) (by rw [z]; decide)))) (fun c_13 => ?_)
  refine g_index (j := j) C rfl (by omega) (by rw [← hej]; rfl) (by decide) ⟨Nat.le_refl _, Nat.le_refl _⟩ (Nat.le_of_ble_eq_true rfl) dX5_readCommand_16 dX5_readCommand_18 dX5_readCommand_19 dX5_readCommand_20 (fun r hr => ?_)
  refine g_join1 31 (cw_b (¬ cw_isL (tx g.2))) (fun k_31 => ?_) ?_
  · refine g_if_ge (tgt := 30) C (by decide) dX5_readCommand_23 (fun c_23 => ?_) (fun c_23 => ?_)
    · refine g_iconst (v := 0) C (by decide) dX5_readCommand_30 ?_
      exact k_31 _ ((cw_bf (fun q => q ((cw_isL_cmd _).mp (Classical.byContradiction (fun z => absurd (Int32.not_lt.mpr c_23) (fun y => y (hr.mpr (by rw [← hej]; exact z)))))))).symm)
    · refine g_iconst (v := 1) C (by decide) dX5_readCommand_26 ?_
      refine g_goto (tgt := 31) C (by decide) dX5_readCommand_27 ?_
      exact k_31 _ ((cw_b1 (fun q => hr.mp (Int32.not_le.mp c_23) (by rw [← hej]; exact (cw_isL_cmd _).mpr q))).symm)
  refine g_putf C fl_X5_37 fp_3_3 rfl rfl (cw_bz _) (cw_fit (cw_b_r _)) dX5_readCommand_31 ?_
  refine g_aload_n C rfl dX5_readCommand_34 ?_
  refine g_getf C fl_X5_37 rfl rfl dX5_readCommand_35 ?_
  refine g_top (show _ = cw_b (¬ cw_isL (tx g.2)) by rw [gw_set_self, cw_ups]) ?_
  refine g_if_ne (tgt := 56) C (by decide) dX5_readCommand_38 (fun c_38 => ?_) (fun c_38 => ?_)
  · refine g_iload_n C rfl dX5_readCommand_56 ?_
    refine g_iret C F dX5_readCommand_57 ?_
    have hbd := cw_bn c_38
    rw [cw_b1 hbd]
    have hc := cw_cmd_no (tx := tx) (len := len) (p := g.2) hbd
    rw [hc]
    exact ⟨rfl, (h.set5 0).wr, by rw [gw_set_ne _ _ _ _ (by decide), gw_set_ne _ _ _ _ (by decide)], fun z => nomatch z⟩
  · have hbd := cw_b0.mp c_38
    have hL : cw_isL (tx g.2) := Classical.byContradiction hbd
    rw [cw_bf hbd]
    refine g_aload_n C rfl dX5_readCommand_41 ?_
    refine g_dup C rfl dX5_readCommand_42 ?_
    refine g_getf C fl_X5_41 rfl rfl dX5_readCommand_43 ?_
    refine g_top (show _ = nI g.2 by rw [gw_set_self, cw_upn _ _ (by decide)]; exact (h.set5 0).2.1) ?_
    refine g_iconst (v := 1) C (by decide) dX5_readCommand_46 ?_
    refine g_iadd C dX5_readCommand_47 ?_
    refine g_top (nI_1 g.2) ?_
    refine g_putf C fl_X5_41 fp_3_2 rfl rfl (rfl) (rfl) dX5_readCommand_48 ?_
    refine g_aload_n C rfl dX5_readCommand_51 ?_
    refine g_iload_n C rfl dX5_readCommand_52 ?_
    refine g_call C (ok_X5_readValues hx g.2 hL) my_X5_readValues vi_X5_62 (by decide) ⟨Nat.le_refl _, Nat.le_refl _⟩ rfl rfl rfl (Nat.le_of_ble_eq_true rfl) dX5_readCommand_53 rfl (⟨(h.set5 0).go hg.2, by rw [gw_set_self, cw_upn _ _ (by decide), gw_set_self, cw_upn _ _ (by decide), gw_set_self, cw_ups]; rfl⟩) (fun v_53 w_53 hp_53 => ?_)
    obtain ⟨rfl, hts53, h153, hd53⟩ := hp_53
    refine g_iload_n C rfl dX5_readCommand_56 ?_
    refine g_iret C F dX5_readCommand_57 ?_
    exact ⟨rfl, hts53, by rw [h153, gw_set_ne _ _ _ _ (by decide), gw_set_ne _ _ _ _ (by decide), gw_set_ne _ _ _ _ (by decide)], fun z => ⟨hL, hd53 z⟩⟩

set_option maxHeartbeats 8000000 in
set_option maxRecDepth 100000 in
theorem ok_X5_findError {tx : Nat → Int32} {len : Nat} (hx : cw_ch tx len) : gw_Ok yX5_findError cX5_findError 2 (some .int) sT 6 [.ref 0] (fun w => cw_TX tx len w) (fun w vr w1 => vr = some (.int (if (cw_parse tx len 120).1 = true then nI (cw_parse tx len 120).2 else -1)) ∧ cw_TX tx len w1 ∧ w1 1 = w 1) := by
  refine gw_of (by decide) (Nat.le_of_ble_eq_true rfl) ?_
  intro X w h C F
  have hl := h.2.1
  refine g_aload_n C rfl dX5_findError_0 ?_
  refine g_call C (ok_X5_startReading (tx := tx) (len := len)) my_X5_startReading vi_X5_27 (by decide) ⟨Nat.le_refl _, Nat.le_refl _⟩ rfl rfl rfl (Nat.le_of_ble_eq_true rfl) dX5_findError_1 rfl (h) (fun v_1 w_1 hp_1 => ?_)
  obtain ⟨rfl, hts1, h11⟩ := hp_1
  refine g_iconst (v := 0) C (by decide) dX5_findError_4 ?_
  refine g_istore_n C (by decide) dX5_findError_5 ?_
  refine g_sub rfl (g_for (α := cw_sg) 120 (fun i9 x => [(0, .ref 0), (1, .int (nI i9))]) (fun i9 x w1 => x = cw_parse tx len i9 ∧ cw_TS tx len x w1 ∧ w1 1 = w 1) 0 (cw_tst tx len) _ (Nat.zero_le _) (⟨rfl, hts1, h11⟩) (fun i9 x w1 hi1 hR1 ih1 => ?_) (fun x w1 hR1 => ?_))
  · obtain ⟨hx9, hts9, g1⟩ := hR1
    refine g_iload_n C rfl dX5_findError_6 ?_
    refine g_bipush (v := 120) C (by decide) dX5_findError_7 ?_
    refine g_cmp_ge (tgt := 30) C (by decide) dX5_findError_9 (fun c_9 => absurd c_9 (nI_ge hi1 (by decide))) (fun c_9 => ?_)
    refine g_aload_n C rfl dX5_findError_12 ?_
    refine g_call C (ok_X5_hasMore (tx := tx) (len := len) x) my_X5_hasMore vi_X5_30 (by decide) ⟨Nat.le_refl _, Nat.le_refl _⟩ rfl rfl rfl (Nat.le_of_ble_eq_true rfl) dX5_findError_13 rfl (hts9) (fun v_13 w_13 hp_13 => ?_)
    obtain ⟨rfl, hw_13⟩ := hp_13
    have hw_13 := hw_13.symm; subst hw_13
    refine g_if_eq (tgt := 30) C (by decide) dX5_findError_16 (fun c_16 => ?_) (fun c_16 => ?_)
    · refine g_aload_n C rfl dX5_findError_30 ?_
      refine g_getf C fl_X5_37 rfl rfl dX5_findError_31 ?_
      refine g_top hts9.2.2.1 ?_
      refine g_if_eq (tgt := 44) C (by decide) dX5_findError_34 (fun c_34 => ?_) (fun c_34 => ?_)
      · refine g_iconst (v := (-1)) C (by decide) dX5_findError_44 ?_
        refine g_iret C F dX5_findError_45 ?_
        have hnd : ¬ (x.1 = false ∧ x.2 < len) := cw_b0.mp c_16
        have hz : cw_parse tx len 120 = x := by rw [hx9]; all_goals (have := cw_parse_end tx len i9 (by rw [← hx9]; exact hnd) (120 - i9); rwa [show i9 + (120 - i9) = 120 by omega] at this)
        have hg1 : x.1 = false := cw_bi0 c_34
        refine ⟨?_, hts9.1, g1⟩
        rw [hz, hg1]; rfl
      · refine g_aload_n C rfl dX5_findError_37 ?_
        refine g_getf C fl_X5_41 rfl rfl dX5_findError_38 ?_
        refine g_top hts9.2.1 ?_
        refine g_goto (tgt := 45) C (by decide) dX5_findError_41 ?_
        refine g_iret C F dX5_findError_45 ?_
        have hnd : ¬ (x.1 = false ∧ x.2 < len) := cw_b0.mp c_16
        have hz : cw_parse tx len 120 = x := by rw [hx9]; all_goals (have := cw_parse_end tx len i9 (by rw [← hx9]; exact hnd) (120 - i9); rwa [show i9 + (120 - i9) = 120 by omega] at this)
        have hg1 : x.1 = true := by
          cases hq : x.1 with
          | true => rfl
          | false => exact absurd (by rw [hq]; rfl) c_34
        refine ⟨?_, hts9.1, g1⟩
        rw [hz, hg1]; rfl
    · have hq9 := cw_bn c_16
      refine g_aload_n C rfl dX5_findError_19 ?_
      refine g_call C (ok_X5_readCommand hx x hq9) my_X5_readCommand vi_X5_33 (by decide) ⟨Nat.le_refl _, Nat.le_refl _⟩ rfl rfl rfl (Nat.le_of_ble_eq_true rfl) dX5_findError_20 rfl (hts9) (fun v_20 w_20 hp_20 => ?_)
      obtain ⟨rfl, hts20, h120, hd20⟩ := hp_20
      refine g_pop C rfl dX5_findError_23 ?_
      refine g_iinc (v := nI (i9 + 1)) C rfl (nI_1 i9) (by decide) dX5_findError_24 ?_
      refine g_goto (tgt := 6) C (by decide) dX5_findError_27 ?_
      exact g_sub rfl (ih1 _ _ ⟨by rw [cw_parse_1, ← hx9]; exact (cw_it hq9).symm, hts20, h120.trans g1⟩)
  obtain ⟨hx9, hts9, g1⟩ := hR1
  have hpb := cw_parse_b tx len hl 120
  rw [← hx9] at hpb
  have hfin : ¬ (x.1 = false ∧ x.2 < len) := fun q => by have := hpb.2.2 q.1; omega
  refine g_iload_n C rfl dX5_findError_6 ?_
  refine g_bipush (v := 120) C (by decide) dX5_findError_7 ?_
  refine g_cmp_ge (tgt := 30) C (by decide) dX5_findError_9 (fun c_9 => ?_) (fun c_9 => absurd (by decide) c_9)
  refine g_aload_n C rfl dX5_findError_30 ?_
  refine g_getf C fl_X5_37 rfl rfl dX5_findError_31 ?_
  refine g_top hts9.2.2.1 ?_
  refine g_if_eq (tgt := 44) C (by decide) dX5_findError_34 (fun c_34 => ?_) (fun c_34 => ?_)
  · refine g_iconst (v := (-1)) C (by decide) dX5_findError_44 ?_
    refine g_iret C F dX5_findError_45 ?_
    have hnd : ¬ (x.1 = false ∧ x.2 < len) := hfin
    have hz : cw_parse tx len 120 = x := by rw [hx9]; all_goals (have := cw_parse_end tx len 120 (by rw [← hx9]; exact hnd) (120 - 120); rwa [show 120 + (120 - 120) = 120 by omega] at this)
    have hg1 : x.1 = false := cw_bi0 c_34
    refine ⟨?_, hts9.1, g1⟩
    rw [hz, hg1]; rfl
  · refine g_aload_n C rfl dX5_findError_37 ?_
    refine g_getf C fl_X5_41 rfl rfl dX5_findError_38 ?_
    refine g_top hts9.2.1 ?_
    refine g_goto (tgt := 45) C (by decide) dX5_findError_41 ?_
    refine g_iret C F dX5_findError_45 ?_
    have hnd : ¬ (x.1 = false ∧ x.2 < len) := hfin
    have hz : cw_parse tx len 120 = x := by rw [hx9]; all_goals (have := cw_parse_end tx len 120 (by rw [← hx9]; exact hnd) (120 - 120); rwa [show 120 + (120 - 120) = 120 by omega] at this)
    have hg1 : x.1 = true := by
      cases hq : x.1 with
      | true => rfl
      | false => exact absurd (by rw [hq]; rfl) c_34
    refine ⟨?_, hts9.1, g1⟩
    rw [hz, hg1]; rfl

theorem cw_wp3_lo (w w1 : gw_M) {q : Nat} (h : q < 3) : cw_wp 0 3 w w1 q = w1 q := by unfold cw_wp; rw [if_pos (by omega), Nat.sub_zero]
theorem cw_wp3_hi (w w1 : gw_M) {q : Nat} (h : 3 ≤ q) : cw_wp 0 3 w w1 q = w q := by unfold cw_wp; rw [if_neg (by omega)]
theorem cw_wp3_h (w w1 : gw_M) : cw_ws 3 (cw_wp 0 3 w w1) = cw_ws 3 w := by funext i; exact cw_wp3_hi _ _ (by omega)
theorem cw_TX.cgw {tx : Nat → Int32} {len : Nat} {w w1 : gw_M} (h : cw_TX tx len w) (h0 : w1 0 = w 0) (h1 : w1 1 = w 1) : cw_TX tx len w1 := ⟨by rw [h0]; exact h.1, h.2.1, fun i hi => by rw [h1]; exact h.2.2 i hi⟩
theorem cw_TS.cgw {tx : Nat → Int32} {len : Nat} {g : cw_sg} {w w1 : gw_M} (h : cw_TS tx len g w) (h0 : w1 0 = w 0) (h1 : w1 1 = w 1) : cw_TS tx len g w1 := ⟨h.1.cgw h0 h1, by rw [h0]; exact h.2.1, by rw [h0]; exact h.2.2.1, h.2.2.2⟩
theorem cw_wp3_self (w : gw_M) : cw_wp 0 3 w w = w := by
  funext j
  unfold cw_wp
  split
  · rw [Nat.sub_zero]
  · rfl

set_option maxHeartbeats 8000000 in
set_option maxRecDepth 100000 in
theorem ok_X5_build {tx : Nat → Int32} {len : Nat} (hx : cw_ch tx len) (hok : (cw_parse tx len 120).1 = false) : gw_Ok yX5_build cX5_build 5 (some .int) sTH 7 [.ref 0, .ref 3] (fun w => cw_TX tx len w ∧ cw_nf (ho (cw_ws 3 w)) = cw_new) (fun w vr w1 => vr = some (.int (cw_run tx len 120).2.2) ∧ cw_nf (ho (cw_ws 3 w1)) = cw_nf (cw_run tx len 120).2.1 ∧ cw_TX tx len w1 ∧ w1 1 = w 1) := by
  refine gw_of (by decide) (Nat.le_of_ble_eq_true rfl) ?_
  intro X w h C F
  obtain ⟨htx, hnew⟩ := h
  have hl := htx.2.1
  refine g_iconst (v := 0) C (by decide) dX5_build_0 ?_
  refine g_istore_n C (by decide) dX5_build_1 ?_
  refine g_aload_n C rfl dX5_build_2 ?_
  refine g_callW C cw_emb_T (ok_X5_startReading (tx := tx) (len := len)) my_X5_startReading vi_X5_27 (by decide) ⟨Nat.le_refl _, Nat.le_refl _⟩ rfl (rfl) rfl (cw_wp 0 3 w) (fun w1 i hi => by have e := cw_wp_i (b := 0) (n := 3) (w := w) w1 i hi; rwa [Nat.zero_add] at e) (fun w1 j hj h => cw_wp_o w1 j hj (fun i hi => by rw [Nat.zero_add]; exact h i hi)) (w) (fun i _ => rfl) (Nat.le_of_ble_eq_true rfl) dX5_build_3 rfl (htx) (fun v_3 w_3 hp_3 => ?_)
  obtain ⟨rfl, hts3, h13⟩ := hp_3
  refine g_iconst (v := 0) C (by decide) dX5_build_6 ?_
  refine g_istore_n C (by decide) dX5_build_7 ?_
  refine g_sub rfl (g_for (α := cw_D) 120 (fun i9 x => [(0, .ref 0), (1, .ref 3), (2, .int (x).2.2), (3, .int (nI i9))]) (fun i9 x w1 => x = cw_run tx len i9 ∧ cw_TS tx len (x).1 w1 ∧ cw_nf (ho (cw_ws 3 w1)) = cw_nf (x).2.1 ∧ w1 1 = w 1) 0 (cw_tst tx len, cw_new, 0) _ (Nat.zero_le _) (⟨rfl, hts3.cgw (cw_wp3_lo _ _ (by decide)) (cw_wp3_lo _ _ (by decide)), by rw [cw_wp3_h, hnew]; exact cw_nf_new.symm, (cw_wp3_lo _ _ (by decide)).trans h13⟩) (fun i9 x w1 hi1 hR1 ih1 => ?_) (fun x w1 hR1 => ?_))
  · obtain ⟨hx9, hts9, hn9, g1⟩ := hR1
    obtain ⟨w9, ew9⟩ : ∃ z, z = w1 := ⟨_, rfl⟩
    rw [← ew9] at hts9 hn9 g1 ⊢
    refine g_iload_n C rfl dX5_build_8 ?_
    refine g_bipush (v := 120) C (by decide) dX5_build_9 ?_
    refine g_cmp_ge (tgt := 53) C (by decide) dX5_build_11 (fun c_11 => absurd c_11 (nI_ge hi1 (by decide))) (fun c_11 => ?_)
    refine g_aload_n C rfl dX5_build_14 ?_
    refine g_callW C cw_emb_T (ok_X5_hasMore (tx := tx) (len := len) x.1) my_X5_hasMore vi_X5_30 (by decide) ⟨Nat.le_refl _, Nat.le_refl _⟩ rfl (rfl) rfl (cw_wp 0 3 w9) (fun w1 i hi => by have e := cw_wp_i (b := 0) (n := 3) (w := w9) w1 i hi; rwa [Nat.zero_add] at e) (fun w1 j hj h => cw_wp_o w1 j hj (fun i hi => by rw [Nat.zero_add]; exact h i hi)) (w9) (fun i _ => rfl) (Nat.le_of_ble_eq_true rfl) dX5_build_15 rfl (hts9) (fun v_15 w_15 hp_15 => ?_)
    obtain ⟨rfl, hw_15⟩ := hp_15
    have hw_15 := hw_15.symm; subst hw_15
    rw [cw_wp3_self]
    refine g_if_eq (tgt := 53) C (by decide) dX5_build_18 (fun c_18 => ?_) (fun c_18 => ?_)
    · refine g_iload_n C rfl dX5_build_53 ?_
      refine g_iret C F dX5_build_54 ?_
      have hnd : ¬ (x.1.1 = false ∧ x.1.2 < len) := cw_b0.mp c_18
      have hz : cw_run tx len 120 = x := by rw [hx9]; all_goals (have := cw_run_end tx len i9 (by rw [← cw_run_parse, ← hx9]; exact hnd) (120 - i9); rwa [show i9 + (120 - i9) = 120 by omega] at this)
      rw [hz]
      exact ⟨rfl, hn9, hts9.1, g1⟩
    · have hq9 := cw_bn c_18
      refine g_aload_n C rfl dX5_build_21 ?_
      refine g_callW C cw_emb_T (ok_X5_readCommand hx x.1 hq9) my_X5_readCommand vi_X5_33 (by decide) ⟨Nat.le_refl _, Nat.le_refl _⟩ rfl (rfl) rfl (cw_wp 0 3 w9) (fun w1 i hi => by have e := cw_wp_i (b := 0) (n := 3) (w := w9) w1 i hi; rwa [Nat.zero_add] at e) (fun w1 j hj h => cw_wp_o w1 j hj (fun i hi => by rw [Nat.zero_add]; exact h i hi)) (w9) (fun i _ => rfl) (Nat.le_of_ble_eq_true rfl) dX5_build_22 rfl (hts9) (fun v_22 w_22 hp_22 => ?_)
      obtain ⟨rfl, hts22, h122, hd22⟩ := hp_22
      have hts22' : cw_TS tx len (cw_cmd tx len x.1.2).1 (cw_wp 0 3 w9 w_22) := hts22.cgw (cw_wp3_lo _ _ (by decide)) (cw_wp3_lo _ _ (by decide))
      have ok1 : (cw_parse tx len (i9 + 1)).1 = false := cw_parse_ok tx len (i9 + 1) (119 - i9) (by rw [show i9 + 1 + (119 - i9) = 120 by omega]; exact hok)
      have ok2 : (cw_cmd tx len x.1.2).1.1 = false := by rw [cw_parse_1, ← cw_run_parse, ← hx9, cw_pst, cw_it hq9] at ok1; exact ok1
      obtain ⟨hL, h15, hdo⟩ := hd22 ok2
      have hIr := cw_run_I tx len hok i9 (by omega)
      rw [← hx9] at hIr
      have hBr : cw_B (180 * i9) (20 * i9 + 20) := ⟨by omega, by omega⟩
      have h115 : tx x.1.2 = 115 → cw_isW (w_22 2 0) ∧ cw_r 0 1 (w_22 2 1) := fun z => by
        obtain ⟨z0, z1⟩ := h15 z
        rw [z0, z1]
        exact cw_cmd_s z ok2
      have hdd : cw_does x.2.1 (tx x.1.2) (w_22 2 0) (w_22 2 1) (w_22 2 2) = cw_dcm tx len x := hdo _
      refine g_istore C (by decide) dX5_build_25 ?_
      refine g_aload_n C rfl dX5_build_27 ?_
      refine g_getf C fl_X5_37 rfl rfl dX5_build_28 ?_
      refine g_top (hts22'.2.2.1.trans (congrArg cw_bi ok2)) ?_
      refine g_if_ne (tgt := 47) C (by decide) dX5_build_31 (fun c_31 => absurd c_31 (by decide)) (fun c_31 => ?_)
      refine g_aload_n C rfl dX5_build_34 ?_
      refine g_aload_n C rfl dX5_build_35 ?_
      refine g_iload C rfl dX5_build_36 ?_
      refine g_call C (ok_X5_isDone (tx x.1.2) (w_22 2 0) (w_22 2 1) (w_22 2 2) x.2.1 hIr hBr hL h115) my_X5_isDone vi_X5_44 (by decide) ⟨Nat.le_refl _, Nat.le_refl _⟩ rfl rfl rfl (Nat.le_of_ble_eq_true rfl) dX5_build_38 rfl (⟨by rw [cw_wp3_lo _ _ (by decide)], by rw [cw_wp3_lo _ _ (by decide)], by rw [cw_wp3_lo _ _ (by decide)], by rw [cw_wp3_h]; exact hn9⟩) (fun v_38 w_38 hp_38 => ?_)
      obtain ⟨rfl, hn38, hf38⟩ := hp_38
      rw [hdd]
      refine g_if_ne (tgt := 47) C (by decide) dX5_build_41 (fun c_41 => ?_) (fun c_41 => ?_)
      · refine g_iinc (v := nI (i9 + 1)) C rfl (nI_1 i9) (by decide) dX5_build_47 ?_
        refine g_goto (tgt := 8) C (by decide) dX5_build_50 ?_
        have hst : cw_run tx len (i9 + 1) = ((cw_cmd tx len x.1.2).1, cw_nf (cw_dcm tx len x).2, x.2.2 + cw_left (cw_dcm tx len x).1 (tx x.1.2)) := by rw [cw_run_1, ← hx9, cw_dst, cw_it hq9]
        have hlf : cw_left (cw_dcm tx len x).1 (tx x.1.2) = 0 := by rw [cw_left, cw_bf (cw_bn c_41)]
        rw [hlf, Int32.add_zero] at hst
        exact g_sub rfl (ih1 ((cw_cmd tx len x.1.2).1, cw_nf (cw_dcm tx len x).2, x.2.2) _ ⟨hst.symm, hts22.cgw (by rw [hf38 0 (by decide), cw_wp3_lo _ _ (by decide)]) (by rw [hf38 1 (by decide), cw_wp3_lo _ _ (by decide)]), hn38.trans ((congrArg (fun z : Int32 × cw_s => cw_nf z.2) hdd).trans (cw_nf_nf _).symm), by rw [hf38 1 (by decide), cw_wp3_lo _ _ (by decide), h122]; exact g1⟩)
      · refine g_iinc (v := x.2.2 + 1) C rfl (rfl) (by decide) dX5_build_44 ?_
        refine g_iinc (v := nI (i9 + 1)) C rfl (nI_1 i9) (by decide) dX5_build_47 ?_
        refine g_goto (tgt := 8) C (by decide) dX5_build_50 ?_
        have hst : cw_run tx len (i9 + 1) = ((cw_cmd tx len x.1.2).1, cw_nf (cw_dcm tx len x).2, x.2.2 + cw_left (cw_dcm tx len x).1 (tx x.1.2)) := by rw [cw_run_1, ← hx9, cw_dst, cw_it hq9]
        have hlf : cw_left (cw_dcm tx len x).1 (tx x.1.2) = 1 := by rw [cw_left, cw_b1 (Classical.byContradiction (cw_b0.mp c_41))]
        rw [hlf] at hst
        exact g_sub rfl (ih1 ((cw_cmd tx len x.1.2).1, cw_nf (cw_dcm tx len x).2, x.2.2 + 1) _ ⟨hst.symm, hts22.cgw (by rw [hf38 0 (by decide), cw_wp3_lo _ _ (by decide)]) (by rw [hf38 1 (by decide), cw_wp3_lo _ _ (by decide)]), hn38.trans ((congrArg (fun z : Int32 × cw_s => cw_nf z.2) hdd).trans (cw_nf_nf _).symm), by rw [hf38 1 (by decide), cw_wp3_lo _ _ (by decide), h122]; exact g1⟩)
  obtain ⟨hx9, hts9, hn9, g1⟩ := hR1
  have hpb := cw_parse_b tx len hl 120
  rw [← cw_run_parse, ← hx9] at hpb
  have hfin : ¬ (x.1.1 = false ∧ x.1.2 < len) := fun q => by have := hpb.2.2 q.1; omega
  refine g_iload_n C rfl dX5_build_8 ?_
  refine g_bipush (v := 120) C (by decide) dX5_build_9 ?_
  refine g_cmp_ge (tgt := 53) C (by decide) dX5_build_11 (fun c_11 => ?_) (fun c_11 => absurd (by decide) c_11)
  refine g_iload_n C rfl dX5_build_53 ?_
  refine g_iret C F dX5_build_54 ?_
  have hnd : ¬ (x.1.1 = false ∧ x.1.2 < len) := hfin
  have hz : cw_run tx len 120 = x := by rw [hx9]; all_goals (have := cw_run_end tx len 120 (by rw [← cw_run_parse, ← hx9]; exact hnd) (120 - 120); rwa [show 120 + (120 - 120) = 120 by omega] at this)
  rw [hz]
  exact ⟨rfl, hn9, hts9.1, g1⟩

