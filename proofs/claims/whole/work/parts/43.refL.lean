theorem cw_tx_RM {A : cw_A} {w : gw_M} (h : cw_RM A w) : cw_tx A.2.2.2.2 A.2.2.2.1 w := h.2.2.2
theorem cw_kb_in (sl : Nat → Option cw_s) (x : cw_s) (k : Nat) (hk : k < 2) : nI (cw_kb sl) ||| ((1 : Int32) <<< (nI k &&& 31)) = nI (cw_kb (fun i => if i = k then some x else sl i)) := by
  have hk2 : k = 0 ∨ k = 1 := by omega
  unfold cw_kb
  rcases hk2 with rfl | rfl
  · cases h1 : sl 1 with
    | none => cases h0 : sl 0 <;> simp [h0, h1] <;> rfl
    | some z => cases h0 : sl 0 <;> simp [h0, h1] <;> rfl
  · cases h1 : sl 1 with
    | none => cases h0 : sl 0 <;> simp [h0, h1] <;> rfl
    | some z => cases h0 : sl 0 <;> simp [h0, h1] <;> rfl
theorem cw_kb_at (sl : Nat → Option cw_s) (k : Nat) (hk : k < 2) : (nI (cw_kb sl) >>> (nI k &&& 31)) &&& 1 = if (sl k).isSome then 1 else 0 := by
  have hk2 : k = 0 ∨ k = 1 := by omega
  unfold cw_kb
  rcases hk2 with rfl | rfl
  · cases h1 : sl 1 with
    | none => cases h0 : sl 0 <;> simp [h0, h1] <;> rfl
    | some z => cases h0 : sl 0 <;> simp [h0, h1] <;> rfl
  · cases h1 : sl 1 with
    | none => cases h0 : sl 0 <;> simp [h0, h1] <;> rfl
    | some z => cases h0 : sl 0 <;> simp [h0, h1] <;> rfl
theorem cw_slot {k : Int32} (h : 0 ≤ k ∧ k ≤ 1) : ∃ i, k = nI i ∧ i < 2 := by
  have q1 := cw_le.mp h.1
  have q2 := cw_le.mp h.2
  have z0 : (0 : Int32).toInt = 0 := rfl
  have z1 : (1 : Int32).toInt = 1 := rfl
  have e : k.toInt = 0 ∨ k.toInt = 1 := by omega
  rcases e with e | e
  · exact ⟨0, gw_toInt (v := 0) e, by omega⟩
  · exact ⟨1, gw_toInt (v := 1) e, by omega⟩

set_option maxHeartbeats 8000000 in
set_option maxRecDepth 100000 in
theorem ok_X7_errorPosition (A : cw_A) {n m : Nat} (hI : cw_I n m A.1) (hB : cw_B n (m + 20)) : gw_Ok yX7_errorPosition cX7_errorPosition 2 (some .int) sM 6 [.ref 0] (fun w => cw_RM A w) (fun _ vr w1 => cw_FP (sp_errorPosition A) vr w1) := by
  refine gw_of (by decide) (Nat.le_of_ble_eq_true rfl) ?_
  intro X w h C F
  refine g_aload_n C rfl dX7_errorPosition_0 ?_
  refine g_iconst (v := 0) C (by decide) dX7_errorPosition_1 ?_
  refine g_putf C fl_X7_32 fp_5_0 rfl rfl (rfl) (rfl) dX7_errorPosition_2 ?_
  refine g_genP (P := fun v => cw_RM A v ∧ v 0 0 = 0) ⟨cw_RM_thr h, by simp [gw_set]⟩ (fun w5 h5 => ?_)
  obtain ⟨hr2, ht2⟩ := h5
  refine g_aload_n C rfl dX7_errorPosition_5 ?_
  refine g_iconst (v := 0) C (by decide) dX7_errorPosition_6 ?_
  refine g_call C (ok_X7_look A.2.2.2.2 A.2.2.2.1) my_X7_goesThrough vi_X7_205 (by decide) ⟨Nat.le_refl _, Nat.le_refl _⟩ rfl rfl rfl (Nat.le_of_ble_eq_true rfl) dX7_errorPosition_7 rfl (cw_tx_RM hr2) (fun v_7 w_7 hp_7 => ?_)
  obtain ⟨rfl, g13, g14, gq, gk⟩ := hp_7
  have hr3 : cw_RM A w_7 := hr2.cg (by rw [gq 1 (by decide)]) (gq 3 (by decide)) (gq 4 (by decide)) (gq 5 (by decide)) (gk 4 (by omega)) (gk 6 (by omega)) (gk 8 (by omega))
  refine g_istore_n C (by decide) dX7_errorPosition_10 ?_
  refine g_aload_n C rfl dX7_errorPosition_11 ?_
  refine g_getf C fl_X7_177 rfl rfl dX7_errorPosition_12 ?_
  refine g_top g14 ?_
  refine g_if_eq (tgt := 25) C (by decide) dX7_errorPosition_15 (fun c_15 => ?_) (fun c_15 => ?_)
  · refine g_iconst (v := (-1)) C (by decide) dX7_errorPosition_25 ?_
    refine g_iret C F dX7_errorPosition_26 ?_
    exact ⟨by show _ = some (Value.int (if _ then _ else _)); rw [if_neg (by rw [cw_bi_0 c_15]; decide)], (gk 0 (by omega)).trans ht2, hr3⟩
  · refine g_aload_n C rfl dX7_errorPosition_18 ?_
    refine g_getf C fl_X7_181 rfl rfl dX7_errorPosition_19 ?_
    refine g_top g13 ?_
    refine g_goto (tgt := 26) C (by decide) dX7_errorPosition_22 ?_
    refine g_iret C F dX7_errorPosition_26 ?_
    exact ⟨by show _ = some (Value.int (if _ then _ else _)); rw [if_pos (cw_bi_n c_15)], (gk 0 (by omega)).trans ht2, hr3⟩

set_option maxHeartbeats 8000000 in
set_option maxRecDepth 100000 in
theorem ok_X7_load (A : cw_A) {n m : Nat} (hI : cw_I n m A.1) (hB : cw_B n (m + 20)) : gw_Ok yX7_load cX7_load 2 (some .int) sM 8 [.ref 0] (fun w => cw_RM A w) (fun _ vr w1 => cw_FP (sp_load A) vr w1) := by
  refine gw_of (by decide) (Nat.le_of_ble_eq_true rfl) ?_
  intro X w h C F
  refine g_aload_n C rfl dX7_load_0 ?_
  refine g_iconst (v := 0) C (by decide) dX7_load_1 ?_
  refine g_call C (ok_X7_look A.2.2.2.2 A.2.2.2.1) my_X7_goesThrough vi_X7_205 (by decide) ⟨Nat.le_refl _, Nat.le_refl _⟩ rfl rfl rfl (Nat.le_of_ble_eq_true rfl) dX7_load_2 rfl (cw_tx_RM h) (fun v_2 w_2 hp_2 => ?_)
  obtain ⟨rfl, g13, g14, gq, gk⟩ := hp_2
  have hr1 : cw_RM A w_2 := h.cg (by rw [gq 1 (by decide)]) (gq 3 (by decide)) (gq 4 (by decide)) (gq 5 (by decide)) (gk 4 (by omega)) (gk 6 (by omega)) (gk 8 (by omega))
  refine g_istore_n C (by decide) dX7_load_5 ?_
  refine g_aload_n C rfl dX7_load_6 ?_
  refine g_aload_n C rfl dX7_load_7 ?_
  refine g_getf C fl_X7_177 rfl rfl dX7_load_8 ?_
  refine g_top g14 ?_
  refine g_join1 19 (cw_bi (cw_parse A.2.2.2.2 A.2.2.2.1 120).1) (fun k_19 => ?_) ?_
  · refine g_if_eq (tgt := 18) C (by decide) dX7_load_11 (fun c_11 => ?_) (fun c_11 => ?_)
    · refine g_iconst (v := 0) C (by decide) dX7_load_18 ?_
      exact k_19 _ (c_11.symm)
    · refine g_iconst (v := 1) C (by decide) dX7_load_14 ?_
      refine g_goto (tgt := 19) C (by decide) dX7_load_15 ?_
      exact k_19 _ (by rw [cw_bi_n c_11]; rfl)
  refine g_call C (ok_X7_holds _) my_X7_holds vi_X7_174 (by decide) ⟨Nat.le_refl _, Nat.le_refl _⟩ rfl rfl rfl (Nat.le_of_ble_eq_true rfl) dX7_load_19 rfl (trivial) (fun v_19 w_19 hp_19 => ?_)
  obtain ⟨rfl, hw_19⟩ := hp_19
  have hr2 : cw_RM A w_19 := by rw [hw_19]; exact cw_RM_thr hr1
  refine g_if_ne (tgt := 27) C (by decide) dX7_load_22 (fun c_22 => ?_) (fun c_22 => ?_)
  · have hE := cw_bn c_22
    have ht2 : w_19 0 0 = 0 := by rw [hw_19, gw_set_self, cw_ups]; exact hE
    have hok : (cw_parse A.2.2.2.2 A.2.2.2.1 120).1 = false := cw_bi_0 hE
    refine g_aload_n C rfl dX7_load_27 ?_
    refine g_call C (ok_X7_begins) my_X7_begins vi_X7_29 (by decide) ⟨Nat.le_refl _, Nat.le_refl _⟩ rfl rfl rfl (Nat.le_of_ble_eq_true rfl) dX7_load_28 rfl (hr_1 (hr_in rfl)) (fun v_28 w_28 hp_28 => ?_)
    obtain ⟨rfl, s9, h9, hn9⟩ := hp_28
    have hr3 := cw_RM_S (s := s9) hr2
    rw [← h9] at hr3
    refine g_aload_n C rfl dX7_load_31 ?_
    refine g_iconst (v := 1) C (by decide) dX7_load_32 ?_
    refine g_call C (ok_X7_run A.2.2.2.2 A.2.2.2.1 hok) my_X7_goesThrough vi_X7_205 (by decide) ⟨Nat.le_refl _, Nat.le_refl _⟩ rfl rfl rfl (Nat.le_of_ble_eq_true rfl) dX7_load_33 rfl (⟨cw_tx_RM (A := (cw_nf s9, A.2)) hr3, by rw [h9, cw_S1]; exact hn9⟩) (fun v_33 w_33 hp_33 => ?_)
    obtain ⟨rfl, gn2, gq2, gk2⟩ := hp_33
    refine g_istore_n C (by decide) dX7_load_36 ?_
    refine g_aload_n C rfl dX7_load_37 ?_
    refine g_iconst (v := 0) C (by decide) dX7_load_38 ?_
    refine g_putf C fl_X7_51 fp_5_4 rfl rfl (rfl) (rfl) dX7_load_39 ?_
    refine g_aload_n C rfl dX7_load_42 ?_
    refine g_iconst (v := 0) C (by decide) dX7_load_43 ?_
    refine g_putf C fl_X7_209 fp_5_6 rfl rfl (rfl) (rfl) dX7_load_44 ?_
    refine g_iload_n C rfl dX7_load_47 ?_
    refine g_iret C F dX7_load_48 ?_
    obtain ⟨a1, ⟨b1, b2, b3⟩, ⟨c1, c2⟩, d1, d2, d3⟩ := hr3
    have z : ∀ q, q ≠ 0 → gw_set (gw_set w_33 0 4 0) 0 6 0 q = w_33 q := fun q hq => by rw [gw_set_ne _ _ _ _ hq, gw_set_ne _ _ _ _ hq]
    refine cw_fin0 hE rfl ?_ ⟨by rw [z 1 (by decide)]; exact gn2, ⟨by simp [gw_set]; rfl, Nat.zero_le _, fun i hi => absurd hi (Nat.not_lt_zero i)⟩, ⟨by simp [gw_set]; rfl, fun i hi v hv => nomatch hv⟩, ?_, d2, fun i hi => ?_⟩
    · simp only [gw_set]
      exact (gk2 0 (by omega)).trans ((congrFun (hr_q h9 (q := 0) (by decide)) 0).trans ht2)
    · simp only [gw_set]
      exact (gk2 8 (by omega)).trans d1
    · rw [z 5 (by decide), gq2 5 (by decide) (by decide)]
      exact d3 i hi
  · refine g_iconst (v := 0) C (by decide) dX7_load_25 ?_
    refine g_iret C F dX7_load_26 ?_
    exact cw_fin1 hr1 hw_19 (cw_b0.mp c_22)

set_option maxHeartbeats 8000000 in
set_option maxRecDepth 100000 in
theorem ok_X7_undo (A : cw_A) {n m : Nat} (hI : cw_I n m A.1) (hB : cw_B n (m + 20)) : gw_Ok yX7_undo cX7_undo 2 (some .int) sM 2 [.ref 0] (fun w => cw_RM A w) (fun _ vr w1 => cw_FP (sp_undo A) vr w1) := by
  refine gw_of (by decide) (Nat.le_of_ble_eq_true rfl) ?_
  intro X w h C F
  have es := cw_es h
  have h6 := hI.m.2
  have hIw : cw_I n m (w 1) := cw_I_cg hI es
  refine g_aload_n C rfl dX7_undo_0 ?_
  refine g_aload_n C rfl dX7_undo_1 ?_
  refine g_getf C fl_X7_51 rfl rfl dX7_undo_2 ?_
  refine g_join1 13 (if A.2.1.1 = 0 then 1 else 0) (fun k_13 => ?_) ?_
  · refine g_if_le (tgt := 12) C (by decide) dX7_undo_5 (fun c_5 => ?_) (fun c_5 => ?_)
    · refine g_iconst (v := 1) C (by decide) dX7_undo_12 ?_
      exact k_13 _ (by have b := h.2.1.1; have z : (0 : Int32).toInt = 0 := rfl; rw [b, cw_le, cw_ni (by have := h.2.1.2.1; omega), z] at c_5; exact (if_pos (by omega)).symm)
    · refine g_iconst (v := 0) C (by decide) dX7_undo_8 ?_
      refine g_goto (tgt := 13) C (by decide) dX7_undo_9 ?_
      exact k_13 _ (by have b := h.2.1.1; have z : (0 : Int32).toInt = 0 := rfl; rw [b, cw_le, cw_ni (by have := h.2.1.2.1; omega), z] at c_5; exact (if_neg (by omega)).symm)
  refine g_call C (ok_X7_holds _) my_X7_holds vi_X7_174 (by decide) ⟨Nat.le_refl _, Nat.le_refl _⟩ rfl rfl rfl (Nat.le_of_ble_eq_true rfl) dX7_undo_13 rfl (trivial) (fun v_13 w_13 hp_13 => ?_)
  obtain ⟨rfl, hw_13⟩ := hp_13
  have es2 : cw_eq (w_13 1) A.1 := by rw [hw_13, gw_set_ne _ _ _ _ (by decide)]; exact es
  have hI2 : cw_I n m (w_13 1) := cw_I_cg hI es2
  have hr2 : cw_RM A w_13 := by rw [hw_13]; exact cw_RM_thr h
  refine g_if_ne (tgt := 21) C (by decide) dX7_undo_16 (fun c_16 => ?_) (fun c_16 => ?_)
  · have hE := cw_bn c_16
    have hk0 : ¬ A.2.1.1 = 0 := fun q => by rw [if_pos q] at hE; exact absurd hE (by decide)
    obtain ⟨a1, ⟨b1, b2, b3⟩, ⟨c1, c2⟩, e1, e2, e3⟩ := hr2
    have ht2 : w_13 0 0 = 0 := by rw [hw_13, gw_set_self, cw_ups]; exact hE
    refine g_aload_n C rfl dX7_undo_21 ?_
    refine g_dup C rfl dX7_undo_22 ?_
    refine g_getf C fl_X7_51 rfl rfl dX7_undo_23 ?_
    refine g_iconst (v := 1) C (by decide) dX7_undo_26 ?_
    refine g_isub C dX7_undo_27 ?_
    refine g_putf C fl_X7_51 fp_5_4 rfl rfl (rfl) (rfl) dX7_undo_28 ?_
    refine g_genP (P := fun v => (∀ q, q ≠ 0 → v q = w_13 q) ∧ v 0 4 = nI (A.2.1.1 - 1) ∧ ∀ k, k ≠ 4 → v 0 k = w_13 0 k) ⟨fun q hq => gw_set_ne _ _ _ _ hq, by rw [gw_set_self, cw_ups, b1]; exact cw_sub_1 (by omega), fun k hk => by rw [gw_set_self, cw_upn _ _ hk]⟩ (fun w7 h7 => ?_)
    obtain ⟨m0, m4, mk⟩ := h7
    refine g_iconst (v := 0) C (by decide) dX7_undo_31 ?_
    refine g_istore_n C (by decide) dX7_undo_32 ?_
    refine g_sub rfl (g_for (α := Unit) 242 (fun i9 x1 => [(0, .ref 0), (1, .int (nI i9))]) (fun i9 x1 w1 => (∀ q, q ≠ 1 → w1 q = w7 q) ∧ ∀ k, k < i9 → w1 1 k = w7 3 (242 * (A.2.1.1 - 1) + k)) 0 () _ (Nat.zero_le _) (⟨fun _ _ => rfl, fun p hp => absurd hp (Nat.not_lt_zero p)⟩) (fun i9 x1 w1 hi1 hR1 ih1 => ?_) (fun x1 w1 hR1 => ?_))
    · obtain ⟨ha9, hb9⟩ := hR1
      refine g_iload_n C rfl dX7_undo_33 ?_
      refine g_sipush (v := 242) C (by decide) dX7_undo_34 ?_
      refine g_cmp_ge (tgt := 67) C (by decide) dX7_undo_37 (fun c_37 => absurd c_37 (nI_ge hi1 (by decide))) (fun c_37 => ?_)
      refine g_aload_n C rfl dX7_undo_40 ?_
      refine g_getr C fl_X7_7 rfl rfl dX7_undo_41 ?_
      refine g_iload_n C rfl dX7_undo_44 ?_
      refine g_aload_n C rfl dX7_undo_45 ?_
      refine g_getr C fl_X7_16 rfl rfl dX7_undo_46 ?_
      refine g_sipush (v := 242) C (by decide) dX7_undo_49 ?_
      refine g_aload_n C rfl dX7_undo_52 ?_
      refine g_getf C fl_X7_51 rfl rfl dX7_undo_53 ?_
      refine g_imul C dX7_undo_56 ?_
      refine g_iload_n C rfl dX7_undo_57 ?_
      refine g_iadd C dX7_undo_58 ?_
      refine g_iald (j := 242 * (A.2.1.1 - 1) + i9) C rfl (by rw [ha9 0 (by decide), m4]; exact cw_ix 242 _ i9) (by omega) (by decide) dX7_undo_59 ?_
      refine g_iast C rfl (by first | rfl | assumption | (simp only [nI_add, pk_mul, *]; done)) (by first | assumption | omega) (by decide) dX7_undo_60 ?_
      refine g_iinc (v := nI (i9 + 1)) C rfl (nI_1 i9) (by decide) dX7_undo_61 ?_
      refine g_goto (tgt := 33) C (by decide) dX7_undo_64 ?_
      exact g_sub rfl (ih1 () _ ⟨fun q hq => by rw [gw_set_ne _ _ _ _ hq]; exact ha9 q hq, fun p hp => by
        rw [gw_set_self]; unfold upd; split
        · next q => rw [q, ha9 3 (by decide)]
        · exact hb9 p (by omega)⟩)
    obtain ⟨ha9, hb9⟩ := hR1
    refine g_iload_n C rfl dX7_undo_33 ?_
    refine g_sipush (v := 242) C (by decide) dX7_undo_34 ?_
    refine g_cmp_ge (tgt := 67) C (by decide) dX7_undo_37 (fun c_37 => ?_) (fun c_37 => absurd (by decide) c_37)
    refine g_aload_n C rfl dX7_undo_67 ?_
    refine g_getf C fl_X7_51 rfl rfl dX7_undo_68 ?_
    refine g_iret C F dX7_undo_71 ?_
    refine cw_fin0 hE ((congrFun (ha9 0 (by decide)) 4).trans m4) ((congrFun (ha9 0 (by decide)) 0).trans ((mk 0 (by decide)).trans ht2)) ⟨?_, ⟨(congrFun (ha9 0 (by decide)) 4).trans m4, by show A.2.1.1 - 1 ≤ 14; omega, fun i hi => ?_⟩, ⟨(congrFun (ha9 0 (by decide)) 6).trans ((mk 6 (by decide)).trans c1), fun i hi v hv => ?_⟩, (congrFun (ha9 0 (by decide)) 8).trans ((mk 8 (by decide)).trans e1), e2, fun i hi => ?_⟩
    · show _ = A.2.1.2 (A.2.1.1 - 1)
      rw [← b3 (A.2.1.1 - 1) (by omega)]
      exact cw_nf_cg (fun k hk => by rw [hb9 k hk, m0 3 (by decide)]; rfl)
    · rw [ha9 3 (by decide), m0 3 (by decide)]; exact b3 i (Nat.lt_of_lt_of_le hi (Nat.sub_le _ _))
    · rw [ha9 4 (by decide), m0 4 (by decide)]; exact c2 i hi v hv
    · rw [ha9 5 (by decide), m0 5 (by decide)]; exact e3 i hi
  · refine g_iconst (v := 0) C (by decide) dX7_undo_19 ?_
    refine g_iret C F dX7_undo_20 ?_
    exact cw_fin1 h hw_13 (cw_b0.mp c_16)

set_option maxHeartbeats 8000000 in
set_option maxRecDepth 100000 in
theorem ok_X7_save (k : Int32) (A : cw_A) {n m : Nat} (hI : cw_I n m A.1) (hB : cw_B n (m + 20)) : gw_Ok yX7_save cX7_save 3 (some .int) sM 2 [.ref 0, .int k] (fun w => cw_RM A w) (fun _ vr w1 => cw_FP (sp_save A k) vr w1) := by
  refine gw_of (by decide) (Nat.le_of_ble_eq_true rfl) ?_
  intro X w h C F
  have es := cw_es h
  have h6 := hI.m.2
  have hIw : cw_I n m (w 1) := cw_I_cg hI es
  refine g_aload_n C rfl dX7_save_0 ?_
  refine g_iload_n C rfl dX7_save_1 ?_
  refine g_iconst (v := 0) C (by decide) dX7_save_2 ?_
  refine g_iconst (v := 1) C (by decide) dX7_save_3 ?_
  refine g_callS C (ok_X7_in _ _ _) my_X7_in si_X7_40 (by decide) ⟨Nat.le_refl _, Nat.le_refl _⟩ rfl (Nat.le_of_ble_eq_true rfl) dX7_save_4 rfl (trivial) (fun v_4 w_4 hp_4 => ?_)
  obtain ⟨rfl, hw_4⟩ := hp_4
  have hw_4 := hw_4.symm; subst hw_4
  refine g_join1 15 (cw_if (0 ≤ k ∧ k ≤ 1) 0 1) (fun k_15 => ?_) ?_
  · refine g_if_eq (tgt := 14) C (by decide) dX7_save_7 (fun c_7 => ?_) (fun c_7 => ?_)
    · refine g_iconst (v := 1) C (by decide) dX7_save_14 ?_
      exact k_15 _ (by rw [cw_ie (cw_b0.mp c_7)])
    · refine g_iconst (v := 0) C (by decide) dX7_save_10 ?_
      refine g_goto (tgt := 15) C (by decide) dX7_save_11 ?_
      exact k_15 _ (by rw [cw_it (cw_bn c_7)])
  refine g_call C (ok_X7_holds _) my_X7_holds vi_X7_174 (by decide) ⟨Nat.le_refl _, Nat.le_refl _⟩ rfl rfl rfl (Nat.le_of_ble_eq_true rfl) dX7_save_15 rfl (trivial) (fun v_15 w_15 hp_15 => ?_)
  obtain ⟨rfl, hw_15⟩ := hp_15
  have es2 : cw_eq (w_15 1) A.1 := by rw [hw_15, gw_set_ne _ _ _ _ (by decide)]; exact es
  have hI2 : cw_I n m (w_15 1) := cw_I_cg hI es2
  have hr2 : cw_RM A w_15 := by rw [hw_15]; exact cw_RM_thr h
  refine g_if_ne (tgt := 23) C (by decide) dX7_save_18 (fun c_18 => ?_) (fun c_18 => ?_)
  · have hE := cw_bn c_18
    obtain ⟨i0, rfl, hi0⟩ := cw_slot (cw_ifb (by decide) hE)
    have ei : cw_x (nI i0) = i0 := cw_xn (by omega)
    obtain ⟨a1, ⟨b1, b2, b3⟩, ⟨c1, c2⟩, e1, e2, e3⟩ := hr2
    have ht2 : w_15 0 0 = 0 := by rw [hw_15, gw_set_self, cw_ups]; exact hE
    refine g_iconst (v := 0) C (by decide) dX7_save_23 ?_
    refine g_istore_n C (by decide) dX7_save_24 ?_
    refine g_sub rfl (g_for (α := Unit) 242 (fun i9 x1 => [(0, .ref 0), (1, .int (nI i0)), (2, .int (nI i9))]) (fun i9 x1 w1 => (∀ q, q ≠ 4 → w1 q = w_15 q) ∧ (∀ k, k < i9 → w1 4 (242 * i0 + k) = w_15 1 k) ∧ ∀ p, (p < 242 * i0 ∨ 242 * i0 + i9 ≤ p) → w1 4 p = w_15 4 p) 0 () _ (Nat.zero_le _) (⟨fun _ _ => rfl, fun p hp => absurd hp (Nat.not_lt_zero p), fun _ _ => rfl⟩) (fun i9 x1 w1 hi1 hR1 ih1 => ?_) (fun x1 w1 hR1 => ?_))
    · obtain ⟨ha9, hb9, hc9⟩ := hR1
      refine g_iload_n C rfl dX7_save_25 ?_
      refine g_sipush (v := 242) C (by decide) dX7_save_26 ?_
      refine g_cmp_ge (tgt := 56) C (by decide) dX7_save_29 (fun c_29 => absurd c_29 (nI_ge hi1 (by decide))) (fun c_29 => ?_)
      refine g_aload_n C rfl dX7_save_32 ?_
      refine g_getr C fl_X7_19 rfl rfl dX7_save_33 ?_
      refine g_sipush (v := 242) C (by decide) dX7_save_36 ?_
      refine g_iload_n C rfl dX7_save_39 ?_
      refine g_imul C dX7_save_40 ?_
      refine g_iload_n C rfl dX7_save_41 ?_
      refine g_iadd C dX7_save_42 ?_
      refine g_aload_n C rfl dX7_save_43 ?_
      refine g_getr C fl_X7_7 rfl rfl dX7_save_44 ?_
      refine g_iload_n C rfl dX7_save_47 ?_
      refine g_iald C rfl (by first | rfl | assumption | (simp only [nI_add, pk_mul, *]; done)) (by first | assumption | omega) (by decide) dX7_save_48 ?_
      refine g_iast (j := 242 * i0 + i9) C rfl (cw_ix 242 i0 i9) (by omega) (by decide) dX7_save_49 ?_
      refine g_iinc (v := nI (i9 + 1)) C rfl (nI_1 i9) (by decide) dX7_save_50 ?_
      refine g_goto (tgt := 25) C (by decide) dX7_save_53 ?_
      exact g_sub rfl (ih1 () _ ⟨fun q hq => by rw [gw_set_ne _ _ _ _ hq]; exact ha9 q hq, fun p hp => by
        rw [gw_set_self]; unfold upd; split
        · next q => rw [ha9 1 (by decide)]; congr 1; omega
        · exact hb9 p (by omega), fun p hp => by rw [gw_set_self, cw_upn _ _ (by omega)]; exact hc9 p (by omega)⟩)
    obtain ⟨ha9, hb9, hc9⟩ := hR1
    refine g_iload_n C rfl dX7_save_25 ?_
    refine g_sipush (v := 242) C (by decide) dX7_save_26 ?_
    refine g_cmp_ge (tgt := 56) C (by decide) dX7_save_29 (fun c_29 => ?_) (fun c_29 => absurd (by decide) c_29)
    refine g_aload_n C rfl dX7_save_56 ?_
    refine g_dup C rfl dX7_save_57 ?_
    refine g_getf C fl_X7_209 rfl rfl dX7_save_58 ?_
    refine g_iconst (v := 1) C (by decide) dX7_save_61 ?_
    refine g_iload_n C rfl dX7_save_62 ?_
    refine g_ishl C dX7_save_63 ?_
    refine g_ior C dX7_save_64 ?_
    refine g_putf C fl_X7_209 fp_5_6 rfl rfl (rfl) (rfl) dX7_save_65 ?_
    refine g_aload_n C rfl dX7_save_68 ?_
    refine g_getr C fl_X7_7 rfl rfl dX7_save_69 ?_
    refine g_sipush (v := 230) C (by decide) dX7_save_72 ?_
    refine g_iald (j := 230) C rfl (rfl) (by decide) (by decide) dX7_save_75 ?_
    refine g_iret C F dX7_save_76 ?_
    have q0 := ha9 0 (by decide)
    have z : ∀ q, q ≠ 0 → ∀ x, gw_set w1 0 6 x q = w1 q := fun q hq x => gw_set_ne _ _ _ _ hq
    refine cw_fin0 hE ?_ (by rw [gw_set_self, cw_upn _ _ (by decide), q0]; exact ht2) ⟨?_, ⟨?_, b2, fun i hi => ?_⟩, ⟨?_, fun i hi v hv => ?_⟩, ?_, e2, fun i hi => ?_⟩
    · rw [z 1 (by decide), ha9 1 (by decide)]; exact cw_rd es2 (by omega) (by omega)
    · rw [z 1 (by decide), ha9 1 (by decide)]; exact a1
    · rw [gw_set_self, cw_upn _ _ (by decide), q0]; exact b1
    · rw [z 3 (by decide), ha9 3 (by decide)]; exact b3 i hi
    · rw [gw_set_self, cw_ups, q0, c1]
      show _ = nI (cw_kb (fun i => if i = cw_x (nI i0) then some A.1 else A.2.2.1 i))
      rw [ei]; exact cw_kb_in A.2.2.1 A.1 i0 hi0
    · have hv : (if i = cw_x (nI i0) then some A.1 else A.2.2.1 i) = some v := hv
      rw [ei] at hv
      rw [z 4 (by decide)]
      by_cases q : i = i0
      · rw [if_pos q] at hv
        rw [← Option.some.inj hv, ← a1, q]
        exact cw_nf_cg (fun k hk => by show _ = w_15 1 k; unfold cw_row; rw [hb9 k hk])
      · rw [if_neg q] at hv
        rw [← c2 i hi v hv]
        exact cw_row_nf (fun k hk => hc9 _ (by omega))
    · rw [gw_set_self, cw_upn _ _ (by decide), q0]; exact e1
    · rw [z 5 (by decide), ha9 5 (by decide)]; exact e3 i hi
  · refine g_iconst (v := 0) C (by decide) dX7_save_21 ?_
    refine g_iret C F dX7_save_22 ?_
    exact cw_fin1 h hw_15 (cw_b0.mp c_18)

set_option maxHeartbeats 8000000 in
set_option maxRecDepth 100000 in
theorem ok_X7_restore (k : Int32) (A : cw_A) {n m : Nat} (hI : cw_I n m A.1) (hB : cw_B n (m + 20)) : gw_Ok yX7_restore cX7_restore 3 (some .int) sM 2 [.ref 0, .int k] (fun w => cw_RM A w) (fun _ vr w1 => cw_FP (sp_restore A k) vr w1) := by
  refine gw_of (by decide) (Nat.le_of_ble_eq_true rfl) ?_
  intro X w h C F
  have es := cw_es h
  have h6 := hI.m.2
  have hIw : cw_I n m (w 1) := cw_I_cg hI es
  refine g_aload_n C rfl dX7_restore_0 ?_
  refine g_iload_n C rfl dX7_restore_1 ?_
  refine g_iconst (v := 0) C (by decide) dX7_restore_2 ?_
  refine g_iconst (v := 1) C (by decide) dX7_restore_3 ?_
  refine g_callS C (ok_X7_in _ _ _) my_X7_in si_X7_40 (by decide) ⟨Nat.le_refl _, Nat.le_refl _⟩ rfl (Nat.le_of_ble_eq_true rfl) dX7_restore_4 rfl (trivial) (fun v_4 w_4 hp_4 => ?_)
  obtain ⟨rfl, hw_4⟩ := hp_4
  have hw_4 := hw_4.symm; subst hw_4
  refine g_join1 30 (cw_if (0 ≤ k ∧ k ≤ 1) (if (A.2.2.1 (cw_x k)).isSome then 0 else 2) 1) (fun k_30 => ?_) ?_
  · refine g_if_ne (tgt := 14) C (by decide) dX7_restore_7 (fun c_7 => ?_) (fun c_7 => ?_)
    · have hq7 := cw_bn c_7
      obtain ⟨i5, rfl, hi5⟩ := cw_slot hq7
      have ek5 : cw_x (nI i5) = i5 := cw_xn (by omega)
      have hkb := cw_kb_at A.2.2.1 i5 hi5
      refine g_aload_n C rfl dX7_restore_14 ?_
      refine g_getf C fl_X7_209 rfl rfl dX7_restore_15 ?_
      refine g_iload_n C rfl dX7_restore_18 ?_
      refine g_ishr C dX7_restore_19 ?_
      refine g_iconst (v := 1) C (by decide) dX7_restore_20 ?_
      refine g_iand C dX7_restore_21 ?_
      refine g_top (show _ = (nI (cw_kb A.2.2.1) >>> (nI i5 &&& 31)) &&& 1 by rw [h.2.2.1.1]) ?_
      refine g_if_ne (tgt := 29) C (by decide) dX7_restore_22 (fun c_22 => ?_) (fun c_22 => ?_)
      · refine g_iconst (v := 0) C (by decide) dX7_restore_29 ?_
        exact k_30 _ (by rw [cw_it (cw_bn c_7), ek5, if_pos (by rw [hkb] at c_22; cases hs5 : (A.2.2.1 i5).isSome with | true => rfl | false => (rw [hs5] at c_22; exact absurd rfl c_22))])
      · refine g_iconst (v := 2) C (by decide) dX7_restore_25 ?_
        refine g_goto (tgt := 30) C (by decide) dX7_restore_26 ?_
        exact k_30 _ (by rw [cw_it (cw_bn c_7), ek5, if_neg (by rw [hkb] at c_22; cases hs5 : (A.2.2.1 i5).isSome with | true => (rw [hs5] at c_22; exact absurd c_22 (by decide)) | false => decide)])
    · refine g_iconst (v := 1) C (by decide) dX7_restore_10 ?_
      refine g_goto (tgt := 30) C (by decide) dX7_restore_11 ?_
      exact k_30 _ (by rw [cw_ie (cw_b0.mp c_7)])
  refine g_call C (ok_X7_holds _) my_X7_holds vi_X7_174 (by decide) ⟨Nat.le_refl _, Nat.le_refl _⟩ rfl rfl rfl (Nat.le_of_ble_eq_true rfl) dX7_restore_30 rfl (trivial) (fun v_30 w_30 hp_30 => ?_)
  obtain ⟨rfl, hw_30⟩ := hp_30
  have es2 : cw_eq (w_30 1) A.1 := by rw [hw_30, gw_set_ne _ _ _ _ (by decide)]; exact es
  have hI2 : cw_I n m (w_30 1) := cw_I_cg hI es2
  have hr2 : cw_RM A w_30 := by rw [hw_30]; exact cw_RM_thr h
  refine g_if_ne (tgt := 38) C (by decide) dX7_restore_33 (fun c_33 => ?_) (fun c_33 => ?_)
  · have hE := cw_bn c_33
    have hE2 := cw_if2.mp hE
    obtain ⟨i0, rfl, hi0⟩ := cw_slot hE2.1
    have ei : cw_x (nI i0) = i0 := cw_xn (by omega)
    obtain ⟨u9, hu9⟩ := Option.isSome_iff_exists.mp hE2.2
    rw [ei] at hu9
    obtain ⟨a1, ⟨b1, b2, b3⟩, ⟨c1, c2⟩, e1, e2, e3⟩ := hr2
    have ht2 : w_30 0 0 = 0 := by rw [hw_30, gw_set_self, cw_ups]; exact hE
    refine g_iconst (v := 0) C (by decide) dX7_restore_38 ?_
    refine g_istore_n C (by decide) dX7_restore_39 ?_
    refine g_sub rfl (g_for (α := Unit) 242 (fun i9 x1 => [(0, .ref 0), (1, .int (nI i0)), (2, .int (nI i9))]) (fun i9 x1 w1 => (∀ q, q ≠ 1 → w1 q = w_30 q) ∧ ∀ k, k < i9 → w1 1 k = w_30 4 (242 * i0 + k)) 0 () _ (Nat.zero_le _) (⟨fun _ _ => rfl, fun p hp => absurd hp (Nat.not_lt_zero p)⟩) (fun i9 x1 w1 hi1 hR1 ih1 => ?_) (fun x1 w1 hR1 => ?_))
    · obtain ⟨ha9, hb9⟩ := hR1
      refine g_iload_n C rfl dX7_restore_40 ?_
      refine g_sipush (v := 242) C (by decide) dX7_restore_41 ?_
      refine g_cmp_ge (tgt := 71) C (by decide) dX7_restore_44 (fun c_44 => absurd c_44 (nI_ge hi1 (by decide))) (fun c_44 => ?_)
      refine g_aload_n C rfl dX7_restore_47 ?_
      refine g_getr C fl_X7_7 rfl rfl dX7_restore_48 ?_
      refine g_iload_n C rfl dX7_restore_51 ?_
      refine g_aload_n C rfl dX7_restore_52 ?_
      refine g_getr C fl_X7_19 rfl rfl dX7_restore_53 ?_
      refine g_sipush (v := 242) C (by decide) dX7_restore_56 ?_
      refine g_iload_n C rfl dX7_restore_59 ?_
      refine g_imul C dX7_restore_60 ?_
      refine g_iload_n C rfl dX7_restore_61 ?_
      refine g_iadd C dX7_restore_62 ?_
      refine g_iald (j := 242 * i0 + i9) C rfl (cw_ix 242 i0 i9) (by omega) (by decide) dX7_restore_63 ?_
      refine g_iast C rfl (by first | rfl | assumption | (simp only [nI_add, pk_mul, *]; done)) (by first | assumption | omega) (by decide) dX7_restore_64 ?_
      refine g_iinc (v := nI (i9 + 1)) C rfl (nI_1 i9) (by decide) dX7_restore_65 ?_
      refine g_goto (tgt := 40) C (by decide) dX7_restore_68 ?_
      exact g_sub rfl (ih1 () _ ⟨fun q hq => by rw [gw_set_ne _ _ _ _ hq]; exact ha9 q hq, fun p hp => by
        rw [gw_set_self]; unfold upd; split
        · next q => rw [q, ha9 4 (by decide)]
        · exact hb9 p (by omega)⟩)
    obtain ⟨ha9, hb9⟩ := hR1
    refine g_iload_n C rfl dX7_restore_40 ?_
    refine g_sipush (v := 242) C (by decide) dX7_restore_41 ?_
    refine g_cmp_ge (tgt := 71) C (by decide) dX7_restore_44 (fun c_44 => ?_) (fun c_44 => absurd (by decide) c_44)
    refine g_aload_n C rfl dX7_restore_71 ?_
    refine g_iconst (v := 0) C (by decide) dX7_restore_72 ?_
    refine g_putf C fl_X7_51 fp_5_4 rfl rfl (rfl) (rfl) dX7_restore_73 ?_
    refine g_aload_n C rfl dX7_restore_76 ?_
    refine g_getr C fl_X7_7 rfl rfl dX7_restore_77 ?_
    refine g_sipush (v := 230) C (by decide) dX7_restore_80 ?_
    refine g_iald (j := 230) C rfl (rfl) (by decide) (by decide) dX7_restore_83 ?_
    refine g_iret C F dX7_restore_84 ?_
    have q0 := ha9 0 (by decide)
    have z : ∀ q, q ≠ 0 → ∀ x, gw_set w1 0 4 x q = w1 q := fun q hq x => gw_set_ne _ _ _ _ hq
    have hu : (A.2.2.1 (cw_x (nI i0))).getD A.1 = u9 := by rw [ei, hu9]; rfl
    have hn : cw_nf (gw_set w1 0 4 0 1) = u9 := by
      rw [z 1 (by decide), ← c2 i0 hi0 u9 hu9]
      exact cw_nf_cg (fun k hk => by rw [hb9 k hk]; rfl)
    refine cw_fin0 hE ?_ (by rw [gw_set_self, cw_upn _ _ (by decide), q0]; exact ht2) ⟨by rw [hu]; exact hn, ⟨by rw [gw_set_self, cw_ups]; rfl, Nat.zero_le _, fun i hi => absurd hi (Nat.not_lt_zero i)⟩, ⟨?_, fun i hi v hv => ?_⟩, ?_, e2, fun i hi => ?_⟩
    · show _ = ((A.2.2.1 (cw_x (nI i0))).getD A.1) 230
      rw [hu, ← hn, cw_nf_rd _ (by omega) (by omega)]
    · rw [gw_set_self, cw_upn _ _ (by decide), q0]; exact c1
    · rw [z 4 (by decide), ha9 4 (by decide)]; exact c2 i hi v hv
    · rw [gw_set_self, cw_upn _ _ (by decide), q0]; exact e1
    · rw [z 5 (by decide), ha9 5 (by decide)]; exact e3 i hi
  · refine g_iconst (v := 0) C (by decide) dX7_restore_36 ?_
    refine g_iret C F dX7_restore_37 ?_
    exact cw_fin1 h hw_30 (cw_b0.mp c_33)

