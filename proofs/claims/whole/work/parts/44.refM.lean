theorem cw_20 {i : Nat} (h : i ≤ 20) : (20 : Int32) - nI i = nI (20 - i) := by
  apply Int32.toInt_inj.mp
  rw [cw_ni (by omega)]
  have := pk_sub_toInt (a := 20) (b := i) (by omega) (by omega)
  have e : nI 20 = (20 : Int32) := rfl
  rw [← e, this]; omega
theorem cw_201 {i : Nat} (h : i ≤ 20) : nI (20 - i) + Int32.ofInt (-1) = 20 - nI (i + 1) := by
  rw [← cw_20 h, ← nI_1 i]
  have e : Int32.ofInt (-1) = -1 := rfl
  rw [e, Int32.sub_eq_add_neg, Int32.sub_eq_add_neg, Int32.neg_add, Int32.add_assoc, Int32.sub_eq_add_neg]
theorem cw_before_1 (s : cw_s) (i : Nat) : cw_before s (i + 1) = cw_settle1 (cw_before s i) i := cw_fold0 (fun i x => cw_settle1 x i) i s
theorem cw_I_before {n m : Nat} {s : cw_s} (hI : cw_I n m s) (hB : cw_B n (m + 20)) {k : Nat} (hk : k ≤ 20) : cw_I n (m + k) (cw_before s k) := (cw_before_cg hI hB rfl k hk).2

set_option maxHeartbeats 8000000 in
set_option maxRecDepth 100000 in
theorem ok_X7_wouldWin {s : cw_s} (b : Int32) (k : Nat) (eb : b = nI k) (hk : k < 20) {n m : Nat} (hI : cw_I n m s) (hB : cw_B n (m + 20)) : gw_Ok yX7_wouldWin cX7_wouldWin 4 (some .int) sM 5 [.ref 0, .int b] (fun w => w 1 = s) (fun w vr w1 => vr = some (.int (cw_wins s k)) ∧ (∀ q, q ≠ 1 → q ≠ 2 → w1 q = w q) ∧ ∀ p, p < 242 → w1 1 p = s p) := by
  refine gw_of (by decide) (Nat.le_of_ble_eq_true rfl) ?_
  intro X w h C F
  subst eb
  refine g_aload_n C rfl dX7_wouldWin_0 ?_
  refine g_call C (ok_X7_putAside) my_X7_putAside vi_X7_249 (by decide) ⟨Nat.le_refl _, Nat.le_refl _⟩ rfl rfl rfl (Nat.le_of_ble_eq_true rfl) dX7_wouldWin_1 rfl (trivial) (fun v_1 w_1 hp_1 => ?_)
  obtain ⟨rfl, hp1, hq1⟩ := hp_1
  refine g_iconst (v := (-1)) C (by decide) dX7_wouldWin_4 ?_
  refine g_istore_n C (by decide) dX7_wouldWin_5 ?_
  refine g_iconst (v := 0) C (by decide) dX7_wouldWin_6 ?_
  refine g_istore_n C (by decide) dX7_wouldWin_7 ?_
  refine g_sub rfl (g_for (α := Int32) ((k + 1)) (fun i9 x => [(0, .ref 0), (1, .int (nI k)), (2, .int x), (3, .int (nI i9))]) (fun i9 x w1 => x = (if i9 = 0 then -1 else cw_best (cw_before s (i9 - 1)) (i9 - 1)) ∧ w1 = cw_S w_1 (cw_before s i9)) 0 (-1) _ (Nat.zero_le _) (⟨rfl, hr_in (by rw [hp1 1 (by decide)]; exact h)⟩) (fun i9 x w1 hi1 hR1 ih1 => ?_) (fun x w1 hR1 => ?_))
  · obtain ⟨hx1, hw1⟩ := hR1
    refine g_iload_n C rfl dX7_wouldWin_8 ?_
    refine g_iload_n C rfl dX7_wouldWin_9 ?_
    refine g_cmp_gt (tgt := 25) C (by decide) dX7_wouldWin_10 (fun c_10 => absurd c_10 (by rw [cw_lt, cw_ni (by omega), cw_ni (by omega)]; omega)) (fun c_10 => ?_)
    refine g_aload_n C rfl dX7_wouldWin_13 ?_
    refine g_iload_n C rfl dX7_wouldWin_14 ?_
    refine g_call C (ok_X7_settlesOne _ i9 rfl (by omega) (cw_I_before hI hB (by omega))) my_X7_settlesOne vi_X7_85 (by decide) ⟨Nat.le_refl _, Nat.le_refl _⟩ rfl rfl rfl (Nat.le_of_ble_eq_true rfl) dX7_wouldWin_15 rfl (hr_1 hw1) (fun v_15 w_15 hp_15 => ?_)
    obtain ⟨rfl, h_15⟩ := hp_15
    refine g_istore_n C (by decide) dX7_wouldWin_18 ?_
    refine g_iinc (v := nI (i9 + 1)) C rfl (nI_1 i9) (by decide) dX7_wouldWin_19 ?_
    refine g_goto (tgt := 8) C (by decide) dX7_wouldWin_22 ?_
    exact g_sub rfl (ih1 _ _ ⟨by rw [if_neg (Nat.succ_ne_zero i9)]; rfl, by rw [cw_before_1]; exact hr_call hw1 h_15⟩)
  obtain ⟨hx1, hw1⟩ := hR1
  refine g_iload_n C rfl dX7_wouldWin_8 ?_
  refine g_iload_n C rfl dX7_wouldWin_9 ?_
  refine g_cmp_gt (tgt := 25) C (by decide) dX7_wouldWin_10 (fun c_10 => ?_) (fun c_10 => absurd (by rw [cw_lt, cw_ni (by omega), cw_ni (by omega)]; omega) c_10)
  refine g_aload_n C rfl dX7_wouldWin_25 ?_
  refine g_call C (ok_X7_putBack) my_X7_putBack vi_X7_252 (by decide) ⟨Nat.le_refl _, Nat.le_refl _⟩ rfl rfl rfl (Nat.le_of_ble_eq_true rfl) dX7_wouldWin_26 rfl (trivial) (fun v_26 w_26 hp_26 => ?_)
  obtain ⟨rfl, hp26, hq26⟩ := hp_26
  refine g_iload_n C rfl dX7_wouldWin_29 ?_
  refine g_iret C F dX7_wouldWin_30 ?_
  refine ⟨by rw [hx1, if_neg (Nat.succ_ne_zero k)]; rfl, fun q h1 h2 => ?_, fun p hp => ?_⟩
  · rw [hp26 q h1, hr_q hw1 h1, hp1 q h2]
  · rw [hq26 p hp, hr_q hw1 (by decide), hq1 p hp, h]

set_option maxHeartbeats 8000000 in
set_option maxRecDepth 100000 in
theorem ok_X7_winner (k : Int32) (A : cw_A) {n m : Nat} (hI : cw_I n m A.1) (hB : cw_B n (m + 20)) : gw_Ok yX7_winner cX7_winner 2 (some .int) sM 6 [.ref 0, .int k] (fun w => cw_RM A w) (fun _ vr w1 => cw_FP (sp_winner A k) vr w1) := by
  refine gw_of (by decide) (Nat.le_of_ble_eq_true rfl) ?_
  intro X w h C F
  have es := cw_es h
  have h6 := hI.m.2
  have hIw : cw_I n m (w 1) := cw_I_cg hI es
  refine g_aload_n C rfl dX7_winner_0 ?_
  refine g_iload_n C rfl dX7_winner_1 ?_
  refine g_callS C (ok_X7_isWeek _) my_X7_isWeek si_X7_48 (by decide) ⟨Nat.le_refl _, Nat.le_refl _⟩ rfl (Nat.le_of_ble_eq_true rfl) dX7_winner_2 rfl (trivial) (fun v_2 w_2 hp_2 => ?_)
  obtain ⟨rfl, hw_2⟩ := hp_2
  have hw_2 := hw_2.symm; subst hw_2
  refine g_join1 13 (cw_if (cw_isW k) 0 1) (fun k_13 => ?_) ?_
  · refine g_if_eq (tgt := 12) C (by decide) dX7_winner_5 (fun c_5 => ?_) (fun c_5 => ?_)
    · refine g_iconst (v := 1) C (by decide) dX7_winner_12 ?_
      exact k_13 _ (by rw [cw_ie (cw_b0.mp c_5)])
    · refine g_iconst (v := 0) C (by decide) dX7_winner_8 ?_
      refine g_goto (tgt := 13) C (by decide) dX7_winner_9 ?_
      exact k_13 _ (by rw [cw_it (cw_bn c_5)])
  refine g_call C (ok_X7_holds _) my_X7_holds vi_X7_174 (by decide) ⟨Nat.le_refl _, Nat.le_refl _⟩ rfl rfl rfl (Nat.le_of_ble_eq_true rfl) dX7_winner_13 rfl (trivial) (fun v_13 w_13 hp_13 => ?_)
  obtain ⟨rfl, hw_13⟩ := hp_13
  have es2 : cw_eq (w_13 1) A.1 := by rw [hw_13, gw_set_ne _ _ _ _ (by decide)]; exact es
  have hI2 : cw_I n m (w_13 1) := cw_I_cg hI es2
  have hr2 : cw_RM A w_13 := by rw [hw_13]; exact cw_RM_thr h
  refine g_if_eq (tgt := 27) C (by decide) dX7_winner_16 (fun c_16 => ?_) (fun c_16 => ?_)
  · refine g_iconst (v := 0) C (by decide) dX7_winner_27 ?_
    refine g_iret C F dX7_winner_28 ?_
    exact cw_fin1 h hw_13 (cw_b0.mp c_16)
  · have hE := cw_bn c_16
    obtain ⟨k, rfl, hk⟩ := cw_isW_ix (cw_ifb (by decide) hE)
    have ek : cw_x (nI k) = k := cw_xn (by omega)
    have ht2 : w_13 0 0 = 0 := by rw [hw_13, gw_set_self, cw_ups]; exact hE
    refine g_aload_n C rfl dX7_winner_19 ?_
    refine g_iload_n C rfl dX7_winner_20 ?_
    refine g_call C (ok_X7_wouldWin _ k rfl hk hI2 hB) my_X7_wouldWin vi_X7_255 (by decide) ⟨Nat.le_refl _, Nat.le_refl _⟩ rfl rfl rfl (Nat.le_of_ble_eq_true rfl) dX7_winner_21 rfl (rfl) (fun v_21 w_21 hp_21 => ?_)
    obtain ⟨rfl, hf21, hs21⟩ := hp_21
    refine g_goto (tgt := 28) C (by decide) dX7_winner_24 ?_
    refine g_iret C F dX7_winner_28 ?_
    exact cw_fin0 hE (by show _ = cw_wins A.1 (cw_x (nI k)); rw [ek]; exact cw_wins_cg hI hB es2 hk) (by rw [hf21 0 (by decide) (by decide)]; exact ht2) (hr2.cg (cw_nf_cg hs21) (hf21 3 (by decide) (by decide)) (hf21 4 (by decide) (by decide)) (hf21 5 (by decide) (by decide)) (by rw [hf21 0 (by decide) (by decide)]) (by rw [hf21 0 (by decide) (by decide)]) (by rw [hf21 0 (by decide) (by decide)]))

theorem cw_lst (s : cw_s) (j k : Nat) : (-1 : Int32) = cw_if (cw_open s k) (cw_fold (fun i x => cw_if (cw_wins (upd s (85 + 20 * j + k) (nI (20 - i))) k = nI j) (nI (20 - i)) x) 0 0 (-1)) (-1) := by
  by_cases q : cw_open s k
  · rw [cw_it q]; rfl
  · rw [cw_ie q]
set_option maxHeartbeats 8000000 in
set_option maxRecDepth 100000 in
theorem ok_X7_leastFor {s : cw_s} (o b : Int32) (j k : Nat) (eo : o = nI j) (eb : b = nI k) (hj : j < cw_no s) (hk : k < 20) {n m : Nat} (hI : cw_I n m s) (hB : cw_B n (m + 20)) : gw_Ok yX7_leastFor cX7_leastFor 6 (some .int) sM 6 [.ref 0, .int o, .int b] (fun w => w 1 = s) (fun w vr w1 => vr = some (.int (cw_least s j k)) ∧ (∀ q, q ≠ 1 → q ≠ 2 → w1 q = w q) ∧ ∀ p, p < 242 → w1 1 p = s p) := by
  refine gw_of (by decide) (Nat.le_of_ble_eq_true rfl) ?_
  intro X w h C F
  subst eo; subst eb
  have h6 := hI.m.2
  have ek : cw_x (nI k) = k := cw_xn (by omega)
  have ej : cw_x (nI j) = j := cw_xn (by omega)
  refine g_aload_n C rfl dX7_leastFor_0 ?_
  refine g_getr C fl_X7_7 rfl rfl dX7_leastFor_1 ?_
  refine g_iload_n C rfl dX7_leastFor_4 ?_
  refine g_iload_n C rfl dX7_leastFor_5 ?_
  refine g_callS C (ok_X7_ofBid _ _ j k rfl rfl) my_X7_ofBid si_X7_72 (by decide) ⟨Nat.le_refl _, Nat.le_refl _⟩ rfl (Nat.le_of_ble_eq_true rfl) dX7_leastFor_6 rfl (trivial) (fun v_6 w_6 hp_6 => ?_)
  obtain ⟨rfl, hw_6⟩ := hp_6
  have hw_6 := hw_6.symm; subst hw_6
  refine g_iald (j := (85 + 20 * j + k)) C rfl (rfl) (by omega) (by decide) dX7_leastFor_9 ?_
  refine g_top (show _ = s (85 + 20 * j + k) by rw [h]) ?_
  refine g_istore_n C (by decide) dX7_leastFor_10 ?_
  refine g_iconst (v := (-1)) C (by decide) dX7_leastFor_11 ?_
  refine g_istore C (by decide) dX7_leastFor_12 ?_
  refine g_bipush (v := 20) C (by decide) dX7_leastFor_14 ?_
  refine g_istore C (by decide) dX7_leastFor_16 ?_
  refine g_sub rfl (g_for (α := Int32) 21 (fun i9 x => [(0, .ref 0), (1, .int (nI j)), (2, .int (nI k)), (3, .int (s (85 + 20 * j + k))), (4, .int x), (5, .int (20 - nI i9))]) (fun i9 x w1 => x = cw_if (cw_open s k) (cw_fold (fun i x => cw_if (cw_wins (upd s (85 + 20 * j + k) (nI (20 - i))) k = nI j) (nI (20 - i)) x) 0 i9 (-1)) (-1) ∧ (∀ q, q ≠ 1 → q ≠ 2 → w1 q = w q) ∧ ∀ p, p < 242 → w1 1 p = s p) 0 (-1) _ (Nat.zero_le _) (⟨cw_lst s j k, fun _ _ _ => rfl, fun p _ => by rw [h]⟩) (fun i9 x w1 hi1 hR1 ih1 => ?_) (fun x w1 hR1 => ?_))
  · obtain ⟨hx1, hfr, hsp⟩ := hR1
    have h20 : (20 : Int32) - nI i9 = nI (20 - i9) := cw_20 (by omega)
    refine g_sub (lv' := [(0, .ref 0), (1, .int (nI j)), (2, .int (nI k)), (3, .int (s (85 + 20 * j + k))), (4, .int x), (5, .int (nI (20 - i9)))]) (by rw [← h20]; rfl) ?_
    have eS : cw_eq (w1 1) s := cw_nf_cg hsp
    have hI1 : cw_I n m (w1 1) := cw_I_cg hI eS
    have hth : cw_th (w1 1) (nI j) (nI k) := by rw [cw_th_cg eS]; exact ⟨cw_isO_nI hI.m hj, cw_isW_nI hk⟩
    have hx20 : 0 ≤ nI (20 - i9) ∧ nI (20 - i9) ≤ 20 := by
      have z0 : (0 : Int32).toInt = 0 := rfl
      have z20 : (20 : Int32).toInt = 20 := rfl
      rw [cw_le, cw_le, cw_ni (by omega)]; omega
    refine g_iload C rfl dX7_leastFor_18 ?_
    refine g_if_lt (tgt := 81) C (by decide) dX7_leastFor_20 (fun c_20 => absurd c_20 (by rw [cw_lt, cw_ni (by omega)]; have z : (0 : Int32).toInt = 0 := rfl; omega)) (fun c_20 => ?_)
    refine g_aload_n C rfl dX7_leastFor_23 ?_
    refine g_iload_n C rfl dX7_leastFor_24 ?_
    refine g_iload_n C rfl dX7_leastFor_25 ?_
    refine g_iload C rfl dX7_leastFor_26 ?_
    refine g_call C (ok_X7_errorOfBid _ _ _) my_X7_errorOfBid vi_X7_134 (by decide) ⟨Nat.le_refl _, Nat.le_refl _⟩ rfl rfl rfl (Nat.le_of_ble_eq_true rfl) dX7_leastFor_28 rfl (rfl) (fun v_28 w_28 hp_28 => ?_)
    obtain ⟨rfl, hw_28⟩ := hp_28
    have hw_28 := hw_28.symm; subst hw_28
    refine g_if_ne (tgt := 81) C (by decide) dX7_leastFor_31 (fun c_31 => ?_) (fun c_31 => ?_)
    · refine g_iload C rfl dX7_leastFor_81 ?_
      refine g_iret C F dX7_leastFor_83 ?_
      have hno : ¬ cw_open s k := fun q => c_31 (cw_if3.mpr ⟨⟨hth, hx20⟩, by rw [ek, cw_open_cg eS hk]; exact q⟩)
      exact ⟨by rw [hx1, cw_ie hno, cw_least, cw_ie hno], hfr, hsp⟩
    · have hop : cw_open s k := by have q := (cw_if3.mp c_31).2; rwa [ek, cw_open_cg eS hk] at q
      refine g_aload_n C rfl dX7_leastFor_34 ?_
      refine g_getr C fl_X7_7 rfl rfl dX7_leastFor_35 ?_
      refine g_iload_n C rfl dX7_leastFor_38 ?_
      refine g_iload_n C rfl dX7_leastFor_39 ?_
      refine g_callS C (ok_X7_ofBid _ _ j k rfl rfl) my_X7_ofBid si_X7_72 (by decide) ⟨Nat.le_refl _, Nat.le_refl _⟩ rfl (Nat.le_of_ble_eq_true rfl) dX7_leastFor_40 rfl (trivial) (fun v_40 w_40 hp_40 => ?_)
      obtain ⟨rfl, hw_40⟩ := hp_40
      have hw_40 := hw_40.symm; subst hw_40
      refine g_iload C rfl dX7_leastFor_43 ?_
      refine g_iast (j := (85 + 20 * j + k)) C rfl (rfl) (by omega) (by decide) dX7_leastFor_45 ?_
      refine g_aload_n C rfl dX7_leastFor_46 ?_
      refine g_iload_n C rfl dX7_leastFor_47 ?_
      refine g_call C (ok_X7_wouldWin (s := upd (w1 1) (85 + 20 * j + k) (nI (20 - i9))) _ k rfl hk (cw_I_bid hI1 (by rw [cw_no_cg eS]; exact hj) hk (Or.inr ⟨20 - i9, by omega, by omega, rfl⟩)) hB) my_X7_wouldWin vi_X7_255 (by decide) ⟨Nat.le_refl _, Nat.le_refl _⟩ rfl rfl rfl (Nat.le_of_ble_eq_true rfl) dX7_leastFor_48 rfl (by rw [gw_set_self]) (fun v_48 w_48 hp_48 => ?_)
      obtain ⟨rfl, hf48, hs48⟩ := hp_48
      have hwn : cw_wins (upd (w1 1) (85 + 20 * j + k) (nI (20 - i9))) k = cw_wins (upd s (85 + 20 * j + k) (nI (20 - i9))) k := cw_wins_cg (cw_I_bid hI hj hk (Or.inr ⟨20 - i9, by omega, by omega, rfl⟩)) hB (cw_up eS _ (by omega) (by omega)) hk
      refine g_iload_n C rfl dX7_leastFor_51 ?_
      refine g_join2 62 (cw_if (cw_wins (upd s (85 + 20 * j + k) (nI (20 - i9))) k = nI j) (nI (20 - i9)) x) (fun k_62 => ?_) ?_
      · refine g_cmp_ne (tgt := 60) C (by decide) dX7_leastFor_52 (fun c_52 => ?_) (fun c_52 => ?_)
        · refine g_iload C rfl dX7_leastFor_60 ?_
          exact k_62 _ ((cw_ie (fun q => c_52 (hwn.trans q))).symm)
        · refine g_iload C rfl dX7_leastFor_55 ?_
          refine g_goto (tgt := 62) C (by decide) dX7_leastFor_57 ?_
          exact k_62 _ ((cw_it (hwn.symm.trans c_52)).symm)
      refine g_istore C (by decide) dX7_leastFor_62 ?_
      refine g_aload_n C rfl dX7_leastFor_64 ?_
      refine g_getr C fl_X7_7 rfl rfl dX7_leastFor_65 ?_
      refine g_iload_n C rfl dX7_leastFor_68 ?_
      refine g_iload_n C rfl dX7_leastFor_69 ?_
      refine g_callS C (ok_X7_ofBid _ _ j k rfl rfl) my_X7_ofBid si_X7_72 (by decide) ⟨Nat.le_refl _, Nat.le_refl _⟩ rfl (Nat.le_of_ble_eq_true rfl) dX7_leastFor_70 rfl (trivial) (fun v_70 w_70 hp_70 => ?_)
      obtain ⟨rfl, hw_70⟩ := hp_70
      have hw_70 := hw_70.symm; subst hw_70
      refine g_iload_n C rfl dX7_leastFor_73 ?_
      refine g_iast (j := (85 + 20 * j + k)) C rfl (rfl) (by omega) (by decide) dX7_leastFor_74 ?_
      refine g_iinc (v := 20 - nI (i9 + 1)) C rfl (cw_201 (by omega)) (by decide) dX7_leastFor_75 ?_
      refine g_goto (tgt := 18) C (by decide) dX7_leastFor_78 ?_
      exact g_sub rfl (ih1 _ _ ⟨by rw [cw_it hop] at hx1 ⊢; rw [cw_fold0, ← hx1], fun q a b => by rw [gw_set_ne _ _ _ _ a, hf48 q a b, gw_set_ne _ _ _ _ a]; exact hfr q a b, fun p hp => by
        rw [gw_set_self]; unfold upd; split
        · next q => rw [q]
        · next q => rw [hs48 p hp, cw_upn _ _ q]; exact hsp p hp⟩)
  obtain ⟨hx1, hfr, hsp⟩ := hR1
  refine g_iload C rfl dX7_leastFor_18 ?_
  refine g_if_lt (tgt := 81) C (by decide) dX7_leastFor_20 (fun c_20 => ?_) (fun c_20 => absurd (by decide) c_20)
  refine g_iload C rfl dX7_leastFor_81 ?_
  refine g_iret C F dX7_leastFor_83 ?_
  exact ⟨by rw [hx1]; rfl, hfr, hsp⟩

set_option maxHeartbeats 8000000 in
set_option maxRecDepth 100000 in
theorem ok_X7_leastBid (o k : Int32) (A : cw_A) {n m : Nat} (hI : cw_I n m A.1) (hB : cw_B n (m + 20)) : gw_Ok yX7_leastBid cX7_leastBid 3 (some .int) sM 7 [.ref 0, .int o, .int k] (fun w => cw_RM A w) (fun _ vr w1 => cw_FP (sp_leastBid A o k) vr w1) := by
  refine gw_of (by decide) (Nat.le_of_ble_eq_true rfl) ?_
  intro X w h C F
  have es := cw_es h
  have h6 := hI.m.2
  have hIw : cw_I n m (w 1) := cw_I_cg hI es
  refine g_aload_n C rfl dX7_leastBid_0 ?_
  refine g_aload_n C rfl dX7_leastBid_1 ?_
  refine g_iload_n C rfl dX7_leastBid_2 ?_
  refine g_iload_n C rfl dX7_leastBid_3 ?_
  refine g_call C (ok_X7_areThere _ _) my_X7_areThere vi_X7_107 (by decide) ⟨Nat.le_refl _, Nat.le_refl _⟩ rfl rfl rfl (Nat.le_of_ble_eq_true rfl) dX7_leastBid_4 rfl (rfl) (fun v_4 w_4 hp_4 => ?_)
  obtain ⟨rfl, hw_4⟩ := hp_4
  have hw_4 := hw_4.symm; subst hw_4
  refine g_top (show _ = cw_b (cw_th A.1 o k) by rw [cw_th_cg es]) ?_
  refine g_join1 15 (cw_if (cw_th A.1 o k) 0 1) (fun k_15 => ?_) ?_
  · refine g_if_eq (tgt := 14) C (by decide) dX7_leastBid_7 (fun c_7 => ?_) (fun c_7 => ?_)
    · refine g_iconst (v := 1) C (by decide) dX7_leastBid_14 ?_
      exact k_15 _ (by rw [cw_ie (cw_b0.mp c_7)])
    · refine g_iconst (v := 0) C (by decide) dX7_leastBid_10 ?_
      refine g_goto (tgt := 15) C (by decide) dX7_leastBid_11 ?_
      exact k_15 _ (by rw [cw_it (cw_bn c_7)])
  refine g_call C (ok_X7_holds _) my_X7_holds vi_X7_174 (by decide) ⟨Nat.le_refl _, Nat.le_refl _⟩ rfl rfl rfl (Nat.le_of_ble_eq_true rfl) dX7_leastBid_15 rfl (trivial) (fun v_15 w_15 hp_15 => ?_)
  obtain ⟨rfl, hw_15⟩ := hp_15
  have es2 : cw_eq (w_15 1) A.1 := by rw [hw_15, gw_set_ne _ _ _ _ (by decide)]; exact es
  have hI2 : cw_I n m (w_15 1) := cw_I_cg hI es2
  have hr2 : cw_RM A w_15 := by rw [hw_15]; exact cw_RM_thr h
  refine g_if_eq (tgt := 30) C (by decide) dX7_leastBid_18 (fun c_18 => ?_) (fun c_18 => ?_)
  · refine g_iconst (v := 0) C (by decide) dX7_leastBid_30 ?_
    refine g_iret C F dX7_leastBid_31 ?_
    exact cw_fin1 h hw_15 (cw_b0.mp c_18)
  · have hE := cw_bn c_18
    have hE1 := cw_ifb (by decide) hE
    obtain ⟨j, rfl, hj⟩ := cw_isO_ix hI.m hE1.1
    obtain ⟨k, rfl, hk⟩ := cw_isW_ix hE1.2
    have ej : cw_x (nI j) = j := cw_xn (by omega)
    have ek : cw_x (nI k) = k := cw_xn (by omega)
    have hj6 : j < 6 := by omega
    have ht2 : w_15 0 0 = 0 := by rw [hw_15, gw_set_self, cw_ups]; exact hE
    refine g_aload_n C rfl dX7_leastBid_21 ?_
    refine g_iload_n C rfl dX7_leastBid_22 ?_
    refine g_iload_n C rfl dX7_leastBid_23 ?_
    refine g_call C (ok_X7_leastFor _ _ j k rfl rfl (by rw [cw_no_cg es2]; exact hj) hk hI2 hB) my_X7_leastFor vi_X7_258 (by decide) ⟨Nat.le_refl _, Nat.le_refl _⟩ rfl rfl rfl (Nat.le_of_ble_eq_true rfl) dX7_leastBid_24 rfl (rfl) (fun v_24 w_24 hp_24 => ?_)
    obtain ⟨rfl, hf24, hs24⟩ := hp_24
    refine g_goto (tgt := 31) C (by decide) dX7_leastBid_27 ?_
    refine g_iret C F dX7_leastBid_31 ?_
    exact cw_fin0 hE (by show _ = cw_least A.1 (cw_x (nI j)) (cw_x (nI k)); rw [ej, ek]; exact cw_least_cg hI hB es2 hj hk) (by rw [hf24 0 (by decide) (by decide)]; exact ht2) (hr2.cg (cw_nf_cg hs24) (hf24 3 (by decide) (by decide)) (hf24 4 (by decide) (by decide)) (hf24 5 (by decide) (by decide)) (by rw [hf24 0 (by decide) (by decide)]) (by rw [hf24 0 (by decide) (by decide)]) (by rw [hf24 0 (by decide) (by decide)]))

