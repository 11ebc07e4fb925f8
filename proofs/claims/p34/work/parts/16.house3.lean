set_option maxHeartbeats 8000000 in
set_option maxRecDepth 100000 in
theorem ok_X1_hasOffer {t : cw_s} (k : Int32) {n m : Nat} (hI : cw_I n m t) : gw_Ok yX1_hasOffer cX1_hasOffer 2 (some .boolean) sH 1 [.ref 0, .int k] (fun w => ho w = t) (fun w vr w1 => vr = some (.int (cw_b (cw_isK t k))) ∧ w1 = w) := by
  refine gw_of (by decide) (Nat.le_of_ble_eq_true rfl) ?_
  intro X w h C F
  have hno := hI.no
  obtain ⟨q, q8, -, hq⟩ := hI.offn
  refine g_iload_n C rfl dX1_hasOffer_0 ?_
  refine g_if_lt (tgt := 22) C (by decide) dX1_hasOffer_1 (fun c_1 => ?_) (fun c_1 => ?_)
  · refine g_iconst (v := 0) C (by decide) dX1_hasOffer_22 ?_
    refine g_zret C F (rfl) dX1_hasOffer_23 ?_
    refine ⟨?_, rfl⟩
    clear C F
    try simp only [cw_b0, Classical.not_not] at *
    simp only [cw_isO_lt (cw_I.m hI), cw_isW_lt, cw_th, cw_open, cw_lt, cw_le, cw_eqi, Int32.reduceToInt, cw_isK_lt hI] at *
    first | exact cw_q1 (by omega) | exact cw_q0 (by omega)
  · refine g_iload_n C rfl dX1_hasOffer_4 ?_
    refine g_aload_n C rfl dX1_hasOffer_5 ?_
    refine g_getf C fl_X1_77 rfl rfl dX1_hasOffer_6 ?_
    refine g_top (ho_f12 h) ?_
    refine g_cmp_ge (tgt := 22) C (by decide) dX1_hasOffer_9 (fun c_9 => ?_) (fun c_9 => ?_)
    · refine g_iconst (v := 0) C (by decide) dX1_hasOffer_22 ?_
      refine g_zret C F (rfl) dX1_hasOffer_23 ?_
      refine ⟨?_, rfl⟩
      clear C F
      try simp only [cw_b0, Classical.not_not] at *
      simp only [cw_isO_lt (cw_I.m hI), cw_isW_lt, cw_th, cw_open, cw_lt, cw_le, cw_eqi, Int32.reduceToInt, cw_isK_lt hI] at *
      first | exact cw_q1 (by omega) | exact cw_q0 (by omega)
    · refine g_iload_n C rfl dX1_hasOffer_12 ?_
      refine g_bipush (v := 8) C (by decide) dX1_hasOffer_13 ?_
      refine g_cmp_ge (tgt := 22) C (by decide) dX1_hasOffer_15 (fun c_15 => ?_) (fun c_15 => ?_)
      · refine g_iconst (v := 0) C (by decide) dX1_hasOffer_22 ?_
        refine g_zret C F (rfl) dX1_hasOffer_23 ?_
        refine ⟨?_, rfl⟩
        clear C F
        try simp only [cw_b0, Classical.not_not] at *
        simp only [cw_isO_lt (cw_I.m hI), cw_isW_lt, cw_th, cw_open, cw_lt, cw_le, cw_eqi, Int32.reduceToInt, cw_isK_lt hI] at *
        first | exact cw_q1 (by omega) | exact cw_q0 (by omega)
      · refine g_iconst (v := 1) C (by decide) dX1_hasOffer_18 ?_
        refine g_goto (tgt := 23) C (by decide) dX1_hasOffer_19 ?_
        refine g_zret C F (rfl) dX1_hasOffer_23 ?_
        refine ⟨?_, rfl⟩
        clear C F
        try simp only [cw_b0, Classical.not_not] at *
        simp only [cw_isO_lt (cw_I.m hI), cw_isW_lt, cw_th, cw_open, cw_lt, cw_le, cw_eqi, Int32.reduceToInt, cw_isK_lt hI] at *
        first | exact cw_q1 (by omega) | exact cw_q0 (by omega)

set_option maxHeartbeats 8000000 in
set_option maxRecDepth 100000 in
theorem ok_X1_lowestWeekHeldBy {t : cw_s} (o : Int32) {n m : Nat} (hI : cw_I n m t) : gw_Ok yX1_lowestWeekHeldBy cX1_lowestWeekHeldBy 3 (some .int) sH 1 [.ref 0, .int o] (fun w => ho w = t) (fun w vr w1 => vr = some (.int (cw_low t o)) ∧ w1 = w) := by
  refine gw_of (by decide) (Nat.le_of_ble_eq_true rfl) ?_
  intro X w h C F
  have hno := hI.no
  refine g_iconst (v := 0) C (by decide) dX1_lowestWeekHeldBy_0 ?_
  refine g_istore_n C (by decide) dX1_lowestWeekHeldBy_1 ?_
  refine g_sub rfl (g_for (α := Unit) 20 (fun i1 x1 => [(0, .ref 0), (1, .int o), (2, .int (nI i1))]) (fun i1 x1 w1 => (∀ k, k < i1 → ¬ t (25 + 3 * k + 2) = o) ∧ w1 = w) 0 () _ (Nat.zero_le _) (⟨fun k hk => absurd hk (Nat.not_lt_zero k), rfl⟩) (fun i1 x1 w1 hi1 hR1 ih1 => ?_) (fun x1 w1 hR1 => ?_))
  · obtain ⟨hx1, rfl⟩ := hR1
    refine g_iload_n C rfl dX1_lowestWeekHeldBy_2 ?_
    refine g_bipush (v := 20) C (by decide) dX1_lowestWeekHeldBy_3 ?_
    refine g_cmp_ge (tgt := 26) C (by decide) dX1_lowestWeekHeldBy_5 (fun c_5 => absurd c_5 (nI_ge hi1 (by decide))) (fun c_5 => ?_)
    refine g_aload_n C rfl dX1_lowestWeekHeldBy_8 ?_
    refine g_getr C fl_X1_37 rfl rfl dX1_lowestWeekHeldBy_9 ?_
    refine g_iload_n C rfl dX1_lowestWeekHeldBy_12 ?_
    refine g_iald C rfl (by first | rfl | assumption | (simp only [nI_add, pk_mul, *]; done)) (by first | assumption | omega) (by decide) dX1_lowestWeekHeldBy_13 ?_
    refine g_top (ho_r9 h (by first | assumption | omega) (rfl)) ?_
    refine g_iload_n C rfl dX1_lowestWeekHeldBy_14 ?_
    refine g_cmp_ne (tgt := 20) C (by decide) dX1_lowestWeekHeldBy_15 (fun c_15 => ?_) (fun c_15 => ?_)
    · refine g_iinc (v := nI (i1 + 1)) C rfl (nI_1 i1) (by decide) dX1_lowestWeekHeldBy_20 ?_
      refine g_goto (tgt := 2) C (by decide) dX1_lowestWeekHeldBy_23 ?_
      exact g_sub rfl (ih1 () _ ⟨fun k hk => (Nat.lt_succ_iff_lt_or_eq.mp hk).elim (fun q => hx1 k q) (fun q => by rw [q]; exact c_15), rfl⟩)
    · refine g_iload_n C rfl dX1_lowestWeekHeldBy_18 ?_
      refine g_iret C F dX1_lowestWeekHeldBy_19 ?_
      exact ⟨by rw [cw_low_eq t o i1 hi1 hx1 c_15], rfl⟩
  obtain ⟨hx1, rfl⟩ := hR1
  refine g_iload_n C rfl dX1_lowestWeekHeldBy_2 ?_
  refine g_bipush (v := 20) C (by decide) dX1_lowestWeekHeldBy_3 ?_
  refine g_cmp_ge (tgt := 26) C (by decide) dX1_lowestWeekHeldBy_5 (fun c_5 => ?_) (fun c_5 => absurd (by decide) c_5)
  refine g_iconst (v := (-1)) C (by decide) dX1_lowestWeekHeldBy_26 ?_
  refine g_iret C F dX1_lowestWeekHeldBy_27 ?_
  exact ⟨by rw [cw_low_none t o hx1], rfl⟩

set_option maxHeartbeats 8000000 in
set_option maxRecDepth 100000 in
theorem ok_X1_givePoints {t : cw_s} (a : Int32)  (j : Nat) (hj : j < 6) (ea : a = nI j) : gw_Ok yX1_givePoints cX1_givePoints 3 none sH 1 [.ref 0, .int a] (fun w => ho w = t) (fun _ vr w1 => vr = none ∧ ho w1 = cw_gives t j) := by
  refine gw_of (by decide) (Nat.le_of_ble_eq_true rfl) ?_
  intro X w h C F
  subst ea
  refine g_aload_n C rfl dX1_givePoints_0 ?_
  refine g_getr C fl_X1_9 rfl rfl dX1_givePoints_1 ?_
  refine g_iconst (v := 0) C (by decide) dX1_givePoints_4 ?_
  refine g_iald (j := 0) C rfl (rfl) (by decide) (by decide) dX1_givePoints_5 ?_
  refine g_top (ho_r1 (k := 231) h (by decide) (rfl)) ?_
  refine g_aload_n C rfl dX1_givePoints_6 ?_
  refine g_getr C fl_X1_18 rfl rfl dX1_givePoints_7 ?_
  refine g_iload_n C rfl dX1_givePoints_10 ?_
  refine g_iald C rfl (by first | rfl | assumption | (simp only [nI_add, pk_mul, *]; done)) (by first | assumption | omega) (by decide) dX1_givePoints_11 ?_
  refine g_top (ho_r3 h (by first | assumption | omega) (rfl)) ?_
  refine g_imul C dX1_givePoints_12 ?_
  refine g_istore_n C (by decide) dX1_givePoints_13 ?_
  refine g_aload_n C rfl dX1_givePoints_14 ?_
  refine g_getr C fl_X1_21 rfl rfl dX1_givePoints_15 ?_
  refine g_iload_n C rfl dX1_givePoints_18 ?_
  refine g_dup2 C rfl rfl dX1_givePoints_19 ?_
  refine g_iald C rfl (by first | rfl | assumption | (simp only [nI_add, pk_mul, *]; done)) (by first | assumption | omega) (by decide) dX1_givePoints_20 ?_
  refine g_top (ho_r4 h (by first | assumption | omega) (rfl)) ?_
  refine g_iload_n C rfl dX1_givePoints_21 ?_
  refine g_iadd C dX1_givePoints_22 ?_
  refine g_iast C rfl (by first | rfl | assumption | (simp only [nI_add, pk_mul, *]; done)) (by first | assumption | omega) (by decide) dX1_givePoints_23 ?_
  refine g_gen (ho_s4 h (by first | assumption | omega) (rfl)) (fun w1 h1 => ?_)
  refine g_aload_n C rfl dX1_givePoints_24 ?_
  refine g_getr C fl_X1_15 rfl rfl dX1_givePoints_25 ?_
  refine g_iconst (v := 0) C (by decide) dX1_givePoints_28 ?_
  refine g_dup2 C rfl rfl dX1_givePoints_29 ?_
  refine g_iald (j := 0) C rfl (rfl) (by decide) (by decide) dX1_givePoints_30 ?_
  refine g_top (ho_r2 (k := 234) h1 (by decide) (rfl)) ?_
  refine g_iload_n C rfl dX1_givePoints_31 ?_
  refine g_iadd C dX1_givePoints_32 ?_
  refine g_iast (j := 0) C rfl (rfl) (by decide) (by decide) dX1_givePoints_33 ?_
  refine g_gen (ho_s2 (k := 234) h1 (by decide) (rfl)) (fun w2 h2 => ?_)
  refine g_vret C F dX1_givePoints_34 ?_
  exact ⟨rfl, h2⟩

set_option maxHeartbeats 8000000 in
set_option maxRecDepth 100000 in
theorem ok_X1_spendPoints {t : cw_s} (a p : Int32)  (j : Nat) (hj : j < 6) (ea : a = nI j) : gw_Ok yX1_spendPoints cX1_spendPoints 3 none sH 1 [.ref 0, .int a, .int p] (fun w => ho w = t) (fun _ vr w1 => vr = none ∧ ho w1 = cw_spends t j p) := by
  refine gw_of (by decide) (Nat.le_of_ble_eq_true rfl) ?_
  intro X w h C F
  subst ea
  refine g_aload_n C rfl dX1_spendPoints_0 ?_
  refine g_getr C fl_X1_21 rfl rfl dX1_spendPoints_1 ?_
  refine g_iload_n C rfl dX1_spendPoints_4 ?_
  refine g_dup2 C rfl rfl dX1_spendPoints_5 ?_
  refine g_iald C rfl (by first | rfl | assumption | (simp only [nI_add, pk_mul, *]; done)) (by first | assumption | omega) (by decide) dX1_spendPoints_6 ?_
  refine g_top (ho_r4 h (by first | assumption | omega) (rfl)) ?_
  refine g_iload_n C rfl dX1_spendPoints_7 ?_
  refine g_isub C dX1_spendPoints_8 ?_
  refine g_iast C rfl (by first | rfl | assumption | (simp only [nI_add, pk_mul, *]; done)) (by first | assumption | omega) (by decide) dX1_spendPoints_9 ?_
  refine g_gen (ho_s4 h (by first | assumption | omega) (rfl)) (fun w1 h1 => ?_)
  refine g_aload_n C rfl dX1_spendPoints_10 ?_
  refine g_getr C fl_X1_15 rfl rfl dX1_spendPoints_11 ?_
  refine g_iconst (v := 1) C (by decide) dX1_spendPoints_14 ?_
  refine g_dup2 C rfl rfl dX1_spendPoints_15 ?_
  refine g_iald (j := 1) C rfl (rfl) (by decide) (by decide) dX1_spendPoints_16 ?_
  refine g_top (ho_r2 (k := 235) h1 (by decide) (rfl)) ?_
  refine g_iload_n C rfl dX1_spendPoints_17 ?_
  refine g_iadd C dX1_spendPoints_18 ?_
  refine g_iast (j := 1) C rfl (rfl) (by decide) (by decide) dX1_spendPoints_19 ?_
  refine g_gen (ho_s2 (k := 235) h1 (by decide) (rfl)) (fun w2 h2 => ?_)
  refine g_vret C F dX1_spendPoints_20 ?_
  exact ⟨rfl, h2⟩

set_option maxHeartbeats 8000000 in
set_option maxRecDepth 100000 in
theorem ok_X1_addOwner {t : cw_s} (a : Int32) {n m : Nat} (hI : cw_I n m t) : gw_Ok yX1_addOwner cX1_addOwner 3 (some .int) sH 2 [.ref 0, .int a] (fun w => ho w = t) (fun _ vr w1 => vr = some (.int (cw_re (cw_oOwner t a).1)) ∧ ho w1 = (cw_oOwner t a).2) := by
  refine gw_of (by decide) (Nat.le_of_ble_eq_true rfl) ?_
  intro X w h C F
  have hno := hI.no
  refine g_iload_n C rfl dX1_addOwner_0 ?_
  refine g_iconst (v := 1) C (by decide) dX1_addOwner_1 ?_
  refine g_cmp_lt (tgt := 20) C (by decide) dX1_addOwner_2 (fun c_2 => ?_) (fun c_2 => ?_)
  · refine g_bipush (v := (-2)) C (by decide) dX1_addOwner_20 ?_
    refine g_iret C F dX1_addOwner_22 ?_
    clear F C
    have hq : cw_oOwner t a = (-9, t) := cw_ie (by simp only [cw_lt, cw_le, cw_eqi, Int32.reduceToInt] at *; omega)
    exact ⟨by rw [hq]; rfl, by rw [hq]; exact h⟩
  · refine g_iload_n C rfl dX1_addOwner_5 ?_
    refine g_bipush (v := 9) C (by decide) dX1_addOwner_6 ?_
    refine g_cmp_gt (tgt := 20) C (by decide) dX1_addOwner_8 (fun c_8 => ?_) (fun c_8 => ?_)
    · refine g_bipush (v := (-2)) C (by decide) dX1_addOwner_20 ?_
      refine g_iret C F dX1_addOwner_22 ?_
      clear F C
      have hq : cw_oOwner t a = (-9, t) := cw_ie (by simp only [cw_lt, cw_le, cw_eqi, Int32.reduceToInt] at *; omega)
      exact ⟨by rw [hq]; rfl, by rw [hq]; exact h⟩
    · refine g_aload_n C rfl dX1_addOwner_11 ?_
      refine g_getf C fl_X1_74 rfl rfl dX1_addOwner_12 ?_
      refine g_top (ho_f3 h) ?_
      refine g_bipush (v := 6) C (by decide) dX1_addOwner_15 ?_
      refine g_cmp_lt (tgt := 23) C (by decide) dX1_addOwner_17 (fun c_17 => ?_) (fun c_17 => ?_)
      · have h6 : cw_no t < 6 := by clear F C; simp only [cw_lt, Int32.reduceToInt] at c_17; omega
        refine g_aload_n C rfl dX1_addOwner_23 ?_
        refine g_getf C fl_X1_74 rfl rfl dX1_addOwner_24 ?_
        refine g_top (ho_f3 h) ?_
        refine g_istore_n C (by decide) dX1_addOwner_27 ?_
        refine g_aload_n C rfl dX1_addOwner_28 ?_
        refine g_dup C rfl dX1_addOwner_29 ?_
        refine g_getf C fl_X1_74 rfl rfl dX1_addOwner_30 ?_
        refine g_top (ho_f3 h) ?_
        refine g_iconst (v := 1) C (by decide) dX1_addOwner_33 ?_
        refine g_iadd C dX1_addOwner_34 ?_
        refine g_putf C fl_X1_74 fp_1_3 rfl rfl (rfl) (rfl) dX1_addOwner_35 ?_
        refine g_gen (ho_p3 h) (fun w1 h1 => ?_)
        refine g_aload_n C rfl dX1_addOwner_38 ?_
        refine g_getr C fl_X1_18 rfl rfl dX1_addOwner_39 ?_
        refine g_iload_n C rfl dX1_addOwner_42 ?_
        refine g_iload_n C rfl dX1_addOwner_43 ?_
        refine g_iast (j := cw_no t) C rfl (hI.m.1) (by omega) (by decide) dX1_addOwner_44 ?_
        refine g_gen (ho_s3 h1 (by omega) (rfl)) (fun w2 h2 => ?_)
        refine g_aload_n C rfl dX1_addOwner_45 ?_
        refine g_iload_n C rfl dX1_addOwner_46 ?_
        refine g_call C (ok_X1_givePoints _ (cw_no t) (by omega) hI.m.1) my_X1_givePoints vi_X1_100 (by decide) ⟨Nat.le_refl _, Nat.le_refl _⟩ rfl rfl rfl (Nat.le_of_ble_eq_true rfl) dX1_addOwner_47 rfl (h2) (fun v_47 w_47 hp_47 => ?_)
        obtain ⟨rfl, h_47⟩ := hp_47
        refine g_iload_n C rfl dX1_addOwner_50 ?_
        refine g_iret C F dX1_addOwner_51 ?_
        have hq : cw_oOwner t a = (t 0, cw_comes t (cw_no t) a) := cw_it (by clear F C; simp only [cw_lt, cw_le, cw_eqi, Int32.reduceToInt] at *; omega)
        exact ⟨by rw [hq, cw_ren (by clear F C; simp only [cw_eqi, Int32.reduceToInt]; omega)], by rw [hq]; exact h_47.trans (cw_comes_eq hI h6 a).symm⟩
      · refine g_bipush (v := (-2)) C (by decide) dX1_addOwner_20 ?_
        refine g_iret C F dX1_addOwner_22 ?_
        clear F C
        have hq : cw_oOwner t a = (-9, t) := cw_ie (by simp only [cw_lt, cw_le, cw_eqi, Int32.reduceToInt] at *; omega)
        exact ⟨by rw [hq]; rfl, by rw [hq]; exact h⟩

set_option maxHeartbeats 8000000 in
set_option maxRecDepth 100000 in
theorem ok_X1_changeCost {t : cw_s} (k a : Int32) {n m : Nat} (hI : cw_I n m t) : gw_Ok yX1_changeCost cX1_changeCost 4 (some .int) sH 2 [.ref 0, .int k, .int a] (fun w => ho w = t) (fun _ vr w1 => vr = some (.int (cw_re (cw_oCost t k a).1)) ∧ ho w1 = (cw_oCost t k a).2) := by
  refine gw_of (by decide) (Nat.le_of_ble_eq_true rfl) ?_
  intro X w h C F
  have hno := hI.no
  refine g_aload_n C rfl dX1_changeCost_0 ?_
  refine g_iload_n C rfl dX1_changeCost_1 ?_
  refine g_call C (ok_X1_hasWeek _ (by first | assumption)) my_X1_hasWeek vi_X1_84 (by decide) ⟨Nat.le_refl _, Nat.le_refl _⟩ rfl rfl rfl (Nat.le_of_ble_eq_true rfl) dX1_changeCost_2 rfl (h) (fun v_2 w_2 hp_2 => ?_)
  obtain ⟨rfl, hw_2⟩ := hp_2
  have hw_2 := hw_2.symm; subst hw_2
  refine g_if_eq (tgt := 19) C (by decide) dX1_changeCost_5 (fun c_5 => ?_) (fun c_5 => ?_)
  · refine g_bipush (v := (-2)) C (by decide) dX1_changeCost_19 ?_
    refine g_iret C F dX1_changeCost_21 ?_
    have hq : cw_oCost t k a = (-9, t) := cw_ie (by clear C F; (try simp only [cw_b0, Classical.not_not] at *); simp only [cw_isO_lt (cw_I.m hI), cw_isW_lt, cw_th, cw_open, cw_lt, cw_le, cw_eqi, Int32.reduceToInt] at *; omega)
    exact ⟨by rw [hq]; rfl, by rw [hq]; exact h⟩
  · refine g_iload_n C rfl dX1_changeCost_8 ?_
    refine g_iconst (v := 1) C (by decide) dX1_changeCost_9 ?_
    refine g_cmp_lt (tgt := 19) C (by decide) dX1_changeCost_10 (fun c_10 => ?_) (fun c_10 => ?_)
    · refine g_bipush (v := (-2)) C (by decide) dX1_changeCost_19 ?_
      refine g_iret C F dX1_changeCost_21 ?_
      have hq : cw_oCost t k a = (-9, t) := cw_ie (by clear C F; (try simp only [cw_b0, Classical.not_not] at *); simp only [cw_isO_lt (cw_I.m hI), cw_isW_lt, cw_th, cw_open, cw_lt, cw_le, cw_eqi, Int32.reduceToInt] at *; omega)
      exact ⟨by rw [hq]; rfl, by rw [hq]; exact h⟩
    · refine g_iload_n C rfl dX1_changeCost_13 ?_
      refine g_bipush (v := 9) C (by decide) dX1_changeCost_14 ?_
      refine g_cmp_le (tgt := 22) C (by decide) dX1_changeCost_16 (fun c_16 => ?_) (fun c_16 => ?_)
      · obtain ⟨k, rfl, hk⟩ := cw_isW_ix (cw_bn c_5)
        have ek : cw_x (nI k) = k := cw_xn (by omega)
        have ik : (nI k).toInt = (k : Int) := cw_ni (by omega)
        have hc := (hI.cos k hk).toInt (by decide)
        refine g_aload_n C rfl dX1_changeCost_22 ?_
        refine g_getr C fl_X1_30 rfl rfl dX1_changeCost_23 ?_
        refine g_iload_n C rfl dX1_changeCost_26 ?_
        refine g_iald C rfl (by first | rfl | assumption | (simp only [nI_add, pk_mul, *]; done)) (by first | assumption | omega) (by decide) dX1_changeCost_27 ?_
        refine g_top (ho_r7 h (by first | assumption | omega) (rfl)) ?_
        refine g_istore_n C (by decide) dX1_changeCost_28 ?_
        refine g_aload_n C rfl dX1_changeCost_29 ?_
        refine g_getr C fl_X1_30 rfl rfl dX1_changeCost_30 ?_
        refine g_iload_n C rfl dX1_changeCost_33 ?_
        refine g_iload_n C rfl dX1_changeCost_34 ?_
        refine g_iast C rfl (by first | rfl | assumption | (simp only [nI_add, pk_mul, *]; done)) (by first | assumption | omega) (by decide) dX1_changeCost_35 ?_
        refine g_gen (ho_s7 h (by first | assumption | omega) (rfl)) (fun w1 h1 => ?_)
        refine g_iload_n C rfl dX1_changeCost_36 ?_
        refine g_iret C F dX1_changeCost_37 ?_
        have hq : cw_oCost t (nI k) a = (t (25 + 3 * k + 0), upd t (25 + 3 * k + 0) a) := by rw [cw_oCost, ek]; exact cw_it (by clear C F; (try simp only [cw_b0, Classical.not_not] at *); simp only [cw_isO_lt (cw_I.m hI), cw_isW_lt, cw_th, cw_open, cw_lt, cw_le, cw_eqi, Int32.reduceToInt] at *; omega)
        exact ⟨by rw [hq, cw_ren (by clear C F; (try simp only [cw_b0, Classical.not_not] at *); simp only [cw_isO_lt (cw_I.m hI), cw_isW_lt, cw_th, cw_open, cw_lt, cw_le, cw_eqi, Int32.reduceToInt] at *; omega)], by rw [hq]; exact h1⟩
      · refine g_bipush (v := (-2)) C (by decide) dX1_changeCost_19 ?_
        refine g_iret C F dX1_changeCost_21 ?_
        have hq : cw_oCost t k a = (-9, t) := cw_ie (by clear C F; (try simp only [cw_b0, Classical.not_not] at *); simp only [cw_isO_lt (cw_I.m hI), cw_isW_lt, cw_th, cw_open, cw_lt, cw_le, cw_eqi, Int32.reduceToInt] at *; omega)
        exact ⟨by rw [hq]; rfl, by rw [hq]; exact h⟩

set_option maxHeartbeats 8000000 in
set_option maxRecDepth 100000 in
theorem ok_X1_markSchool {t : cw_s} (k a : Int32) (ha : cw_r 0 1 a) {n m : Nat} (hI : cw_I n m t) : gw_Ok yX1_markSchool cX1_markSchool 5 (some .int) sH 2 [.ref 0, .int k, .int a] (fun w => ho w = t) (fun _ vr w1 => vr = some (.int (cw_if (cw_isW k) (cw_schools (upd t (25 + 3 * cw_x k + 1) a)) (-2))) ∧ ho w1 = cw_if (cw_isW k) (upd t (25 + 3 * cw_x k + 1) a) t) := by
  refine gw_of (by decide) (Nat.le_of_ble_eq_true rfl) ?_
  intro X w h C F
  have hno := hI.no
  refine g_aload_n C rfl dX1_markSchool_0 ?_
  refine g_iload_n C rfl dX1_markSchool_1 ?_
  refine g_call C (ok_X1_hasWeek _ (by first | assumption)) my_X1_hasWeek vi_X1_84 (by decide) ⟨Nat.le_refl _, Nat.le_refl _⟩ rfl rfl rfl (Nat.le_of_ble_eq_true rfl) dX1_markSchool_2 rfl (h) (fun v_2 w_2 hp_2 => ?_)
  obtain ⟨rfl, hw_2⟩ := hp_2
  have hw_2 := hw_2.symm; subst hw_2
  refine g_if_ne (tgt := 11) C (by decide) dX1_markSchool_5 (fun c_5 => ?_) (fun c_5 => ?_)
  · obtain ⟨k, rfl, hk⟩ := cw_isW_ix (cw_bn c_5)
    have ek : cw_x (nI k) = k := cw_xn (by omega)
    have ik : (nI k).toInt = (k : Int) := cw_ni (by omega)
    refine g_aload_n C rfl dX1_markSchool_11 ?_
    refine g_getr C fl_X1_33 rfl rfl dX1_markSchool_12 ?_
    refine g_iload_n C rfl dX1_markSchool_15 ?_
    refine g_iload_n C rfl dX1_markSchool_16 ?_
    refine g_zast C rfl (by first | rfl | assumption | (simp only [nI_add, pk_mul, *]; done)) (by first | assumption | omega) (by decide) (by obtain ⟨z, h1, h2, rfl⟩ := ha; have h3 : z = 0 ∨ z = 1 := (by omega); rcases h3 with rfl | rfl <;> rfl) dX1_markSchool_17 ?_
    refine g_gen (ho_s8 h (by first | assumption | omega) (rfl)) (fun w1 h1 => ?_)
    refine g_iconst (v := 0) C (by decide) dX1_markSchool_18 ?_
    refine g_istore_n C (by decide) dX1_markSchool_19 ?_
    refine g_iconst (v := 0) C (by decide) dX1_markSchool_20 ?_
    refine g_istore C (by decide) dX1_markSchool_21 ?_
    refine g_sub rfl (g_for (α := Int32) 20 (fun i2 x => [(0, .ref 0), (3, .int x), (4, .int (nI i2))]) (fun i2 x w2 => x = cw_fold (fun v x => if upd t (25 + 3 * k + 1) a (25 + 3 * v + 1) = 0 then x else x + 1) 0 i2 0 ∧ ho w2 = upd t (25 + 3 * k + 1) a) 0 0 _ (Nat.zero_le _) (⟨rfl, h1⟩) (fun i2 x w2 hi2 hR2 ih2 => ?_) (fun x w2 hR2 => ?_))
    · obtain ⟨hx2, hw2⟩ := hR2
      refine g_iload C rfl dX1_markSchool_23 ?_
      refine g_bipush (v := 20) C (by decide) dX1_markSchool_25 ?_
      refine g_cmp_ge (tgt := 49) C (by decide) dX1_markSchool_27 (fun c_27 => absurd c_27 (nI_ge hi2 (by decide))) (fun c_27 => ?_)
      refine g_aload_n C rfl dX1_markSchool_30 ?_
      refine g_getr C fl_X1_33 rfl rfl dX1_markSchool_31 ?_
      refine g_iload C rfl dX1_markSchool_34 ?_
      refine g_zald C rfl (by first | rfl | assumption | (simp only [nI_add, pk_mul, *]; done)) (by first | assumption | omega) (by decide) dX1_markSchool_36 ?_
      refine g_top (ho_r8 hw2 (by first | assumption | omega) (rfl)) ?_
      refine g_if_eq (tgt := 43) C (by decide) dX1_markSchool_37 (fun c_37 => ?_) (fun c_37 => ?_)
      · refine g_iinc (v := nI (i2 + 1)) C rfl (nI_1 i2) (by decide) dX1_markSchool_43 ?_
        refine g_goto (tgt := 23) C (by decide) dX1_markSchool_46 ?_
        exact g_sub rfl (ih2 _ _ ⟨by rw [cw_fold0, ← hx2]; all_goals simp [c_37], hw2⟩)
      · refine g_iinc (v := x + 1) C rfl (rfl) (by decide) dX1_markSchool_40 ?_
        refine g_iinc (v := nI (i2 + 1)) C rfl (nI_1 i2) (by decide) dX1_markSchool_43 ?_
        refine g_goto (tgt := 23) C (by decide) dX1_markSchool_46 ?_
        exact g_sub rfl (ih2 _ _ ⟨by rw [cw_fold0, ← hx2]; all_goals simp [c_37], hw2⟩)
    obtain ⟨hx2, hw2⟩ := hR2
    refine g_iload C rfl dX1_markSchool_23 ?_
    refine g_bipush (v := 20) C (by decide) dX1_markSchool_25 ?_
    refine g_cmp_ge (tgt := 49) C (by decide) dX1_markSchool_27 (fun c_27 => ?_) (fun c_27 => absurd (by decide) c_27)
    refine g_iload_n C rfl dX1_markSchool_49 ?_
    refine g_iret C F dX1_markSchool_50 ?_
    exact ⟨by rw [cw_it (cw_isW_nI hk), ek, hx2, cw_schools_eq (fun z hz => (cw_I_sch hI hk ha).sch z hz)], by rw [cw_it (cw_isW_nI hk), ek]; exact hw2⟩
  · refine g_bipush (v := (-2)) C (by decide) dX1_markSchool_8 ?_
    refine g_iret C F dX1_markSchool_10 ?_
    have hq : ¬ cw_isW k := cw_b0.mp c_5
    exact ⟨by rw [cw_ie hq], by rw [cw_ie hq]; exact h⟩

set_option maxHeartbeats 8000000 in
set_option maxRecDepth 100000 in
theorem ok_X1_reasonAgainst {t : cw_s} (o k : Int32) {n m : Nat} (hI : cw_I n m t) : gw_Ok yX1_reasonAgainst cX1_reasonAgainst 3 (some .int) sH 2 [.ref 0, .int o, .int k] (fun w => ho w = t) (fun w vr w1 => vr = some (.int (cw_if (cw_th t o k) (cw_hind t (cw_x o) (cw_x k)) (-2))) ∧ w1 = w) := by
  refine gw_of (by decide) (Nat.le_of_ble_eq_true rfl) ?_
  intro X w h C F
  have hno := hI.no
  refine g_aload_n C rfl dX1_reasonAgainst_0 ?_
  refine g_iload_n C rfl dX1_reasonAgainst_1 ?_
  refine g_call C (ok_X1_hasOwner _ (by first | assumption)) my_X1_hasOwner vi_X1_80 (by decide) ⟨Nat.le_refl _, Nat.le_refl _⟩ rfl rfl rfl (Nat.le_of_ble_eq_true rfl) dX1_reasonAgainst_2 rfl (h) (fun v_2 w_2 hp_2 => ?_)
  obtain ⟨rfl, hw_2⟩ := hp_2
  have hw_2 := hw_2.symm; subst hw_2
  refine g_if_eq (tgt := 16) C (by decide) dX1_reasonAgainst_5 (fun c_5 => ?_) (fun c_5 => ?_)
  · refine g_bipush (v := (-2)) C (by decide) dX1_reasonAgainst_16 ?_
    refine g_iret C F dX1_reasonAgainst_18 ?_
    have hq : ¬ cw_th t o k := fun q => by first | exact cw_b0.mp c_5 q.1 | exact cw_b0.mp c_13 q.2
    exact ⟨by rw [cw_ie hq], rfl⟩
  · refine g_aload_n C rfl dX1_reasonAgainst_8 ?_
    refine g_iload_n C rfl dX1_reasonAgainst_9 ?_
    refine g_call C (ok_X1_hasWeek _ (by first | assumption)) my_X1_hasWeek vi_X1_84 (by decide) ⟨Nat.le_refl _, Nat.le_refl _⟩ rfl rfl rfl (Nat.le_of_ble_eq_true rfl) dX1_reasonAgainst_10 rfl (h) (fun v_10 w_10 hp_10 => ?_)
    obtain ⟨rfl, hw_10⟩ := hp_10
    have hw_10 := hw_10.symm; subst hw_10
    refine g_if_ne (tgt := 19) C (by decide) dX1_reasonAgainst_13 (fun c_13 => ?_) (fun c_13 => ?_)
    · obtain ⟨j, rfl, hj⟩ := cw_isO_ix hI.m (cw_bn c_5)
      have ej : cw_x (nI j) = j := cw_xn (by have := hI.m.2; omega)
      have ij : (nI j).toInt = (j : Int) := cw_ni (by have := hI.m.2; omega)
      have h6j : j < 6 := by have := hI.m.2; omega
      obtain ⟨k, rfl, hk⟩ := cw_isW_ix (cw_bn c_13)
      have ek : cw_x (nI k) = k := cw_xn (by omega)
      have ik : (nI k).toInt = (k : Int) := cw_ni (by omega)
      have hs : t (25 + 3 * k + 1) = 0 ∨ t (25 + 3 * k + 1) = 1 := by
        obtain ⟨z, h1, h2, h3⟩ := hI.sch k hk
        have h4 : z = 0 ∨ z = 1 := by omega
        rcases h4 with rfl | rfl
        · exact Or.inl h3
        · exact Or.inr h3
      refine g_aload_n C rfl dX1_reasonAgainst_19 ?_
      refine g_getr C fl_X1_33 rfl rfl dX1_reasonAgainst_20 ?_
      refine g_iload_n C rfl dX1_reasonAgainst_23 ?_
      refine g_zald C rfl (by first | rfl | assumption | (simp only [nI_add, pk_mul, *]; done)) (by first | assumption | omega) (by decide) dX1_reasonAgainst_24 ?_
      refine g_top (ho_r8 h (by first | assumption | omega) (rfl)) ?_
      refine g_if_eq (tgt := 30) C (by decide) dX1_reasonAgainst_25 (fun c_25 => ?_) (fun c_25 => ?_)
      · refine g_aload_n C rfl dX1_reasonAgainst_30 ?_
        refine g_getr C fl_X1_37 rfl rfl dX1_reasonAgainst_31 ?_
        refine g_iload_n C rfl dX1_reasonAgainst_34 ?_
        refine g_iald C rfl (by first | rfl | assumption | (simp only [nI_add, pk_mul, *]; done)) (by first | assumption | omega) (by decide) dX1_reasonAgainst_35 ?_
        refine g_top (ho_r9 h (by first | assumption | omega) (rfl)) ?_
        refine g_iconst (v := (-1)) C (by decide) dX1_reasonAgainst_36 ?_
        refine g_cmp_eq (tgt := 42) C (by decide) dX1_reasonAgainst_37 (fun c_37 => ?_) (fun c_37 => ?_)
        · refine g_aload_n C rfl dX1_reasonAgainst_42 ?_
          refine g_iload_n C rfl dX1_reasonAgainst_43 ?_
          refine g_call C (ok_X1_weeksHeldBy _ (by first | assumption)) my_X1_weeksHeldBy vi_X1_104 (by decide) ⟨Nat.le_refl _, Nat.le_refl _⟩ rfl rfl rfl (Nat.le_of_ble_eq_true rfl) dX1_reasonAgainst_44 rfl (h) (fun v_44 w_44 hp_44 => ?_)
          obtain ⟨rfl, hw_44⟩ := hp_44
          have hw_44 := hw_44.symm; subst hw_44
          refine g_aload_n C rfl dX1_reasonAgainst_47 ?_
          refine g_getr C fl_X1_9 rfl rfl dX1_reasonAgainst_48 ?_
          refine g_iconst (v := 2) C (by decide) dX1_reasonAgainst_51 ?_
          refine g_iald (j := 2) C rfl (rfl) (by decide) (by decide) dX1_reasonAgainst_52 ?_
          refine g_top (ho_r1 (k := 233) h (by decide) (rfl)) ?_
          refine g_cmp_lt (tgt := 58) C (by decide) dX1_reasonAgainst_53 (fun c_53 => ?_) (fun c_53 => ?_)
          · refine g_aload_n C rfl dX1_reasonAgainst_58 ?_
            refine g_getr C fl_X1_21 rfl rfl dX1_reasonAgainst_59 ?_
            refine g_iload_n C rfl dX1_reasonAgainst_62 ?_
            refine g_iald C rfl (by first | rfl | assumption | (simp only [nI_add, pk_mul, *]; done)) (by first | assumption | omega) (by decide) dX1_reasonAgainst_63 ?_
            refine g_top (ho_r4 h (by first | assumption | omega) (rfl)) ?_
            refine g_aload_n C rfl dX1_reasonAgainst_64 ?_
            refine g_getr C fl_X1_30 rfl rfl dX1_reasonAgainst_65 ?_
            refine g_iload_n C rfl dX1_reasonAgainst_68 ?_
            refine g_iald C rfl (by first | rfl | assumption | (simp only [nI_add, pk_mul, *]; done)) (by first | assumption | omega) (by decide) dX1_reasonAgainst_69 ?_
            refine g_top (ho_r7 h (by first | assumption | omega) (rfl)) ?_
            refine g_cmp_ge (tgt := 77) C (by decide) dX1_reasonAgainst_70 (fun c_70 => ?_) (fun c_70 => ?_)
            · refine g_iconst (v := 0) C (by decide) dX1_reasonAgainst_77 ?_
              refine g_iret C F dX1_reasonAgainst_78 ?_
              have hq : cw_th t (nI j) (nI k) := ⟨cw_bn c_5, cw_bn c_13⟩
              exact ⟨by rw [cw_it hq, ej, ek]; clear C F; simp_all [cw_hind, ← Int32.not_lt], rfl⟩
            · refine g_iconst (v := 4) C (by decide) dX1_reasonAgainst_73 ?_
              refine g_goto (tgt := 78) C (by decide) dX1_reasonAgainst_74 ?_
              refine g_iret C F dX1_reasonAgainst_78 ?_
              have hq : cw_th t (nI j) (nI k) := ⟨cw_bn c_5, cw_bn c_13⟩
              exact ⟨by rw [cw_it hq, ej, ek]; clear C F; simp_all [cw_hind, ← Int32.not_lt], rfl⟩
          · refine g_iconst (v := 3) C (by decide) dX1_reasonAgainst_56 ?_
            refine g_iret C F dX1_reasonAgainst_57 ?_
            have hq : cw_th t (nI j) (nI k) := ⟨cw_bn c_5, cw_bn c_13⟩
            exact ⟨by rw [cw_it hq, ej, ek]; clear C F; simp_all [cw_hind, ← Int32.not_lt], rfl⟩
        · refine g_iconst (v := 2) C (by decide) dX1_reasonAgainst_40 ?_
          refine g_iret C F dX1_reasonAgainst_41 ?_
          have hq : cw_th t (nI j) (nI k) := ⟨cw_bn c_5, cw_bn c_13⟩
          exact ⟨by rw [cw_it hq, ej, ek]; clear C F; simp_all [cw_hind, ← Int32.not_lt], rfl⟩
      · have hs1 : t (25 + 3 * k + 1) = 1 := hs.resolve_left c_25
        refine g_iconst (v := 1) C (by decide) dX1_reasonAgainst_28 ?_
        refine g_iret C F dX1_reasonAgainst_29 ?_
        have hq : cw_th t (nI j) (nI k) := ⟨cw_bn c_5, cw_bn c_13⟩
        exact ⟨by rw [cw_it hq, ej, ek]; clear C F; simp_all [cw_hind, ← Int32.not_lt], rfl⟩
    · refine g_bipush (v := (-2)) C (by decide) dX1_reasonAgainst_16 ?_
      refine g_iret C F dX1_reasonAgainst_18 ?_
      have hq : ¬ cw_th t o k := fun q => by first | exact cw_b0.mp c_5 q.1 | exact cw_b0.mp c_13 q.2
      exact ⟨by rw [cw_ie hq], rfl⟩

set_option maxHeartbeats 8000000 in
set_option maxRecDepth 100000 in
theorem ok_X1_takeWeek {t : cw_s} (o k : Int32) {n m : Nat} (hI : cw_I n m t) : gw_Ok yX1_takeWeek cX1_takeWeek 4 (some .int) sH 3 [.ref 0, .int o, .int k] (fun w => ho w = t) (fun _ vr w1 => vr = some (.int (cw_re (cw_oTakeR t o k).1)) ∧ ho w1 = (cw_oTakeR t o k).2) := by
  refine gw_of (by decide) (Nat.le_of_ble_eq_true rfl) ?_
  intro X w h C F
  have hno := hI.no
  refine g_aload_n C rfl dX1_takeWeek_0 ?_
  refine g_iload_n C rfl dX1_takeWeek_1 ?_
  refine g_call C (ok_X1_hasOwner _ (by first | assumption)) my_X1_hasOwner vi_X1_80 (by decide) ⟨Nat.le_refl _, Nat.le_refl _⟩ rfl rfl rfl (Nat.le_of_ble_eq_true rfl) dX1_takeWeek_2 rfl (h) (fun v_2 w_2 hp_2 => ?_)
  obtain ⟨rfl, hw_2⟩ := hp_2
  have hw_2 := hw_2.symm; subst hw_2
  refine g_if_eq (tgt := 16) C (by decide) dX1_takeWeek_5 (fun c_5 => ?_) (fun c_5 => ?_)
  · refine g_bipush (v := (-2)) C (by decide) dX1_takeWeek_16 ?_
    refine g_iret C F dX1_takeWeek_18 ?_
    have hqq : ¬ cw_th t o k := fun q => by first | exact cw_b0.mp c_5 q.1 | exact cw_b0.mp c_13 q.2
    have hq : cw_oTakeR t o k = (-9, t) := cw_ie hqq
    exact ⟨by rw [hq]; rfl, by rw [hq]; exact h⟩
  · refine g_aload_n C rfl dX1_takeWeek_8 ?_
    refine g_iload_n C rfl dX1_takeWeek_9 ?_
    refine g_call C (ok_X1_hasWeek _ (by first | assumption)) my_X1_hasWeek vi_X1_84 (by decide) ⟨Nat.le_refl _, Nat.le_refl _⟩ rfl rfl rfl (Nat.le_of_ble_eq_true rfl) dX1_takeWeek_10 rfl (h) (fun v_10 w_10 hp_10 => ?_)
    obtain ⟨rfl, hw_10⟩ := hp_10
    have hw_10 := hw_10.symm; subst hw_10
    refine g_if_ne (tgt := 19) C (by decide) dX1_takeWeek_13 (fun c_13 => ?_) (fun c_13 => ?_)
    · obtain ⟨j, rfl, hj⟩ := cw_isO_ix hI.m (cw_bn c_5)
      have ej : cw_x (nI j) = j := cw_xn (by have := hI.m.2; omega)
      have ij : (nI j).toInt = (j : Int) := cw_ni (by have := hI.m.2; omega)
      have h6j : j < 6 := by have := hI.m.2; omega
      obtain ⟨k, rfl, hk⟩ := cw_isW_ix (cw_bn c_13)
      have ek : cw_x (nI k) = k := cw_xn (by omega)
      have ik : (nI k).toInt = (k : Int) := cw_ni (by omega)
      have hqq : cw_th t (nI j) (nI k) := ⟨cw_bn c_5, cw_bn c_13⟩
      refine g_aload_n C rfl dX1_takeWeek_19 ?_
      refine g_iload_n C rfl dX1_takeWeek_20 ?_
      refine g_iload_n C rfl dX1_takeWeek_21 ?_
      refine g_call C (ok_X1_reasonAgainst _ _ (by first | assumption)) my_X1_reasonAgainst vi_X1_107 (by decide) ⟨Nat.le_refl _, Nat.le_refl _⟩ rfl rfl rfl (Nat.le_of_ble_eq_true rfl) dX1_takeWeek_22 rfl (h) (fun v_22 w_22 hp_22 => ?_)
      obtain ⟨rfl, hw_22⟩ := hp_22
      have hw_22 := hw_22.symm; subst hw_22
      refine g_top (show _ = cw_hind t j k by rw [cw_it hqq, ej, ek]) ?_
      refine g_istore_n C (by decide) dX1_takeWeek_25 ?_
      refine g_iload_n C rfl dX1_takeWeek_26 ?_
      refine g_if_ne (tgt := 51) C (by decide) dX1_takeWeek_27 (fun c_27 => ?_) (fun c_27 => ?_)
      · refine g_aload_n C rfl dX1_takeWeek_51 ?_
        refine g_getr C fl_X1_15 rfl rfl dX1_takeWeek_52 ?_
        refine g_bipush (v := 6) C (by decide) dX1_takeWeek_55 ?_
        refine g_dup2 C rfl rfl dX1_takeWeek_57 ?_
        refine g_iald (j := 6) C rfl (rfl) (by decide) (by decide) dX1_takeWeek_58 ?_
        refine g_top (ho_r2 (k := 240) h (by decide) (rfl)) ?_
        refine g_iconst (v := 1) C (by decide) dX1_takeWeek_59 ?_
        refine g_iadd C dX1_takeWeek_60 ?_
        refine g_iast (j := 6) C rfl (rfl) (by decide) (by decide) dX1_takeWeek_61 ?_
        refine g_gen (ho_s2 (k := 240) h (by decide) (rfl)) (fun w1 h1 => ?_)
        refine g_iload_n C rfl dX1_takeWeek_62 ?_
        refine g_iret C F dX1_takeWeek_63 ?_
        have hq : cw_oTakeR t (nI j) (nI k) = (cw_hind t j k, if cw_hind t j k = 0 then cw_takes t j k else upd t 240 (t 240 + 1)) := by rw [cw_oTakeR, cw_it hqq, ej, ek]
        exact ⟨by rw [hq, cw_ren (cw_hind_9 t j k)], by rw [hq]; show _ = if _ then _ else _; rw [if_neg c_27]; exact h1⟩
      · refine g_aload_n C rfl dX1_takeWeek_30 ?_
        refine g_getr C fl_X1_37 rfl rfl dX1_takeWeek_31 ?_
        refine g_iload_n C rfl dX1_takeWeek_34 ?_
        refine g_iload_n C rfl dX1_takeWeek_35 ?_
        refine g_iast C rfl (by first | rfl | assumption | (simp only [nI_add, pk_mul, *]; done)) (by first | assumption | omega) (by decide) dX1_takeWeek_36 ?_
        refine g_gen (ho_s9 h (by first | assumption | omega) (rfl)) (fun w2 h2 => ?_)
        refine g_aload_n C rfl dX1_takeWeek_37 ?_
        refine g_iload_n C rfl dX1_takeWeek_38 ?_
        refine g_aload_n C rfl dX1_takeWeek_39 ?_
        refine g_getr C fl_X1_30 rfl rfl dX1_takeWeek_40 ?_
        refine g_iload_n C rfl dX1_takeWeek_43 ?_
        refine g_iald C rfl (by first | rfl | assumption | (simp only [nI_add, pk_mul, *]; done)) (by first | assumption | omega) (by decide) dX1_takeWeek_44 ?_
        refine g_top (ho_r7 h2 (by first | assumption | omega) (rfl)) ?_
        refine g_call C (ok_X1_spendPoints _ _ j (by omega) rfl) my_X1_spendPoints vi_X1_110 (by decide) ⟨Nat.le_refl _, Nat.le_refl _⟩ rfl rfl rfl (Nat.le_of_ble_eq_true rfl) dX1_takeWeek_45 rfl (h2) (fun v_45 w_45 hp_45 => ?_)
        obtain ⟨rfl, h_45⟩ := hp_45
        refine g_goto (tgt := 62) C (by decide) dX1_takeWeek_48 ?_
        refine g_iload_n C rfl dX1_takeWeek_62 ?_
        refine g_iret C F dX1_takeWeek_63 ?_
        have hq : cw_oTakeR t (nI j) (nI k) = (cw_hind t j k, if cw_hind t j k = 0 then cw_takes t j k else upd t 240 (t 240 + 1)) := by rw [cw_oTakeR, cw_it hqq, ej, ek]
        exact ⟨by rw [hq, cw_ren (cw_hind_9 t j k)], by rw [hq]; show _ = if _ then _ else _; rw [if_pos c_27]; unfold cw_takes; rw [if_pos c_27, h_45, cw_upn _ _ (by omega), cw_spends_hol _ _ _ _ _ (by omega) hk]⟩
    · refine g_bipush (v := (-2)) C (by decide) dX1_takeWeek_16 ?_
      refine g_iret C F dX1_takeWeek_18 ?_
      have hqq : ¬ cw_th t o k := fun q => by first | exact cw_b0.mp c_5 q.1 | exact cw_b0.mp c_13 q.2
      have hq : cw_oTakeR t o k = (-9, t) := cw_ie hqq
      exact ⟨by rw [hq]; rfl, by rw [hq]; exact h⟩

set_option maxHeartbeats 8000000 in
set_option maxRecDepth 100000 in
theorem ok_X1_giveBack {t : cw_s} (o k : Int32) {n m : Nat} (hI : cw_I n m t) : gw_Ok yX1_giveBack cX1_giveBack 4 (some .int) sH 3 [.ref 0, .int o, .int k] (fun w => ho w = t) (fun _ vr w1 => vr = some (.int (cw_re (cw_oRelease t o k).1)) ∧ ho w1 = (cw_oRelease t o k).2) := by
  refine gw_of (by decide) (Nat.le_of_ble_eq_true rfl) ?_
  intro X w h C F
  have hno := hI.no
  refine g_aload_n C rfl dX1_giveBack_0 ?_
  refine g_iload_n C rfl dX1_giveBack_1 ?_
  refine g_iload_n C rfl dX1_giveBack_2 ?_
  refine g_call C (ok_X1_holds _ _ (by first | assumption)) my_X1_holds vi_X1_114 (by decide) ⟨Nat.le_refl _, Nat.le_refl _⟩ rfl rfl rfl (Nat.le_of_ble_eq_true rfl) dX1_giveBack_3 rfl (h) (fun v_3 w_3 hp_3 => ?_)
  obtain ⟨rfl, hw_3⟩ := hp_3
  have hw_3 := hw_3.symm; subst hw_3
  refine g_if_ne (tgt := 12) C (by decide) dX1_giveBack_6 (fun c_6 => ?_) (fun c_6 => ?_)
  · have hqq := cw_bn c_6
    obtain ⟨j, rfl, hj⟩ := cw_isO_ix hI.m hqq.1.1
    obtain ⟨k, rfl, hk⟩ := cw_isW_ix hqq.1.2
    have ej : cw_x (nI j) = j := cw_xn (by omega)
    have ek : cw_x (nI k) = k := cw_xn (by omega)
    have h6j : j < 6 := by omega
    refine g_aload_n C rfl dX1_giveBack_12 ?_
    refine g_getr C fl_X1_30 rfl rfl dX1_giveBack_13 ?_
    refine g_iload_n C rfl dX1_giveBack_16 ?_
    refine g_iald C rfl (by first | rfl | assumption | (simp only [nI_add, pk_mul, *]; done)) (by first | assumption | omega) (by decide) dX1_giveBack_17 ?_
    refine g_top (ho_r7 h (by first | assumption | omega) (rfl)) ?_
    refine g_iconst (v := 2) C (by decide) dX1_giveBack_18 ?_
    refine g_idiv C (by decide) dX1_giveBack_19 ?_
    refine g_istore_n C (by decide) dX1_giveBack_20 ?_
    refine g_aload_n C rfl dX1_giveBack_21 ?_
    refine g_getr C fl_X1_37 rfl rfl dX1_giveBack_22 ?_
    refine g_iload_n C rfl dX1_giveBack_25 ?_
    refine g_iconst (v := (-1)) C (by decide) dX1_giveBack_26 ?_
    refine g_iast C rfl (by first | rfl | assumption | (simp only [nI_add, pk_mul, *]; done)) (by first | assumption | omega) (by decide) dX1_giveBack_27 ?_
    refine g_gen (ho_s9 h (by first | assumption | omega) (rfl)) (fun w1 h1 => ?_)
    refine g_aload_n C rfl dX1_giveBack_28 ?_
    refine g_getr C fl_X1_21 rfl rfl dX1_giveBack_29 ?_
    refine g_iload_n C rfl dX1_giveBack_32 ?_
    refine g_dup2 C rfl rfl dX1_giveBack_33 ?_
    refine g_iald C rfl (by first | rfl | assumption | (simp only [nI_add, pk_mul, *]; done)) (by first | assumption | omega) (by decide) dX1_giveBack_34 ?_
    refine g_top (ho_r4 h1 (by first | assumption | omega) (rfl)) ?_
    refine g_iload_n C rfl dX1_giveBack_35 ?_
    refine g_iadd C dX1_giveBack_36 ?_
    refine g_iast C rfl (by first | rfl | assumption | (simp only [nI_add, pk_mul, *]; done)) (by first | assumption | omega) (by decide) dX1_giveBack_37 ?_
    refine g_gen (ho_s4 h1 (by first | assumption | omega) (rfl)) (fun w2 h2 => ?_)
    refine g_aload_n C rfl dX1_giveBack_38 ?_
    refine g_getr C fl_X1_15 rfl rfl dX1_giveBack_39 ?_
    refine g_iconst (v := 2) C (by decide) dX1_giveBack_42 ?_
    refine g_dup2 C rfl rfl dX1_giveBack_43 ?_
    refine g_iald (j := 2) C rfl (rfl) (by decide) (by decide) dX1_giveBack_44 ?_
    refine g_top (ho_r2 (k := 236) h2 (by decide) (rfl)) ?_
    refine g_iload_n C rfl dX1_giveBack_45 ?_
    refine g_iadd C dX1_giveBack_46 ?_
    refine g_iast (j := 2) C rfl (rfl) (by decide) (by decide) dX1_giveBack_47 ?_
    refine g_gen (ho_s2 (k := 236) h2 (by decide) (rfl)) (fun w3 h3 => ?_)
    refine g_iload_n C rfl dX1_giveBack_48 ?_
    refine g_iret C F dX1_giveBack_49 ?_
    have hq : cw_oRelease t (nI j) (nI k) = (t (25 + 3 * k + 0) / 2, cw_releases t j k) := by rw [cw_oRelease, cw_it hqq, ej, ek]
    exact ⟨by rw [hq, cw_ren (cw_r_9 (cw_half (hI.cos k hk)) (by decide))], by rw [hq, cw_releases_eq t j k (by omega) hk]; exact h3⟩
  · refine g_bipush (v := (-2)) C (by decide) dX1_giveBack_9 ?_
    refine g_iret C F dX1_giveBack_11 ?_
    have hqq := cw_b0.mp c_6
    have hq : cw_oRelease t o k = (-9, t) := cw_ie hqq
    exact ⟨by rw [hq]; rfl, by rw [hq]; exact h⟩

set_option maxHeartbeats 8000000 in
set_option maxRecDepth 100000 in
theorem ok_X1_placeBid {t : cw_s} (o k a : Int32) {n m : Nat} (hI : cw_I n m t) : gw_Ok yX1_placeBid cX1_placeBid 4 (some .int) sH 3 [.ref 0, .int o, .int k, .int a] (fun w => ho w = t) (fun _ vr w1 => vr = some (.int (cw_re (cw_oBid t o k a).1)) ∧ ho w1 = (cw_oBid t o k a).2) := by
  refine gw_of (by decide) (Nat.le_of_ble_eq_true rfl) ?_
  intro X w h C F
  have hno := hI.no
  refine g_aload_n C rfl dX1_placeBid_0 ?_
  refine g_iload_n C rfl dX1_placeBid_1 ?_
  refine g_call C (ok_X1_hasOwner _ (by first | assumption)) my_X1_hasOwner vi_X1_80 (by decide) ⟨Nat.le_refl _, Nat.le_refl _⟩ rfl rfl rfl (Nat.le_of_ble_eq_true rfl) dX1_placeBid_2 rfl (h) (fun v_2 w_2 hp_2 => ?_)
  obtain ⟨rfl, hw_2⟩ := hp_2
  have hw_2 := hw_2.symm; subst hw_2
  refine g_if_eq (tgt := 26) C (by decide) dX1_placeBid_5 (fun c_5 => ?_) (fun c_5 => ?_)
  · refine g_bipush (v := (-2)) C (by decide) dX1_placeBid_26 ?_
    refine g_iret C F dX1_placeBid_28 ?_
    have hqq : ¬ ((cw_th t o k ∧ 0 ≤ a ∧ a ≤ 20) ∧ cw_open t (cw_x k)) := fun q => by first | exact cw_b0.mp c_5 q.1.1.1 | exact cw_b0.mp c_13 ⟨q.1.1.2, q.2⟩ | exact absurd q.1.2.1 (Int32.not_le.mpr c_17) | exact c_23 q.1.2.2
    have hq : cw_oBid t o k a = (-9, t) := cw_ie hqq
    exact ⟨by rw [hq]; rfl, by rw [hq]; exact h⟩
  · refine g_aload_n C rfl dX1_placeBid_8 ?_
    refine g_iload_n C rfl dX1_placeBid_9 ?_
    refine g_call C (ok_X1_isOpenForBids _ (by first | assumption)) my_X1_isOpenForBids vi_X1_118 (by decide) ⟨Nat.le_refl _, Nat.le_refl _⟩ rfl rfl rfl (Nat.le_of_ble_eq_true rfl) dX1_placeBid_10 rfl (h) (fun v_10 w_10 hp_10 => ?_)
    obtain ⟨rfl, hw_10⟩ := hp_10
    have hw_10 := hw_10.symm; subst hw_10
    refine g_if_eq (tgt := 26) C (by decide) dX1_placeBid_13 (fun c_13 => ?_) (fun c_13 => ?_)
    · refine g_bipush (v := (-2)) C (by decide) dX1_placeBid_26 ?_
      refine g_iret C F dX1_placeBid_28 ?_
      have hqq : ¬ ((cw_th t o k ∧ 0 ≤ a ∧ a ≤ 20) ∧ cw_open t (cw_x k)) := fun q => by first | exact cw_b0.mp c_5 q.1.1.1 | exact cw_b0.mp c_13 ⟨q.1.1.2, q.2⟩ | exact absurd q.1.2.1 (Int32.not_le.mpr c_17) | exact c_23 q.1.2.2
      have hq : cw_oBid t o k a = (-9, t) := cw_ie hqq
      exact ⟨by rw [hq]; rfl, by rw [hq]; exact h⟩
    · refine g_iload_n C rfl dX1_placeBid_16 ?_
      refine g_if_lt (tgt := 26) C (by decide) dX1_placeBid_17 (fun c_17 => ?_) (fun c_17 => ?_)
      · refine g_bipush (v := (-2)) C (by decide) dX1_placeBid_26 ?_
        refine g_iret C F dX1_placeBid_28 ?_
        have hqq : ¬ ((cw_th t o k ∧ 0 ≤ a ∧ a ≤ 20) ∧ cw_open t (cw_x k)) := fun q => by first | exact cw_b0.mp c_5 q.1.1.1 | exact cw_b0.mp c_13 ⟨q.1.1.2, q.2⟩ | exact absurd q.1.2.1 (Int32.not_le.mpr c_17) | exact c_23 q.1.2.2
        have hq : cw_oBid t o k a = (-9, t) := cw_ie hqq
        exact ⟨by rw [hq]; rfl, by rw [hq]; exact h⟩
      · refine g_iload_n C rfl dX1_placeBid_20 ?_
        refine g_bipush (v := 20) C (by decide) dX1_placeBid_21 ?_
        refine g_cmp_le (tgt := 29) C (by decide) dX1_placeBid_23 (fun c_23 => ?_) (fun c_23 => ?_)
        · have hop := cw_bn c_13
          have hqq : (cw_th t o k ∧ 0 ≤ a ∧ a ≤ 20) ∧ cw_open t (cw_x k) := ⟨⟨⟨cw_bn c_5, hop.1⟩, Int32.not_lt.mp c_17, c_23⟩, hop.2⟩
          obtain ⟨j, rfl, hj⟩ := cw_isO_ix hI.m hqq.1.1.1
          obtain ⟨k, rfl, hk⟩ := cw_isW_ix hqq.1.1.2
          have ej : cw_x (nI j) = j := cw_xn (by omega)
          have ek : cw_x (nI k) = k := cw_xn (by omega)
          have h6j : j < 6 := by omega
          have hI2 := cw_I_bid (x := a) hI hj hk (Or.inr (cw_r.of (l := 0) (u := 20) (cw_le.mp hqq.1.2.1) (cw_le.mp hqq.1.2.2) (by decide)))
          refine g_aload_n C rfl dX1_placeBid_29 ?_
          refine g_getr C fl_X1_40 rfl rfl dX1_placeBid_30 ?_
          refine g_iload_n C rfl dX1_placeBid_33 ?_
          refine g_bipush (v := 20) C (by decide) dX1_placeBid_34 ?_
          refine g_imul C dX1_placeBid_36 ?_
          refine g_iload_n C rfl dX1_placeBid_37 ?_
          refine g_iadd C dX1_placeBid_38 ?_
          refine g_iload_n C rfl dX1_placeBid_39 ?_
          refine g_iast (j := j * 20 + k) C rfl (by rw [← nI_add, ← pk_mul]; rfl) (by omega) (by decide) dX1_placeBid_40 ?_
          refine g_gen (ho_s10 (k := 85 + 20 * j + k) h (by omega) (by omega)) (fun w1 h1 => ?_)
          refine g_aload_n C rfl dX1_placeBid_41 ?_
          refine g_iload_n C rfl dX1_placeBid_42 ?_
          refine g_call C (ok_X1_bidsFor _ k hk rfl hI2) my_X1_bidsFor vi_X1_121 (by decide) ⟨Nat.le_refl _, Nat.le_refl _⟩ rfl rfl rfl (Nat.le_of_ble_eq_true rfl) dX1_placeBid_43 rfl (h1) (fun v_43 w_43 hp_43 => ?_)
          obtain ⟨rfl, hw_43⟩ := hp_43
          have hw_43 := hw_43.symm; subst hw_43
          refine g_iret C F dX1_placeBid_46 ?_
          have hq : cw_oBid t (nI j) (nI k) a = (cw_bidsFor (upd t (85 + 20 * j + k) a) k, upd t (85 + 20 * j + k) a) := by rw [cw_oBid, cw_it hqq, ej, ek]
          exact ⟨by rw [hq, cw_ren (cw_r_9 (cw_bidsFor_r _ _ hI2.m.2) (by decide))], by rw [hq]; exact h1⟩
        · refine g_bipush (v := (-2)) C (by decide) dX1_placeBid_26 ?_
          refine g_iret C F dX1_placeBid_28 ?_
          have hqq : ¬ ((cw_th t o k ∧ 0 ≤ a ∧ a ≤ 20) ∧ cw_open t (cw_x k)) := fun q => by first | exact cw_b0.mp c_5 q.1.1.1 | exact cw_b0.mp c_13 ⟨q.1.1.2, q.2⟩ | exact absurd q.1.2.1 (Int32.not_le.mpr c_17) | exact c_23 q.1.2.2
          have hq : cw_oBid t o k a = (-9, t) := cw_ie hqq
          exact ⟨by rw [hq]; rfl, by rw [hq]; exact h⟩
