set_option maxHeartbeats 8000000 in
set_option maxRecDepth 100000 in
theorem ok_X1_hasOwner {t : cw_s} (o : Int32) {n m : Nat} (hI : cw_I n m t) : gw_Ok yX1_hasOwner cX1_hasOwner 2 (some .boolean) sH 1 [.ref 0, .int o] (fun w => ho w = t) (fun w vr w1 => vr = some (.int (cw_b (cw_isO t o))) ∧ w1 = w) := by
  refine gw_of (by decide) (Nat.le_of_ble_eq_true rfl) ?_
  intro X w h C F
  have hno := hI.no
  refine g_iload_n C rfl dX1_hasOwner_0 ?_
  refine g_if_lt (tgt := 22) C (by decide) dX1_hasOwner_1 (fun c_1 => ?_) (fun c_1 => ?_)
  · refine g_iconst (v := 0) C (by decide) dX1_hasOwner_22 ?_
    refine g_zret C F (rfl) dX1_hasOwner_23 ?_
    refine ⟨?_, rfl⟩
    clear C F
    try simp only [cw_b0, Classical.not_not] at *
    simp only [cw_isO_lt (cw_I.m hI), cw_isW_lt, cw_th, cw_open, cw_lt, cw_le, cw_eqi, Int32.reduceToInt] at *
    first | exact cw_q1 (by omega) | exact cw_q0 (by omega)
  · refine g_iload_n C rfl dX1_hasOwner_4 ?_
    refine g_aload_n C rfl dX1_hasOwner_5 ?_
    refine g_getf C fl_X1_74 rfl rfl dX1_hasOwner_6 ?_
    refine g_top (ho_f3 h) ?_
    refine g_cmp_ge (tgt := 22) C (by decide) dX1_hasOwner_9 (fun c_9 => ?_) (fun c_9 => ?_)
    · refine g_iconst (v := 0) C (by decide) dX1_hasOwner_22 ?_
      refine g_zret C F (rfl) dX1_hasOwner_23 ?_
      refine ⟨?_, rfl⟩
      clear C F
      try simp only [cw_b0, Classical.not_not] at *
      simp only [cw_isO_lt (cw_I.m hI), cw_isW_lt, cw_th, cw_open, cw_lt, cw_le, cw_eqi, Int32.reduceToInt] at *
      first | exact cw_q1 (by omega) | exact cw_q0 (by omega)
    · refine g_iload_n C rfl dX1_hasOwner_12 ?_
      refine g_bipush (v := 6) C (by decide) dX1_hasOwner_13 ?_
      refine g_cmp_ge (tgt := 22) C (by decide) dX1_hasOwner_15 (fun c_15 => ?_) (fun c_15 => ?_)
      · refine g_iconst (v := 0) C (by decide) dX1_hasOwner_22 ?_
        refine g_zret C F (rfl) dX1_hasOwner_23 ?_
        refine ⟨?_, rfl⟩
        clear C F
        try simp only [cw_b0, Classical.not_not] at *
        simp only [cw_isO_lt (cw_I.m hI), cw_isW_lt, cw_th, cw_open, cw_lt, cw_le, cw_eqi, Int32.reduceToInt] at *
        first | exact cw_q1 (by omega) | exact cw_q0 (by omega)
      · refine g_iconst (v := 1) C (by decide) dX1_hasOwner_18 ?_
        refine g_goto (tgt := 23) C (by decide) dX1_hasOwner_19 ?_
        refine g_zret C F (rfl) dX1_hasOwner_23 ?_
        refine ⟨?_, rfl⟩
        clear C F
        try simp only [cw_b0, Classical.not_not] at *
        simp only [cw_isO_lt (cw_I.m hI), cw_isW_lt, cw_th, cw_open, cw_lt, cw_le, cw_eqi, Int32.reduceToInt] at *
        first | exact cw_q1 (by omega) | exact cw_q0 (by omega)

set_option maxHeartbeats 8000000 in
set_option maxRecDepth 100000 in
theorem ok_X1_hasWeek {t : cw_s} (k : Int32) {n m : Nat} (hI : cw_I n m t) : gw_Ok yX1_hasWeek cX1_hasWeek 2 (some .boolean) sH 1 [.ref 0, .int k] (fun w => ho w = t) (fun w vr w1 => vr = some (.int (cw_b (cw_isW k))) ∧ w1 = w) := by
  refine gw_of (by decide) (Nat.le_of_ble_eq_true rfl) ?_
  intro X w h C F
  have hno := hI.no
  refine g_iload_n C rfl dX1_hasWeek_0 ?_
  refine g_if_lt (tgt := 14) C (by decide) dX1_hasWeek_1 (fun c_1 => ?_) (fun c_1 => ?_)
  · refine g_iconst (v := 0) C (by decide) dX1_hasWeek_14 ?_
    refine g_zret C F (rfl) dX1_hasWeek_15 ?_
    refine ⟨?_, rfl⟩
    clear C F
    try simp only [cw_b0, Classical.not_not] at *
    simp only [cw_isO_lt (cw_I.m hI), cw_isW_lt, cw_th, cw_open, cw_lt, cw_le, cw_eqi, Int32.reduceToInt] at *
    first | exact cw_q1 (by omega) | exact cw_q0 (by omega)
  · refine g_iload_n C rfl dX1_hasWeek_4 ?_
    refine g_bipush (v := 20) C (by decide) dX1_hasWeek_5 ?_
    refine g_cmp_ge (tgt := 14) C (by decide) dX1_hasWeek_7 (fun c_7 => ?_) (fun c_7 => ?_)
    · refine g_iconst (v := 0) C (by decide) dX1_hasWeek_14 ?_
      refine g_zret C F (rfl) dX1_hasWeek_15 ?_
      refine ⟨?_, rfl⟩
      clear C F
      try simp only [cw_b0, Classical.not_not] at *
      simp only [cw_isO_lt (cw_I.m hI), cw_isW_lt, cw_th, cw_open, cw_lt, cw_le, cw_eqi, Int32.reduceToInt] at *
      first | exact cw_q1 (by omega) | exact cw_q0 (by omega)
    · refine g_iconst (v := 1) C (by decide) dX1_hasWeek_10 ?_
      refine g_goto (tgt := 15) C (by decide) dX1_hasWeek_11 ?_
      refine g_zret C F (rfl) dX1_hasWeek_15 ?_
      refine ⟨?_, rfl⟩
      clear C F
      try simp only [cw_b0, Classical.not_not] at *
      simp only [cw_isO_lt (cw_I.m hI), cw_isW_lt, cw_th, cw_open, cw_lt, cw_le, cw_eqi, Int32.reduceToInt] at *
      first | exact cw_q1 (by omega) | exact cw_q0 (by omega)

set_option maxHeartbeats 8000000 in
set_option maxRecDepth 100000 in
theorem ok_X1_holds {t : cw_s} (o k : Int32) {n m : Nat} (hI : cw_I n m t) : gw_Ok yX1_holds cX1_holds 3 (some .boolean) sH 2 [.ref 0, .int o, .int k] (fun w => ho w = t) (fun w vr w1 => vr = some (.int (cw_b (cw_th t o k ∧ t (25 + 3 * cw_x k + 2) = o))) ∧ w1 = w) := by
  refine gw_of (by decide) (Nat.le_of_ble_eq_true rfl) ?_
  intro X w h C F
  have hno := hI.no
  refine g_aload_n C rfl dX1_holds_0 ?_
  refine g_iload_n C rfl dX1_holds_1 ?_
  refine g_call C (ok_X1_hasOwner _ (by first | assumption)) my_X1_hasOwner vi_X1_80 (by decide) ⟨Nat.le_refl _, Nat.le_refl _⟩ rfl rfl rfl (Nat.le_of_ble_eq_true rfl) dX1_holds_2 rfl (h) (fun v_2 w_2 hp_2 => ?_)
  obtain ⟨rfl, hw_2⟩ := hp_2
  have hw_2 := hw_2.symm; subst hw_2
  refine g_if_eq (tgt := 30) C (by decide) dX1_holds_5 (fun c_5 => ?_) (fun c_5 => ?_)
  · refine g_iconst (v := 0) C (by decide) dX1_holds_30 ?_
    refine g_zret C F (rfl) dX1_holds_31 ?_
    refine ⟨?_, rfl⟩
    clear C F
    try simp only [cw_b0, Classical.not_not] at *
    simp only [cw_isO_lt (cw_I.m hI), cw_isW_lt, cw_th, cw_open, cw_lt, cw_le, cw_eqi, Int32.reduceToInt] at *
    first | exact cw_q1 (by omega) | exact cw_q0 (by omega)
  · refine g_aload_n C rfl dX1_holds_8 ?_
    refine g_iload_n C rfl dX1_holds_9 ?_
    refine g_call C (ok_X1_hasWeek _ (by first | assumption)) my_X1_hasWeek vi_X1_84 (by decide) ⟨Nat.le_refl _, Nat.le_refl _⟩ rfl rfl rfl (Nat.le_of_ble_eq_true rfl) dX1_holds_10 rfl (h) (fun v_10 w_10 hp_10 => ?_)
    obtain ⟨rfl, hw_10⟩ := hp_10
    have hw_10 := hw_10.symm; subst hw_10
    refine g_if_eq (tgt := 30) C (by decide) dX1_holds_13 (fun c_13 => ?_) (fun c_13 => ?_)
    · refine g_iconst (v := 0) C (by decide) dX1_holds_30 ?_
      refine g_zret C F (rfl) dX1_holds_31 ?_
      refine ⟨?_, rfl⟩
      clear C F
      try simp only [cw_b0, Classical.not_not] at *
      simp only [cw_isO_lt (cw_I.m hI), cw_isW_lt, cw_th, cw_open, cw_lt, cw_le, cw_eqi, Int32.reduceToInt] at *
      first | exact cw_q1 (by omega) | exact cw_q0 (by omega)
    · obtain ⟨k, rfl, hk⟩ := cw_isW_ix (cw_bn c_13)
      have ek : cw_x (nI k) = k := cw_xn (by omega)
      have ik : (nI k).toInt = (k : Int) := cw_ni (by omega)
      refine g_aload_n C rfl dX1_holds_16 ?_
      refine g_getr C fl_X1_37 rfl rfl dX1_holds_17 ?_
      refine g_iload_n C rfl dX1_holds_20 ?_
      refine g_iald C rfl (by first | rfl | assumption | (simp only [nI_add, pk_mul, *]; done)) (by first | assumption | omega) (by decide) dX1_holds_21 ?_
      refine g_top (ho_r9 h (by first | assumption | omega) (rfl)) ?_
      refine g_iload_n C rfl dX1_holds_22 ?_
      refine g_cmp_ne (tgt := 30) C (by decide) dX1_holds_23 (fun c_23 => ?_) (fun c_23 => ?_)
      · refine g_iconst (v := 0) C (by decide) dX1_holds_30 ?_
        refine g_zret C F (rfl) dX1_holds_31 ?_
        refine ⟨?_, rfl⟩
        clear C F
        try simp only [cw_b0, Classical.not_not] at *
        simp only [cw_isO_lt (cw_I.m hI), cw_isW_lt, cw_th, cw_open, cw_lt, cw_le, cw_eqi, Int32.reduceToInt, ek] at *
        first | exact cw_q1 (by omega) | exact cw_q0 (by omega)
      · refine g_iconst (v := 1) C (by decide) dX1_holds_26 ?_
        refine g_goto (tgt := 31) C (by decide) dX1_holds_27 ?_
        refine g_zret C F (rfl) dX1_holds_31 ?_
        refine ⟨?_, rfl⟩
        clear C F
        try simp only [cw_b0, Classical.not_not] at *
        simp only [cw_isO_lt (cw_I.m hI), cw_isW_lt, cw_th, cw_open, cw_lt, cw_le, cw_eqi, Int32.reduceToInt, ek] at *
        first | exact cw_q1 (by omega) | exact cw_q0 (by omega)

set_option maxHeartbeats 8000000 in
set_option maxRecDepth 100000 in
theorem ok_X1_isOpenForBids {t : cw_s} (k : Int32) {n m : Nat} (hI : cw_I n m t) : gw_Ok yX1_isOpenForBids cX1_isOpenForBids 2 (some .boolean) sH 2 [.ref 0, .int k] (fun w => ho w = t) (fun w vr w1 => vr = some (.int (cw_b (cw_isW k ∧ cw_open t (cw_x k)))) ∧ w1 = w) := by
  refine gw_of (by decide) (Nat.le_of_ble_eq_true rfl) ?_
  intro X w h C F
  have hno := hI.no
  refine g_aload_n C rfl dX1_isOpenForBids_0 ?_
  refine g_iload_n C rfl dX1_isOpenForBids_1 ?_
  refine g_call C (ok_X1_hasWeek _ (by first | assumption)) my_X1_hasWeek vi_X1_84 (by decide) ⟨Nat.le_refl _, Nat.le_refl _⟩ rfl rfl rfl (Nat.le_of_ble_eq_true rfl) dX1_isOpenForBids_2 rfl (h) (fun v_2 w_2 hp_2 => ?_)
  obtain ⟨rfl, hw_2⟩ := hp_2
  have hw_2 := hw_2.symm; subst hw_2
  refine g_if_eq (tgt := 31) C (by decide) dX1_isOpenForBids_5 (fun c_5 => ?_) (fun c_5 => ?_)
  · refine g_iconst (v := 0) C (by decide) dX1_isOpenForBids_31 ?_
    refine g_zret C F (rfl) dX1_isOpenForBids_32 ?_
    refine ⟨?_, rfl⟩
    clear C F
    try simp only [cw_b0, Classical.not_not] at *
    simp only [cw_isO_lt (cw_I.m hI), cw_isW_lt, cw_th, cw_open, cw_lt, cw_le, cw_eqi, Int32.reduceToInt] at *
    first | exact cw_q1 (by omega) | exact cw_q0 (by omega)
  · obtain ⟨k, rfl, hk⟩ := cw_isW_ix (cw_bn c_5)
    have ek : cw_x (nI k) = k := cw_xn (by omega)
    have ik : (nI k).toInt = (k : Int) := cw_ni (by omega)
    have hs := (hI.sch k hk).toInt (by decide)
    refine g_aload_n C rfl dX1_isOpenForBids_8 ?_
    refine g_getr C fl_X1_33 rfl rfl dX1_isOpenForBids_9 ?_
    refine g_iload_n C rfl dX1_isOpenForBids_12 ?_
    refine g_zald C rfl (by first | rfl | assumption | (simp only [nI_add, pk_mul, *]; done)) (by first | assumption | omega) (by decide) dX1_isOpenForBids_13 ?_
    refine g_top (ho_r8 h (by first | assumption | omega) (rfl)) ?_
    refine g_if_eq (tgt := 31) C (by decide) dX1_isOpenForBids_14 (fun c_14 => ?_) (fun c_14 => ?_)
    · refine g_iconst (v := 0) C (by decide) dX1_isOpenForBids_31 ?_
      refine g_zret C F (rfl) dX1_isOpenForBids_32 ?_
      refine ⟨?_, rfl⟩
      clear C F
      try simp only [cw_b0, Classical.not_not] at *
      simp only [cw_isO_lt (cw_I.m hI), cw_isW_lt, cw_th, cw_open, cw_lt, cw_le, cw_eqi, Int32.reduceToInt, ek] at *
      first | exact cw_q1 (by omega) | exact cw_q0 (by omega)
    · refine g_aload_n C rfl dX1_isOpenForBids_17 ?_
      refine g_getr C fl_X1_37 rfl rfl dX1_isOpenForBids_18 ?_
      refine g_iload_n C rfl dX1_isOpenForBids_21 ?_
      refine g_iald C rfl (by first | rfl | assumption | (simp only [nI_add, pk_mul, *]; done)) (by first | assumption | omega) (by decide) dX1_isOpenForBids_22 ?_
      refine g_top (ho_r9 h (by first | assumption | omega) (rfl)) ?_
      refine g_iconst (v := (-1)) C (by decide) dX1_isOpenForBids_23 ?_
      refine g_cmp_ne (tgt := 31) C (by decide) dX1_isOpenForBids_24 (fun c_24 => ?_) (fun c_24 => ?_)
      · refine g_iconst (v := 0) C (by decide) dX1_isOpenForBids_31 ?_
        refine g_zret C F (rfl) dX1_isOpenForBids_32 ?_
        refine ⟨?_, rfl⟩
        clear C F
        try simp only [cw_b0, Classical.not_not] at *
        simp only [cw_isO_lt (cw_I.m hI), cw_isW_lt, cw_th, cw_open, cw_lt, cw_le, cw_eqi, Int32.reduceToInt, ek] at *
        first | exact cw_q1 (by omega) | exact cw_q0 (by omega)
      · refine g_iconst (v := 1) C (by decide) dX1_isOpenForBids_27 ?_
        refine g_goto (tgt := 32) C (by decide) dX1_isOpenForBids_28 ?_
        refine g_zret C F (rfl) dX1_isOpenForBids_32 ?_
        refine ⟨?_, rfl⟩
        clear C F
        try simp only [cw_b0, Classical.not_not] at *
        simp only [cw_isO_lt (cw_I.m hI), cw_isW_lt, cw_th, cw_open, cw_lt, cw_le, cw_eqi, Int32.reduceToInt, ek] at *
        first | exact cw_q1 (by omega) | exact cw_q0 (by omega)

set_option maxHeartbeats 8000000 in
set_option maxRecDepth 100000 in
theorem ok_X1_weeksHeldBy {t : cw_s} (o : Int32) {n m : Nat} (hI : cw_I n m t) : gw_Ok yX1_weeksHeldBy cX1_weeksHeldBy 4 (some .int) sH 1 [.ref 0, .int o] (fun w => ho w = t) (fun w vr w1 => vr = some (.int (cw_held t o)) ∧ w1 = w) := by
  refine gw_of (by decide) (Nat.le_of_ble_eq_true rfl) ?_
  intro X w h C F
  have hno := hI.no
  refine g_iconst (v := 0) C (by decide) dX1_weeksHeldBy_0 ?_
  refine g_istore_n C (by decide) dX1_weeksHeldBy_1 ?_
  refine g_iconst (v := 0) C (by decide) dX1_weeksHeldBy_2 ?_
  refine g_istore_n C (by decide) dX1_weeksHeldBy_3 ?_
  refine g_sub rfl (g_for (α := Int32) 20 (fun i1 x => [(0, .ref 0), (1, .int o), (2, .int x), (3, .int (nI i1))]) (fun i1 x w1 => x = cw_fold (fun k x => if t (25 + 3 * k + 2) = o then x + 1 else x) 0 i1 0 ∧ w1 = w) 0 0 _ (Nat.zero_le _) (⟨rfl, rfl⟩) (fun i1 x w1 hi1 hR1 ih1 => ?_) (fun x w1 hR1 => ?_))
  · obtain ⟨hx1, rfl⟩ := hR1
    refine g_iload_n C rfl dX1_weeksHeldBy_4 ?_
    refine g_bipush (v := 20) C (by decide) dX1_weeksHeldBy_5 ?_
    refine g_cmp_ge (tgt := 29) C (by decide) dX1_weeksHeldBy_7 (fun c_7 => absurd c_7 (nI_ge hi1 (by decide))) (fun c_7 => ?_)
    refine g_aload_n C rfl dX1_weeksHeldBy_10 ?_
    refine g_getr C fl_X1_37 rfl rfl dX1_weeksHeldBy_11 ?_
    refine g_iload_n C rfl dX1_weeksHeldBy_14 ?_
    refine g_iald C rfl (by first | rfl | assumption | (simp only [nI_add, pk_mul, *]; done)) (by first | assumption | omega) (by decide) dX1_weeksHeldBy_15 ?_
    refine g_top (ho_r9 h (by first | assumption | omega) (rfl)) ?_
    refine g_iload_n C rfl dX1_weeksHeldBy_16 ?_
    refine g_cmp_ne (tgt := 23) C (by decide) dX1_weeksHeldBy_17 (fun c_17 => ?_) (fun c_17 => ?_)
    · refine g_iinc (v := nI (i1 + 1)) C rfl (nI_1 i1) (by decide) dX1_weeksHeldBy_23 ?_
      refine g_goto (tgt := 4) C (by decide) dX1_weeksHeldBy_26 ?_
      exact g_sub rfl (ih1 _ _ ⟨by rw [cw_fold0, ← hx1]; all_goals simp [c_17], rfl⟩)
    · refine g_iinc (v := x + 1) C rfl (rfl) (by decide) dX1_weeksHeldBy_20 ?_
      refine g_iinc (v := nI (i1 + 1)) C rfl (nI_1 i1) (by decide) dX1_weeksHeldBy_23 ?_
      refine g_goto (tgt := 4) C (by decide) dX1_weeksHeldBy_26 ?_
      exact g_sub rfl (ih1 _ _ ⟨by rw [cw_fold0, ← hx1]; all_goals simp [c_17], rfl⟩)
  obtain ⟨hx1, rfl⟩ := hR1
  refine g_iload_n C rfl dX1_weeksHeldBy_4 ?_
  refine g_bipush (v := 20) C (by decide) dX1_weeksHeldBy_5 ?_
  refine g_cmp_ge (tgt := 29) C (by decide) dX1_weeksHeldBy_7 (fun c_7 => ?_) (fun c_7 => absurd (by decide) c_7)
  refine g_iload_n C rfl dX1_weeksHeldBy_29 ?_
  refine g_iret C F dX1_weeksHeldBy_30 ?_
  exact ⟨by rw [hx1]; rfl, rfl⟩

set_option maxHeartbeats 8000000 in
set_option maxRecDepth 100000 in
theorem ok_X1_extraOf {t : cw_s} (a b : Int32)  (j k : Nat) (hj : j < 6) (hk : k < 20) (ea : a = nI j) (eb : b = nI k) {n m : Nat} (hI : cw_I n m t) : gw_Ok yX1_extraOf cX1_extraOf 4 (some .int) sH 1 [.ref 0, .int a, .int b] (fun w => ho w = t) (fun w vr w1 => vr = some (.int (t (85 + 20 * j + k))) ∧ w1 = w) := by
  refine gw_of (by decide) (Nat.le_of_ble_eq_true rfl) ?_
  intro X w h C F
  have hno := hI.no
  subst ea; subst eb
  have ij : (nI j).toInt = (j : Int) := cw_ni (by omega)
  have ik : (nI k).toInt = (k : Int) := cw_ni (by omega)
  refine g_iload_n C rfl dX1_extraOf_0 ?_
  refine g_if_lt (tgt := 24) C (by decide) dX1_extraOf_1 (fun c_1 => absurd c_1 ((by simp only [cw_lt, cw_le, cw_eqi, Int32.reduceToInt, ij]; omega))) (fun c_1 => ?_)
  refine g_iload_n C rfl dX1_extraOf_4 ?_
  refine g_bipush (v := 6) C (by decide) dX1_extraOf_5 ?_
  refine g_cmp_ge (tgt := 24) C (by decide) dX1_extraOf_7 (fun c_7 => absurd c_7 ((by simp only [cw_lt, cw_le, cw_eqi, Int32.reduceToInt, ij]; omega))) (fun c_7 => ?_)
  refine g_iload_n C rfl dX1_extraOf_10 ?_
  refine g_if_lt (tgt := 24) C (by decide) dX1_extraOf_11 (fun c_11 => absurd c_11 ((by simp only [cw_lt, cw_le, cw_eqi, Int32.reduceToInt, ik]; omega))) (fun c_11 => ?_)
  refine g_iload_n C rfl dX1_extraOf_14 ?_
  refine g_bipush (v := 20) C (by decide) dX1_extraOf_15 ?_
  refine g_cmp_ge (tgt := 24) C (by decide) dX1_extraOf_17 (fun c_17 => absurd c_17 ((by simp only [cw_lt, cw_le, cw_eqi, Int32.reduceToInt, ik]; omega))) (fun c_17 => ?_)
  refine g_iconst (v := 1) C (by decide) dX1_extraOf_20 ?_
  refine g_goto (tgt := 25) C (by decide) dX1_extraOf_21 ?_
  refine g_istore_n C (by decide) dX1_extraOf_25 ?_
  refine g_iload_n C rfl dX1_extraOf_26 ?_
  refine g_if_eq (tgt := 44) C (by decide) dX1_extraOf_27 (fun c_27 => absurd c_27 (by decide)) (fun c_27 => ?_)
  refine g_aload_n C rfl dX1_extraOf_30 ?_
  refine g_getr C fl_X1_40 rfl rfl dX1_extraOf_31 ?_
  refine g_iload_n C rfl dX1_extraOf_34 ?_
  refine g_bipush (v := 20) C (by decide) dX1_extraOf_35 ?_
  refine g_imul C dX1_extraOf_37 ?_
  refine g_iload_n C rfl dX1_extraOf_38 ?_
  refine g_iadd C dX1_extraOf_39 ?_
  refine g_iald (j := j * 20 + k) C rfl (by rw [← nI_add, ← pk_mul]; rfl) (by omega) (by decide) dX1_extraOf_40 ?_
  refine g_top (ho_r10 (k := 85 + 20 * j + k) h (by omega) (by omega)) ?_
  refine g_goto (tgt := 45) C (by decide) dX1_extraOf_41 ?_
  refine g_iret C F dX1_extraOf_45 ?_
  exact ⟨rfl, rfl⟩

set_option maxHeartbeats 8000000 in
set_option maxRecDepth 100000 in
theorem ok_X1_bidsBy {t : cw_s} (a : Int32)  (j : Nat) (hj : j < 6) (ea : a = nI j) {n m : Nat} (hI : cw_I n m t) : gw_Ok yX1_bidsBy cX1_bidsBy 4 (some .int) sH 2 [.ref 0, .int a] (fun w => ho w = t) (fun w vr w1 => vr = some (.int (cw_bidsBy t j)) ∧ w1 = w) := by
  refine gw_of (by decide) (Nat.le_of_ble_eq_true rfl) ?_
  intro X w h C F
  have hno := hI.no
  subst ea
  have ij : (nI j).toInt = (j : Int) := cw_ni (by omega)
  refine g_iconst (v := 0) C (by decide) dX1_bidsBy_0 ?_
  refine g_istore_n C (by decide) dX1_bidsBy_1 ?_
  refine g_iconst (v := 0) C (by decide) dX1_bidsBy_2 ?_
  refine g_istore_n C (by decide) dX1_bidsBy_3 ?_
  refine g_sub rfl (g_for (α := Int32) 20 (fun i1 x => [(0, .ref 0), (1, .int (nI j)), (2, .int x), (3, .int (nI i1))]) (fun i1 x w1 => x = cw_fold (fun k x => if t (85 + 20 * j + k) = -1 then x else x + 1) 0 i1 0 ∧ w1 = w) 0 0 _ (Nat.zero_le _) (⟨rfl, rfl⟩) (fun i1 x w1 hi1 hR1 ih1 => ?_) (fun x w1 hR1 => ?_))
  · obtain ⟨hx1, rfl⟩ := hR1
    refine g_iload_n C rfl dX1_bidsBy_4 ?_
    refine g_bipush (v := 20) C (by decide) dX1_bidsBy_5 ?_
    refine g_cmp_ge (tgt := 29) C (by decide) dX1_bidsBy_7 (fun c_7 => absurd c_7 (nI_ge hi1 (by decide))) (fun c_7 => ?_)
    refine g_aload_n C rfl dX1_bidsBy_10 ?_
    refine g_iload_n C rfl dX1_bidsBy_11 ?_
    refine g_iload_n C rfl dX1_bidsBy_12 ?_
    refine g_call C (ok_X1_extraOf _ _ _ _ (by first | assumption | omega) (by first | assumption | omega) (by first | rfl | assumption) (by first | rfl | assumption) (by first | assumption)) my_X1_extraOf vi_X1_87 (by decide) ⟨Nat.le_refl _, Nat.le_refl _⟩ rfl rfl rfl (Nat.le_of_ble_eq_true rfl) dX1_bidsBy_13 rfl (h) (fun v_13 w_13 hp_13 => ?_)
    obtain ⟨rfl, hw_13⟩ := hp_13
    have hw_13 := hw_13.symm; subst hw_13
    refine g_iconst (v := (-1)) C (by decide) dX1_bidsBy_16 ?_
    refine g_cmp_eq (tgt := 23) C (by decide) dX1_bidsBy_17 (fun c_17 => ?_) (fun c_17 => ?_)
    · refine g_iinc (v := nI (i1 + 1)) C rfl (nI_1 i1) (by decide) dX1_bidsBy_23 ?_
      refine g_goto (tgt := 4) C (by decide) dX1_bidsBy_26 ?_
      exact g_sub rfl (ih1 _ _ ⟨by rw [cw_fold0, ← hx1]; all_goals simp [c_17], rfl⟩)
    · refine g_iinc (v := x + 1) C rfl (rfl) (by decide) dX1_bidsBy_20 ?_
      refine g_iinc (v := nI (i1 + 1)) C rfl (nI_1 i1) (by decide) dX1_bidsBy_23 ?_
      refine g_goto (tgt := 4) C (by decide) dX1_bidsBy_26 ?_
      exact g_sub rfl (ih1 _ _ ⟨by rw [cw_fold0, ← hx1]; all_goals simp [c_17], rfl⟩)
  obtain ⟨hx1, rfl⟩ := hR1
  refine g_iload_n C rfl dX1_bidsBy_4 ?_
  refine g_bipush (v := 20) C (by decide) dX1_bidsBy_5 ?_
  refine g_cmp_ge (tgt := 29) C (by decide) dX1_bidsBy_7 (fun c_7 => ?_) (fun c_7 => absurd (by decide) c_7)
  refine g_iload_n C rfl dX1_bidsBy_29 ?_
  refine g_iret C F dX1_bidsBy_30 ?_
  exact ⟨by rw [hx1]; rfl, rfl⟩

set_option maxHeartbeats 8000000 in
set_option maxRecDepth 100000 in
theorem ok_X1_bidsFor {t : cw_s} (a : Int32)  (k : Nat) (hk : k < 20) (ea : a = nI k) {n m : Nat} (hI : cw_I n m t) : gw_Ok yX1_bidsFor cX1_bidsFor 4 (some .int) sH 2 [.ref 0, .int a] (fun w => ho w = t) (fun w vr w1 => vr = some (.int (cw_bidsFor t k)) ∧ w1 = w) := by
  refine gw_of (by decide) (Nat.le_of_ble_eq_true rfl) ?_
  intro X w h C F
  have hno := hI.no
  subst ea
  have ik : (nI k).toInt = (k : Int) := cw_ni (by omega)
  refine g_iconst (v := 0) C (by decide) dX1_bidsFor_0 ?_
  refine g_istore_n C (by decide) dX1_bidsFor_1 ?_
  refine g_iconst (v := 0) C (by decide) dX1_bidsFor_2 ?_
  refine g_istore_n C (by decide) dX1_bidsFor_3 ?_
  refine g_sub rfl (g_for (α := Int32) 6 (fun i1 x => [(0, .ref 0), (1, .int (nI k)), (2, .int x), (3, .int (nI i1))]) (fun i1 x w1 => x = cw_fold (fun j x => if t (85 + 20 * j + k) = -1 then x else x + 1) 0 i1 0 ∧ w1 = w) 0 0 _ (Nat.zero_le _) (⟨rfl, rfl⟩) (fun i1 x w1 hi1 hR1 ih1 => ?_) (fun x w1 hR1 => ?_))
  · obtain ⟨hx1, rfl⟩ := hR1
    refine g_iload_n C rfl dX1_bidsFor_4 ?_
    refine g_bipush (v := 6) C (by decide) dX1_bidsFor_5 ?_
    refine g_cmp_ge (tgt := 29) C (by decide) dX1_bidsFor_7 (fun c_7 => absurd c_7 (nI_ge hi1 (by decide))) (fun c_7 => ?_)
    refine g_aload_n C rfl dX1_bidsFor_10 ?_
    refine g_iload_n C rfl dX1_bidsFor_11 ?_
    refine g_iload_n C rfl dX1_bidsFor_12 ?_
    refine g_call C (ok_X1_extraOf _ _ _ _ (by first | assumption | omega) (by first | assumption | omega) (by first | rfl | assumption) (by first | rfl | assumption) (by first | assumption)) my_X1_extraOf vi_X1_87 (by decide) ⟨Nat.le_refl _, Nat.le_refl _⟩ rfl rfl rfl (Nat.le_of_ble_eq_true rfl) dX1_bidsFor_13 rfl (h) (fun v_13 w_13 hp_13 => ?_)
    obtain ⟨rfl, hw_13⟩ := hp_13
    have hw_13 := hw_13.symm; subst hw_13
    refine g_iconst (v := (-1)) C (by decide) dX1_bidsFor_16 ?_
    refine g_cmp_eq (tgt := 23) C (by decide) dX1_bidsFor_17 (fun c_17 => ?_) (fun c_17 => ?_)
    · refine g_iinc (v := nI (i1 + 1)) C rfl (nI_1 i1) (by decide) dX1_bidsFor_23 ?_
      refine g_goto (tgt := 4) C (by decide) dX1_bidsFor_26 ?_
      exact g_sub rfl (ih1 _ _ ⟨by rw [cw_fold0, ← hx1]; all_goals simp [c_17], rfl⟩)
    · refine g_iinc (v := x + 1) C rfl (rfl) (by decide) dX1_bidsFor_20 ?_
      refine g_iinc (v := nI (i1 + 1)) C rfl (nI_1 i1) (by decide) dX1_bidsFor_23 ?_
      refine g_goto (tgt := 4) C (by decide) dX1_bidsFor_26 ?_
      exact g_sub rfl (ih1 _ _ ⟨by rw [cw_fold0, ← hx1]; all_goals simp [c_17], rfl⟩)
  obtain ⟨hx1, rfl⟩ := hR1
  refine g_iload_n C rfl dX1_bidsFor_4 ?_
  refine g_bipush (v := 6) C (by decide) dX1_bidsFor_5 ?_
  refine g_cmp_ge (tgt := 29) C (by decide) dX1_bidsFor_7 (fun c_7 => ?_) (fun c_7 => absurd (by decide) c_7)
  refine g_iload_n C rfl dX1_bidsFor_29 ?_
  refine g_iret C F dX1_bidsFor_30 ?_
  exact ⟨by rw [hx1, cw_fold_id (cw_no t) 6 hno.2 0 (fun j h1 h2 => by rw [hI.nob j k h1 h2 hk]; rfl)]; rfl, rfl⟩

set_option maxHeartbeats 8000000 in
set_option maxRecDepth 100000 in
theorem ok_X1_greatestExtraFor {t : cw_s} (a : Int32)  (k : Nat) (hk : k < 20) (ea : a = nI k) {n m : Nat} (hI : cw_I n m t) : gw_Ok yX1_greatestExtraFor cX1_greatestExtraFor 4 (some .int) sH 2 [.ref 0, .int a] (fun w => ho w = t) (fun w vr w1 => vr = some (.int (cw_great t k)) ∧ w1 = w) := by
  refine gw_of (by decide) (Nat.le_of_ble_eq_true rfl) ?_
  intro X w h C F
  have hno := hI.no
  subst ea
  have ik : (nI k).toInt = (k : Int) := cw_ni (by omega)
  refine g_iconst (v := (-1)) C (by decide) dX1_greatestExtraFor_0 ?_
  refine g_istore_n C (by decide) dX1_greatestExtraFor_1 ?_
  refine g_iconst (v := 0) C (by decide) dX1_greatestExtraFor_2 ?_
  refine g_istore_n C (by decide) dX1_greatestExtraFor_3 ?_
  refine g_sub rfl (g_for (α := Int32) 6 (fun i1 x => [(0, .ref 0), (1, .int (nI k)), (2, .int x), (3, .int (nI i1))]) (fun i1 x w1 => x = cw_fold (fun j x => if x < t (85 + 20 * j + k) then t (85 + 20 * j + k) else x) 0 i1 (-1) ∧ w1 = w) 0 (-1) _ (Nat.zero_le _) (⟨rfl, rfl⟩) (fun i1 x w1 hi1 hR1 ih1 => ?_) (fun x w1 hR1 => ?_))
  · obtain ⟨hx1, rfl⟩ := hR1
    refine g_iload_n C rfl dX1_greatestExtraFor_4 ?_
    refine g_bipush (v := 6) C (by decide) dX1_greatestExtraFor_5 ?_
    refine g_cmp_ge (tgt := 27) C (by decide) dX1_greatestExtraFor_7 (fun c_7 => absurd c_7 (nI_ge hi1 (by decide))) (fun c_7 => ?_)
    refine g_iload_n C rfl dX1_greatestExtraFor_10 ?_
    refine g_aload_n C rfl dX1_greatestExtraFor_11 ?_
    refine g_iload_n C rfl dX1_greatestExtraFor_12 ?_
    refine g_iload_n C rfl dX1_greatestExtraFor_13 ?_
    refine g_call C (ok_X1_extraOf _ _ _ _ (by first | assumption | omega) (by first | assumption | omega) (by first | rfl | assumption) (by first | rfl | assumption) (by first | assumption)) my_X1_extraOf vi_X1_87 (by decide) ⟨Nat.le_refl _, Nat.le_refl _⟩ rfl rfl rfl (Nat.le_of_ble_eq_true rfl) dX1_greatestExtraFor_14 rfl (h) (fun v_14 w_14 hp_14 => ?_)
    obtain ⟨rfl, hw_14⟩ := hp_14
    have hw_14 := hw_14.symm; subst hw_14
    refine g_mmax C mx_X1_95 (by decide) dX1_greatestExtraFor_17 ?_
    refine g_istore_n C (by decide) dX1_greatestExtraFor_20 ?_
    refine g_iinc (v := nI (i1 + 1)) C rfl (nI_1 i1) (by decide) dX1_greatestExtraFor_21 ?_
    refine g_goto (tgt := 4) C (by decide) dX1_greatestExtraFor_24 ?_
    exact g_sub rfl (ih1 _ _ ⟨by rw [cw_fold0, ← hx1]; all_goals simp [], rfl⟩)
  obtain ⟨hx1, rfl⟩ := hR1
  refine g_iload_n C rfl dX1_greatestExtraFor_4 ?_
  refine g_bipush (v := 6) C (by decide) dX1_greatestExtraFor_5 ?_
  refine g_cmp_ge (tgt := 27) C (by decide) dX1_greatestExtraFor_7 (fun c_7 => ?_) (fun c_7 => absurd (by decide) c_7)
  refine g_iload_n C rfl dX1_greatestExtraFor_27 ?_
  refine g_iret C F dX1_greatestExtraFor_28 ?_
  exact ⟨by
    have hp := cw_fold_P (f := fun j x => if x < t (85 + 20 * j + k) then t (85 + 20 * j + k) else x) (fun _ x => -1 ≤ x.toInt) (cw_no t) (-1) (by decide) (fun j y h1 h2 => by
      show -1 ≤ (if y < t (85 + 20 * j + k) then t (85 + 20 * j + k) else y).toInt
      split
      · next q => rw [cw_lt] at q; omega
      · exact h2) (cw_no t) (Nat.le_refl _)
    rw [hx1, cw_fold_id (cw_no t) 6 hno.2 (-1) (fun j h1 h2 => by rw [hI.nob j k h1 h2 hk]; exact if_neg (by rw [cw_lt]; exact Int.not_lt.mpr hp))]; rfl, rfl⟩

set_option maxHeartbeats 8000000 in
set_option maxRecDepth 100000 in
theorem ok_X1_pointsOfAll {t : cw_s} {n m : Nat} (hI : cw_I n m t) : gw_Ok yX1_pointsOfAll cX1_pointsOfAll 3 (some .int) sH 1 [.ref 0] (fun w => ho w = t) (fun w vr w1 => vr = some (.int (cw_points t)) ∧ w1 = w) := by
  refine gw_of (by decide) (Nat.le_of_ble_eq_true rfl) ?_
  intro X w h C F
  have hno := hI.no
  refine g_iconst (v := 0) C (by decide) dX1_pointsOfAll_0 ?_
  refine g_istore_n C (by decide) dX1_pointsOfAll_1 ?_
  refine g_iconst (v := 0) C (by decide) dX1_pointsOfAll_2 ?_
  refine g_istore_n C (by decide) dX1_pointsOfAll_3 ?_
  refine g_sub rfl (g_for (α := Int32) 6 (fun i1 x => [(0, .ref 0), (1, .int x), (2, .int (nI i1))]) (fun i1 x w1 => x = cw_fold (fun j x => x + t (1 + 4 * j + 1)) 0 i1 0 ∧ w1 = w) 0 0 _ (Nat.zero_le _) (⟨rfl, rfl⟩) (fun i1 x w1 hi1 hR1 ih1 => ?_) (fun x w1 hR1 => ?_))
  · obtain ⟨hx1, rfl⟩ := hR1
    refine g_iload_n C rfl dX1_pointsOfAll_4 ?_
    refine g_bipush (v := 6) C (by decide) dX1_pointsOfAll_5 ?_
    refine g_cmp_ge (tgt := 25) C (by decide) dX1_pointsOfAll_7 (fun c_7 => absurd c_7 (nI_ge hi1 (by decide))) (fun c_7 => ?_)
    refine g_iload_n C rfl dX1_pointsOfAll_10 ?_
    refine g_aload_n C rfl dX1_pointsOfAll_11 ?_
    refine g_getr C fl_X1_21 rfl rfl dX1_pointsOfAll_12 ?_
    refine g_iload_n C rfl dX1_pointsOfAll_15 ?_
    refine g_iald C rfl (by first | rfl | assumption | (simp only [nI_add, pk_mul, *]; done)) (by first | assumption | omega) (by decide) dX1_pointsOfAll_16 ?_
    refine g_top (ho_r4 h (by first | assumption | omega) (rfl)) ?_
    refine g_iadd C dX1_pointsOfAll_17 ?_
    refine g_istore_n C (by decide) dX1_pointsOfAll_18 ?_
    refine g_iinc (v := nI (i1 + 1)) C rfl (nI_1 i1) (by decide) dX1_pointsOfAll_19 ?_
    refine g_goto (tgt := 4) C (by decide) dX1_pointsOfAll_22 ?_
    exact g_sub rfl (ih1 _ _ ⟨by rw [cw_fold0, ← hx1]; all_goals simp [], rfl⟩)
  obtain ⟨hx1, rfl⟩ := hR1
  refine g_iload_n C rfl dX1_pointsOfAll_4 ?_
  refine g_bipush (v := 6) C (by decide) dX1_pointsOfAll_5 ?_
  refine g_cmp_ge (tgt := 25) C (by decide) dX1_pointsOfAll_7 (fun c_7 => ?_) (fun c_7 => absurd (by decide) c_7)
  refine g_iload_n C rfl dX1_pointsOfAll_25 ?_
  refine g_iret C F dX1_pointsOfAll_26 ?_
  exact ⟨by rw [hx1, cw_fold_id (cw_no t) 6 hno.2 0 (fun j h1 h2 => by rw [((hI.nil j h1 h2).2.1)]; exact Int32.add_zero _)]; all_goals rfl, rfl⟩

set_option maxHeartbeats 8000000 in
set_option maxRecDepth 100000 in
theorem ok_X1_sharesOfAll {t : cw_s} {n m : Nat} (hI : cw_I n m t) : gw_Ok yX1_sharesOfAll cX1_sharesOfAll 3 (some .int) sH 1 [.ref 0] (fun w => ho w = t) (fun w vr w1 => vr = some (.int (cw_shares t)) ∧ w1 = w) := by
  refine gw_of (by decide) (Nat.le_of_ble_eq_true rfl) ?_
  intro X w h C F
  have hno := hI.no
  refine g_iconst (v := 0) C (by decide) dX1_sharesOfAll_0 ?_
  refine g_istore_n C (by decide) dX1_sharesOfAll_1 ?_
  refine g_iconst (v := 0) C (by decide) dX1_sharesOfAll_2 ?_
  refine g_istore_n C (by decide) dX1_sharesOfAll_3 ?_
  refine g_sub rfl (g_for (α := Int32) 6 (fun i1 x => [(0, .ref 0), (1, .int x), (2, .int (nI i1))]) (fun i1 x w1 => x = cw_fold (fun j x => x + t (1 + 4 * j + 0)) 0 i1 0 ∧ w1 = w) 0 0 _ (Nat.zero_le _) (⟨rfl, rfl⟩) (fun i1 x w1 hi1 hR1 ih1 => ?_) (fun x w1 hR1 => ?_))
  · obtain ⟨hx1, rfl⟩ := hR1
    refine g_iload_n C rfl dX1_sharesOfAll_4 ?_
    refine g_bipush (v := 6) C (by decide) dX1_sharesOfAll_5 ?_
    refine g_cmp_ge (tgt := 25) C (by decide) dX1_sharesOfAll_7 (fun c_7 => absurd c_7 (nI_ge hi1 (by decide))) (fun c_7 => ?_)
    refine g_iload_n C rfl dX1_sharesOfAll_10 ?_
    refine g_aload_n C rfl dX1_sharesOfAll_11 ?_
    refine g_getr C fl_X1_18 rfl rfl dX1_sharesOfAll_12 ?_
    refine g_iload_n C rfl dX1_sharesOfAll_15 ?_
    refine g_iald C rfl (by first | rfl | assumption | (simp only [nI_add, pk_mul, *]; done)) (by first | assumption | omega) (by decide) dX1_sharesOfAll_16 ?_
    refine g_top (ho_r3 h (by first | assumption | omega) (rfl)) ?_
    refine g_iadd C dX1_sharesOfAll_17 ?_
    refine g_istore_n C (by decide) dX1_sharesOfAll_18 ?_
    refine g_iinc (v := nI (i1 + 1)) C rfl (nI_1 i1) (by decide) dX1_sharesOfAll_19 ?_
    refine g_goto (tgt := 4) C (by decide) dX1_sharesOfAll_22 ?_
    exact g_sub rfl (ih1 _ _ ⟨by rw [cw_fold0, ← hx1]; all_goals simp [], rfl⟩)
  obtain ⟨hx1, rfl⟩ := hR1
  refine g_iload_n C rfl dX1_sharesOfAll_4 ?_
  refine g_bipush (v := 6) C (by decide) dX1_sharesOfAll_5 ?_
  refine g_cmp_ge (tgt := 25) C (by decide) dX1_sharesOfAll_7 (fun c_7 => ?_) (fun c_7 => absurd (by decide) c_7)
  refine g_iload_n C rfl dX1_sharesOfAll_25 ?_
  refine g_iret C F dX1_sharesOfAll_26 ?_
  exact ⟨by rw [hx1, cw_fold_id (cw_no t) 6 hno.2 0 (fun j h1 h2 => by rw [((hI.nil j h1 h2).1)]; exact Int32.add_zero _)]; all_goals rfl, rfl⟩
