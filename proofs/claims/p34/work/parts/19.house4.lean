set_option maxHeartbeats 8000000 in
set_option maxRecDepth 100000 in
theorem ok_X1_canWin {t : cw_s} (a b : Int32)  (j k : Nat) (hj : j < 6) (hk : k < 20) (ea : a = nI j) (eb : b = nI k) {n m : Nat} (hI : cw_I n m t) : gw_Ok yX1_canWin cX1_canWin 4 (some .boolean) sH 2 [.ref 0, .int a, .int b] (fun w => ho w = t) (fun w vr w1 => vr = some (.int (cw_b (cw_canWin t j k))) ∧ w1 = w) := by
  refine gw_of (by decide) (Nat.le_of_ble_eq_true rfl) ?_
  intro X w h C F
  have hno := hI.no
  subst ea; subst eb
  have ij : (nI j).toInt = (j : Int) := cw_ni (by omega)
  have ik : (nI k).toInt = (k : Int) := cw_ni (by omega)
  refine g_aload_n C rfl dX1_canWin_0 ?_
  refine g_iload_n C rfl dX1_canWin_1 ?_
  refine g_iload_n C rfl dX1_canWin_2 ?_
  refine g_call C (ok_X1_extraOf _ _ j k (by omega) (by omega) rfl rfl hI) my_X1_extraOf vi_X1_87 (by decide) ⟨Nat.le_refl _, Nat.le_refl _⟩ rfl rfl rfl (Nat.le_of_ble_eq_true rfl) dX1_canWin_3 rfl (h) (fun v_3 w_3 hp_3 => ?_)
  obtain ⟨rfl, hw_3⟩ := hp_3
  have hw_3 := hw_3.symm; subst hw_3
  refine g_istore_n C (by decide) dX1_canWin_6 ?_
  refine g_iload_n C rfl dX1_canWin_7 ?_
  refine g_iconst (v := (-1)) C (by decide) dX1_canWin_8 ?_
  refine g_cmp_eq (tgt := 47) C (by decide) dX1_canWin_9 (fun c_9 => ?_) (fun c_9 => ?_)
  · refine g_iconst (v := 0) C (by decide) dX1_canWin_47 ?_
    refine g_zret C F (rfl) dX1_canWin_48 ?_
    refine ⟨?_, rfl⟩
    first | exact cw_q1 ⟨c_9, Int32.not_le.mp c_23, c_40⟩ | exact cw_q0 (fun q => q.1 c_9) | exact cw_q0 (fun q => absurd c_23 (Int32.not_le.mpr q.2.1)) | exact cw_q0 (fun q => q.2.2 c_40)
  · refine g_aload_n C rfl dX1_canWin_12 ?_
    refine g_iload_n C rfl dX1_canWin_13 ?_
    refine g_call C (ok_X1_weeksHeldBy _ hI) my_X1_weeksHeldBy vi_X1_104 (by decide) ⟨Nat.le_refl _, Nat.le_refl _⟩ rfl rfl rfl (Nat.le_of_ble_eq_true rfl) dX1_canWin_14 rfl (h) (fun v_14 w_14 hp_14 => ?_)
    obtain ⟨rfl, hw_14⟩ := hp_14
    have hw_14 := hw_14.symm; subst hw_14
    refine g_aload_n C rfl dX1_canWin_17 ?_
    refine g_getr C fl_X1_9 rfl rfl dX1_canWin_18 ?_
    refine g_iconst (v := 2) C (by decide) dX1_canWin_21 ?_
    refine g_iald (j := 2) C rfl (rfl) (by decide) (by decide) dX1_canWin_22 ?_
    refine g_top (ho_r1 (k := 233) h (by decide) (rfl)) ?_
    refine g_cmp_ge (tgt := 47) C (by decide) dX1_canWin_23 (fun c_23 => ?_) (fun c_23 => ?_)
    · refine g_iconst (v := 0) C (by decide) dX1_canWin_47 ?_
      refine g_zret C F (rfl) dX1_canWin_48 ?_
      refine ⟨?_, rfl⟩
      first | exact cw_q1 ⟨c_9, Int32.not_le.mp c_23, c_40⟩ | exact cw_q0 (fun q => q.1 c_9) | exact cw_q0 (fun q => absurd c_23 (Int32.not_le.mpr q.2.1)) | exact cw_q0 (fun q => q.2.2 c_40)
    · refine g_aload_n C rfl dX1_canWin_26 ?_
      refine g_getr C fl_X1_21 rfl rfl dX1_canWin_27 ?_
      refine g_iload_n C rfl dX1_canWin_30 ?_
      refine g_iald C rfl (by first | rfl | assumption | (simp only [nI_add, pk_mul, *]; done)) (by first | assumption | omega) (by decide) dX1_canWin_31 ?_
      refine g_top (ho_r4 h (by first | assumption | omega) (rfl)) ?_
      refine g_aload_n C rfl dX1_canWin_32 ?_
      refine g_getr C fl_X1_30 rfl rfl dX1_canWin_33 ?_
      refine g_iload_n C rfl dX1_canWin_36 ?_
      refine g_iald C rfl (by first | rfl | assumption | (simp only [nI_add, pk_mul, *]; done)) (by first | assumption | omega) (by decide) dX1_canWin_37 ?_
      refine g_top (ho_r7 h (by first | assumption | omega) (rfl)) ?_
      refine g_iload_n C rfl dX1_canWin_38 ?_
      refine g_iadd C dX1_canWin_39 ?_
      refine g_cmp_lt (tgt := 47) C (by decide) dX1_canWin_40 (fun c_40 => ?_) (fun c_40 => ?_)
      · refine g_iconst (v := 0) C (by decide) dX1_canWin_47 ?_
        refine g_zret C F (rfl) dX1_canWin_48 ?_
        refine ⟨?_, rfl⟩
        first | exact cw_q1 ⟨c_9, Int32.not_le.mp c_23, c_40⟩ | exact cw_q0 (fun q => q.1 c_9) | exact cw_q0 (fun q => absurd c_23 (Int32.not_le.mpr q.2.1)) | exact cw_q0 (fun q => q.2.2 c_40)
      · refine g_iconst (v := 1) C (by decide) dX1_canWin_43 ?_
        refine g_goto (tgt := 48) C (by decide) dX1_canWin_44 ?_
        refine g_zret C F (rfl) dX1_canWin_48 ?_
        refine ⟨?_, rfl⟩
        first | exact cw_q1 ⟨c_9, Int32.not_le.mp c_23, c_40⟩ | exact cw_q0 (fun q => q.1 c_9) | exact cw_q0 (fun q => absurd c_23 (Int32.not_le.mpr q.2.1)) | exact cw_q0 (fun q => q.2.2 c_40)

set_option maxHeartbeats 8000000 in
set_option maxRecDepth 100000 in
theorem ok_X1_isAhead {t : cw_s} (a b e : Int32) (j i k : Nat) (hj : j < cw_no t) (hi : i < j) (hk : k < 20) (ea : a = nI j) (eb : b = nI i) (ee : e = nI k) {n m : Nat} (hI : cw_I n m t) (hB : cw_B n m) : gw_Ok yX1_isAhead cX1_isAhead 6 (some .boolean) sH 2 [.ref 0, .int a, .int b, .int e] (fun w => ho w = t) (fun w vr w1 => vr = some (.int (cw_b (cw_better t j i k))) ∧ w1 = w) := by
  refine gw_of (by decide) (Nat.le_of_ble_eq_true rfl) ?_
  intro X w h C F
  have hno := hI.no
  subst ea; subst eb; subst ee
  have h6 := hI.m.2
  have ij : (nI j).toInt = (j : Int) := cw_ni (by omega)
  have ii : (nI i).toInt = (i : Int) := cw_ni (by omega)
  have hbi := cw_better_iff hI hB hj (show i < cw_no t by omega) hk
  refine g_aload_n C rfl dX1_isAhead_0 ?_
  refine g_iload_n C rfl dX1_isAhead_1 ?_
  refine g_call C (ok_X1_hasOwner _ (by first | assumption)) my_X1_hasOwner vi_X1_80 (by decide) ⟨Nat.le_refl _, Nat.le_refl _⟩ rfl rfl rfl (Nat.le_of_ble_eq_true rfl) dX1_isAhead_2 rfl (h) (fun v_2 w_2 hp_2 => ?_)
  obtain ⟨rfl, hw_2⟩ := hp_2
  have hw_2 := hw_2.symm; subst hw_2
  refine g_if_eq (tgt := 16) C (by decide) dX1_isAhead_5 (fun c_5 => absurd c_5 (by rw [cw_b1 (cw_isO_nI hI.m hj)]; decide)) (fun c_5 => ?_)
  refine g_aload_n C rfl dX1_isAhead_8 ?_
  refine g_iload_n C rfl dX1_isAhead_9 ?_
  refine g_call C (ok_X1_hasOwner _ (by first | assumption)) my_X1_hasOwner vi_X1_80 (by decide) ⟨Nat.le_refl _, Nat.le_refl _⟩ rfl rfl rfl (Nat.le_of_ble_eq_true rfl) dX1_isAhead_10 rfl (h) (fun v_10 w_10 hp_10 => ?_)
  obtain ⟨rfl, hw_10⟩ := hp_10
  have hw_10 := hw_10.symm; subst hw_10
  refine g_if_ne (tgt := 18) C (by decide) dX1_isAhead_13 (fun c_13 => ?_) (fun c_13 => absurd c_13 (by rw [cw_b1 (cw_isO_nI hI.m (show i < cw_no t by omega))]; decide))
  refine g_aload_n C rfl dX1_isAhead_18 ?_
  refine g_iload_n C rfl dX1_isAhead_19 ?_
  refine g_iload_n C rfl dX1_isAhead_20 ?_
  refine g_call C (ok_X1_extraOf _ _ j k (by omega) (by omega) rfl rfl hI) my_X1_extraOf vi_X1_87 (by decide) ⟨Nat.le_refl _, Nat.le_refl _⟩ rfl rfl rfl (Nat.le_of_ble_eq_true rfl) dX1_isAhead_21 rfl (h) (fun v_21 w_21 hp_21 => ?_)
  obtain ⟨rfl, hw_21⟩ := hp_21
  have hw_21 := hw_21.symm; subst hw_21
  refine g_istore C (by decide) dX1_isAhead_24 ?_
  refine g_aload_n C rfl dX1_isAhead_26 ?_
  refine g_iload_n C rfl dX1_isAhead_27 ?_
  refine g_iload_n C rfl dX1_isAhead_28 ?_
  refine g_call C (ok_X1_extraOf _ _ i k (by omega) (by omega) rfl rfl hI) my_X1_extraOf vi_X1_87 (by decide) ⟨Nat.le_refl _, Nat.le_refl _⟩ rfl rfl rfl (Nat.le_of_ble_eq_true rfl) dX1_isAhead_29 rfl (h) (fun v_29 w_29 hp_29 => ?_)
  obtain ⟨rfl, hw_29⟩ := hp_29
  have hw_29 := hw_29.symm; subst hw_29
  refine g_istore C (by decide) dX1_isAhead_32 ?_
  refine g_iload C rfl dX1_isAhead_34 ?_
  refine g_iload C rfl dX1_isAhead_36 ?_
  refine g_cmp_eq (tgt := 54) C (by decide) dX1_isAhead_38 (fun c_38 => ?_) (fun c_38 => ?_)
  · refine g_aload_n C rfl dX1_isAhead_54 ?_
    refine g_getr C fl_X1_24 rfl rfl dX1_isAhead_55 ?_
    refine g_iload_n C rfl dX1_isAhead_58 ?_
    refine g_iald (j := j) C rfl (by first | rfl | assumption | (simp only [nI_add, pk_mul, *]; done)) (by omega) (by decide) dX1_isAhead_59 ?_
    refine g_top (ho_r5 h (by omega) (rfl)) ?_
    refine g_aload_n C rfl dX1_isAhead_60 ?_
    refine g_getr C fl_X1_24 rfl rfl dX1_isAhead_61 ?_
    refine g_iload_n C rfl dX1_isAhead_64 ?_
    refine g_iald (j := i) C rfl (by first | rfl | assumption | (simp only [nI_add, pk_mul, *]; done)) (by omega) (by decide) dX1_isAhead_65 ?_
    refine g_top (ho_r5 h (by omega) (rfl)) ?_
    refine g_cmp_eq (tgt := 90) C (by decide) dX1_isAhead_66 (fun c_66 => ?_) (fun c_66 => ?_)
    · refine g_aload_n C rfl dX1_isAhead_90 ?_
      refine g_getr C fl_X1_18 rfl rfl dX1_isAhead_91 ?_
      refine g_iload_n C rfl dX1_isAhead_94 ?_
      refine g_iald C rfl (by first | rfl | assumption | (simp only [nI_add, pk_mul, *]; done)) (by first | assumption | omega) (by decide) dX1_isAhead_95 ?_
      refine g_top (ho_r3 h (by first | assumption | omega) (rfl)) ?_
      refine g_aload_n C rfl dX1_isAhead_96 ?_
      refine g_getr C fl_X1_18 rfl rfl dX1_isAhead_97 ?_
      refine g_iload_n C rfl dX1_isAhead_100 ?_
      refine g_iald C rfl (by first | rfl | assumption | (simp only [nI_add, pk_mul, *]; done)) (by first | assumption | omega) (by decide) dX1_isAhead_101 ?_
      refine g_top (ho_r3 h (by first | assumption | omega) (rfl)) ?_
      refine g_cmp_eq (tgt := 126) C (by decide) dX1_isAhead_102 (fun c_102 => ?_) (fun c_102 => ?_)
      · refine g_iload_n C rfl dX1_isAhead_126 ?_
        refine g_iload_n C rfl dX1_isAhead_127 ?_
        refine g_cmp_ge (tgt := 135) C (by decide) dX1_isAhead_128 (fun c_128 => ?_) (fun c_128 => ?_)
        · refine g_iconst (v := 0) C (by decide) dX1_isAhead_135 ?_
          refine g_zret C F (rfl) dX1_isAhead_136 ?_
          refine ⟨?_, rfl⟩
          clear C F
          simp only [cw_lt, cw_le, cw_eqi] at *
          first | exact cw_q1 (by rw [hbi]; omega) | exact cw_q0 (by rw [hbi]; omega)
        · refine g_iconst (v := 1) C (by decide) dX1_isAhead_131 ?_
          refine g_goto (tgt := 136) C (by decide) dX1_isAhead_132 ?_
          refine g_zret C F (rfl) dX1_isAhead_136 ?_
          refine ⟨?_, rfl⟩
          clear C F
          simp only [cw_lt, cw_le, cw_eqi] at *
          first | exact cw_q1 (by rw [hbi]; omega) | exact cw_q0 (by rw [hbi]; omega)
      · refine g_aload_n C rfl dX1_isAhead_105 ?_
        refine g_getr C fl_X1_18 rfl rfl dX1_isAhead_106 ?_
        refine g_iload_n C rfl dX1_isAhead_109 ?_
        refine g_iald C rfl (by first | rfl | assumption | (simp only [nI_add, pk_mul, *]; done)) (by first | assumption | omega) (by decide) dX1_isAhead_110 ?_
        refine g_top (ho_r3 h (by first | assumption | omega) (rfl)) ?_
        refine g_aload_n C rfl dX1_isAhead_111 ?_
        refine g_getr C fl_X1_18 rfl rfl dX1_isAhead_112 ?_
        refine g_iload_n C rfl dX1_isAhead_115 ?_
        refine g_iald C rfl (by first | rfl | assumption | (simp only [nI_add, pk_mul, *]; done)) (by first | assumption | omega) (by decide) dX1_isAhead_116 ?_
        refine g_top (ho_r3 h (by first | assumption | omega) (rfl)) ?_
        refine g_cmp_le (tgt := 124) C (by decide) dX1_isAhead_117 (fun c_117 => ?_) (fun c_117 => ?_)
        · refine g_iconst (v := 0) C (by decide) dX1_isAhead_124 ?_
          refine g_zret C F (rfl) dX1_isAhead_125 ?_
          refine ⟨?_, rfl⟩
          clear C F
          simp only [cw_lt, cw_le, cw_eqi] at *
          first | exact cw_q1 (by rw [hbi]; omega) | exact cw_q0 (by rw [hbi]; omega)
        · refine g_iconst (v := 1) C (by decide) dX1_isAhead_120 ?_
          refine g_goto (tgt := 125) C (by decide) dX1_isAhead_121 ?_
          refine g_zret C F (rfl) dX1_isAhead_125 ?_
          refine ⟨?_, rfl⟩
          clear C F
          simp only [cw_lt, cw_le, cw_eqi] at *
          first | exact cw_q1 (by rw [hbi]; omega) | exact cw_q0 (by rw [hbi]; omega)
    · refine g_aload_n C rfl dX1_isAhead_69 ?_
      refine g_getr C fl_X1_24 rfl rfl dX1_isAhead_70 ?_
      refine g_iload_n C rfl dX1_isAhead_73 ?_
      refine g_iald (j := j) C rfl (by first | rfl | assumption | (simp only [nI_add, pk_mul, *]; done)) (by omega) (by decide) dX1_isAhead_74 ?_
      refine g_top (ho_r5 h (by omega) (rfl)) ?_
      refine g_aload_n C rfl dX1_isAhead_75 ?_
      refine g_getr C fl_X1_24 rfl rfl dX1_isAhead_76 ?_
      refine g_iload_n C rfl dX1_isAhead_79 ?_
      refine g_iald C rfl (by first | rfl | assumption | (simp only [nI_add, pk_mul, *]; done)) (by first | assumption | omega) (by decide) dX1_isAhead_80 ?_
      refine g_top (ho_r5 h (by first | assumption | omega) (rfl)) ?_
      refine g_cmp_ge (tgt := 88) C (by decide) dX1_isAhead_81 (fun c_81 => ?_) (fun c_81 => ?_)
      · refine g_iconst (v := 0) C (by decide) dX1_isAhead_88 ?_
        refine g_zret C F (rfl) dX1_isAhead_89 ?_
        refine ⟨?_, rfl⟩
        clear C F
        simp only [cw_lt, cw_le, cw_eqi] at *
        first | exact cw_q1 (by rw [hbi]; omega) | exact cw_q0 (by rw [hbi]; omega)
      · refine g_iconst (v := 1) C (by decide) dX1_isAhead_84 ?_
        refine g_goto (tgt := 89) C (by decide) dX1_isAhead_85 ?_
        refine g_zret C F (rfl) dX1_isAhead_89 ?_
        refine ⟨?_, rfl⟩
        clear C F
        simp only [cw_lt, cw_le, cw_eqi] at *
        first | exact cw_q1 (by rw [hbi]; omega) | exact cw_q0 (by rw [hbi]; omega)
  · refine g_iload C rfl dX1_isAhead_41 ?_
    refine g_iload C rfl dX1_isAhead_43 ?_
    refine g_cmp_le (tgt := 52) C (by decide) dX1_isAhead_45 (fun c_45 => ?_) (fun c_45 => ?_)
    · refine g_iconst (v := 0) C (by decide) dX1_isAhead_52 ?_
      refine g_zret C F (rfl) dX1_isAhead_53 ?_
      refine ⟨?_, rfl⟩
      clear C F
      simp only [cw_lt, cw_le, cw_eqi] at *
      first | exact cw_q1 (by rw [hbi]; omega) | exact cw_q0 (by rw [hbi]; omega)
    · refine g_iconst (v := 1) C (by decide) dX1_isAhead_48 ?_
      refine g_goto (tgt := 53) C (by decide) dX1_isAhead_49 ?_
      refine g_zret C F (rfl) dX1_isAhead_53 ?_
      refine ⟨?_, rfl⟩
      clear C F
      simp only [cw_lt, cw_le, cw_eqi] at *
      first | exact cw_q1 (by rw [hbi]; omega) | exact cw_q0 (by rw [hbi]; omega)

set_option maxHeartbeats 8000000 in
set_option maxRecDepth 100000 in
theorem ok_X1_bestBidder {t : cw_s} (a : Int32)  (k : Nat) (hk : k < 20) (ea : a = nI k) {n m : Nat} (hI : cw_I n m t) (hB : cw_B n m) : gw_Ok yX1_bestBidder cX1_bestBidder 4 (some .int) sH 3 [.ref 0, .int a] (fun w => ho w = t) (fun w vr w1 => vr = some (.int (cw_best t k)) ∧ w1 = w) := by
  refine gw_of (by decide) (Nat.le_of_ble_eq_true rfl) ?_
  intro X w h C F
  have hno := hI.no
  subst ea
  have h6 := hI.m.2
  have ek : cw_x (nI k) = k := cw_xn (by omega)
  refine g_iconst (v := (-1)) C (by decide) dX1_bestBidder_0 ?_
  refine g_istore_n C (by decide) dX1_bestBidder_1 ?_
  refine g_aload_n C rfl dX1_bestBidder_2 ?_
  refine g_iload_n C rfl dX1_bestBidder_3 ?_
  refine g_call C (ok_X1_isOpenForBids _ (by first | assumption)) my_X1_isOpenForBids vi_X1_118 (by decide) ⟨Nat.le_refl _, Nat.le_refl _⟩ rfl rfl rfl (Nat.le_of_ble_eq_true rfl) dX1_bestBidder_4 rfl (h) (fun v_4 w_4 hp_4 => ?_)
  obtain ⟨rfl, hw_4⟩ := hp_4
  have hw_4 := hw_4.symm; subst hw_4
  
  refine g_if_ne (tgt := 12) C (by decide) dX1_bestBidder_7 (fun c_7 => ?_) (fun c_7 => ?_)
  · refine g_iconst (v := 0) C (by decide) dX1_bestBidder_12 ?_
    refine g_istore_n C (by decide) dX1_bestBidder_13 ?_
    refine g_sub rfl (g_for (α := Int32) 6 (fun i1 x => [(0, .ref 0), (1, .int (nI k)), (2, .int x), (3, .int (nI i1))]) (fun i1 x w1 => x = cw_fold (fun j x => cw_if (cw_canWin t j k ∧ (x = -1 ∨ cw_better t j (cw_x x) k)) (nI j) x) 0 i1 (-1) ∧ (x = -1 ∨ ∃ z, z < i1 ∧ z < cw_no t ∧ x = nI z) ∧ w1 = w) 0 (-1) _ (Nat.zero_le _) (⟨rfl, Or.inl rfl, rfl⟩) (fun i1 x w1 hi1 hR1 ih1 => ?_) (fun x w1 hR1 => ?_))
    · obtain ⟨hx1, hxx1, rfl⟩ := hR1
      refine g_iload_n C rfl dX1_bestBidder_14 ?_
      refine g_bipush (v := 6) C (by decide) dX1_bestBidder_15 ?_
      refine g_cmp_ge (tgt := 52) C (by decide) dX1_bestBidder_17 (fun c_17 => absurd c_17 (nI_ge hi1 (by decide))) (fun c_17 => ?_)
      refine g_aload_n C rfl dX1_bestBidder_20 ?_
      refine g_iload_n C rfl dX1_bestBidder_21 ?_
      refine g_iload_n C rfl dX1_bestBidder_22 ?_
      refine g_call C (ok_X1_canWin _ _ i1 k hi1 hk rfl rfl hI) my_X1_canWin vi_X1_130 (by decide) ⟨Nat.le_refl _, Nat.le_refl _⟩ rfl rfl rfl (Nat.le_of_ble_eq_true rfl) dX1_bestBidder_23 rfl (h) (fun v_23 w_23 hp_23 => ?_)
      obtain ⟨rfl, hw_23⟩ := hp_23
      have hw_23 := hw_23.symm; subst hw_23
      refine g_if_eq (tgt := 46) C (by decide) dX1_bestBidder_26 (fun c_26 => ?_) (fun c_26 => ?_)
      · refine g_iinc (v := nI (i1 + 1)) C rfl (nI_1 i1) (by decide) dX1_bestBidder_46 ?_
        refine g_goto (tgt := 14) C (by decide) dX1_bestBidder_49 ?_
        exact g_sub rfl (ih1 _ _ ⟨by rw [cw_fold0, ← hx1]; exact (cw_ie (fun q => cw_b0.mp c_26 q.1)).symm, hxx1.imp id (fun ⟨z, a1, a2, a3⟩ => ⟨z, by omega, a2, a3⟩), rfl⟩)
      · refine g_iload_n C rfl dX1_bestBidder_29 ?_
        refine g_iconst (v := (-1)) C (by decide) dX1_bestBidder_30 ?_
        refine g_cmp_eq (tgt := 44) C (by decide) dX1_bestBidder_31 (fun c_31 => ?_) (fun c_31 => ?_)
        · refine g_iload_n C rfl dX1_bestBidder_44 ?_
          refine g_istore_n C (by decide) dX1_bestBidder_45 ?_
          refine g_iinc (v := nI (i1 + 1)) C rfl (nI_1 i1) (by decide) dX1_bestBidder_46 ?_
          refine g_goto (tgt := 14) C (by decide) dX1_bestBidder_49 ?_
          exact g_sub rfl (ih1 _ _ ⟨by rw [cw_fold0, ← hx1]; exact (cw_it ⟨cw_bn c_26, Or.inl c_31⟩).symm, Or.inr ⟨i1, by omega, cw_canWin_no hI (by omega) hk (cw_bn c_26), rfl⟩, rfl⟩)
        · obtain ⟨i9, hi9, hn9, rfl⟩ := hxx1.resolve_left c_31
          refine g_aload_n C rfl dX1_bestBidder_34 ?_
          refine g_iload_n C rfl dX1_bestBidder_35 ?_
          refine g_iload_n C rfl dX1_bestBidder_36 ?_
          refine g_iload_n C rfl dX1_bestBidder_37 ?_
          refine g_call C (ok_X1_isAhead _ _ _ i1 i9 k (cw_canWin_no hI hi1 hk (cw_bn c_26)) hi9 hk rfl rfl rfl hI hB) my_X1_isAhead vi_X1_133 (by decide) ⟨Nat.le_refl _, Nat.le_refl _⟩ rfl rfl rfl (Nat.le_of_ble_eq_true rfl) dX1_bestBidder_38 rfl (h) (fun v_38 w_38 hp_38 => ?_)
          obtain ⟨rfl, hw_38⟩ := hp_38
          have hw_38 := hw_38.symm; subst hw_38
          refine g_if_eq (tgt := 46) C (by decide) dX1_bestBidder_41 (fun c_41 => ?_) (fun c_41 => ?_)
          · refine g_iinc (v := nI (i1 + 1)) C rfl (nI_1 i1) (by decide) dX1_bestBidder_46 ?_
            refine g_goto (tgt := 14) C (by decide) dX1_bestBidder_49 ?_
            exact g_sub rfl (ih1 _ _ ⟨by rw [cw_fold0, ← hx1]; exact (cw_ie (fun q => q.2.elim c_31 (fun z => cw_b0.mp c_41 (by rwa [cw_xn (by omega)] at z)))).symm, Or.inr ⟨i9, by omega, hn9, rfl⟩, rfl⟩)
          · refine g_iload_n C rfl dX1_bestBidder_44 ?_
            refine g_istore_n C (by decide) dX1_bestBidder_45 ?_
            refine g_iinc (v := nI (i1 + 1)) C rfl (nI_1 i1) (by decide) dX1_bestBidder_46 ?_
            refine g_goto (tgt := 14) C (by decide) dX1_bestBidder_49 ?_
            exact g_sub rfl (ih1 _ _ ⟨by rw [cw_fold0, ← hx1]; exact (cw_it ⟨cw_bn c_26, Or.inr (by rw [cw_xn (by omega)]; exact cw_bn c_41)⟩).symm, Or.inr ⟨i1, by omega, cw_canWin_no hI (by omega) hk (cw_bn c_26), rfl⟩, rfl⟩)
    obtain ⟨hx1, hxx1, rfl⟩ := hR1
    refine g_iload_n C rfl dX1_bestBidder_14 ?_
    refine g_bipush (v := 6) C (by decide) dX1_bestBidder_15 ?_
    refine g_cmp_ge (tgt := 52) C (by decide) dX1_bestBidder_17 (fun c_17 => ?_) (fun c_17 => absurd (by decide) c_17)
    refine g_iload_n C rfl dX1_bestBidder_52 ?_
    refine g_iret C F dX1_bestBidder_53 ?_
    have hop : cw_open t k := by have := (cw_bn c_7).2; rwa [ek] at this
    exact ⟨by rw [hx1, cw_fold_id (f := (fun j x => cw_if (cw_canWin t j k ∧ (x = -1 ∨ cw_better t j (cw_x x) k)) (nI j) x)) (cw_no t) 6 h6 (-1) (fun j h1 h2 => cw_ie (fun q => absurd (cw_canWin_no hI h2 hk q.1) (by omega))), cw_best, cw_it hop], rfl⟩
  · refine g_iload_n C rfl dX1_bestBidder_10 ?_
    refine g_iret C F dX1_bestBidder_11 ?_
    have hop : ¬ cw_open t k := fun q => cw_b0.mp c_7 ⟨cw_isW_nI hk, by rw [ek]; exact q⟩
    exact ⟨by rw [cw_best, cw_ie hop], rfl⟩

set_option maxHeartbeats 8000000 in
set_option maxRecDepth 100000 in
theorem ok_X1_settleWeek {t : cw_s} (a : Int32)  (k : Nat) (hk : k < 20) (ea : a = nI k) {n m : Nat} (hI : cw_I n m t) (hB : cw_B n m) : gw_Ok yX1_settleWeek cX1_settleWeek 3 (some .boolean) sH 4 [.ref 0, .int a] (fun w => ho w = t) (fun _ vr w1 => vr = some (.int (cw_b (¬ cw_best t k = -1))) ∧ ho w1 = cw_settle1 t k) := by
  refine gw_of (by decide) (Nat.le_of_ble_eq_true rfl) ?_
  intro X w h C F
  have hno := hI.no
  subst ea
  have h6 := hI.m.2
  refine g_aload_n C rfl dX1_settleWeek_0 ?_
  refine g_iload_n C rfl dX1_settleWeek_1 ?_
  refine g_call C (ok_X1_bestBidder _ _ (by first | assumption | omega) (by first | rfl | assumption) (by first | assumption) (by first | assumption)) my_X1_bestBidder vi_X1_127 (by decide) ⟨Nat.le_refl _, Nat.le_refl _⟩ rfl rfl rfl (Nat.le_of_ble_eq_true rfl) dX1_settleWeek_2 rfl (h) (fun v_2 w_2 hp_2 => ?_)
  obtain ⟨rfl, hw_2⟩ := hp_2
  have hw_2 := hw_2.symm; subst hw_2
  refine g_istore_n C (by decide) dX1_settleWeek_5 ?_
  refine g_aload_n C rfl dX1_settleWeek_6 ?_
  refine g_iload_n C rfl dX1_settleWeek_7 ?_
  refine g_call C (ok_X1_hasOwner _ (by first | assumption)) my_X1_hasOwner vi_X1_80 (by decide) ⟨Nat.le_refl _, Nat.le_refl _⟩ rfl rfl rfl (Nat.le_of_ble_eq_true rfl) dX1_settleWeek_8 rfl (h) (fun v_8 w_8 hp_8 => ?_)
  obtain ⟨rfl, hw_8⟩ := hp_8
  have hw_8 := hw_8.symm; subst hw_8
  refine g_if_eq (tgt := 22) C (by decide) dX1_settleWeek_11 (fun c_11 => ?_) (fun c_11 => ?_)
  · refine g_iconst (v := 0) C (by decide) dX1_settleWeek_22 ?_
    refine g_zret C F (rfl) dX1_settleWeek_23 ?_
    have hb : cw_best t k = -1 := by
      rcases cw_best_cases hI hk with q | ⟨j, hj, q, -⟩
      · exact q
      · exact absurd (by rw [q]; exact cw_isO_nI hI.m hj) (cw_b0.mp c_11)
    exact ⟨by rw [cw_bf (fun q => q hb)], by rw [cw_settle1, cw_it hb]; exact h⟩
  · obtain ⟨j, hj, hb, hcw, -⟩ : ∃ j, j < cw_no t ∧ cw_best t k = nI j ∧ cw_canWin t j k ∧ cw_open t k := by
      rcases cw_best_cases hI hk with q | q
      · exact absurd (cw_bn c_11) (by rw [q]; exact fun z => absurd ((cw_isO_lt hI.m).mp z).1 (by decide))
      · exact q
    have hj6 : j < 6 := by omega
    have hbn : ¬ cw_best t k = -1 := by rw [hb]; intro q; have := congrArg Int32.toInt q; rw [cw_ni (by omega)] at this; have z : (-1 : Int32).toInt = -1 := rfl; omega
    refine g_aload_n C rfl dX1_settleWeek_14 ?_
    refine g_iload_n C rfl dX1_settleWeek_15 ?_
    refine g_call C (ok_X1_hasWeek _ (by first | assumption)) my_X1_hasWeek vi_X1_84 (by decide) ⟨Nat.le_refl _, Nat.le_refl _⟩ rfl rfl rfl (Nat.le_of_ble_eq_true rfl) dX1_settleWeek_16 rfl (h) (fun v_16 w_16 hp_16 => ?_)
    obtain ⟨rfl, hw_16⟩ := hp_16
    have hw_16 := hw_16.symm; subst hw_16
    refine g_if_ne (tgt := 24) C (by decide) dX1_settleWeek_19 (fun c_19 => ?_) (fun c_19 => absurd c_19 (by rw [cw_b1 (cw_isW_nI hk)]; decide))
    refine g_aload_n C rfl dX1_settleWeek_24 ?_
    refine g_iload_n C rfl dX1_settleWeek_25 ?_
    refine g_aload_n C rfl dX1_settleWeek_26 ?_
    refine g_getr C fl_X1_30 rfl rfl dX1_settleWeek_27 ?_
    refine g_iload_n C rfl dX1_settleWeek_30 ?_
    refine g_iald C rfl (by first | rfl | assumption | (simp only [nI_add, pk_mul, *]; done)) (by first | assumption | omega) (by decide) dX1_settleWeek_31 ?_
    refine g_top (ho_r7 h (by first | assumption | omega) (rfl)) ?_
    refine g_aload_n C rfl dX1_settleWeek_32 ?_
    refine g_iload_n C rfl dX1_settleWeek_33 ?_
    refine g_iload_n C rfl dX1_settleWeek_34 ?_
    refine g_call C (ok_X1_extraOf _ _ j k hj6 hk hb rfl hI) my_X1_extraOf vi_X1_87 (by decide) ⟨Nat.le_refl _, Nat.le_refl _⟩ rfl rfl rfl (Nat.le_of_ble_eq_true rfl) dX1_settleWeek_35 rfl (h) (fun v_35 w_35 hp_35 => ?_)
    obtain ⟨rfl, hw_35⟩ := hp_35
    have hw_35 := hw_35.symm; subst hw_35
    refine g_iadd C dX1_settleWeek_38 ?_
    refine g_call C (ok_X1_spendPoints _ _ j hj6 hb) my_X1_spendPoints vi_X1_110 (by decide) ⟨Nat.le_refl _, Nat.le_refl _⟩ rfl rfl rfl (Nat.le_of_ble_eq_true rfl) dX1_settleWeek_39 rfl (h) (fun v_39 w_39 hp_39 => ?_)
    obtain ⟨rfl, h_39⟩ := hp_39
    refine g_aload_n C rfl dX1_settleWeek_42 ?_
    refine g_getr C fl_X1_37 rfl rfl dX1_settleWeek_43 ?_
    refine g_iload_n C rfl dX1_settleWeek_46 ?_
    refine g_iload_n C rfl dX1_settleWeek_47 ?_
    refine g_iast C rfl (by first | rfl | assumption | (simp only [nI_add, pk_mul, *]; done)) (by first | assumption | omega) (by decide) dX1_settleWeek_48 ?_
    refine g_gen (ho_s9 h_39 (by first | assumption | omega) (rfl)) (fun w1 h1 => ?_)
    refine g_aload_n C rfl dX1_settleWeek_49 ?_
    refine g_getr C fl_X1_24 rfl rfl dX1_settleWeek_50 ?_
    refine g_iload_n C rfl dX1_settleWeek_53 ?_
    refine g_dup2 C rfl rfl dX1_settleWeek_54 ?_
    refine g_iald (j := j) C rfl (hb) (hj6) (by decide) dX1_settleWeek_55 ?_
    refine g_top (ho_r5 h1 (hj6) (rfl)) ?_
    refine g_iconst (v := 1) C (by decide) dX1_settleWeek_56 ?_
    refine g_iadd C dX1_settleWeek_57 ?_
    refine g_iast (j := j) C rfl (hb) (hj6) (by decide) dX1_settleWeek_58 ?_
    refine g_gen (ho_s5 h1 (hj6) (rfl)) (fun w2 h2 => ?_)
    refine g_iconst (v := 1) C (by decide) dX1_settleWeek_59 ?_
    refine g_zret C F (rfl) dX1_settleWeek_60 ?_
    exact ⟨by rw [cw_b1 hbn], by rw [cw_settle1, cw_ie hbn, hb, cw_xn (by omega)]; have hz := h2; rw [hb] at hz; exact hz.trans (cw_won_eq t j k hj6 hk).symm⟩

set_option maxHeartbeats 8000000 in
set_option maxRecDepth 100000 in
theorem ok_X1_settleBids {t : cw_s} {n m : Nat} (hI : cw_I n m t) (hB : cw_B n (m + 20)) : gw_Ok yX1_settleBids cX1_settleBids 3 (some .int) sH 5 [.ref 0] (fun w => ho w = t) (fun _ vr w1 => vr = some (.int ((cw_settles t).1)) ∧ ho w1 = (cw_settles t).2) := by
  refine gw_of (by decide) (Nat.le_of_ble_eq_true rfl) ?_
  intro X w h C F
  have hno := hI.no
  refine g_iconst (v := 0) C (by decide) dX1_settleBids_0 ?_
  refine g_istore_n C (by decide) dX1_settleBids_1 ?_
  refine g_iconst (v := 0) C (by decide) dX1_settleBids_2 ?_
  refine g_istore_n C (by decide) dX1_settleBids_3 ?_
  refine g_sub rfl (g_for (α := Int32 × cw_s) 20 (fun i1 x => [(0, .ref 0), (1, .int (x).1), (2, .int (nI i1))]) (fun i1 x w1 => x = cw_fold (fun k (x : Int32 × cw_s) => (cw_if (cw_best x.2 k = -1) x.1 (x.1 + 1), cw_settle1 x.2 k)) 0 i1 (0, t) ∧ cw_I n (m + i1) (x).2 ∧ ho w1 = (x).2) 0 (0, t) _ (Nat.zero_le _) (⟨rfl, hI, h⟩) (fun i1 x w1 hi1 hR1 ih1 => ?_) (fun x w1 hR1 => ?_))
  · obtain ⟨hx1, hI1, hw1⟩ := hR1
    refine g_iload_n C rfl dX1_settleBids_4 ?_
    refine g_bipush (v := 20) C (by decide) dX1_settleBids_5 ?_
    refine g_cmp_ge (tgt := 27) C (by decide) dX1_settleBids_7 (fun c_7 => absurd c_7 (nI_ge hi1 (by decide))) (fun c_7 => ?_)
    refine g_aload_n C rfl dX1_settleBids_10 ?_
    refine g_iload_n C rfl dX1_settleBids_11 ?_
    refine g_call C (ok_X1_settleWeek _ i1 hi1 rfl hI1 (cw_B_le hB (by omega))) my_X1_settleWeek vi_X1_124 (by decide) ⟨Nat.le_refl _, Nat.le_refl _⟩ rfl rfl rfl (Nat.le_of_ble_eq_true rfl) dX1_settleBids_12 rfl (hw1) (fun v_12 w_12 hp_12 => ?_)
    obtain ⟨rfl, h_12⟩ := hp_12
    refine g_if_eq (tgt := 21) C (by decide) dX1_settleBids_15 (fun c_15 => ?_) (fun c_15 => ?_)
    · refine g_iinc (v := nI (i1 + 1)) C rfl (nI_1 i1) (by decide) dX1_settleBids_21 ?_
      refine g_goto (tgt := 4) C (by decide) dX1_settleBids_24 ?_
      exact g_sub rfl (ih1 (_, _) _ ⟨by rw [cw_fold0, ← hx1]; exact congrArg (fun z => (z, cw_settle1 x.2 i1)) (cw_it (Classical.not_not.mp (cw_b0.mp c_15))).symm, (cw_I_settle1 hI1 (cw_B_le hB (by omega)) hi1).mono (Nat.le_refl _) (by omega), h_12⟩)
    · refine g_iinc (v := x.1 + 1) C rfl (rfl) (by decide) dX1_settleBids_18 ?_
      refine g_iinc (v := nI (i1 + 1)) C rfl (nI_1 i1) (by decide) dX1_settleBids_21 ?_
      refine g_goto (tgt := 4) C (by decide) dX1_settleBids_24 ?_
      exact g_sub rfl (ih1 (_, _) _ ⟨by rw [cw_fold0, ← hx1]; exact congrArg (fun z => (z, cw_settle1 x.2 i1)) (cw_ie (cw_bn c_15)).symm, (cw_I_settle1 hI1 (cw_B_le hB (by omega)) hi1).mono (Nat.le_refl _) (by omega), h_12⟩)
  obtain ⟨hx1, hI1, hw1⟩ := hR1
  refine g_iload_n C rfl dX1_settleBids_4 ?_
  refine g_bipush (v := 20) C (by decide) dX1_settleBids_5 ?_
  refine g_cmp_ge (tgt := 27) C (by decide) dX1_settleBids_7 (fun c_7 => ?_) (fun c_7 => absurd (by decide) c_7)
  refine g_aload_n C rfl dX1_settleBids_27 ?_
  refine g_getr C fl_X1_40 rfl rfl dX1_settleBids_28 ?_
  refine g_iconst (v := (-1)) C (by decide) dX1_settleBids_31 ?_
  refine g_fill C rfl (by decide) (by decide) ⟨Nat.le_refl _, Nat.le_refl _⟩ (Nat.le_of_ble_eq_true rfl) si_X1_64 dX1_settleBids_32 ?_
  refine g_gen (ho_fillb hw1) (fun w9 h9 => ?_)
  refine g_iload_n C rfl dX1_settleBids_35 ?_
  refine g_iret C F dX1_settleBids_36 ?_
  have e : cw_settles t = (x.1, cw_noBids x.2) := by rw [hx1]; rfl
  exact ⟨by rw [e], by rw [e]; exact h9⟩

set_option maxHeartbeats 8000000 in
set_option maxRecDepth 100000 in
theorem ok_X1_bidsOfAll {t : cw_s} {n m : Nat} (hI : cw_I n m t) : gw_Ok yX1_bidsOfAll cX1_bidsOfAll 3 (some .int) sH 3 [.ref 0] (fun w => ho w = t) (fun w vr w1 => vr = some (.int (cw_allBids t)) ∧ w1 = w) := by
  refine gw_of (by decide) (Nat.le_of_ble_eq_true rfl) ?_
  intro X w h C F
  have hno := hI.no
  refine g_iconst (v := 0) C (by decide) dX1_bidsOfAll_0 ?_
  refine g_istore_n C (by decide) dX1_bidsOfAll_1 ?_
  refine g_iconst (v := 0) C (by decide) dX1_bidsOfAll_2 ?_
  refine g_istore_n C (by decide) dX1_bidsOfAll_3 ?_
  refine g_sub rfl (g_for (α := Int32) 6 (fun i1 x => [(0, .ref 0), (1, .int x), (2, .int (nI i1))]) (fun i1 x w1 => x = cw_fold (fun j x => x + cw_bidsBy t j) 0 i1 0 ∧ w1 = w) 0 0 _ (Nat.zero_le _) (⟨rfl, rfl⟩) (fun i1 x w1 hi1 hR1 ih1 => ?_) (fun x w1 hR1 => ?_))
  · obtain ⟨hx1, rfl⟩ := hR1
    refine g_iload_n C rfl dX1_bidsOfAll_4 ?_
    refine g_bipush (v := 6) C (by decide) dX1_bidsOfAll_5 ?_
    refine g_cmp_ge (tgt := 24) C (by decide) dX1_bidsOfAll_7 (fun c_7 => absurd c_7 (nI_ge hi1 (by decide))) (fun c_7 => ?_)
    refine g_iload_n C rfl dX1_bidsOfAll_10 ?_
    refine g_aload_n C rfl dX1_bidsOfAll_11 ?_
    refine g_iload_n C rfl dX1_bidsOfAll_12 ?_
    refine g_call C (ok_X1_bidsBy _ i1 hi1 rfl hI) my_X1_bidsBy vi_X1_91 (by decide) ⟨Nat.le_refl _, Nat.le_refl _⟩ rfl rfl rfl (Nat.le_of_ble_eq_true rfl) dX1_bidsOfAll_13 rfl (h) (fun v_13 w_13 hp_13 => ?_)
    obtain ⟨rfl, hw_13⟩ := hp_13
    have hw_13 := hw_13.symm; subst hw_13
    refine g_iadd C dX1_bidsOfAll_16 ?_
    refine g_istore_n C (by decide) dX1_bidsOfAll_17 ?_
    refine g_iinc (v := nI (i1 + 1)) C rfl (nI_1 i1) (by decide) dX1_bidsOfAll_18 ?_
    refine g_goto (tgt := 4) C (by decide) dX1_bidsOfAll_21 ?_
    exact g_sub rfl (ih1 _ _ ⟨by rw [cw_fold0, ← hx1]; all_goals simp [], rfl⟩)
  obtain ⟨hx1, rfl⟩ := hR1
  refine g_iload_n C rfl dX1_bidsOfAll_4 ?_
  refine g_bipush (v := 6) C (by decide) dX1_bidsOfAll_5 ?_
  refine g_cmp_ge (tgt := 24) C (by decide) dX1_bidsOfAll_7 (fun c_7 => ?_) (fun c_7 => absurd (by decide) c_7)
  refine g_iload_n C rfl dX1_bidsOfAll_24 ?_
  refine g_iret C F dX1_bidsOfAll_25 ?_
  exact ⟨by rw [hx1, cw_allBids_eq hI], rfl⟩

set_option maxHeartbeats 8000000 in
set_option maxRecDepth 100000 in
theorem ok_X1_canSwap {t : cw_s} (o k x : Int32) {n m : Nat} (hI : cw_I n m t) : gw_Ok yX1_canSwap cX1_canSwap 4 (some .boolean) sH 3 [.ref 0, .int o, .int k, .int x] (fun w => ho w = t) (fun w vr w1 => vr = some (.int (cw_b (cw_swap t o k x))) ∧ w1 = w) := by
  refine gw_of (by decide) (Nat.le_of_ble_eq_true rfl) ?_
  intro X w h C F
  have hno := hI.no
  refine g_aload_n C rfl dX1_canSwap_0 ?_
  refine g_iload_n C rfl dX1_canSwap_1 ?_
  refine g_iload_n C rfl dX1_canSwap_2 ?_
  refine g_call C (ok_X1_holds _ _ (by first | assumption)) my_X1_holds vi_X1_114 (by decide) ⟨Nat.le_refl _, Nat.le_refl _⟩ rfl rfl rfl (Nat.le_of_ble_eq_true rfl) dX1_canSwap_3 rfl (h) (fun v_3 w_3 hp_3 => ?_)
  obtain ⟨rfl, hw_3⟩ := hp_3
  have hw_3 := hw_3.symm; subst hw_3
  refine g_if_eq (tgt := 41) C (by decide) dX1_canSwap_6 (fun c_6 => ?_) (fun c_6 => ?_)
  · refine g_iconst (v := 0) C (by decide) dX1_canSwap_41 ?_
    refine g_zret C F (rfl) dX1_canSwap_42 ?_
    refine ⟨?_, rfl⟩
    first | exact cw_q1 ⟨cw_bn c_6, cw_isW_nI hx, by rw [ex]; exact c_24, by rw [ex]; exact c_34⟩ | exact cw_q0 (fun q => cw_b0.mp c_6 q.1) | exact cw_q0 (fun q => cw_b0.mp c_14 q.2.1) | exact cw_q0 (fun q => q.2.2.1 (by rw [ex]; exact c_24)) | exact cw_q0 (fun q => q.2.2.2 (by rw [ex]; exact c_34))
  · refine g_aload_n C rfl dX1_canSwap_9 ?_
    refine g_iload_n C rfl dX1_canSwap_10 ?_
    refine g_call C (ok_X1_hasWeek _ (by first | assumption)) my_X1_hasWeek vi_X1_84 (by decide) ⟨Nat.le_refl _, Nat.le_refl _⟩ rfl rfl rfl (Nat.le_of_ble_eq_true rfl) dX1_canSwap_11 rfl (h) (fun v_11 w_11 hp_11 => ?_)
    obtain ⟨rfl, hw_11⟩ := hp_11
    have hw_11 := hw_11.symm; subst hw_11
    refine g_if_eq (tgt := 41) C (by decide) dX1_canSwap_14 (fun c_14 => ?_) (fun c_14 => ?_)
    · refine g_iconst (v := 0) C (by decide) dX1_canSwap_41 ?_
      refine g_zret C F (rfl) dX1_canSwap_42 ?_
      refine ⟨?_, rfl⟩
      first | exact cw_q1 ⟨cw_bn c_6, cw_isW_nI hx, by rw [ex]; exact c_24, by rw [ex]; exact c_34⟩ | exact cw_q0 (fun q => cw_b0.mp c_6 q.1) | exact cw_q0 (fun q => cw_b0.mp c_14 q.2.1) | exact cw_q0 (fun q => q.2.2.1 (by rw [ex]; exact c_24)) | exact cw_q0 (fun q => q.2.2.2 (by rw [ex]; exact c_34))
    · obtain ⟨x, rfl, hx⟩ := cw_isW_ix (cw_bn c_14)
      have ex : cw_x (nI x) = x := cw_xn (by omega)
      refine g_aload_n C rfl dX1_canSwap_17 ?_
      refine g_getr C fl_X1_37 rfl rfl dX1_canSwap_18 ?_
      refine g_iload_n C rfl dX1_canSwap_21 ?_
      refine g_iald C rfl (by first | rfl | assumption | (simp only [nI_add, pk_mul, *]; done)) (by first | assumption | omega) (by decide) dX1_canSwap_22 ?_
      refine g_top (ho_r9 h (by first | assumption | omega) (rfl)) ?_
      refine g_iconst (v := (-1)) C (by decide) dX1_canSwap_23 ?_
      refine g_cmp_eq (tgt := 41) C (by decide) dX1_canSwap_24 (fun c_24 => ?_) (fun c_24 => ?_)
      · refine g_iconst (v := 0) C (by decide) dX1_canSwap_41 ?_
        refine g_zret C F (rfl) dX1_canSwap_42 ?_
        refine ⟨?_, rfl⟩
        first | exact cw_q1 ⟨cw_bn c_6, cw_isW_nI hx, by rw [ex]; exact c_24, by rw [ex]; exact c_34⟩ | exact cw_q0 (fun q => cw_b0.mp c_6 q.1) | exact cw_q0 (fun q => cw_b0.mp c_14 q.2.1) | exact cw_q0 (fun q => q.2.2.1 (by rw [ex]; exact c_24)) | exact cw_q0 (fun q => q.2.2.2 (by rw [ex]; exact c_34))
      · refine g_aload_n C rfl dX1_canSwap_27 ?_
        refine g_getr C fl_X1_37 rfl rfl dX1_canSwap_28 ?_
        refine g_iload_n C rfl dX1_canSwap_31 ?_
        refine g_iald C rfl (by first | rfl | assumption | (simp only [nI_add, pk_mul, *]; done)) (by first | assumption | omega) (by decide) dX1_canSwap_32 ?_
        refine g_top (ho_r9 h (by first | assumption | omega) (rfl)) ?_
        refine g_iload_n C rfl dX1_canSwap_33 ?_
        refine g_cmp_eq (tgt := 41) C (by decide) dX1_canSwap_34 (fun c_34 => ?_) (fun c_34 => ?_)
        · refine g_iconst (v := 0) C (by decide) dX1_canSwap_41 ?_
          refine g_zret C F (rfl) dX1_canSwap_42 ?_
          refine ⟨?_, rfl⟩
          first | exact cw_q1 ⟨cw_bn c_6, cw_isW_nI hx, by rw [ex]; exact c_24, by rw [ex]; exact c_34⟩ | exact cw_q0 (fun q => cw_b0.mp c_6 q.1) | exact cw_q0 (fun q => cw_b0.mp c_14 q.2.1) | exact cw_q0 (fun q => q.2.2.1 (by rw [ex]; exact c_24)) | exact cw_q0 (fun q => q.2.2.2 (by rw [ex]; exact c_34))
        · refine g_iconst (v := 1) C (by decide) dX1_canSwap_37 ?_
          refine g_goto (tgt := 42) C (by decide) dX1_canSwap_38 ?_
          refine g_zret C F (rfl) dX1_canSwap_42 ?_
          refine ⟨?_, rfl⟩
          first | exact cw_q1 ⟨cw_bn c_6, cw_isW_nI hx, by rw [ex]; exact c_24, by rw [ex]; exact c_34⟩ | exact cw_q0 (fun q => cw_b0.mp c_6 q.1) | exact cw_q0 (fun q => cw_b0.mp c_14 q.2.1) | exact cw_q0 (fun q => q.2.2.1 (by rw [ex]; exact c_24)) | exact cw_q0 (fun q => q.2.2.2 (by rw [ex]; exact c_34))

set_option maxHeartbeats 8000000 in
set_option maxRecDepth 100000 in
theorem ok_X1_canOffer {t : cw_s} (o k x : Int32) {n m : Nat} (hI : cw_I n m t) : gw_Ok yX1_canOffer cX1_canOffer 4 (some .boolean) sH 4 [.ref 0, .int o, .int k, .int x] (fun w => ho w = t) (fun w vr w1 => vr = some (.int (cw_b (cw_swap t o k x ∧ t 205 < 8))) ∧ w1 = w) := by
  refine gw_of (by decide) (Nat.le_of_ble_eq_true rfl) ?_
  intro X w h C F
  have hno := hI.no
  refine g_aload_n C rfl dX1_canOffer_0 ?_
  refine g_iload_n C rfl dX1_canOffer_1 ?_
  refine g_iload_n C rfl dX1_canOffer_2 ?_
  refine g_iload_n C rfl dX1_canOffer_3 ?_
  refine g_call C (ok_X1_canSwap _ _ _ (by first | assumption)) my_X1_canSwap vi_X1_137 (by decide) ⟨Nat.le_refl _, Nat.le_refl _⟩ rfl rfl rfl (Nat.le_of_ble_eq_true rfl) dX1_canOffer_4 rfl (h) (fun v_4 w_4 hp_4 => ?_)
  obtain ⟨rfl, hw_4⟩ := hp_4
  have hw_4 := hw_4.symm; subst hw_4
  refine g_if_eq (tgt := 23) C (by decide) dX1_canOffer_7 (fun c_7 => ?_) (fun c_7 => ?_)
  · refine g_iconst (v := 0) C (by decide) dX1_canOffer_23 ?_
    refine g_zret C F (rfl) dX1_canOffer_24 ?_
    refine ⟨?_, rfl⟩
    first | exact cw_q1 ⟨cw_bn c_7, Int32.not_le.mp c_16⟩ | exact cw_q0 (fun q => cw_b0.mp c_7 q.1) | exact cw_q0 (fun q => absurd c_16 (Int32.not_le.mpr q.2))
  · refine g_aload_n C rfl dX1_canOffer_10 ?_
    refine g_getf C fl_X1_77 rfl rfl dX1_canOffer_11 ?_
    refine g_top (ho_f12 h) ?_
    refine g_bipush (v := 8) C (by decide) dX1_canOffer_14 ?_
    refine g_cmp_ge (tgt := 23) C (by decide) dX1_canOffer_16 (fun c_16 => ?_) (fun c_16 => ?_)
    · refine g_iconst (v := 0) C (by decide) dX1_canOffer_23 ?_
      refine g_zret C F (rfl) dX1_canOffer_24 ?_
      refine ⟨?_, rfl⟩
      first | exact cw_q1 ⟨cw_bn c_7, Int32.not_le.mp c_16⟩ | exact cw_q0 (fun q => cw_b0.mp c_7 q.1) | exact cw_q0 (fun q => absurd c_16 (Int32.not_le.mpr q.2))
    · refine g_iconst (v := 1) C (by decide) dX1_canOffer_19 ?_
      refine g_goto (tgt := 24) C (by decide) dX1_canOffer_20 ?_
      refine g_zret C F (rfl) dX1_canOffer_24 ?_
      refine ⟨?_, rfl⟩
      first | exact cw_q1 ⟨cw_bn c_7, Int32.not_le.mp c_16⟩ | exact cw_q0 (fun q => cw_b0.mp c_7 q.1) | exact cw_q0 (fun q => absurd c_16 (Int32.not_le.mpr q.2))

set_option maxHeartbeats 8000000 in
set_option maxRecDepth 100000 in
theorem ok_X1_placeOffer {t : cw_s} (o k x : Int32) {n m : Nat} (hI : cw_I n m t) : gw_Ok yX1_placeOffer cX1_placeOffer 5 (some .int) sH 5 [.ref 0, .int o, .int k, .int x] (fun w => ho w = t) (fun _ vr w1 => vr = some (.int (cw_re (cw_oOffer t o k x).1)) ∧ ho w1 = (cw_oOffer t o k x).2) := by
  refine gw_of (by decide) (Nat.le_of_ble_eq_true rfl) ?_
  intro X w h C F
  have hno := hI.no
  have hxq := cw_x_lt hI
  refine g_aload_n C rfl dX1_placeOffer_0 ?_
  refine g_iload_n C rfl dX1_placeOffer_1 ?_
  refine g_iload_n C rfl dX1_placeOffer_2 ?_
  refine g_iload_n C rfl dX1_placeOffer_3 ?_
  refine g_call C (ok_X1_canOffer _ _ _ (by first | assumption)) my_X1_canOffer vi_X1_140 (by decide) ⟨Nat.le_refl _, Nat.le_refl _⟩ rfl rfl rfl (Nat.le_of_ble_eq_true rfl) dX1_placeOffer_4 rfl (h) (fun v_4 w_4 hp_4 => ?_)
  obtain ⟨rfl, hw_4⟩ := hp_4
  have hw_4 := hw_4.symm; subst hw_4
  refine g_if_ne (tgt := 13) C (by decide) dX1_placeOffer_7 (fun c_7 => ?_) (fun c_7 => ?_)
  · have h8 : cw_x (t 205) < 8 := by
      have q := (cw_bn c_7).2
      rw [hxq.2, cw_lt, cw_ni (by omega)] at q
      have z : (8 : Int32).toInt = 8 := rfl
      omega
    refine g_aload_n C rfl dX1_placeOffer_13 ?_
    refine g_getf C fl_X1_77 rfl rfl dX1_placeOffer_14 ?_
    refine g_top (ho_f12 h) ?_
    refine g_istore C (by decide) dX1_placeOffer_17 ?_
    refine g_aload_n C rfl dX1_placeOffer_19 ?_
    refine g_dup C rfl dX1_placeOffer_20 ?_
    refine g_getf C fl_X1_77 rfl rfl dX1_placeOffer_21 ?_
    refine g_top (ho_f12 h) ?_
    refine g_iconst (v := 1) C (by decide) dX1_placeOffer_24 ?_
    refine g_iadd C dX1_placeOffer_25 ?_
    refine g_putf C fl_X1_77 fp_1_12 rfl rfl (rfl) (rfl) dX1_placeOffer_26 ?_
    refine g_gen (ho_p12 h) (fun w1 h1 => ?_)
    refine g_aload_n C rfl dX1_placeOffer_29 ?_
    refine g_getr C fl_X1_43 rfl rfl dX1_placeOffer_30 ?_
    refine g_iload C rfl dX1_placeOffer_33 ?_
    refine g_iload_n C rfl dX1_placeOffer_35 ?_
    refine g_iast (j := cw_x (t 205)) C rfl (hxq.2) (h8) (by decide) dX1_placeOffer_36 ?_
    refine g_gen (ho_s11 h1 (h8) (rfl)) (fun w2 h2 => ?_)
    refine g_aload_n C rfl dX1_placeOffer_37 ?_
    refine g_getr C fl_X1_46 rfl rfl dX1_placeOffer_38 ?_
    refine g_iload C rfl dX1_placeOffer_41 ?_
    refine g_iload_n C rfl dX1_placeOffer_43 ?_
    refine g_iast (j := cw_x (t 205)) C rfl (hxq.2) (h8) (by decide) dX1_placeOffer_44 ?_
    refine g_gen (ho_s12 h2 (h8) (rfl)) (fun w3 h3 => ?_)
    refine g_aload_n C rfl dX1_placeOffer_45 ?_
    refine g_getr C fl_X1_49 rfl rfl dX1_placeOffer_46 ?_
    refine g_iload C rfl dX1_placeOffer_49 ?_
    refine g_iload_n C rfl dX1_placeOffer_51 ?_
    refine g_iast (j := cw_x (t 205)) C rfl (hxq.2) (h8) (by decide) dX1_placeOffer_52 ?_
    refine g_gen (ho_s13 h3 (h8) (rfl)) (fun w4 h4 => ?_)
    refine g_iload C rfl dX1_placeOffer_53 ?_
    refine g_iret C F dX1_placeOffer_55 ?_
    have hq : cw_oOffer t o k x = (t 205, cw_offd t (cw_x (t 205)) o k x) := cw_it (cw_bn c_7)
    exact ⟨by rw [hq, cw_ren (by rw [hxq.2]; exact cw_r_9 (u := 8) ⟨_, Nat.zero_le _, hxq.1, rfl⟩ (by decide))], by rw [hq]; exact h4⟩
  · refine g_bipush (v := (-2)) C (by decide) dX1_placeOffer_10 ?_
    refine g_iret C F dX1_placeOffer_12 ?_
    have hq : cw_oOffer t o k x = (-9, t) := cw_ie (cw_b0.mp c_7)
    exact ⟨by rw [hq]; rfl, by rw [hq]; exact h⟩
