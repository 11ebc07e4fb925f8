set_option maxHeartbeats 8000000 in
set_option maxRecDepth 100000 in
theorem ok_X7_takesOne (a b : Int32) (tx : Nat → Int32) (len : Nat) (g : cw_sg) : gw_Ok yX7_takesOne cX7_takesOne 5 (some .int) sM 2 [.ref 0, .int a, .int b] (fun w => w 0 13 = nI g.2 ∧ w 0 14 = cw_bi g.1 ∧ cw_tx tx len w ∧ g.2 ≤ 120) (fun w vr w1 => vr = some (.int (cw_take tx len a b g).1) ∧ w1 = cw_T w (cw_take tx len a b g).2) := by
  refine gw_of (by decide) (Nat.le_of_ble_eq_true rfl) ?_
  intro X w h C F
  obtain ⟨e13, e14, htx, hp⟩ := h
  have h := cw_T_in e13 e14
  have hl := htx.2.1
  refine g_aload_n C rfl dX7_takesOne_0 ?_
  refine g_getf C fl_X7_177 rfl rfl dX7_takesOne_1 ?_
  refine g_top (cw_T14 h) ?_
  refine g_join1 40 (cw_b (cw_is tx len a b g)) (fun k_40 => ?_) ?_
  · refine g_if_ne (tgt := 39) C (by decide) dX7_takesOne_4 (fun c_4 => ?_) (fun c_4 => ?_)
    · refine g_iconst (v := 0) C (by decide) dX7_takesOne_39 ?_
      exact k_40 _ (by rw [cw_bf (fun q : cw_is tx len a b g => by have z := q.1; rw [z] at c_4; exact c_4 rfl)])
    · refine g_aload_n C rfl dX7_takesOne_7 ?_
      refine g_getf C fl_X7_181 rfl rfl dX7_takesOne_8 ?_
      refine g_top (cw_T13 h) ?_
      refine g_aload_n C rfl dX7_takesOne_11 ?_
      refine g_getf C fl_X7_171 rfl rfl dX7_takesOne_12 ?_
      refine g_top ((cw_Tk h (by decide)).trans htx.1) ?_
      refine g_cmp_ge (tgt := 39) C (by decide) dX7_takesOne_15 (fun c_15 => ?_) (fun c_15 => ?_)
      · refine g_iconst (v := 0) C (by decide) dX7_takesOne_39 ?_
        exact k_40 _ (by rw [cw_bf (fun q : cw_is tx len a b g => nI_ge q.2.1 (by omega) c_15)])
      · have hpl : g.2 < len := by
          rcases Nat.lt_or_ge g.2 len with q | q
          · exact q
          · exact absurd (nI_le q (by omega)) c_15
        refine g_aload_n C rfl dX7_takesOne_18 ?_
        refine g_getr C fl_X7_22 rfl rfl dX7_takesOne_19 ?_
        refine g_aload_n C rfl dX7_takesOne_22 ?_
        refine g_getf C fl_X7_181 rfl rfl dX7_takesOne_23 ?_
        refine g_top (cw_T13 h) ?_
        refine g_iald (j := g.2) C rfl (rfl) (by omega) (by decide) dX7_takesOne_26 ?_
        refine g_top ((congrFun (cw_Tq h (q := 5) (by decide)) _).trans (htx.2.2 _ (hpl))) ?_
        refine g_iload_n C rfl dX7_takesOne_27 ?_
        refine g_iload_n C rfl dX7_takesOne_28 ?_
        refine g_callS C (ok_X7_in _ _ _) my_X7_in si_X7_40 (by decide) ⟨Nat.le_refl _, Nat.le_refl _⟩ rfl (Nat.le_of_ble_eq_true rfl) dX7_takesOne_29 rfl (trivial) (fun v_29 w_29 hp_29 => ?_)
        obtain ⟨rfl, hw_29⟩ := hp_29
        have hw_29 := hw_29.symm; subst hw_29
        refine g_if_eq (tgt := 39) C (by decide) dX7_takesOne_32 (fun c_32 => ?_) (fun c_32 => ?_)
        · refine g_iconst (v := 0) C (by decide) dX7_takesOne_39 ?_
          exact k_40 _ (by rw [cw_bf (fun q : cw_is tx len a b g => cw_b0.mp c_32 ⟨q.2.2.1, q.2.2.2⟩)])
        · refine g_iconst (v := 1) C (by decide) dX7_takesOne_35 ?_
          refine g_goto (tgt := 40) C (by decide) dX7_takesOne_36 ?_
          exact k_40 _ (by rw [cw_b1 (show cw_is tx len a b g from ⟨cw_bi_0 (c_4), hpl, (cw_bn c_32).1, (cw_bn c_32).2⟩)])
  refine g_istore_n C (by decide) dX7_takesOne_40 ?_
  by_cases hq : cw_is tx len a b g
  · refine g_iload_n C rfl dX7_takesOne_41 ?_
    refine g_if_eq (tgt := 59) C (by decide) dX7_takesOne_42 (fun c_42 => absurd c_42 (by rw [cw_b1 hq]; decide)) (fun c_42 => ?_)
    refine g_aload_n C rfl dX7_takesOne_45 ?_
    refine g_getr C fl_X7_22 rfl rfl dX7_takesOne_46 ?_
    refine g_aload_n C rfl dX7_takesOne_49 ?_
    refine g_getf C fl_X7_181 rfl rfl dX7_takesOne_50 ?_
    refine g_top (cw_T13 h) ?_
    refine g_iald (j := g.2) C rfl (rfl) (by have := hq.2.1; omega) (by decide) dX7_takesOne_53 ?_
    refine g_top ((congrFun (cw_Tq h (q := 5) (by decide)) _).trans (htx.2.2 _ (hq.2.1))) ?_
    refine g_iload_n C rfl dX7_takesOne_54 ?_
    refine g_isub C dX7_takesOne_55 ?_
    refine g_goto (tgt := 60) C (by decide) dX7_takesOne_56 ?_
    refine g_istore C (by decide) dX7_takesOne_60 ?_
    refine g_aload_n C rfl dX7_takesOne_62 ?_
    refine g_dup C rfl dX7_takesOne_63 ?_
    refine g_getf C fl_X7_181 rfl rfl dX7_takesOne_64 ?_
    refine g_top (cw_T13 h) ?_
    refine g_iload_n C rfl dX7_takesOne_67 ?_
    refine g_if_eq (tgt := 75) C (by decide) dX7_takesOne_68 (fun c_68 => absurd c_68 (by rw [cw_b1 hq]; decide)) (fun c_68 => ?_)
    refine g_iconst (v := 1) C (by decide) dX7_takesOne_71 ?_
    refine g_goto (tgt := 76) C (by decide) dX7_takesOne_72 ?_
    refine g_iadd C dX7_takesOne_76 ?_
    refine g_top (nI_1 g.2) ?_
    refine g_putf C fl_X7_181 fp_5_13 rfl rfl (rfl) (rfl) dX7_takesOne_77 ?_
    refine g_genR (cw_T_p13 h) (fun w1 h1 => ?_)
    refine g_aload_n C rfl dX7_takesOne_80 ?_
    refine g_aload_n C rfl dX7_takesOne_81 ?_
    refine g_getf C fl_X7_177 rfl rfl dX7_takesOne_82 ?_
    refine g_top (cw_T14 h1) ?_
    refine g_if_ne (tgt := 92) C (by decide) dX7_takesOne_85 (fun c_85 => absurd (by rw [hq.1]; rfl) c_85) (fun c_85 => ?_)
    refine g_iload_n C rfl dX7_takesOne_88 ?_
    refine g_if_ne (tgt := 96) C (by decide) dX7_takesOne_89 (fun c_89 => ?_) (fun c_89 => absurd c_89 (by rw [cw_b1 hq]; decide))
    refine g_iconst (v := 0) C (by decide) dX7_takesOne_96 ?_
    refine g_top (show _ = cw_bi false from rfl) ?_
    refine g_putf C fl_X7_177 fp_5_14 rfl rfl (cw_bi_nar _) (cw_bi_fit _) dX7_takesOne_97 ?_
    refine g_genR (cw_T_p14 h1) (fun w2 h2 => ?_)
    refine g_iload C rfl dX7_takesOne_100 ?_
    refine g_iret C F dX7_takesOne_102 ?_
    have hd : cw_take tx len a b g = (tx g.2 - a, (false, g.2 + 1)) := cw_it hq
    exact ⟨by rw [hd], by rw [hd]; exact h2⟩
  · refine g_iload_n C rfl dX7_takesOne_41 ?_
    refine g_if_eq (tgt := 59) C (by decide) dX7_takesOne_42 (fun c_42 => ?_) (fun c_42 => absurd (cw_bf hq) c_42)
    refine g_iconst (v := 0) C (by decide) dX7_takesOne_59 ?_
    refine g_istore C (by decide) dX7_takesOne_60 ?_
    refine g_aload_n C rfl dX7_takesOne_62 ?_
    refine g_dup C rfl dX7_takesOne_63 ?_
    refine g_getf C fl_X7_181 rfl rfl dX7_takesOne_64 ?_
    refine g_top (cw_T13 h) ?_
    refine g_iload_n C rfl dX7_takesOne_67 ?_
    refine g_if_eq (tgt := 75) C (by decide) dX7_takesOne_68 (fun c_68 => ?_) (fun c_68 => absurd (cw_bf hq) c_68)
    refine g_iconst (v := 0) C (by decide) dX7_takesOne_75 ?_
    refine g_iadd C dX7_takesOne_76 ?_
    refine g_top (Int32.add_zero (nI g.2)) ?_
    refine g_putf C fl_X7_181 fp_5_13 rfl rfl (rfl) (rfl) dX7_takesOne_77 ?_
    refine g_genR (cw_T_p13 h) (fun w3 h3 => ?_)
    refine g_aload_n C rfl dX7_takesOne_80 ?_
    refine g_aload_n C rfl dX7_takesOne_81 ?_
    refine g_getf C fl_X7_177 rfl rfl dX7_takesOne_82 ?_
    refine g_top (cw_T14 h3) ?_
    refine g_if_ne (tgt := 92) C (by decide) dX7_takesOne_85 (fun c_85 => ?_) (fun c_85 => ?_)
    · refine g_iconst (v := 1) C (by decide) dX7_takesOne_92 ?_
      refine g_goto (tgt := 97) C (by decide) dX7_takesOne_93 ?_
      refine g_top (show _ = cw_bi true from rfl) ?_
      refine g_putf C fl_X7_177 fp_5_14 rfl rfl (cw_bi_nar _) (cw_bi_fit _) dX7_takesOne_97 ?_
      refine g_genR (cw_T_p14 h3) (fun w4 h4 => ?_)
      refine g_iload C rfl dX7_takesOne_100 ?_
      refine g_iret C F dX7_takesOne_102 ?_
      have hd : cw_take tx len a b g = (0, (true, g.2)) := cw_ie hq
      exact ⟨by rw [hd], by rw [hd]; exact h4⟩
    · refine g_iload_n C rfl dX7_takesOne_88 ?_
      refine g_if_ne (tgt := 96) C (by decide) dX7_takesOne_89 (fun c_89 => absurd (cw_bf hq) c_89) (fun c_89 => ?_)
      refine g_iconst (v := 1) C (by decide) dX7_takesOne_92 ?_
      refine g_goto (tgt := 97) C (by decide) dX7_takesOne_93 ?_
      refine g_top (show _ = cw_bi true from rfl) ?_
      refine g_putf C fl_X7_177 fp_5_14 rfl rfl (cw_bi_nar _) (cw_bi_fit _) dX7_takesOne_97 ?_
      refine g_genR (cw_T_p14 h3) (fun w5 h5 => ?_)
      refine g_iload C rfl dX7_takesOne_100 ?_
      refine g_iret C F dX7_takesOne_102 ?_
      have hd : cw_take tx len a b g = (0, (true, g.2)) := cw_ie hq
      exact ⟨by rw [hd], by rw [hd]; exact h5⟩

set_option maxHeartbeats 8000000 in
set_option maxRecDepth 100000 in
theorem ok_X7_readWeek (tx : Nat → Int32) (len : Nat) (g : cw_sg) : gw_Ok yX7_readWeek cX7_readWeek 2 (some .int) sM 3 [.ref 0] (fun w => w 0 13 = nI g.2 ∧ w 0 14 = cw_bi g.1 ∧ cw_tx tx len w ∧ g.2 ≤ 120) (fun w vr w1 => vr = some (.int ((cw_week tx len g).1)) ∧ w1 = cw_T w ((cw_week tx len g).2)) := by
  refine gw_of (by decide) (Nat.le_of_ble_eq_true rfl) ?_
  intro X w h C F
  obtain ⟨e13, e14, htx, hp⟩ := h
  have h := cw_T_in e13 e14
  have hl := htx.2.1
  refine g_aload_n C rfl dX7_readWeek_0 ?_
  refine g_bipush (v := 48) C (by decide) dX7_readWeek_1 ?_
  refine g_bipush (v := 49) C (by decide) dX7_readWeek_3 ?_
  refine g_call C (ok_X7_takesOne _ _ tx len _) my_X7_takesOne vi_X7_184 (by decide) ⟨Nat.le_refl _, Nat.le_refl _⟩ rfl rfl rfl (Nat.le_of_ble_eq_true rfl) dX7_readWeek_5 rfl (⟨cw_T13 h, cw_T14 h, cw_Ttx h htx, hp⟩) (fun v_5 w_5 hp_5 => ?_)
  obtain ⟨rfl, h_5⟩ := hp_5
  have h_5 := cw_Tc h h_5
  refine g_istore_n C (by decide) dX7_readWeek_8 ?_
  refine g_bipush (v := 10) C (by decide) dX7_readWeek_9 ?_
  refine g_iload_n C rfl dX7_readWeek_11 ?_
  refine g_imul C dX7_readWeek_12 ?_
  refine g_aload_n C rfl dX7_readWeek_13 ?_
  refine g_bipush (v := 48) C (by decide) dX7_readWeek_14 ?_
  refine g_bipush (v := 57) C (by decide) dX7_readWeek_16 ?_
  refine g_call C (ok_X7_takesOne _ _ tx len _) my_X7_takesOne vi_X7_184 (by decide) ⟨Nat.le_refl _, Nat.le_refl _⟩ rfl rfl rfl (Nat.le_of_ble_eq_true rfl) dX7_readWeek_18 rfl (⟨cw_T13 h_5, cw_T14 h_5, cw_Ttx h_5 htx, cw_take_le _ _ _ _ _ hl hp⟩) (fun v_18 w_18 hp_18 => ?_)
  obtain ⟨rfl, h_18⟩ := hp_18
  have h_18 := cw_Tc h_5 h_18
  refine g_iadd C dX7_readWeek_21 ?_
  refine g_iret C F dX7_readWeek_22 ?_
  exact ⟨rfl, h_18⟩

set_option maxHeartbeats 8000000 in
set_option maxRecDepth 100000 in
theorem ok_X7_readExtra (tx : Nat → Int32) (len : Nat) (g : cw_sg) : gw_Ok yX7_readExtra cX7_readExtra 2 (some .int) sM 3 [.ref 0] (fun w => w 0 13 = nI g.2 ∧ w 0 14 = cw_bi g.1 ∧ cw_tx tx len w ∧ g.2 ≤ 120) (fun w vr w1 => vr = some (.int ((cw_extra tx len g).1)) ∧ w1 = cw_T w ((cw_extra tx len g).2)) := by
  refine gw_of (by decide) (Nat.le_of_ble_eq_true rfl) ?_
  intro X w h C F
  obtain ⟨e13, e14, htx, hp⟩ := h
  have h := cw_T_in e13 e14
  have hl := htx.2.1
  refine g_aload_n C rfl dX7_readExtra_0 ?_
  refine g_bipush (v := 48) C (by decide) dX7_readExtra_1 ?_
  refine g_bipush (v := 50) C (by decide) dX7_readExtra_3 ?_
  refine g_call C (ok_X7_takesOne _ _ tx len _) my_X7_takesOne vi_X7_184 (by decide) ⟨Nat.le_refl _, Nat.le_refl _⟩ rfl rfl rfl (Nat.le_of_ble_eq_true rfl) dX7_readExtra_5 rfl (⟨cw_T13 h, cw_T14 h, cw_Ttx h htx, hp⟩) (fun v_5 w_5 hp_5 => ?_)
  obtain ⟨rfl, h_5⟩ := hp_5
  have h_5 := cw_Tc h h_5
  refine g_istore_n C (by decide) dX7_readExtra_8 ?_
  refine g_bipush (v := 10) C (by decide) dX7_readExtra_9 ?_
  refine g_iload_n C rfl dX7_readExtra_11 ?_
  refine g_imul C dX7_readExtra_12 ?_
  refine g_aload_n C rfl dX7_readExtra_13 ?_
  refine g_bipush (v := 48) C (by decide) dX7_readExtra_14 ?_
  refine g_iload_n C rfl dX7_readExtra_16 ?_
  refine g_iconst (v := 2) C (by decide) dX7_readExtra_17 ?_
  refine g_cmp_ne (tgt := 26) C (by decide) dX7_readExtra_18 (fun c_18 => ?_) (fun c_18 => ?_)
  · refine g_bipush (v := 57) C (by decide) dX7_readExtra_26 ?_
    refine g_call C (ok_X7_takesOne _ _ tx len _) my_X7_takesOne vi_X7_184 (by decide) ⟨Nat.le_refl _, Nat.le_refl _⟩ rfl rfl rfl (Nat.le_of_ble_eq_true rfl) dX7_readExtra_28 rfl (⟨cw_T13 h_5, cw_T14 h_5, cw_Ttx h_5 htx, cw_take_le _ _ _ _ _ hl hp⟩) (fun v_28 w_28 hp_28 => ?_)
    obtain ⟨rfl, h_28⟩ := hp_28
    have h_28 := cw_Tc h_5 h_28
    refine g_iadd C dX7_readExtra_31 ?_
    refine g_iret C F dX7_readExtra_32 ?_
    exact ⟨by unfold cw_extra; rw [if_neg c_18], by unfold cw_extra; rw [if_neg c_18]; exact h_28⟩
  · refine g_bipush (v := 48) C (by decide) dX7_readExtra_21 ?_
    refine g_goto (tgt := 28) C (by decide) dX7_readExtra_23 ?_
    refine g_call C (ok_X7_takesOne _ _ tx len _) my_X7_takesOne vi_X7_184 (by decide) ⟨Nat.le_refl _, Nat.le_refl _⟩ rfl rfl rfl (Nat.le_of_ble_eq_true rfl) dX7_readExtra_28 rfl (⟨cw_T13 h_5, cw_T14 h_5, cw_Ttx h_5 htx, cw_take_le _ _ _ _ _ hl hp⟩) (fun v_28 w_28 hp_28 => ?_)
    obtain ⟨rfl, h_28⟩ := hp_28
    have h_28 := cw_Tc h_5 h_28
    refine g_iadd C dX7_readExtra_31 ?_
    refine g_iret C F dX7_readExtra_32 ?_
    exact ⟨by unfold cw_extra; rw [if_pos c_18], by unfold cw_extra; rw [if_pos c_18]; exact h_28⟩

set_option maxHeartbeats 8000000 in
set_option maxRecDepth 100000 in
theorem ok_X7_readCoins (tx : Nat → Int32) (len : Nat) (g : cw_sg) : gw_Ok yX7_readCoins cX7_readCoins 3 (some .int) sM 3 [.ref 0] (fun w => w 0 13 = nI g.2 ∧ w 0 14 = cw_bi g.1 ∧ cw_tx tx len w ∧ g.2 ≤ 120) (fun w vr w1 => vr = some (.int ((cw_coins tx len g).1)) ∧ w1 = cw_T w ((cw_coins tx len g).2)) := by
  refine gw_of (by decide) (Nat.le_of_ble_eq_true rfl) ?_
  intro X w h C F
  obtain ⟨e13, e14, htx, hp⟩ := h
  have h := cw_T_in e13 e14
  have hl := htx.2.1
  refine g_aload_n C rfl dX7_readCoins_0 ?_
  refine g_bipush (v := 48) C (by decide) dX7_readCoins_1 ?_
  refine g_bipush (v := 57) C (by decide) dX7_readCoins_3 ?_
  refine g_call C (ok_X7_takesOne _ _ tx len _) my_X7_takesOne vi_X7_184 (by decide) ⟨Nat.le_refl _, Nat.le_refl _⟩ rfl rfl rfl (Nat.le_of_ble_eq_true rfl) dX7_readCoins_5 rfl (⟨cw_T13 h, cw_T14 h, cw_Ttx h htx, hp⟩) (fun v_5 w_5 hp_5 => ?_)
  obtain ⟨rfl, h_5⟩ := hp_5
  have h_5 := cw_Tc h h_5
  refine g_istore_n C (by decide) dX7_readCoins_8 ?_
  refine g_aload_n C rfl dX7_readCoins_9 ?_
  refine g_bipush (v := 48) C (by decide) dX7_readCoins_10 ?_
  refine g_bipush (v := 57) C (by decide) dX7_readCoins_12 ?_
  refine g_call C (ok_X7_takesOne _ _ tx len _) my_X7_takesOne vi_X7_184 (by decide) ⟨Nat.le_refl _, Nat.le_refl _⟩ rfl rfl rfl (Nat.le_of_ble_eq_true rfl) dX7_readCoins_14 rfl (⟨cw_T13 h_5, cw_T14 h_5, cw_Ttx h_5 htx, cw_take_le _ _ _ _ _ hl hp⟩) (fun v_14 w_14 hp_14 => ?_)
  obtain ⟨rfl, h_14⟩ := hp_14
  have h_14 := cw_Tc h_5 h_14
  refine g_istore_n C (by decide) dX7_readCoins_17 ?_
  refine g_iload_n C rfl dX7_readCoins_18 ?_
  refine g_iload_n C rfl dX7_readCoins_19 ?_
  refine g_iadd C dX7_readCoins_20 ?_
  refine g_if_ne (tgt := 37) C (by decide) dX7_readCoins_21 (fun c_21 => ?_) (fun c_21 => ?_)
  · refine g_bipush (v := 100) C (by decide) dX7_readCoins_37 ?_
    refine g_iload_n C rfl dX7_readCoins_39 ?_
    refine g_imul C dX7_readCoins_40 ?_
    refine g_bipush (v := 10) C (by decide) dX7_readCoins_41 ?_
    refine g_iload_n C rfl dX7_readCoins_43 ?_
    refine g_imul C dX7_readCoins_44 ?_
    refine g_iadd C dX7_readCoins_45 ?_
    refine g_aload_n C rfl dX7_readCoins_46 ?_
    refine g_bipush (v := 48) C (by decide) dX7_readCoins_47 ?_
    refine g_bipush (v := 57) C (by decide) dX7_readCoins_49 ?_
    refine g_call C (ok_X7_takesOne _ _ tx len _) my_X7_takesOne vi_X7_184 (by decide) ⟨Nat.le_refl _, Nat.le_refl _⟩ rfl rfl rfl (Nat.le_of_ble_eq_true rfl) dX7_readCoins_51 rfl (⟨cw_T13 h_14, cw_T14 h_14, cw_Ttx h_14 htx, cw_take_le _ _ _ _ _ hl (cw_take_le _ _ _ _ _ hl hp)⟩) (fun v_51 w_51 hp_51 => ?_)
    obtain ⟨rfl, h_51⟩ := hp_51
    have h_51 := cw_Tc h_14 h_51
    refine g_iadd C dX7_readCoins_54 ?_
    refine g_iret C F dX7_readCoins_55 ?_
    exact ⟨by unfold cw_coins; rw [if_neg c_21]; rfl, by unfold cw_coins; rw [if_neg c_21]; exact h_51⟩
  · refine g_iconst (v := 1) C (by decide) dX7_readCoins_24 ?_
    refine g_aload_n C rfl dX7_readCoins_25 ?_
    refine g_bipush (v := 49) C (by decide) dX7_readCoins_26 ?_
    refine g_bipush (v := 57) C (by decide) dX7_readCoins_28 ?_
    refine g_call C (ok_X7_takesOne _ _ tx len _) my_X7_takesOne vi_X7_184 (by decide) ⟨Nat.le_refl _, Nat.le_refl _⟩ rfl rfl rfl (Nat.le_of_ble_eq_true rfl) dX7_readCoins_30 rfl (⟨cw_T13 h_14, cw_T14 h_14, cw_Ttx h_14 htx, cw_take_le _ _ _ _ _ hl (cw_take_le _ _ _ _ _ hl hp)⟩) (fun v_30 w_30 hp_30 => ?_)
    obtain ⟨rfl, h_30⟩ := hp_30
    have h_30 := cw_Tc h_14 h_30
    refine g_iadd C dX7_readCoins_33 ?_
    refine g_goto (tgt := 55) C (by decide) dX7_readCoins_34 ?_
    refine g_iret C F dX7_readCoins_55 ?_
    exact ⟨by unfold cw_coins; rw [if_pos c_21]; rfl, by unfold cw_coins; rw [if_pos c_21]; exact h_30⟩

set_option maxHeartbeats 8000000 in
set_option maxRecDepth 100000 in
theorem ok_X7_isLetter (v : Int32) : gw_Ok yX7_isLetter cX7_isLetter 1 (some .boolean) sM 1 [.int v] (fun _ => True) (fun w vr w1 => vr = some (.int (cw_b (cw_isL v))) ∧ w1 = w) := by
  refine gw_of (by decide) (Nat.le_of_ble_eq_true rfl) ?_
  intro X w h C F
  refine g_iload_n C rfl dX7_isLetter_0 ?_
  refine g_bipush (v := 111) C (by decide) dX7_isLetter_1 ?_
  refine g_cmp_eq (tgt := 66) C (by decide) dX7_isLetter_3 (fun c_3 => ?_) (fun c_3 => ?_)
  · refine g_iconst (v := 1) C (by decide) dX7_isLetter_66 ?_
    refine g_goto (tgt := 71) C (by decide) dX7_isLetter_67 ?_
    refine g_zret C F (rfl) dX7_isLetter_71 ?_
    exact ⟨by rw [cw_b1 (show cw_isL v by unfold cw_isL; rw [c_3]; decide)], rfl⟩
  · refine g_iload_n C rfl dX7_isLetter_6 ?_
    refine g_bipush (v := 107) C (by decide) dX7_isLetter_7 ?_
    refine g_cmp_eq (tgt := 66) C (by decide) dX7_isLetter_9 (fun c_9 => ?_) (fun c_9 => ?_)
    · refine g_iconst (v := 1) C (by decide) dX7_isLetter_66 ?_
      refine g_goto (tgt := 71) C (by decide) dX7_isLetter_67 ?_
      refine g_zret C F (rfl) dX7_isLetter_71 ?_
      exact ⟨by rw [cw_b1 (show cw_isL v by unfold cw_isL; rw [c_9]; decide)], rfl⟩
    · refine g_iload_n C rfl dX7_isLetter_12 ?_
      refine g_bipush (v := 115) C (by decide) dX7_isLetter_13 ?_
      refine g_cmp_eq (tgt := 66) C (by decide) dX7_isLetter_15 (fun c_15 => ?_) (fun c_15 => ?_)
      · refine g_iconst (v := 1) C (by decide) dX7_isLetter_66 ?_
        refine g_goto (tgt := 71) C (by decide) dX7_isLetter_67 ?_
        refine g_zret C F (rfl) dX7_isLetter_71 ?_
        exact ⟨by rw [cw_b1 (show cw_isL v by unfold cw_isL; rw [c_15]; decide)], rfl⟩
      · refine g_iload_n C rfl dX7_isLetter_18 ?_
        refine g_bipush (v := 116) C (by decide) dX7_isLetter_19 ?_
        refine g_cmp_eq (tgt := 66) C (by decide) dX7_isLetter_21 (fun c_21 => ?_) (fun c_21 => ?_)
        · refine g_iconst (v := 1) C (by decide) dX7_isLetter_66 ?_
          refine g_goto (tgt := 71) C (by decide) dX7_isLetter_67 ?_
          refine g_zret C F (rfl) dX7_isLetter_71 ?_
          exact ⟨by rw [cw_b1 (show cw_isL v by unfold cw_isL; rw [c_21]; decide)], rfl⟩
        · refine g_iload_n C rfl dX7_isLetter_24 ?_
          refine g_bipush (v := 98) C (by decide) dX7_isLetter_25 ?_
          refine g_cmp_eq (tgt := 66) C (by decide) dX7_isLetter_27 (fun c_27 => ?_) (fun c_27 => ?_)
          · refine g_iconst (v := 1) C (by decide) dX7_isLetter_66 ?_
            refine g_goto (tgt := 71) C (by decide) dX7_isLetter_67 ?_
            refine g_zret C F (rfl) dX7_isLetter_71 ?_
            exact ⟨by rw [cw_b1 (show cw_isL v by unfold cw_isL; rw [c_27]; decide)], rfl⟩
          · refine g_iload_n C rfl dX7_isLetter_30 ?_
            refine g_bipush (v := 101) C (by decide) dX7_isLetter_31 ?_
            refine g_cmp_eq (tgt := 66) C (by decide) dX7_isLetter_33 (fun c_33 => ?_) (fun c_33 => ?_)
            · refine g_iconst (v := 1) C (by decide) dX7_isLetter_66 ?_
              refine g_goto (tgt := 71) C (by decide) dX7_isLetter_67 ?_
              refine g_zret C F (rfl) dX7_isLetter_71 ?_
              exact ⟨by rw [cw_b1 (show cw_isL v by unfold cw_isL; rw [c_33]; decide)], rfl⟩
            · refine g_iload_n C rfl dX7_isLetter_36 ?_
              refine g_bipush (v := 114) C (by decide) dX7_isLetter_37 ?_
              refine g_cmp_eq (tgt := 66) C (by decide) dX7_isLetter_39 (fun c_39 => ?_) (fun c_39 => ?_)
              · refine g_iconst (v := 1) C (by decide) dX7_isLetter_66 ?_
                refine g_goto (tgt := 71) C (by decide) dX7_isLetter_67 ?_
                refine g_zret C F (rfl) dX7_isLetter_71 ?_
                exact ⟨by rw [cw_b1 (show cw_isL v by unfold cw_isL; rw [c_39]; decide)], rfl⟩
              · refine g_iload_n C rfl dX7_isLetter_42 ?_
                refine g_bipush (v := 102) C (by decide) dX7_isLetter_43 ?_
                refine g_cmp_eq (tgt := 66) C (by decide) dX7_isLetter_45 (fun c_45 => ?_) (fun c_45 => ?_)
                · refine g_iconst (v := 1) C (by decide) dX7_isLetter_66 ?_
                  refine g_goto (tgt := 71) C (by decide) dX7_isLetter_67 ?_
                  refine g_zret C F (rfl) dX7_isLetter_71 ?_
                  exact ⟨by rw [cw_b1 (show cw_isL v by unfold cw_isL; rw [c_45]; decide)], rfl⟩
                · refine g_iload_n C rfl dX7_isLetter_48 ?_
                  refine g_bipush (v := 97) C (by decide) dX7_isLetter_49 ?_
                  refine g_cmp_eq (tgt := 66) C (by decide) dX7_isLetter_51 (fun c_51 => ?_) (fun c_51 => ?_)
                  · refine g_iconst (v := 1) C (by decide) dX7_isLetter_66 ?_
                    refine g_goto (tgt := 71) C (by decide) dX7_isLetter_67 ?_
                    refine g_zret C F (rfl) dX7_isLetter_71 ?_
                    exact ⟨by rw [cw_b1 (show cw_isL v by unfold cw_isL; rw [c_51]; decide)], rfl⟩
                  · refine g_iload_n C rfl dX7_isLetter_54 ?_
                    refine g_bipush (v := 117) C (by decide) dX7_isLetter_55 ?_
                    refine g_cmp_eq (tgt := 66) C (by decide) dX7_isLetter_57 (fun c_57 => ?_) (fun c_57 => ?_)
                    · refine g_iconst (v := 1) C (by decide) dX7_isLetter_66 ?_
                      refine g_goto (tgt := 71) C (by decide) dX7_isLetter_67 ?_
                      refine g_zret C F (rfl) dX7_isLetter_71 ?_
                      exact ⟨by rw [cw_b1 (show cw_isL v by unfold cw_isL; rw [c_57]; decide)], rfl⟩
                    · refine g_iload_n C rfl dX7_isLetter_60 ?_
                      refine g_bipush (v := 121) C (by decide) dX7_isLetter_61 ?_
                      refine g_cmp_ne (tgt := 70) C (by decide) dX7_isLetter_63 (fun c_63 => ?_) (fun c_63 => ?_)
                      · refine g_iconst (v := 0) C (by decide) dX7_isLetter_70 ?_
                        refine g_zret C F (rfl) dX7_isLetter_71 ?_
                        exact ⟨by rw [cw_bf (show ¬ cw_isL v by unfold cw_isL; simp [*])], rfl⟩
                      · refine g_iconst (v := 1) C (by decide) dX7_isLetter_66 ?_
                        refine g_goto (tgt := 71) C (by decide) dX7_isLetter_67 ?_
                        refine g_zret C F (rfl) dX7_isLetter_71 ?_
                        exact ⟨by rw [cw_b1 (show cw_isL v by unfold cw_isL; rw [c_63]; decide)], rfl⟩

