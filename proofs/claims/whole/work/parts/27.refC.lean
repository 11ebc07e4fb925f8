set_option maxHeartbeats 8000000 in
set_option maxRecDepth 100000 in
theorem ok_X7_offers {s : cw_s} (o k x : Int32) (h8 : cw_x (s 205) < 8) {n m : Nat} (hI : cw_I n m s) : gw_Ok yX7_offers cX7_offers 5 (some .int) sM 2 [.ref 0, .int o, .int k, .int x] (fun w => w 1 = s) (fun w vr w1 => vr = some (.int (s 205)) ∧ w1 = cw_S w (cw_offd s (cw_x (s 205)) o k x)) := by
  refine gw_of (by decide) (Nat.le_of_ble_eq_true rfl) ?_
  intro X w h C F
  have h := hr_in h
  have hxq := cw_x_lt hI
  have hx2 := hxq.2
  refine g_aload_n C rfl dX7_offers_0 ?_
  refine g_getr C fl_X7_7 rfl rfl dX7_offers_1 ?_
  refine g_sipush (v := 205) C (by decide) dX7_offers_4 ?_
  refine g_iald (j := 205) C rfl (rfl) (by decide) (by decide) dX7_offers_7 ?_
  refine g_top (hr_rd h) ?_
  refine g_istore C (by decide) dX7_offers_8 ?_
  refine g_aload_n C rfl dX7_offers_10 ?_
  refine g_getr C fl_X7_7 rfl rfl dX7_offers_11 ?_
  refine g_sipush (v := 205) C (by decide) dX7_offers_14 ?_
  refine g_dup2 C rfl rfl dX7_offers_17 ?_
  refine g_iald (j := 205) C rfl (rfl) (by decide) (by decide) dX7_offers_18 ?_
  refine g_top (hr_rd h) ?_
  refine g_iconst (v := 1) C (by decide) dX7_offers_19 ?_
  refine g_iadd C dX7_offers_20 ?_
  refine g_iast (j := 205) C rfl (rfl) (by decide) (by decide) dX7_offers_21 ?_
  refine g_genR (hr_set h) (fun w1 h1 => ?_)
  refine g_aload_n C rfl dX7_offers_22 ?_
  refine g_getr C fl_X7_7 rfl rfl dX7_offers_23 ?_
  refine g_iload C rfl dX7_offers_26 ?_
  refine g_iconst (v := 0) C (by decide) dX7_offers_28 ?_
  refine g_callS C (ok_X7_ofOffer (i := 0) _ _ _ (by first | rfl | assumption) rfl) my_X7_ofOffer si_X7_91 (by decide) ⟨Nat.le_refl _, Nat.le_refl _⟩ rfl (Nat.le_of_ble_eq_true rfl) dX7_offers_29 rfl (trivial) (fun v_29 w_29 hp_29 => ?_)
  obtain ⟨rfl, hw_29⟩ := hp_29
  have hw_29 := hw_29.symm; subst hw_29
  refine g_iload_n C rfl dX7_offers_32 ?_
  refine g_iast C rfl (by first | rfl | assumption | (simp only [nI_add, pk_mul, *]; done)) (by first | assumption | omega) (by decide) dX7_offers_33 ?_
  refine g_genR (hr_set h1) (fun w2 h2 => ?_)
  refine g_aload_n C rfl dX7_offers_34 ?_
  refine g_getr C fl_X7_7 rfl rfl dX7_offers_35 ?_
  refine g_iload C rfl dX7_offers_38 ?_
  refine g_iconst (v := 1) C (by decide) dX7_offers_40 ?_
  refine g_callS C (ok_X7_ofOffer (i := 1) _ _ _ (by first | rfl | assumption) rfl) my_X7_ofOffer si_X7_91 (by decide) ⟨Nat.le_refl _, Nat.le_refl _⟩ rfl (Nat.le_of_ble_eq_true rfl) dX7_offers_41 rfl (trivial) (fun v_41 w_41 hp_41 => ?_)
  obtain ⟨rfl, hw_41⟩ := hp_41
  have hw_41 := hw_41.symm; subst hw_41
  refine g_iload_n C rfl dX7_offers_44 ?_
  refine g_iast C rfl (by first | rfl | assumption | (simp only [nI_add, pk_mul, *]; done)) (by first | assumption | omega) (by decide) dX7_offers_45 ?_
  refine g_genR (hr_set h2) (fun w3 h3 => ?_)
  refine g_aload_n C rfl dX7_offers_46 ?_
  refine g_getr C fl_X7_7 rfl rfl dX7_offers_47 ?_
  refine g_iload C rfl dX7_offers_50 ?_
  refine g_iconst (v := 2) C (by decide) dX7_offers_52 ?_
  refine g_callS C (ok_X7_ofOffer (i := 2) _ _ _ (by first | rfl | assumption) rfl) my_X7_ofOffer si_X7_91 (by decide) ⟨Nat.le_refl _, Nat.le_refl _⟩ rfl (Nat.le_of_ble_eq_true rfl) dX7_offers_53 rfl (trivial) (fun v_53 w_53 hp_53 => ?_)
  obtain ⟨rfl, hw_53⟩ := hp_53
  have hw_53 := hw_53.symm; subst hw_53
  refine g_iload_n C rfl dX7_offers_56 ?_
  refine g_iast C rfl (by first | rfl | assumption | (simp only [nI_add, pk_mul, *]; done)) (by first | assumption | omega) (by decide) dX7_offers_57 ?_
  refine g_genR (hr_set h3) (fun w4 h4 => ?_)
  refine g_iload C rfl dX7_offers_58 ?_
  refine g_iret C F dX7_offers_60 ?_
  exact ⟨rfl, h4⟩

set_option maxHeartbeats 8000000 in
set_option maxRecDepth 100000 in
theorem ok_X7_isVoid {s : cw_s} (a : Int32) (k : Nat) (ea : a = nI k) (hk : k < cw_x (s 205)) {n m : Nat} (hI : cw_I n m s) : gw_Ok yX7_isVoid cX7_isVoid 4 (some .boolean) sM 2 [.ref 0, .int a] (fun w => w 1 = s) (fun w vr w1 => vr = some (.int (cw_b (¬ cw_swap s (s (206 + 3 * k + 0)) (s (206 + 3 * k + 1)) (s (206 + 3 * k + 2))))) ∧ w1 = w) := by
  refine gw_of (by decide) (Nat.le_of_ble_eq_true rfl) ?_
  intro X w h C F
  have h := hr_in h
  subst ea
  have hxq := cw_x_lt hI
  obtain ⟨⟨j0, hj0, he0⟩, ⟨k1, hk1, he1⟩, ⟨k2, hk2, he2⟩⟩ := hI.offs hk
  have h6 := hI.m.2
  have ex1 : cw_x (s (206 + 3 * k + 1)) = k1 := by rw [he1, cw_xn (by omega)]
  have ex2 : cw_x (s (206 + 3 * k + 2)) = k2 := by rw [he2, cw_xn (by omega)]
  refine g_aload_n C rfl dX7_isVoid_0 ?_
  refine g_getr C fl_X7_7 rfl rfl dX7_isVoid_1 ?_
  refine g_iload_n C rfl dX7_isVoid_4 ?_
  refine g_iconst (v := 0) C (by decide) dX7_isVoid_5 ?_
  refine g_callS C (ok_X7_ofOffer (i := 0) _ _ _ (by first | rfl | assumption) rfl) my_X7_ofOffer si_X7_91 (by decide) ⟨Nat.le_refl _, Nat.le_refl _⟩ rfl (Nat.le_of_ble_eq_true rfl) dX7_isVoid_6 rfl (trivial) (fun v_6 w_6 hp_6 => ?_)
  obtain ⟨rfl, hw_6⟩ := hp_6
  have hw_6 := hw_6.symm; subst hw_6
  refine g_iald C rfl (by first | rfl | assumption | (simp only [nI_add, pk_mul, *]; done)) (by first | assumption | omega) (by decide) dX7_isVoid_9 ?_
  refine g_top (hr_rd h) ?_
  refine g_istore_n C (by decide) dX7_isVoid_10 ?_
  refine g_aload_n C rfl dX7_isVoid_11 ?_
  refine g_getr C fl_X7_7 rfl rfl dX7_isVoid_12 ?_
  refine g_aload_n C rfl dX7_isVoid_15 ?_
  refine g_getr C fl_X7_7 rfl rfl dX7_isVoid_16 ?_
  refine g_iload_n C rfl dX7_isVoid_19 ?_
  refine g_iconst (v := 2) C (by decide) dX7_isVoid_20 ?_
  refine g_callS C (ok_X7_ofOffer (i := 2) _ _ _ (by first | rfl | assumption) rfl) my_X7_ofOffer si_X7_91 (by decide) ⟨Nat.le_refl _, Nat.le_refl _⟩ rfl (Nat.le_of_ble_eq_true rfl) dX7_isVoid_21 rfl (trivial) (fun v_21 w_21 hp_21 => ?_)
  obtain ⟨rfl, hw_21⟩ := hp_21
  have hw_21 := hw_21.symm; subst hw_21
  refine g_iald C rfl (by first | rfl | assumption | (simp only [nI_add, pk_mul, *]; done)) (by first | assumption | omega) (by decide) dX7_isVoid_24 ?_
  refine g_top (hr_rd h) ?_
  refine g_iconst (v := 2) C (by decide) dX7_isVoid_25 ?_
  refine g_callS C (ok_X7_ofWeek (i := 2) _ _ _ (by first | rfl | assumption) rfl) my_X7_ofWeek si_X7_36 (by decide) ⟨Nat.le_refl _, Nat.le_refl _⟩ rfl (Nat.le_of_ble_eq_true rfl) dX7_isVoid_26 rfl (trivial) (fun v_26 w_26 hp_26 => ?_)
  obtain ⟨rfl, hw_26⟩ := hp_26
  have hw_26 := hw_26.symm; subst hw_26
  refine g_iald C rfl (by first | rfl | assumption | (simp only [nI_add, pk_mul, *]; done)) (by first | assumption | omega) (by decide) dX7_isVoid_29 ?_
  refine g_top (hr_rd h) ?_
  refine g_istore_n C (by decide) dX7_isVoid_30 ?_
  refine g_aload_n C rfl dX7_isVoid_31 ?_
  refine g_getr C fl_X7_7 rfl rfl dX7_isVoid_32 ?_
  refine g_aload_n C rfl dX7_isVoid_35 ?_
  refine g_getr C fl_X7_7 rfl rfl dX7_isVoid_36 ?_
  refine g_iload_n C rfl dX7_isVoid_39 ?_
  refine g_iconst (v := 1) C (by decide) dX7_isVoid_40 ?_
  refine g_callS C (ok_X7_ofOffer (i := 1) _ _ _ (by first | rfl | assumption) rfl) my_X7_ofOffer si_X7_91 (by decide) ⟨Nat.le_refl _, Nat.le_refl _⟩ rfl (Nat.le_of_ble_eq_true rfl) dX7_isVoid_41 rfl (trivial) (fun v_41 w_41 hp_41 => ?_)
  obtain ⟨rfl, hw_41⟩ := hp_41
  have hw_41 := hw_41.symm; subst hw_41
  refine g_iald C rfl (by first | rfl | assumption | (simp only [nI_add, pk_mul, *]; done)) (by first | assumption | omega) (by decide) dX7_isVoid_44 ?_
  refine g_top (hr_rd h) ?_
  refine g_iconst (v := 2) C (by decide) dX7_isVoid_45 ?_
  refine g_callS C (ok_X7_ofWeek (i := 2) _ _ _ (by first | rfl | assumption) rfl) my_X7_ofWeek si_X7_36 (by decide) ⟨Nat.le_refl _, Nat.le_refl _⟩ rfl (Nat.le_of_ble_eq_true rfl) dX7_isVoid_46 rfl (trivial) (fun v_46 w_46 hp_46 => ?_)
  obtain ⟨rfl, hw_46⟩ := hp_46
  have hw_46 := hw_46.symm; subst hw_46
  refine g_iald C rfl (by first | rfl | assumption | (simp only [nI_add, pk_mul, *]; done)) (by first | assumption | omega) (by decide) dX7_isVoid_49 ?_
  refine g_top (hr_rd h) ?_
  refine g_iload_n C rfl dX7_isVoid_50 ?_
  refine g_cmp_ne (tgt := 64) C (by decide) dX7_isVoid_51 (fun c_51 => ?_) (fun c_51 => ?_)
  · refine g_iconst (v := 1) C (by decide) dX7_isVoid_64 ?_
    refine g_goto (tgt := 69) C (by decide) dX7_isVoid_65 ?_
    refine g_zret C F (rfl) dX7_isVoid_69 ?_
    exact ⟨by rw [cw_b1 (fun q : cw_swap s (s (206 + 3 * k + 0)) (s (206 + 3 * k + 1)) (s (206 + 3 * k + 2)) => c_51 (by have z := q.1.2; rwa [ex1] at z))], rfl⟩
  · refine g_iload_n C rfl dX7_isVoid_54 ?_
    refine g_iconst (v := (-1)) C (by decide) dX7_isVoid_55 ?_
    refine g_cmp_eq (tgt := 64) C (by decide) dX7_isVoid_56 (fun c_56 => ?_) (fun c_56 => ?_)
    · refine g_iconst (v := 1) C (by decide) dX7_isVoid_64 ?_
      refine g_goto (tgt := 69) C (by decide) dX7_isVoid_65 ?_
      refine g_zret C F (rfl) dX7_isVoid_69 ?_
      exact ⟨by rw [cw_b1 (fun q : cw_swap s (s (206 + 3 * k + 0)) (s (206 + 3 * k + 1)) (s (206 + 3 * k + 2)) => q.2.2.1 (by rw [ex2]; exact c_56))], rfl⟩
    · refine g_iload_n C rfl dX7_isVoid_59 ?_
      refine g_iload_n C rfl dX7_isVoid_60 ?_
      refine g_cmp_ne (tgt := 68) C (by decide) dX7_isVoid_61 (fun c_61 => ?_) (fun c_61 => ?_)
      · refine g_iconst (v := 0) C (by decide) dX7_isVoid_68 ?_
        refine g_zret C F (rfl) dX7_isVoid_69 ?_
        have hs : cw_swap s (s (206 + 3 * k + 0)) (s (206 + 3 * k + 1)) (s (206 + 3 * k + 2)) := ⟨⟨⟨by rw [he0]; exact cw_isO_nI hI.m hj0, by rw [he1]; exact cw_isW_nI hk1⟩, by rw [ex1]; exact c_51⟩, by rw [he2]; exact cw_isW_nI hk2, by rw [ex2]; exact c_56, by rw [ex2]; exact c_61⟩
        exact ⟨by rw [cw_bf (fun q => q hs)], rfl⟩
      · refine g_iconst (v := 1) C (by decide) dX7_isVoid_64 ?_
        refine g_goto (tgt := 69) C (by decide) dX7_isVoid_65 ?_
        refine g_zret C F (rfl) dX7_isVoid_69 ?_
        exact ⟨by rw [cw_b1 (fun q : cw_swap s (s (206 + 3 * k + 0)) (s (206 + 3 * k + 1)) (s (206 + 3 * k + 2)) => q.2.2.2 (by rw [ex2]; exact c_61))], rfl⟩

set_option maxHeartbeats 8000000 in
set_option maxRecDepth 100000 in
theorem ok_X7_accepts {s : cw_s} (a : Int32) (k : Nat) (ea : a = nI k) (hk : k < cw_x (s 205)) {n m : Nat} (hI : cw_I n m s) : gw_Ok yX7_accepts cX7_accepts 6 (some .int) sM 3 [.ref 0, .int a] (fun w => w 1 = s) (fun w vr w1 => vr = some (.int (cw_oAccept s (nI k)).1) ∧ ∃ s2, w1 = cw_S w s2 ∧ cw_nf s2 = cw_nf (cw_oAccept s (nI k)).2) := by
  refine gw_of (by decide) (Nat.le_of_ble_eq_true rfl) ?_
  intro X w h C F
  have h := hr_in h
  subst ea
  have hxq := cw_x_lt hI
  obtain ⟨⟨j0, hj0, he0⟩, ⟨k1, hk1, he1⟩, ⟨k2, hk2, he2⟩⟩ := hI.offs hk
  have h6 := hI.m.2
  have ex1 : cw_x (s (206 + 3 * k + 1)) = k1 := by rw [he1, cw_xn (by omega)]
  have ex2 : cw_x (s (206 + 3 * k + 2)) = k2 := by rw [he2, cw_xn (by omega)]
  have ek : cw_x (nI k) = k := cw_xn (by omega)
  refine g_aload_n C rfl dX7_accepts_0 ?_
  refine g_iload_n C rfl dX7_accepts_1 ?_
  refine g_call C (ok_X7_isVoid _ k rfl hk hI) my_X7_isVoid vi_X7_94 (by decide) ⟨Nat.le_refl _, Nat.le_refl _⟩ rfl rfl rfl (Nat.le_of_ble_eq_true rfl) dX7_accepts_2 rfl (hr_1 h) (fun v_2 w_2 hp_2 => ?_)
  obtain ⟨rfl, hw_2⟩ := hp_2
  have hw_2 := hw_2.symm; subst hw_2
  refine g_istore_n C (by decide) dX7_accepts_5 ?_
  refine g_aload_n C rfl dX7_accepts_6 ?_
  refine g_getr C fl_X7_7 rfl rfl dX7_accepts_7 ?_
  refine g_iload_n C rfl dX7_accepts_10 ?_
  refine g_iconst (v := 1) C (by decide) dX7_accepts_11 ?_
  refine g_callS C (ok_X7_ofOffer (i := 1) _ _ _ (by first | rfl | assumption) rfl) my_X7_ofOffer si_X7_91 (by decide) ⟨Nat.le_refl _, Nat.le_refl _⟩ rfl (Nat.le_of_ble_eq_true rfl) dX7_accepts_12 rfl (trivial) (fun v_12 w_12 hp_12 => ?_)
  obtain ⟨rfl, hw_12⟩ := hp_12
  have hw_12 := hw_12.symm; subst hw_12
  refine g_iald C rfl (by first | rfl | assumption | (simp only [nI_add, pk_mul, *]; done)) (by first | assumption | omega) (by decide) dX7_accepts_15 ?_
  refine g_top (hr_rd h) ?_
  refine g_iconst (v := 2) C (by decide) dX7_accepts_16 ?_
  refine g_callS C (ok_X7_ofWeek (i := 2) _ _ _ (by first | rfl | assumption) rfl) my_X7_ofWeek si_X7_36 (by decide) ⟨Nat.le_refl _, Nat.le_refl _⟩ rfl (Nat.le_of_ble_eq_true rfl) dX7_accepts_17 rfl (trivial) (fun v_17 w_17 hp_17 => ?_)
  obtain ⟨rfl, hw_17⟩ := hp_17
  have hw_17 := hw_17.symm; subst hw_17
  refine g_istore_n C (by decide) dX7_accepts_20 ?_
  refine g_aload_n C rfl dX7_accepts_21 ?_
  refine g_getr C fl_X7_7 rfl rfl dX7_accepts_22 ?_
  refine g_iload_n C rfl dX7_accepts_25 ?_
  refine g_iconst (v := 2) C (by decide) dX7_accepts_26 ?_
  refine g_callS C (ok_X7_ofOffer (i := 2) _ _ _ (by first | rfl | assumption) rfl) my_X7_ofOffer si_X7_91 (by decide) ⟨Nat.le_refl _, Nat.le_refl _⟩ rfl (Nat.le_of_ble_eq_true rfl) dX7_accepts_27 rfl (trivial) (fun v_27 w_27 hp_27 => ?_)
  obtain ⟨rfl, hw_27⟩ := hp_27
  have hw_27 := hw_27.symm; subst hw_27
  refine g_iald C rfl (by first | rfl | assumption | (simp only [nI_add, pk_mul, *]; done)) (by first | assumption | omega) (by decide) dX7_accepts_30 ?_
  refine g_top (hr_rd h) ?_
  refine g_iconst (v := 2) C (by decide) dX7_accepts_31 ?_
  refine g_callS C (ok_X7_ofWeek (i := 2) _ _ _ (by first | rfl | assumption) rfl) my_X7_ofWeek si_X7_36 (by decide) ⟨Nat.le_refl _, Nat.le_refl _⟩ rfl (Nat.le_of_ble_eq_true rfl) dX7_accepts_32 rfl (trivial) (fun v_32 w_32 hp_32 => ?_)
  obtain ⟨rfl, hw_32⟩ := hp_32
  have hw_32 := hw_32.symm; subst hw_32
  refine g_istore C (by decide) dX7_accepts_35 ?_
  refine g_iload_n C rfl dX7_accepts_37 ?_
  refine g_if_ne (tgt := 59) C (by decide) dX7_accepts_38 (fun c_38 => ?_) (fun c_38 => ?_)
  · refine g_aload_n C rfl dX7_accepts_59 ?_
    refine g_getr C fl_X7_7 rfl rfl dX7_accepts_60 ?_
    refine g_sipush (v := 238) C (by decide) dX7_accepts_63 ?_
    refine g_dup2 C rfl rfl dX7_accepts_66 ?_
    refine g_iald (j := 238) C rfl (rfl) (by decide) (by decide) dX7_accepts_67 ?_
    refine g_top (hr_rd h) ?_
    refine g_iload_n C rfl dX7_accepts_68 ?_
    refine g_if_eq (tgt := 76) C (by decide) dX7_accepts_69 (fun c_69 => absurd c_69 (c_38)) (fun c_69 => ?_)
    refine g_iconst (v := 0) C (by decide) dX7_accepts_72 ?_
    refine g_goto (tgt := 77) C (by decide) dX7_accepts_73 ?_
    refine g_iadd C dX7_accepts_77 ?_
    refine g_iast (j := 238) C rfl (rfl) (by decide) (by decide) dX7_accepts_78 ?_
    refine g_genR (hr_set h) (fun w1 h1 => ?_)
    refine g_aload_n C rfl dX7_accepts_79 ?_
    refine g_getr C fl_X7_7 rfl rfl dX7_accepts_80 ?_
    refine g_sipush (v := 239) C (by decide) dX7_accepts_83 ?_
    refine g_dup2 C rfl rfl dX7_accepts_86 ?_
    refine g_iald (j := 239) C rfl (rfl) (by decide) (by decide) dX7_accepts_87 ?_
    refine g_top (hr_rd h1) ?_
    refine g_iload_n C rfl dX7_accepts_88 ?_
    refine g_if_eq (tgt := 96) C (by decide) dX7_accepts_89 (fun c_89 => absurd c_89 (c_38)) (fun c_89 => ?_)
    refine g_iconst (v := 1) C (by decide) dX7_accepts_92 ?_
    refine g_goto (tgt := 97) C (by decide) dX7_accepts_93 ?_
    refine g_iadd C dX7_accepts_97 ?_
    refine g_iast (j := 239) C rfl (rfl) (by decide) (by decide) dX7_accepts_98 ?_
    refine g_genR (hr_set h1) (fun w2 h2 => ?_)
    refine g_iload_n C rfl dX7_accepts_99 ?_
    refine g_iconst (v := 0) C (by decide) dX7_accepts_100 ?_
    obtain ⟨T, hT, h2⟩ := hr_gen h2
    refine g_callS C (ok_X7_ofOffer (i := 0) _ _ _ (by first | rfl | assumption) rfl) my_X7_ofOffer si_X7_91 (by decide) ⟨Nat.le_refl _, Nat.le_refl _⟩ rfl (Nat.le_of_ble_eq_true rfl) dX7_accepts_101 rfl (trivial) (fun v_101 w_101 hp_101 => ?_)
    obtain ⟨rfl, hw_101⟩ := hp_101
    have hw_101 := hw_101.symm; subst hw_101
    refine g_istore C (by decide) dX7_accepts_104 ?_
    refine g_sub rfl (g_for (α := Unit) 227 (fun i9 x3 => [(0, .ref 0), (1, .int (nI k)), (2, .int (cw_b (¬ cw_swap s (s (206 + 3 * k + 0)) (s (206 + 3 * k + 1)) (s (206 + 3 * k + 2))))), (5, .int (nI i9))]) (fun i9 x3 w3 => 206 + 3 * k ≤ i9 ∧ w3 = cw_S w (cw_sh T (206 + 3 * k) i9)) (206 + 3 * k) () _ (by omega) (⟨Nat.le_refl _, by rw [cw_sh_0]; exact h2⟩) (fun i9 x3 w3 hi3 hR3 ih3 => ?_) (fun x3 w3 hR3 => ?_))
    · obtain ⟨hk3, hw3⟩ := hR3
      refine g_iload C rfl dX7_accepts_106 ?_
      refine g_bipush (v := 7) C (by decide) dX7_accepts_108 ?_
      refine g_iconst (v := 0) C (by decide) dX7_accepts_110 ?_
      refine g_callS C (ok_X7_ofOffer (i := 0) _ _ _ (by first | rfl | assumption) rfl) my_X7_ofOffer si_X7_91 (by decide) ⟨Nat.le_refl _, Nat.le_refl _⟩ rfl (Nat.le_of_ble_eq_true rfl) dX7_accepts_111 rfl (trivial) (fun v_111 w_111 hp_111 => ?_)
      obtain ⟨rfl, hw_111⟩ := hp_111
      have hw_111 := hw_111.symm; subst hw_111
      refine g_cmp_ge (tgt := 139) C (by decide) dX7_accepts_114 (fun c_114 => absurd c_114 (nI_ge hi3 (by decide))) (fun c_114 => ?_)
      refine g_aload_n C rfl dX7_accepts_117 ?_
      refine g_getr C fl_X7_7 rfl rfl dX7_accepts_118 ?_
      refine g_iload C rfl dX7_accepts_121 ?_
      refine g_aload_n C rfl dX7_accepts_123 ?_
      refine g_getr C fl_X7_7 rfl rfl dX7_accepts_124 ?_
      refine g_iload C rfl dX7_accepts_127 ?_
      refine g_iconst (v := 3) C (by decide) dX7_accepts_129 ?_
      refine g_iadd C dX7_accepts_130 ?_
      refine g_iald (j := i9 + 3) C rfl (nI_add i9 3) (by omega) (by decide) dX7_accepts_131 ?_
      refine g_top (hr_rd hw3) ?_
      refine g_iast (j := i9) C rfl (rfl) (by omega) (by decide) dX7_accepts_132 ?_
      refine g_genR (hr_set hw3) (fun w4 h4 => ?_)
      refine g_iinc (v := nI (i9 + 1)) C rfl (nI_1 i9) (by decide) dX7_accepts_133 ?_
      refine g_goto (tgt := 106) C (by decide) dX7_accepts_136 ?_
      exact g_sub rfl (ih3 () _ ⟨by omega, by rw [h4, cw_sh_1 _ _ _ hk3]⟩)
    obtain ⟨hk3, hw3⟩ := hR3
    refine g_iload C rfl dX7_accepts_106 ?_
    refine g_bipush (v := 7) C (by decide) dX7_accepts_108 ?_
    refine g_iconst (v := 0) C (by decide) dX7_accepts_110 ?_
    refine g_callS C (ok_X7_ofOffer (i := 0) _ _ _ (by first | rfl | assumption) rfl) my_X7_ofOffer si_X7_91 (by decide) ⟨Nat.le_refl _, Nat.le_refl _⟩ rfl (Nat.le_of_ble_eq_true rfl) dX7_accepts_111 rfl (trivial) (fun v_111 w_111 hp_111 => ?_)
    obtain ⟨rfl, hw_111⟩ := hp_111
    have hw_111 := hw_111.symm; subst hw_111
    refine g_cmp_ge (tgt := 139) C (by decide) dX7_accepts_114 (fun c_114 => ?_) (fun c_114 => absurd (nI_le (Nat.le_refl _) (by decide)) c_114)
    refine g_aload_n C rfl dX7_accepts_139 ?_
    refine g_getr C fl_X7_7 rfl rfl dX7_accepts_140 ?_
    refine g_sipush (v := 205) C (by decide) dX7_accepts_143 ?_
    refine g_dup2 C rfl rfl dX7_accepts_146 ?_
    refine g_iald (j := 205) C rfl (rfl) (by decide) (by decide) dX7_accepts_147 ?_
    refine g_top (hr_rd hw3) ?_
    refine g_iconst (v := 1) C (by decide) dX7_accepts_148 ?_
    refine g_isub C dX7_accepts_149 ?_
    refine g_iast (j := 205) C rfl (rfl) (by decide) (by decide) dX7_accepts_150 ?_
    refine g_genR (hr_set hw3) (fun w5 h5 => ?_)
    refine g_iload_n C rfl dX7_accepts_151 ?_
    refine g_if_eq (tgt := 159) C (by decide) dX7_accepts_152 (fun c_152 => absurd c_152 (c_38)) (fun c_152 => ?_)
    refine g_iconst (v := 0) C (by decide) dX7_accepts_155 ?_
    refine g_goto (tgt := 160) C (by decide) dX7_accepts_156 ?_
    refine g_iret C F dX7_accepts_160 ?_
    have a5 : cw_sh T (206 + 3 * k) 227 205 - 1 = nI (cw_x (s 205) - 1) := by
      have z : cw_sh T (206 + 3 * k) 227 205 = s 205 := by unfold cw_sh; rw [if_neg (by omega), hT]; rw [cw_upn _ _ (by omega), cw_upn _ _ (by omega)]
      rw [z, hxq.2, cw_xn (by omega)]; exact cw_sub_1 (by omega)
    have hns : ¬ cw_swap s (s (206 + 3 * k + 0)) (s (206 + 3 * k + 1)) (s (206 + 3 * k + 2)) := cw_bn c_38
    have hq : cw_oAccept s (nI k) = (0, cw_nf (upd (cw_drop s k (cw_x (s 205))) 239 (s 239 + 1))) := by
      unfold cw_oAccept; simp only []; rw [ek, cw_it (cw_isK_nI hI hk), cw_ie hns]
    refine ⟨by rw [hq], _, h5, ?_⟩
    have hacc := cw_acc s k (cw_x (s 205)) hk hxq.1 (A := 240) (B := 241) (C := 239) (s 240) (s 241) (s 239 + 1) (by omega) (by omega) (by omega)
    have hd0 : ∀ p, (p < 205 ∨ 230 ≤ p) → cw_drop s k (cw_x (s 205)) p = s p := fun p hp => cw_drop_rd s k _ hp hxq.1
    rw [cw_updo s 240 _ rfl, cw_updo s 241 _ rfl, cw_updo (cw_drop s k (cw_x (s 205))) 240 _ (hd0 _ (by omega)), cw_updo (cw_drop s k (cw_x (s 205))) 241 _ (hd0 _ (by omega))] at hacc
    rw [hq, cw_nf_nf, ← hacc, a5, hT, Int32.add_zero, cw_updo s 238 _ rfl]
  · refine g_aload_n C rfl dX7_accepts_41 ?_
    refine g_getr C fl_X7_7 rfl rfl dX7_accepts_42 ?_
    refine g_iload_n C rfl dX7_accepts_45 ?_
    refine g_aload_n C rfl dX7_accepts_46 ?_
    refine g_iload C rfl dX7_accepts_47 ?_
    refine g_aload_n C rfl dX7_accepts_49 ?_
    refine g_getr C fl_X7_7 rfl rfl dX7_accepts_50 ?_
    refine g_iload_n C rfl dX7_accepts_53 ?_
    refine g_iald C rfl (by first | rfl | assumption | (simp only [nI_add, pk_mul, *]; done)) (by first | assumption | omega) (by decide) dX7_accepts_54 ?_
    refine g_top (hr_rd h) ?_
    refine g_call C (ok_X7_becomes _ _ (25 + 3 * k2 + 2) rfl (by omega)) my_X7_becomes vi_X7_97 (by decide) ⟨Nat.le_refl _, Nat.le_refl _⟩ rfl rfl rfl (Nat.le_of_ble_eq_true rfl) dX7_accepts_55 rfl (hr_1 h) (fun v_55 w_55 hp_55 => ?_)
    obtain ⟨rfl, h_55⟩ := hp_55
    have h_55 := hr_call h h_55
    refine g_iast C rfl (by first | rfl | assumption | (simp only [nI_add, pk_mul, *]; done)) (by first | assumption | omega) (by decide) dX7_accepts_58 ?_
    refine g_genR (hr_set h_55) (fun w6 h6 => ?_)
    refine g_aload_n C rfl dX7_accepts_59 ?_
    refine g_getr C fl_X7_7 rfl rfl dX7_accepts_60 ?_
    refine g_sipush (v := 238) C (by decide) dX7_accepts_63 ?_
    refine g_dup2 C rfl rfl dX7_accepts_66 ?_
    refine g_iald (j := 238) C rfl (rfl) (by decide) (by decide) dX7_accepts_67 ?_
    refine g_top (hr_rd h6) ?_
    refine g_iload_n C rfl dX7_accepts_68 ?_
    refine g_if_eq (tgt := 76) C (by decide) dX7_accepts_69 (fun c_69 => ?_) (fun c_69 => absurd (c_38) c_69)
    refine g_iconst (v := 1) C (by decide) dX7_accepts_76 ?_
    refine g_iadd C dX7_accepts_77 ?_
    refine g_iast (j := 238) C rfl (rfl) (by decide) (by decide) dX7_accepts_78 ?_
    refine g_genR (hr_set h6) (fun w7 h7 => ?_)
    refine g_aload_n C rfl dX7_accepts_79 ?_
    refine g_getr C fl_X7_7 rfl rfl dX7_accepts_80 ?_
    refine g_sipush (v := 239) C (by decide) dX7_accepts_83 ?_
    refine g_dup2 C rfl rfl dX7_accepts_86 ?_
    refine g_iald (j := 239) C rfl (rfl) (by decide) (by decide) dX7_accepts_87 ?_
    refine g_top (hr_rd h7) ?_
    refine g_iload_n C rfl dX7_accepts_88 ?_
    refine g_if_eq (tgt := 96) C (by decide) dX7_accepts_89 (fun c_89 => ?_) (fun c_89 => absurd (c_38) c_89)
    refine g_iconst (v := 0) C (by decide) dX7_accepts_96 ?_
    refine g_iadd C dX7_accepts_97 ?_
    refine g_iast (j := 239) C rfl (rfl) (by decide) (by decide) dX7_accepts_98 ?_
    refine g_genR (hr_set h7) (fun w8 h8 => ?_)
    refine g_iload_n C rfl dX7_accepts_99 ?_
    refine g_iconst (v := 0) C (by decide) dX7_accepts_100 ?_
    obtain ⟨T, hT, h8⟩ := hr_gen h8
    refine g_callS C (ok_X7_ofOffer (i := 0) _ _ _ (by first | rfl | assumption) rfl) my_X7_ofOffer si_X7_91 (by decide) ⟨Nat.le_refl _, Nat.le_refl _⟩ rfl (Nat.le_of_ble_eq_true rfl) dX7_accepts_101 rfl (trivial) (fun v_101 w_101 hp_101 => ?_)
    obtain ⟨rfl, hw_101⟩ := hp_101
    have hw_101 := hw_101.symm; subst hw_101
    refine g_istore C (by decide) dX7_accepts_104 ?_
    refine g_sub rfl (g_for (α := Unit) 227 (fun i9 x9 => [(0, .ref 0), (1, .int (nI k)), (2, .int (cw_b (¬ cw_swap s (s (206 + 3 * k + 0)) (s (206 + 3 * k + 1)) (s (206 + 3 * k + 2))))), (5, .int (nI i9))]) (fun i9 x9 w9 => 206 + 3 * k ≤ i9 ∧ w9 = cw_S w (cw_sh T (206 + 3 * k) i9)) (206 + 3 * k) () _ (by omega) (⟨Nat.le_refl _, by rw [cw_sh_0]; exact h8⟩) (fun i9 x9 w9 hi9 hR9 ih9 => ?_) (fun x9 w9 hR9 => ?_))
    · obtain ⟨hk9, hw9⟩ := hR9
      refine g_iload C rfl dX7_accepts_106 ?_
      refine g_bipush (v := 7) C (by decide) dX7_accepts_108 ?_
      refine g_iconst (v := 0) C (by decide) dX7_accepts_110 ?_
      refine g_callS C (ok_X7_ofOffer (i := 0) _ _ _ (by first | rfl | assumption) rfl) my_X7_ofOffer si_X7_91 (by decide) ⟨Nat.le_refl _, Nat.le_refl _⟩ rfl (Nat.le_of_ble_eq_true rfl) dX7_accepts_111 rfl (trivial) (fun v_111 w_111 hp_111 => ?_)
      obtain ⟨rfl, hw_111⟩ := hp_111
      have hw_111 := hw_111.symm; subst hw_111
      refine g_cmp_ge (tgt := 139) C (by decide) dX7_accepts_114 (fun c_114 => absurd c_114 (nI_ge hi9 (by decide))) (fun c_114 => ?_)
      refine g_aload_n C rfl dX7_accepts_117 ?_
      refine g_getr C fl_X7_7 rfl rfl dX7_accepts_118 ?_
      refine g_iload C rfl dX7_accepts_121 ?_
      refine g_aload_n C rfl dX7_accepts_123 ?_
      refine g_getr C fl_X7_7 rfl rfl dX7_accepts_124 ?_
      refine g_iload C rfl dX7_accepts_127 ?_
      refine g_iconst (v := 3) C (by decide) dX7_accepts_129 ?_
      refine g_iadd C dX7_accepts_130 ?_
      refine g_iald (j := i9 + 3) C rfl (nI_add i9 3) (by omega) (by decide) dX7_accepts_131 ?_
      refine g_top (hr_rd hw9) ?_
      refine g_iast (j := i9) C rfl (rfl) (by omega) (by decide) dX7_accepts_132 ?_
      refine g_genR (hr_set hw9) (fun w10 h10 => ?_)
      refine g_iinc (v := nI (i9 + 1)) C rfl (nI_1 i9) (by decide) dX7_accepts_133 ?_
      refine g_goto (tgt := 106) C (by decide) dX7_accepts_136 ?_
      exact g_sub rfl (ih9 () _ ⟨by omega, by rw [h10, cw_sh_1 _ _ _ hk9]⟩)
    obtain ⟨hk9, hw9⟩ := hR9
    refine g_iload C rfl dX7_accepts_106 ?_
    refine g_bipush (v := 7) C (by decide) dX7_accepts_108 ?_
    refine g_iconst (v := 0) C (by decide) dX7_accepts_110 ?_
    refine g_callS C (ok_X7_ofOffer (i := 0) _ _ _ (by first | rfl | assumption) rfl) my_X7_ofOffer si_X7_91 (by decide) ⟨Nat.le_refl _, Nat.le_refl _⟩ rfl (Nat.le_of_ble_eq_true rfl) dX7_accepts_111 rfl (trivial) (fun v_111 w_111 hp_111 => ?_)
    obtain ⟨rfl, hw_111⟩ := hp_111
    have hw_111 := hw_111.symm; subst hw_111
    refine g_cmp_ge (tgt := 139) C (by decide) dX7_accepts_114 (fun c_114 => ?_) (fun c_114 => absurd (nI_le (Nat.le_refl _) (by decide)) c_114)
    refine g_aload_n C rfl dX7_accepts_139 ?_
    refine g_getr C fl_X7_7 rfl rfl dX7_accepts_140 ?_
    refine g_sipush (v := 205) C (by decide) dX7_accepts_143 ?_
    refine g_dup2 C rfl rfl dX7_accepts_146 ?_
    refine g_iald (j := 205) C rfl (rfl) (by decide) (by decide) dX7_accepts_147 ?_
    refine g_top (hr_rd hw9) ?_
    refine g_iconst (v := 1) C (by decide) dX7_accepts_148 ?_
    refine g_isub C dX7_accepts_149 ?_
    refine g_iast (j := 205) C rfl (rfl) (by decide) (by decide) dX7_accepts_150 ?_
    refine g_genR (hr_set hw9) (fun w11 h11 => ?_)
    refine g_iload_n C rfl dX7_accepts_151 ?_
    refine g_if_eq (tgt := 159) C (by decide) dX7_accepts_152 (fun c_152 => ?_) (fun c_152 => absurd (c_38) c_152)
    refine g_iconst (v := 1) C (by decide) dX7_accepts_159 ?_
    refine g_iret C F dX7_accepts_160 ?_
    have a5 : cw_sh T (206 + 3 * k) 227 205 - 1 = nI (cw_x (s 205) - 1) := by
      have z : cw_sh T (206 + 3 * k) 227 205 = s 205 := by unfold cw_sh; rw [if_neg (by omega), hT]; rw [cw_upn _ _ (by omega), cw_upn _ _ (by omega), cw_upn _ _ (by omega), cw_upn _ _ (by omega)]
      rw [z, hxq.2, cw_xn (by omega)]; exact cw_sub_1 (by omega)
    have hss : cw_swap s (s (206 + 3 * k + 0)) (s (206 + 3 * k + 1)) (s (206 + 3 * k + 2)) := Classical.not_not.mp (cw_b0.mp c_38)
    have hA : s (25 + 3 * k1 + 2) = s (206 + 3 * k + 0) := by have z := hss.1.2; rwa [ex1] at z
    have hne : k1 ≠ k2 := fun q => hss.2.2.2 (by rw [ex2, ← q]; exact hA)
    have hq : cw_oAccept s (nI k) = (1, cw_nf (upd (upd (upd (cw_drop s k (cw_x (s 205))) (25 + 3 * k1 + 2) (s (25 + 3 * k2 + 2))) (25 + 3 * k2 + 2) (s (206 + 3 * k + 0))) 238 (s 238 + 1))) := by
      unfold cw_oAccept; simp only []; rw [ek, cw_it (cw_isK_nI hI hk), cw_it hss, ex1, ex2]
    refine ⟨by rw [hq], _, h11, ?_⟩
    have hacc := cw_acc s k (cw_x (s 205)) hk hxq.1 (A := 25 + 3 * k1 + 2) (B := 25 + 3 * k2 + 2) (C := 238) (s (25 + 3 * k2 + 2)) (s (206 + 3 * k + 0)) (s 238 + 1) (by omega) (by omega) (by omega)
    rw [hq, cw_nf_nf, ← hacc, a5, hT, Int32.add_zero]
    rw [cw_updc s _ _ (show 25 + 3 * k2 + 2 ≠ 25 + 3 * k1 + 2 by omega), hA]
    rw [cw_upn _ _ (show 238 ≠ 25 + 3 * k2 + 2 by omega), cw_upn _ _ (show 238 ≠ 25 + 3 * k1 + 2 by omega), cw_updo _ 239 _ rfl]

set_option maxHeartbeats 8000000 in
set_option maxRecDepth 100000 in
theorem ok_X7_partOf {s : cw_s} (a c : Int32) (j : Nat) (ea : a = nI j) (hj : j < cw_no s) {n m : Nat} (hI : cw_I n m s) : gw_Ok yX7_partOf cX7_partOf 9 (some .int) sM 3 [.ref 0, .int a, .int c] (fun w => w 1 = s) (fun w vr w1 => vr = some (.int (cw_partOf s j c)) ∧ w1 = w) := by
  refine gw_of (by decide) (Nat.le_of_ble_eq_true rfl) ?_
  intro X w h C F
  have h := hr_in h
  subst ea
  have hm := hI.m
  have h6 := hm.2
  have ij : (nI j).toInt = (j : Int) := cw_ni (by omega)
  have hsr := (cw_shares_r hI).toInt (by decide)
  have hs1 : ¬ cw_shares s = 0 := fun q => by rw [q] at hsr; have z : (0 : Int32).toInt = 0 := rfl; omega
  refine g_aload_n C rfl dX7_partOf_0 ?_
  refine g_call C (ok_X7_shares (by assumption)) my_X7_shares vi_X7_100 (by decide) ⟨Nat.le_refl _, Nat.le_refl _⟩ rfl rfl rfl (Nat.le_of_ble_eq_true rfl) dX7_partOf_1 rfl (hr_1 h) (fun v_1 w_1 hp_1 => ?_)
  obtain ⟨rfl, hw_1⟩ := hp_1
  have hw_1 := hw_1.symm; subst hw_1
  refine g_istore_n C (by decide) dX7_partOf_4 ?_
  refine g_iload_n C rfl dX7_partOf_5 ?_
  refine g_istore C (by decide) dX7_partOf_6 ?_
  refine g_iconst (v := 0) C (by decide) dX7_partOf_8 ?_
  refine g_istore C (by decide) dX7_partOf_9 ?_
  refine g_iload_n C rfl dX7_partOf_11 ?_
  refine g_aload_n C rfl dX7_partOf_12 ?_
  refine g_getr C fl_X7_7 rfl rfl dX7_partOf_13 ?_
  refine g_iload_n C rfl dX7_partOf_16 ?_
  refine g_iconst (v := 0) C (by decide) dX7_partOf_17 ?_
  refine g_callS C (ok_X7_of (i := 0) _ _ _ (by first | rfl | assumption) rfl) my_X7_of si_X7_54 (by decide) ⟨Nat.le_refl _, Nat.le_refl _⟩ rfl (Nat.le_of_ble_eq_true rfl) dX7_partOf_18 rfl (trivial) (fun v_18 w_18 hp_18 => ?_)
  obtain ⟨rfl, hw_18⟩ := hp_18
  have hw_18 := hw_18.symm; subst hw_18
  refine g_iald C rfl (by first | rfl | assumption | (simp only [nI_add, pk_mul, *]; done)) (by first | assumption | omega) (by decide) dX7_partOf_21 ?_
  refine g_top (hr_rd h) ?_
  refine g_imul C dX7_partOf_22 ?_
  refine g_iload_n C rfl dX7_partOf_23 ?_
  refine g_irem C (hs1) dX7_partOf_24 ?_
  refine g_top (show _ = cw_md (c * s (1 + 4 * j + 0)) (cw_shares s) from rfl) ?_
  refine g_istore C (by decide) dX7_partOf_25 ?_
  refine g_iconst (v := 0) C (by decide) dX7_partOf_27 ?_
  refine g_istore C (by decide) dX7_partOf_28 ?_
  refine g_sub rfl (g_for (α := Int32 × Int32) (cw_no s) (fun i1 x => [(0, .ref 0), (1, .int (nI j)), (2, .int c), (3, .int (cw_shares s)), (4, .int (x).1), (5, .int (x).2), (6, .int (cw_md (c * s (1 + 4 * j + 0)) (cw_shares s))), (7, .int (nI i1))]) (fun i1 x w1 => x = cw_fold (cw_ahead s j c) 0 i1 (c, 0) ∧ w1 = w) 0 (c, 0) _ (Nat.zero_le _) (⟨rfl, rfl⟩) (fun i1 x w1 hi1 hR1 ih1 => ?_) (fun x w1 hR1 => ?_))
  · obtain ⟨hx1, rfl⟩ := hR1
    refine g_iload C rfl dX7_partOf_30 ?_
    refine g_aload_n C rfl dX7_partOf_32 ?_
    refine g_getr C fl_X7_7 rfl rfl dX7_partOf_33 ?_
    refine g_iconst (v := 0) C (by decide) dX7_partOf_36 ?_
    refine g_iald (j := 0) C rfl (rfl) (by decide) (by decide) dX7_partOf_37 ?_
    refine g_top (hr_rd h) ?_
    refine g_cmp_ge (tgt := 114) C (by decide) dX7_partOf_38 (fun c_38 => absurd c_38 (cw_liml hm hi1)) (fun c_38 => ?_)
    refine g_iload_n C rfl dX7_partOf_41 ?_
    refine g_aload_n C rfl dX7_partOf_42 ?_
    refine g_getr C fl_X7_7 rfl rfl dX7_partOf_43 ?_
    refine g_iload C rfl dX7_partOf_46 ?_
    refine g_iconst (v := 0) C (by decide) dX7_partOf_48 ?_
    refine g_callS C (ok_X7_of (i := 0) _ _ _ (by first | rfl | assumption) rfl) my_X7_of si_X7_54 (by decide) ⟨Nat.le_refl _, Nat.le_refl _⟩ rfl (Nat.le_of_ble_eq_true rfl) dX7_partOf_49 rfl (trivial) (fun v_49 w_49 hp_49 => ?_)
    obtain ⟨rfl, hw_49⟩ := hp_49
    have hw_49 := hw_49.symm; subst hw_49
    refine g_iald C rfl (by first | rfl | assumption | (simp only [nI_add, pk_mul, *]; done)) (by first | assumption | omega) (by decide) dX7_partOf_52 ?_
    refine g_top (hr_rd h) ?_
    refine g_imul C dX7_partOf_53 ?_
    refine g_iload_n C rfl dX7_partOf_54 ?_
    refine g_irem C (hs1) dX7_partOf_55 ?_
    refine g_top (show _ = cw_md (c * s (1 + 4 * i1 + 0)) (cw_shares s) from rfl) ?_
    refine g_istore C (by decide) dX7_partOf_56 ?_
    refine g_iload C rfl dX7_partOf_58 ?_
    refine g_iload_n C rfl dX7_partOf_60 ?_
    refine g_aload_n C rfl dX7_partOf_61 ?_
    refine g_getr C fl_X7_7 rfl rfl dX7_partOf_62 ?_
    refine g_iload C rfl dX7_partOf_65 ?_
    refine g_iconst (v := 0) C (by decide) dX7_partOf_67 ?_
    refine g_callS C (ok_X7_of (i := 0) _ _ _ (by first | rfl | assumption) rfl) my_X7_of si_X7_54 (by decide) ⟨Nat.le_refl _, Nat.le_refl _⟩ rfl (Nat.le_of_ble_eq_true rfl) dX7_partOf_68 rfl (trivial) (fun v_68 w_68 hp_68 => ?_)
    obtain ⟨rfl, hw_68⟩ := hp_68
    have hw_68 := hw_68.symm; subst hw_68
    refine g_iald C rfl (by first | rfl | assumption | (simp only [nI_add, pk_mul, *]; done)) (by first | assumption | omega) (by decide) dX7_partOf_71 ?_
    refine g_top (hr_rd h) ?_
    refine g_imul C dX7_partOf_72 ?_
    refine g_iload_n C rfl dX7_partOf_73 ?_
    refine g_idiv C (hs1) dX7_partOf_74 ?_
    refine g_isub C dX7_partOf_75 ?_
    refine g_istore C (by decide) dX7_partOf_76 ?_
    refine g_iload C rfl dX7_partOf_78 ?_
    refine g_iload C rfl dX7_partOf_80 ?_
    refine g_iload C rfl dX7_partOf_82 ?_
    refine g_cmp_gt (tgt := 100) C (by decide) dX7_partOf_84 (fun c_84 => ?_) (fun c_84 => ?_)
    · refine g_iconst (v := 1) C (by decide) dX7_partOf_100 ?_
      refine g_goto (tgt := 105) C (by decide) dX7_partOf_101 ?_
      refine g_iadd C dX7_partOf_105 ?_
      refine g_istore C (by decide) dX7_partOf_106 ?_
      refine g_iinc (v := nI (i1 + 1)) C rfl (nI_1 i1) (by decide) dX7_partOf_108 ?_
      refine g_goto (tgt := 30) C (by decide) dX7_partOf_111 ?_
      exact g_sub rfl (ih1 (_, _) _ ⟨by rw [cw_fold0, ← hx1]; unfold cw_ahead; rw [if_pos (Or.inl c_84)], rfl⟩)
    · refine g_iload C rfl dX7_partOf_87 ?_
      refine g_iload C rfl dX7_partOf_89 ?_
      refine g_cmp_ne (tgt := 104) C (by decide) dX7_partOf_91 (fun c_91 => ?_) (fun c_91 => ?_)
      · refine g_iconst (v := 0) C (by decide) dX7_partOf_104 ?_
        refine g_iadd C dX7_partOf_105 ?_
        refine g_istore C (by decide) dX7_partOf_106 ?_
        refine g_iinc (v := nI (i1 + 1)) C rfl (nI_1 i1) (by decide) dX7_partOf_108 ?_
        refine g_goto (tgt := 30) C (by decide) dX7_partOf_111 ?_
        exact g_sub rfl (ih1 (_, _) _ ⟨by rw [cw_fold0, ← hx1]; unfold cw_ahead; rw [if_neg (fun q => q.elim c_84 (fun z => c_91 z.1)), Int32.add_zero], rfl⟩)
      · refine g_iload C rfl dX7_partOf_94 ?_
        refine g_iload_n C rfl dX7_partOf_96 ?_
        refine g_cmp_ge (tgt := 104) C (by decide) dX7_partOf_97 (fun c_97 => ?_) (fun c_97 => ?_)
        · refine g_iconst (v := 0) C (by decide) dX7_partOf_104 ?_
          refine g_iadd C dX7_partOf_105 ?_
          refine g_istore C (by decide) dX7_partOf_106 ?_
          refine g_iinc (v := nI (i1 + 1)) C rfl (nI_1 i1) (by decide) dX7_partOf_108 ?_
          refine g_goto (tgt := 30) C (by decide) dX7_partOf_111 ?_
          exact g_sub rfl (ih1 (_, _) _ ⟨by rw [cw_fold0, ← hx1]; unfold cw_ahead; rw [if_neg (fun q => q.elim c_84 (fun z => by have z := z.2; rw [cw_le, cw_ni (show i1 < 1000 by omega), ij] at c_97; omega)), Int32.add_zero], rfl⟩)
        · refine g_iconst (v := 1) C (by decide) dX7_partOf_100 ?_
          refine g_goto (tgt := 105) C (by decide) dX7_partOf_101 ?_
          refine g_iadd C dX7_partOf_105 ?_
          refine g_istore C (by decide) dX7_partOf_106 ?_
          refine g_iinc (v := nI (i1 + 1)) C rfl (nI_1 i1) (by decide) dX7_partOf_108 ?_
          refine g_goto (tgt := 30) C (by decide) dX7_partOf_111 ?_
          exact g_sub rfl (ih1 (_, _) _ ⟨by rw [cw_fold0, ← hx1]; unfold cw_ahead; rw [if_pos (Or.inr ⟨c_91, by have z := c_97; rw [cw_le, cw_ni (show i1 < 1000 by omega), ij] at z; omega⟩)], rfl⟩)
  obtain ⟨hx1, rfl⟩ := hR1
  refine g_iload C rfl dX7_partOf_30 ?_
  refine g_aload_n C rfl dX7_partOf_32 ?_
  refine g_getr C fl_X7_7 rfl rfl dX7_partOf_33 ?_
  refine g_iconst (v := 0) C (by decide) dX7_partOf_36 ?_
  refine g_iald (j := 0) C rfl (rfl) (by decide) (by decide) dX7_partOf_37 ?_
  refine g_top (hr_rd h) ?_
  refine g_cmp_ge (tgt := 114) C (by decide) dX7_partOf_38 (fun c_38 => ?_) (fun c_38 => absurd (cw_lim hm) c_38)
  refine g_iload_n C rfl dX7_partOf_114 ?_
  refine g_aload_n C rfl dX7_partOf_115 ?_
  refine g_getr C fl_X7_7 rfl rfl dX7_partOf_116 ?_
  refine g_iload_n C rfl dX7_partOf_119 ?_
  refine g_iconst (v := 0) C (by decide) dX7_partOf_120 ?_
  refine g_callS C (ok_X7_of (i := 0) _ _ _ (by first | rfl | assumption) rfl) my_X7_of si_X7_54 (by decide) ⟨Nat.le_refl _, Nat.le_refl _⟩ rfl (Nat.le_of_ble_eq_true rfl) dX7_partOf_121 rfl (trivial) (fun v_121 w_121 hp_121 => ?_)
  obtain ⟨rfl, hw_121⟩ := hp_121
  have hw_121 := hw_121.symm; subst hw_121
  refine g_iald C rfl (by first | rfl | assumption | (simp only [nI_add, pk_mul, *]; done)) (by first | assumption | omega) (by decide) dX7_partOf_124 ?_
  refine g_top (hr_rd h) ?_
  refine g_imul C dX7_partOf_125 ?_
  refine g_iload_n C rfl dX7_partOf_126 ?_
  refine g_idiv C (hs1) dX7_partOf_127 ?_
  refine g_iload C rfl dX7_partOf_128 ?_
  refine g_iload C rfl dX7_partOf_130 ?_
  refine g_cmp_ge (tgt := 139) C (by decide) dX7_partOf_132 (fun c_132 => ?_) (fun c_132 => ?_)
  · refine g_iconst (v := 0) C (by decide) dX7_partOf_139 ?_
    refine g_iadd C dX7_partOf_140 ?_
    refine g_iret C F dX7_partOf_141 ?_
    exact ⟨by rw [cw_partOf, ← hx1]; show _ = some (Value.int (_ + (if x.2 < x.1 then 1 else 0))); rw [if_neg (Int32.not_lt.mpr c_132)], rfl⟩
  · refine g_iconst (v := 1) C (by decide) dX7_partOf_135 ?_
    refine g_goto (tgt := 140) C (by decide) dX7_partOf_136 ?_
    refine g_iadd C dX7_partOf_140 ?_
    refine g_iret C F dX7_partOf_141 ?_
    exact ⟨by rw [cw_partOf, ← hx1]; show _ = some (Value.int (_ + (if x.2 < x.1 then 1 else 0))); rw [if_pos (Int32.not_le.mp c_132)], rfl⟩

set_option maxHeartbeats 8000000 in
set_option maxRecDepth 100000 in
theorem ok_X7_parts {s : cw_s} (c : Int32) {n m : Nat} (hI : cw_I n m s) (hc1 : 0 ≤ c.toInt) (hc2 : c.toInt ≤ 999) : gw_Ok yX7_parts cX7_parts 5 (some .int) sM 4 [.ref 0, .int c] (fun w => w 1 = s) (fun w vr w1 => vr = some (.int ((cw_fold (cw_pays s c) 0 (cw_no s) (0, s)).1)) ∧ w1 = cw_S w (upd (cw_fold (cw_pays s c) 0 (cw_no s) (0, s)).2 241 ((cw_fold (cw_pays s c) 0 (cw_no s) (0, s)).2 241 + c))) := by
  refine gw_of (by decide) (Nat.le_of_ble_eq_true rfl) ?_
  intro X w h C F
  have h := hr_in h
  have hm := hI.m
  have h6 := hm.2
  refine g_iconst (v := 0) C (by decide) dX7_parts_0 ?_
  refine g_istore_n C (by decide) dX7_parts_1 ?_
  refine g_iconst (v := 0) C (by decide) dX7_parts_2 ?_
  refine g_istore_n C (by decide) dX7_parts_3 ?_
  refine g_sub rfl (g_for (α := Int32 × cw_s) (cw_no s) (fun i1 x => [(0, .ref 0), (1, .int c), (2, .int (x).1), (3, .int (nI i1))]) (fun i1 x w1 => x = cw_fold (cw_pays s c) 0 i1 (0, s) ∧ w1 = cw_S w (x).2) 0 (0, s) _ (Nat.zero_le _) (⟨rfl, h⟩) (fun i1 x w1 hi1 hR1 ih1 => ?_) (fun x w1 hR1 => ?_))
  · obtain ⟨hx1, hw1⟩ := hR1
    have hf1 := cw_pays_ok hI hc1 hc2 i1 (Nat.le_of_lt hi1)
    rw [← hx1] at hf1
    have hm1 : cw_m x.2 := hf1.1.m
    have hn1 : cw_no x.2 = cw_no s := cw_no_eq hf1.2.1
    refine g_iload_n C rfl dX7_parts_4 ?_
    refine g_aload_n C rfl dX7_parts_5 ?_
    refine g_getr C fl_X7_7 rfl rfl dX7_parts_6 ?_
    refine g_iconst (v := 0) C (by decide) dX7_parts_9 ?_
    refine g_iald (j := 0) C rfl (rfl) (by decide) (by decide) dX7_parts_10 ?_
    refine g_top (hr_rd hw1) ?_
    refine g_top hf1.2.1 ?_
    refine g_cmp_ge (tgt := 56) C (by decide) dX7_parts_11 (fun c_11 => absurd c_11 (cw_liml hm hi1)) (fun c_11 => ?_)
    refine g_aload_n C rfl dX7_parts_14 ?_
    refine g_iload_n C rfl dX7_parts_15 ?_
    refine g_iload_n C rfl dX7_parts_16 ?_
    refine g_call C (ok_X7_partOf _ _ i1 rfl (by omega) hf1.1) my_X7_partOf vi_X7_104 (by decide) ⟨Nat.le_refl _, Nat.le_refl _⟩ rfl rfl rfl (Nat.le_of_ble_eq_true rfl) dX7_parts_17 rfl (hr_1 hw1) (fun v_17 w_17 hp_17 => ?_)
    obtain ⟨rfl, hw_17⟩ := hp_17
    have hw_17 := hw_17.symm; subst hw_17
    refine g_top (cw_partOf_cg hf1.2.1 h6 hf1.2.2.1 (by omega) c) ?_
    refine g_istore C (by decide) dX7_parts_20 ?_
    refine g_aload_n C rfl dX7_parts_22 ?_
    refine g_getr C fl_X7_7 rfl rfl dX7_parts_23 ?_
    refine g_iload_n C rfl dX7_parts_26 ?_
    refine g_iconst (v := 3) C (by decide) dX7_parts_27 ?_
    refine g_callS C (ok_X7_of (i := 3) _ _ _ (by first | rfl | assumption) rfl) my_X7_of si_X7_54 (by decide) ⟨Nat.le_refl _, Nat.le_refl _⟩ rfl (Nat.le_of_ble_eq_true rfl) dX7_parts_28 rfl (trivial) (fun v_28 w_28 hp_28 => ?_)
    obtain ⟨rfl, hw_28⟩ := hp_28
    have hw_28 := hw_28.symm; subst hw_28
    refine g_dup2 C rfl rfl dX7_parts_31 ?_
    refine g_iald C rfl (by first | rfl | assumption | (simp only [nI_add, pk_mul, *]; done)) (by first | assumption | omega) (by decide) dX7_parts_32 ?_
    refine g_top (hr_rd hw1) ?_
    refine g_iload C rfl dX7_parts_33 ?_
    refine g_iadd C dX7_parts_35 ?_
    refine g_iast C rfl (by first | rfl | assumption | (simp only [nI_add, pk_mul, *]; done)) (by first | assumption | omega) (by decide) dX7_parts_36 ?_
    refine g_genR (hr_set hw1) (fun w2 h2 => ?_)
    refine g_iload C rfl dX7_parts_37 ?_
    refine g_iload_n C rfl dX7_parts_39 ?_
    refine g_cmp_le (tgt := 48) C (by decide) dX7_parts_40 (fun c_40 => ?_) (fun c_40 => ?_)
    · refine g_iload_n C rfl dX7_parts_48 ?_
      refine g_istore_n C (by decide) dX7_parts_49 ?_
      refine g_iinc (v := nI (i1 + 1)) C rfl (nI_1 i1) (by decide) dX7_parts_50 ?_
      refine g_goto (tgt := 4) C (by decide) dX7_parts_53 ?_
      exact g_sub rfl (ih1 (_, _) _ ⟨by rw [cw_fold0, ← hx1]; unfold cw_pays; rw [if_neg (Int32.not_lt.mpr c_40)]; all_goals rfl, h2⟩)
    · refine g_iload C rfl dX7_parts_43 ?_
      refine g_goto (tgt := 49) C (by decide) dX7_parts_45 ?_
      refine g_istore_n C (by decide) dX7_parts_49 ?_
      refine g_iinc (v := nI (i1 + 1)) C rfl (nI_1 i1) (by decide) dX7_parts_50 ?_
      refine g_goto (tgt := 4) C (by decide) dX7_parts_53 ?_
      exact g_sub rfl (ih1 (_, _) _ ⟨by rw [cw_fold0, ← hx1]; unfold cw_pays; rw [if_pos (Int32.not_le.mp c_40)]; all_goals rfl, h2⟩)
  obtain ⟨hx1, hw1⟩ := hR1
  have hf1 := cw_pays_ok hI hc1 hc2 (cw_no s) (Nat.le_refl _)
  rw [← hx1] at hf1
  have hm1 : cw_m x.2 := hf1.1.m
  have hn1 : cw_no x.2 = cw_no s := cw_no_eq hf1.2.1
  refine g_iload_n C rfl dX7_parts_4 ?_
  refine g_aload_n C rfl dX7_parts_5 ?_
  refine g_getr C fl_X7_7 rfl rfl dX7_parts_6 ?_
  refine g_iconst (v := 0) C (by decide) dX7_parts_9 ?_
  refine g_iald (j := 0) C rfl (rfl) (by decide) (by decide) dX7_parts_10 ?_
  refine g_top (hr_rd hw1) ?_
  refine g_top hf1.2.1 ?_
  refine g_cmp_ge (tgt := 56) C (by decide) dX7_parts_11 (fun c_11 => ?_) (fun c_11 => absurd (cw_lim hm) c_11)
  refine g_aload_n C rfl dX7_parts_56 ?_
  refine g_getr C fl_X7_7 rfl rfl dX7_parts_57 ?_
  refine g_sipush (v := 241) C (by decide) dX7_parts_60 ?_
  refine g_dup2 C rfl rfl dX7_parts_63 ?_
  refine g_iald (j := 241) C rfl (rfl) (by decide) (by decide) dX7_parts_64 ?_
  refine g_top (hr_rd hw1) ?_
  refine g_iload_n C rfl dX7_parts_65 ?_
  refine g_iadd C dX7_parts_66 ?_
  refine g_iast (j := 241) C rfl (rfl) (by decide) (by decide) dX7_parts_67 ?_
  refine g_genR (hr_set hw1) (fun w3 h3 => ?_)
  refine g_iload_n C rfl dX7_parts_68 ?_
  refine g_iret C F dX7_parts_69 ?_
  exact ⟨by rw [← hx1], by rw [← hx1]; exact h3⟩

set_option maxHeartbeats 8000000 in
set_option maxRecDepth 100000 in
theorem ok_X7_goesOn {s : cw_s} {n m : Nat} (hI : cw_I n m s) : gw_Ok yX7_goesOn cX7_goesOn 4 (some .int) sM 3 [.ref 0] (fun w => w 1 = s) (fun w vr w1 => vr = some (.int ((cw_oYear s).1)) ∧ w1 = cw_S w ((cw_oYear s).2)) := by
  refine gw_of (by decide) (Nat.le_of_ble_eq_true rfl) ?_
  intro X w h C F
  have h := hr_in h
  have hm := hI.m
  have h6 := hm.2
  refine g_iconst (v := 0) C (by decide) dX7_goesOn_0 ?_
  refine g_istore_n C (by decide) dX7_goesOn_1 ?_
  refine g_iconst (v := 0) C (by decide) dX7_goesOn_2 ?_
  refine g_istore_n C (by decide) dX7_goesOn_3 ?_
  refine g_sub rfl (g_for (α := Int32 × cw_s) (cw_no s) (fun i1 x => [(0, .ref 0), (1, .int (x).1), (2, .int (nI i1))]) (fun i1 x w1 => x = cw_fold cw_lapse 0 i1 (0, s) ∧ w1 = cw_S w (x).2) 0 (0, s) _ (Nat.zero_le _) (⟨rfl, h⟩) (fun i1 x w1 hi1 hR1 ih1 => ?_) (fun x w1 hR1 => ?_))
  · obtain ⟨hx1, hw1⟩ := hR1
    refine g_iload_n C rfl dX7_goesOn_4 ?_
    refine g_aload_n C rfl dX7_goesOn_5 ?_
    refine g_getr C fl_X7_7 rfl rfl dX7_goesOn_6 ?_
    refine g_iconst (v := 0) C (by decide) dX7_goesOn_9 ?_
    refine g_iald (j := 0) C rfl (rfl) (by decide) (by decide) dX7_goesOn_10 ?_
    refine g_top (hr_rd hw1) ?_
    refine g_top (show x.2 0 = s 0 by rw [hx1]; exact cw_lapse_keep s 0 (by omega) _ (fun j _ => by omega)) ?_
    refine g_cmp_ge (tgt := 79) C (by decide) dX7_goesOn_11 (fun c_11 => absurd c_11 (cw_liml hm hi1)) (fun c_11 => ?_)
    refine g_aload_n C rfl dX7_goesOn_14 ?_
    refine g_getr C fl_X7_7 rfl rfl dX7_goesOn_15 ?_
    refine g_iload_n C rfl dX7_goesOn_18 ?_
    refine g_iconst (v := 1) C (by decide) dX7_goesOn_19 ?_
    refine g_callS C (ok_X7_of (i := 1) _ _ _ (by first | rfl | assumption) rfl) my_X7_of si_X7_54 (by decide) ⟨Nat.le_refl _, Nat.le_refl _⟩ rfl (Nat.le_of_ble_eq_true rfl) dX7_goesOn_20 rfl (trivial) (fun v_20 w_20 hp_20 => ?_)
    obtain ⟨rfl, hw_20⟩ := hp_20
    have hw_20 := hw_20.symm; subst hw_20
    refine g_iald C rfl (by first | rfl | assumption | (simp only [nI_add, pk_mul, *]; done)) (by first | assumption | omega) (by decide) dX7_goesOn_23 ?_
    refine g_top (hr_rd hw1) ?_
    refine g_aload_n C rfl dX7_goesOn_24 ?_
    refine g_getr C fl_X7_7 rfl rfl dX7_goesOn_25 ?_
    refine g_sipush (v := 232) C (by decide) dX7_goesOn_28 ?_
    refine g_iald (j := 232) C rfl (rfl) (by decide) (by decide) dX7_goesOn_31 ?_
    refine g_top (hr_rd hw1) ?_
    refine g_isub C dX7_goesOn_32 ?_
    refine g_istore_n C (by decide) dX7_goesOn_33 ?_
    refine g_iload_n C rfl dX7_goesOn_34 ?_
    refine g_iload_n C rfl dX7_goesOn_35 ?_
    refine g_join1 44 ((if 0 < x.2 (1 + 4 * i1 + 1) - x.2 232 then x.2 (1 + 4 * i1 + 1) - x.2 232 else 0)) (fun k_44 => ?_) ?_
    · refine g_if_le (tgt := 43) C (by decide) dX7_goesOn_36 (fun c_36 => ?_) (fun c_36 => ?_)
      · refine g_iconst (v := 0) C (by decide) dX7_goesOn_43 ?_
        exact k_44 _ ((if_neg (Int32.not_lt.mpr c_36)).symm)
      · refine g_iload_n C rfl dX7_goesOn_39 ?_
        refine g_goto (tgt := 44) C (by decide) dX7_goesOn_40 ?_
        exact k_44 _ ((if_pos (Int32.not_le.mp c_36)).symm)
    refine g_iadd C dX7_goesOn_44 ?_
    refine g_istore_n C (by decide) dX7_goesOn_45 ?_
    refine g_aload_n C rfl dX7_goesOn_46 ?_
    refine g_getr C fl_X7_7 rfl rfl dX7_goesOn_47 ?_
    refine g_iload_n C rfl dX7_goesOn_50 ?_
    refine g_iconst (v := 1) C (by decide) dX7_goesOn_51 ?_
    refine g_callS C (ok_X7_of (i := 1) _ _ _ (by first | rfl | assumption) rfl) my_X7_of si_X7_54 (by decide) ⟨Nat.le_refl _, Nat.le_refl _⟩ rfl (Nat.le_of_ble_eq_true rfl) dX7_goesOn_52 rfl (trivial) (fun v_52 w_52 hp_52 => ?_)
    obtain ⟨rfl, hw_52⟩ := hp_52
    have hw_52 := hw_52.symm; subst hw_52
    refine g_dup2 C rfl rfl dX7_goesOn_55 ?_
    refine g_iald C rfl (by first | rfl | assumption | (simp only [nI_add, pk_mul, *]; done)) (by first | assumption | omega) (by decide) dX7_goesOn_56 ?_
    refine g_top (hr_rd hw1) ?_
    refine g_iload_n C rfl dX7_goesOn_57 ?_
    refine g_join1 66 ((if 0 < x.2 (1 + 4 * i1 + 1) - x.2 232 then x.2 (1 + 4 * i1 + 1) - x.2 232 else 0)) (fun k_66 => ?_) ?_
    · refine g_if_le (tgt := 65) C (by decide) dX7_goesOn_58 (fun c_58 => ?_) (fun c_58 => ?_)
      · refine g_iconst (v := 0) C (by decide) dX7_goesOn_65 ?_
        exact k_66 _ ((if_neg (Int32.not_lt.mpr c_58)).symm)
      · refine g_iload_n C rfl dX7_goesOn_61 ?_
        refine g_goto (tgt := 66) C (by decide) dX7_goesOn_62 ?_
        exact k_66 _ ((if_pos (Int32.not_le.mp c_58)).symm)
    refine g_isub C dX7_goesOn_66 ?_
    refine g_iast C rfl (by first | rfl | assumption | (simp only [nI_add, pk_mul, *]; done)) (by first | assumption | omega) (by decide) dX7_goesOn_67 ?_
    refine g_genR (hr_set hw1) (fun w2 h2 => ?_)
    refine g_aload_n C rfl dX7_goesOn_68 ?_
    refine g_iload_n C rfl dX7_goesOn_69 ?_
    refine g_call C (ok_X7_gives _ _ (by first | rfl | assumption) (by first | assumption | omega)) my_X7_gives vi_X7_61 (by decide) ⟨Nat.le_refl _, Nat.le_refl _⟩ rfl rfl rfl (Nat.le_of_ble_eq_true rfl) dX7_goesOn_70 rfl (hr_1 h2) (fun v_70 w_70 hp_70 => ?_)
    obtain ⟨rfl, h_70⟩ := hp_70
    have h_70 := hr_call h2 h_70
    refine g_iinc (v := nI (i1 + 1)) C rfl (nI_1 i1) (by decide) dX7_goesOn_73 ?_
    refine g_goto (tgt := 4) C (by decide) dX7_goesOn_76 ?_
    exact g_sub rfl (ih1 (_, _) _ ⟨by rw [cw_fold0, ← hx1]; rfl, h_70⟩)
  obtain ⟨hx1, hw1⟩ := hR1
  refine g_iload_n C rfl dX7_goesOn_4 ?_
  refine g_aload_n C rfl dX7_goesOn_5 ?_
  refine g_getr C fl_X7_7 rfl rfl dX7_goesOn_6 ?_
  refine g_iconst (v := 0) C (by decide) dX7_goesOn_9 ?_
  refine g_iald (j := 0) C rfl (rfl) (by decide) (by decide) dX7_goesOn_10 ?_
  refine g_top (hr_rd hw1) ?_
  refine g_top (show x.2 0 = s 0 by rw [hx1]; exact cw_lapse_keep s 0 (by omega) _ (fun j _ => by omega)) ?_
  refine g_cmp_ge (tgt := 79) C (by decide) dX7_goesOn_11 (fun c_11 => ?_) (fun c_11 => absurd (cw_lim hm) c_11)
  refine g_iconst (v := 0) C (by decide) dX7_goesOn_79 ?_
  refine g_istore_n C (by decide) dX7_goesOn_80 ?_
  refine g_sub rfl (g_for (α := cw_s) 20 (fun i3 y => [(0, .ref 0), (1, .int (x).1), (2, .int (nI i3))]) (fun i3 y w3 => y = cw_fold (fun k s => upd s (25 + 3 * k + 2) (-1)) 0 i3 x.2 ∧ w3 = cw_S w y) 0 x.2 _ (Nat.zero_le _) (⟨rfl, hw1⟩) (fun i3 y w3 hi3 hR3 ih3 => ?_) (fun y w3 hR3 => ?_))
  · obtain ⟨hy3, hw3⟩ := hR3
    refine g_iload_n C rfl dX7_goesOn_81 ?_
    refine g_bipush (v := 20) C (by decide) dX7_goesOn_82 ?_
    refine g_cmp_ge (tgt := 104) C (by decide) dX7_goesOn_84 (fun c_84 => absurd c_84 (nI_ge hi3 (by decide))) (fun c_84 => ?_)
    refine g_aload_n C rfl dX7_goesOn_87 ?_
    refine g_getr C fl_X7_7 rfl rfl dX7_goesOn_88 ?_
    refine g_iload_n C rfl dX7_goesOn_91 ?_
    refine g_iconst (v := 2) C (by decide) dX7_goesOn_92 ?_
    refine g_callS C (ok_X7_ofWeek (i := 2) _ _ _ (by first | rfl | assumption) rfl) my_X7_ofWeek si_X7_36 (by decide) ⟨Nat.le_refl _, Nat.le_refl _⟩ rfl (Nat.le_of_ble_eq_true rfl) dX7_goesOn_93 rfl (trivial) (fun v_93 w_93 hp_93 => ?_)
    obtain ⟨rfl, hw_93⟩ := hp_93
    have hw_93 := hw_93.symm; subst hw_93
    refine g_iconst (v := (-1)) C (by decide) dX7_goesOn_96 ?_
    refine g_iast C rfl (by first | rfl | assumption | (simp only [nI_add, pk_mul, *]; done)) (by first | assumption | omega) (by decide) dX7_goesOn_97 ?_
    refine g_genR (hr_set hw3) (fun w4 h4 => ?_)
    refine g_iinc (v := nI (i3 + 1)) C rfl (nI_1 i3) (by decide) dX7_goesOn_98 ?_
    refine g_goto (tgt := 81) C (by decide) dX7_goesOn_101 ?_
    exact g_sub rfl (ih3 _ _ ⟨by rw [cw_fold0, ← hy3], h4⟩)
  obtain ⟨hy3, hw3⟩ := hR3
  refine g_iload_n C rfl dX7_goesOn_81 ?_
  refine g_bipush (v := 20) C (by decide) dX7_goesOn_82 ?_
  refine g_cmp_ge (tgt := 104) C (by decide) dX7_goesOn_84 (fun c_84 => ?_) (fun c_84 => absurd (by decide) c_84)
  refine g_aload_n C rfl dX7_goesOn_104 ?_
  refine g_call C (ok_X7_noBids ) my_X7_noBids vi_X7_88 (by decide) ⟨Nat.le_refl _, Nat.le_refl _⟩ rfl rfl rfl (Nat.le_of_ble_eq_true rfl) dX7_goesOn_105 rfl (hr_1 hw3) (fun v_105 w_105 hp_105 => ?_)
  obtain ⟨rfl, h_105⟩ := hp_105
  have h_105 := hr_call hw3 h_105
  refine g_aload_n C rfl dX7_goesOn_108 ?_
  refine g_getr C fl_X7_7 rfl rfl dX7_goesOn_109 ?_
  refine g_sipush (v := 205) C (by decide) dX7_goesOn_112 ?_
  refine g_iconst (v := 0) C (by decide) dX7_goesOn_115 ?_
  refine g_iast (j := 205) C rfl (rfl) (by decide) (by decide) dX7_goesOn_116 ?_
  refine g_genR (hr_set h_105) (fun w5 h5 => ?_)
  refine g_aload_n C rfl dX7_goesOn_117 ?_
  refine g_getr C fl_X7_7 rfl rfl dX7_goesOn_118 ?_
  refine g_sipush (v := 237) C (by decide) dX7_goesOn_121 ?_
  refine g_dup2 C rfl rfl dX7_goesOn_124 ?_
  refine g_iald (j := 237) C rfl (rfl) (by decide) (by decide) dX7_goesOn_125 ?_
  refine g_top (hr_rd h5) ?_
  refine g_iload_n C rfl dX7_goesOn_126 ?_
  refine g_iadd C dX7_goesOn_127 ?_
  refine g_iast (j := 237) C rfl (rfl) (by decide) (by decide) dX7_goesOn_128 ?_
  refine g_genR (hr_set h5) (fun w6 h6 => ?_)
  refine g_aload_n C rfl dX7_goesOn_129 ?_
  refine g_getr C fl_X7_7 rfl rfl dX7_goesOn_130 ?_
  refine g_sipush (v := 230) C (by decide) dX7_goesOn_133 ?_
  refine g_dup2 C rfl rfl dX7_goesOn_136 ?_
  refine g_iald (j := 230) C rfl (rfl) (by decide) (by decide) dX7_goesOn_137 ?_
  refine g_top (hr_rd h6) ?_
  refine g_iconst (v := 1) C (by decide) dX7_goesOn_138 ?_
  refine g_iadd C dX7_goesOn_139 ?_
  refine g_iast (j := 230) C rfl (rfl) (by decide) (by decide) dX7_goesOn_140 ?_
  refine g_genR (hr_set h6) (fun w7 h7 => ?_)
  refine g_iload_n C rfl dX7_goesOn_141 ?_
  refine g_iret C F dX7_goesOn_142 ?_
  have hyf : y = cw_freed x.2 := by first | exact hy2 | exact hy3 | exact hy4 | exact hy5
  have e : cw_oYear s = (x.1, upd (upd (upd (cw_noBids y) 205 0) 237 (upd (cw_noBids y) 205 0 237 + x.1)) 230 (upd (upd (cw_noBids y) 205 0) 237 (upd (cw_noBids y) 205 0 237 + x.1) 230 + 1)) := by rw [hyf, hx1]; rfl
  exact ⟨by rw [e], by rw [e]; exact h7⟩

