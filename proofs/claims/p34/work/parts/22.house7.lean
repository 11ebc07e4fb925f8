theorem cw_isK_ix {n m : Nat} {t : cw_s} (h : cw_I n m t) {k : Int32} (hk : cw_isK t k) : ∃ j, k = nI j ∧ j < cw_x (t 205) := by
  have hq := (cw_isK_lt h).mp hk
  have hx := cw_x_lt h
  rw [cw_le, cw_lt, hx.2, cw_ni (by omega)] at hq
  have z : (0 : Int32).toInt = 0 := rfl
  refine ⟨k.toInt.toNat, ?_, by omega⟩
  apply Int32.toInt_inj.mp
  rw [cw_ni (by omega)]; omega
theorem cw_isK_nI {n m : Nat} {t : cw_s} (h : cw_I n m t) {j : Nat} (hj : j < cw_x (t 205)) : cw_isK t (nI j) := by
  have hx := cw_x_lt h
  rw [cw_isK_lt h, cw_le, cw_lt, hx.2, cw_ni (by omega), cw_ni (by omega)]
  have z : (0 : Int32).toInt = 0 := rfl
  omega
theorem cw_I.offs {n m : Nat} {t : cw_s} (h : cw_I n m t) {i : Nat} (hi : i < cw_x (t 205)) : (∃ j, j < cw_no t ∧ t (206 + 3 * i + 0) = nI j) ∧ (∃ k, k < 20 ∧ t (206 + 3 * i + 1) = nI k) ∧ (∃ k, k < 20 ∧ t (206 + 3 * i + 2) = nI k) := by
  obtain ⟨q, h1, h2, h3⟩ := h.off
  rw [h2, cw_xn (by omega)] at hi
  exact h3 i hi
/-- a house and another one behind it -/
def sH2 : gw_S := (28, fun i => if i < 14 then sH.2 i else gw_pi (fun j => j + 14) (sH.2 (i - 14)))
def cw_w2 (w : gw_M) : gw_M := fun i => w (i + 14)

set_option maxHeartbeats 8000000 in
set_option maxRecDepth 100000 in
theorem ok_X1_acceptOffer {t : cw_s} (k : Int32) {n m : Nat} (hI : cw_I n m t) : gw_Ok yX1_acceptOffer cX1_acceptOffer 5 (some .int) sH 4 [.ref 0, .int k] (fun w => ho w = t) (fun _ vr w1 => vr = some (.int (cw_re (cw_oAccept t k).1)) ∧ cw_nf (ho w1) = cw_nf (cw_oAccept t k).2) := by
  refine gw_of (by decide) (Nat.le_of_ble_eq_true rfl) ?_
  intro X w h C F
  have hno := hI.no
  have hxq := cw_x_lt hI
  refine g_aload_n C rfl dX1_acceptOffer_0 ?_
  refine g_iload_n C rfl dX1_acceptOffer_1 ?_
  refine g_call C (ok_X1_hasOffer _ (by first | assumption)) my_X1_hasOffer vi_X1_143 (by decide) ⟨Nat.le_refl _, Nat.le_refl _⟩ rfl rfl rfl (Nat.le_of_ble_eq_true rfl) dX1_acceptOffer_2 rfl (h) (fun v_2 w_2 hp_2 => ?_)
  obtain ⟨rfl, hw_2⟩ := hp_2
  have hw_2 := hw_2.symm; subst hw_2
  refine g_if_ne (tgt := 11) C (by decide) dX1_acceptOffer_5 (fun c_5 => ?_) (fun c_5 => ?_)
  · have hqq := cw_bn c_5
    obtain ⟨k, rfl, hk⟩ := cw_isK_ix hI hqq
    have ek : cw_x (nI k) = k := cw_xn (by omega)
    obtain ⟨⟨j0, hj0, he0⟩, ⟨k1, hk1, he1⟩, ⟨k2, hk2, he2⟩⟩ := hI.offs hk
    refine g_aload_n C rfl dX1_acceptOffer_11 ?_
    refine g_getr C fl_X1_43 rfl rfl dX1_acceptOffer_12 ?_
    refine g_iload_n C rfl dX1_acceptOffer_15 ?_
    refine g_iald C rfl (by first | rfl | assumption | (simp only [nI_add, pk_mul, *]; done)) (by first | assumption | omega) (by decide) dX1_acceptOffer_16 ?_
    refine g_top (ho_r11 h (by first | assumption | omega) (rfl)) ?_
    refine g_istore_n C (by decide) dX1_acceptOffer_17 ?_
    refine g_aload_n C rfl dX1_acceptOffer_18 ?_
    refine g_getr C fl_X1_46 rfl rfl dX1_acceptOffer_19 ?_
    refine g_iload_n C rfl dX1_acceptOffer_22 ?_
    refine g_iald C rfl (by first | rfl | assumption | (simp only [nI_add, pk_mul, *]; done)) (by first | assumption | omega) (by decide) dX1_acceptOffer_23 ?_
    refine g_top (ho_r12 h (by first | assumption | omega) (rfl)) ?_
    refine g_istore_n C (by decide) dX1_acceptOffer_24 ?_
    refine g_aload_n C rfl dX1_acceptOffer_25 ?_
    refine g_getr C fl_X1_49 rfl rfl dX1_acceptOffer_26 ?_
    refine g_iload_n C rfl dX1_acceptOffer_29 ?_
    refine g_iald C rfl (by first | rfl | assumption | (simp only [nI_add, pk_mul, *]; done)) (by first | assumption | omega) (by decide) dX1_acceptOffer_30 ?_
    refine g_top (ho_r13 h (by first | assumption | omega) (rfl)) ?_
    refine g_istore C (by decide) dX1_acceptOffer_31 ?_
    refine g_aload_n C rfl dX1_acceptOffer_33 ?_
    refine g_iload_n C rfl dX1_acceptOffer_34 ?_
    refine g_call C (ok_X1_dropOffer _ k hk rfl hI) my_X1_dropOffer vi_X1_146 (by decide) ⟨Nat.le_refl _, Nat.le_refl _⟩ rfl rfl rfl (Nat.le_of_ble_eq_true rfl) dX1_acceptOffer_35 rfl (h) (fun v_35 w_35 hp_35 => ?_)
    obtain ⟨rfl, h_35⟩ := hp_35
    refine g_aload_n C rfl dX1_acceptOffer_38 ?_
    refine g_iload_n C rfl dX1_acceptOffer_39 ?_
    refine g_iload_n C rfl dX1_acceptOffer_40 ?_
    refine g_iload C rfl dX1_acceptOffer_41 ?_
    refine g_call C (ok_X1_canSwap _ _ _ (cw_I_drop hI hk)) my_X1_canSwap vi_X1_137 (by decide) ⟨Nat.le_refl _, Nat.le_refl _⟩ rfl rfl rfl (Nat.le_of_ble_eq_true rfl) dX1_acceptOffer_43 rfl (h_35) (fun v_43 w_43 hp_43 => ?_)
    obtain ⟨rfl, hw_43⟩ := hp_43
    have hw_43 := hw_43.symm; subst hw_43
    refine g_if_ne (tgt := 61) C (by decide) dX1_acceptOffer_46 (fun c_46 => ?_) (fun c_46 => ?_)
    · refine g_aload_n C rfl dX1_acceptOffer_61 ?_
      refine g_getr C fl_X1_37 rfl rfl dX1_acceptOffer_62 ?_
      refine g_iload_n C rfl dX1_acceptOffer_65 ?_
      refine g_aload_n C rfl dX1_acceptOffer_66 ?_
      refine g_getr C fl_X1_37 rfl rfl dX1_acceptOffer_67 ?_
      refine g_iload C rfl dX1_acceptOffer_70 ?_
      refine g_iald (j := k2) C rfl (he2) (hk2) (by decide) dX1_acceptOffer_72 ?_
      refine g_top (ho_r9 h_35 (hk2) (rfl)) ?_
      refine g_iast (j := k1) C rfl (he1) (hk1) (by decide) dX1_acceptOffer_73 ?_
      refine g_gen (ho_s9 h_35 (hk1) (rfl)) (fun w1 h1 => ?_)
      refine g_aload_n C rfl dX1_acceptOffer_74 ?_
      refine g_getr C fl_X1_37 rfl rfl dX1_acceptOffer_75 ?_
      refine g_iload C rfl dX1_acceptOffer_78 ?_
      refine g_iload_n C rfl dX1_acceptOffer_80 ?_
      refine g_iast (j := k2) C rfl (he2) (hk2) (by decide) dX1_acceptOffer_81 ?_
      refine g_gen (ho_s9 h1 (hk2) (rfl)) (fun w2 h2 => ?_)
      refine g_aload_n C rfl dX1_acceptOffer_82 ?_
      refine g_getr C fl_X1_15 rfl rfl dX1_acceptOffer_83 ?_
      refine g_iconst (v := 4) C (by decide) dX1_acceptOffer_86 ?_
      refine g_dup2 C rfl rfl dX1_acceptOffer_87 ?_
      refine g_iald (j := 4) C rfl (rfl) (by decide) (by decide) dX1_acceptOffer_88 ?_
      refine g_top (ho_r2 (k := 238) h2 (by decide) (rfl)) ?_
      refine g_iconst (v := 1) C (by decide) dX1_acceptOffer_89 ?_
      refine g_iadd C dX1_acceptOffer_90 ?_
      refine g_iast (j := 4) C rfl (rfl) (by decide) (by decide) dX1_acceptOffer_91 ?_
      refine g_gen (ho_s2 (k := 238) h2 (by decide) (rfl)) (fun w3 h3 => ?_)
      refine g_iconst (v := 1) C (by decide) dX1_acceptOffer_92 ?_
      refine g_iret C F dX1_acceptOffer_93 ?_
      have hx1 : cw_x (t (206 + 3 * k + 1)) = k1 := by rw [he1, cw_xn (by omega)]
      have hx2 : cw_x (t (206 + 3 * k + 2)) = k2 := by rw [he2, cw_xn (by omega)]
      have hsw := cw_swap_cg (t := t) (t' := cw_drop t k (cw_x (t 205))) (cw_drop_rd t k _ (by omega) hxq.1) (fun z hz => cw_drop_rd t k _ (by omega) hxq.1) (t (206 + 3 * k + 0)) (t (206 + 3 * k + 1)) (t (206 + 3 * k + 2))
      have hss := hsw.mp (cw_bn c_46)
      have hq : cw_oAccept t (nI k) = (1, cw_nf (upd (upd (upd (cw_drop t k (cw_x (t 205))) (25 + 3 * k1 + 2) (t (25 + 3 * k2 + 2))) (25 + 3 * k2 + 2) (t (206 + 3 * k + 0))) 238 (t 238 + 1))) := by
        unfold cw_oAccept; simp only []; rw [ek, cw_it hqq, cw_it hss, hx1, hx2]
      exact ⟨by rw [hq]; rfl, by rw [hq, cw_nf_nf, h3, cw_upn _ _ (show 238 ≠ 25 + 3 * k2 + 2 by omega), cw_upn _ _ (show 238 ≠ 25 + 3 * k1 + 2 by omega), cw_drop_rd t k _ (show 238 < 205 ∨ 230 ≤ 238 by omega) hxq.1, cw_drop_rd t k _ (show 25 + 3 * k2 + 2 < 205 ∨ _ by omega) hxq.1]⟩
    · refine g_aload_n C rfl dX1_acceptOffer_49 ?_
      refine g_getr C fl_X1_15 rfl rfl dX1_acceptOffer_50 ?_
      refine g_iconst (v := 5) C (by decide) dX1_acceptOffer_53 ?_
      refine g_dup2 C rfl rfl dX1_acceptOffer_54 ?_
      refine g_iald (j := 5) C rfl (rfl) (by decide) (by decide) dX1_acceptOffer_55 ?_
      refine g_top (ho_r2 (k := 239) h_35 (by decide) (rfl)) ?_
      refine g_iconst (v := 1) C (by decide) dX1_acceptOffer_56 ?_
      refine g_iadd C dX1_acceptOffer_57 ?_
      refine g_iast (j := 5) C rfl (rfl) (by decide) (by decide) dX1_acceptOffer_58 ?_
      refine g_gen (ho_s2 (k := 239) h_35 (by decide) (rfl)) (fun w4 h4 => ?_)
      refine g_iconst (v := 0) C (by decide) dX1_acceptOffer_59 ?_
      refine g_iret C F dX1_acceptOffer_60 ?_
      have hx1 : cw_x (t (206 + 3 * k + 1)) = k1 := by rw [he1, cw_xn (by omega)]
      have hx2 : cw_x (t (206 + 3 * k + 2)) = k2 := by rw [he2, cw_xn (by omega)]
      have hsw := cw_swap_cg (t := t) (t' := cw_drop t k (cw_x (t 205))) (cw_drop_rd t k _ (by omega) hxq.1) (fun z hz => cw_drop_rd t k _ (by omega) hxq.1) (t (206 + 3 * k + 0)) (t (206 + 3 * k + 1)) (t (206 + 3 * k + 2))
      have hns := fun z => cw_b0.mp c_46 (hsw.mpr z)
      have hq : cw_oAccept t (nI k) = (0, cw_nf (upd (cw_drop t k (cw_x (t 205))) 239 (t 239 + 1))) := by
        unfold cw_oAccept; simp only []; rw [ek, cw_it hqq, cw_ie hns]
      exact ⟨by rw [hq]; rfl, by rw [hq, cw_nf_nf, h4, cw_drop_rd t k _ (by omega) hxq.1]⟩
  · refine g_bipush (v := (-2)) C (by decide) dX1_acceptOffer_8 ?_
    refine g_iret C F dX1_acceptOffer_10 ?_
    have hqq := cw_b0.mp c_5
    have hq : cw_oAccept t k = (-9, t) := cw_ie hqq
    exact ⟨by rw [hq]; rfl, by rw [hq, h]⟩

theorem cw_fit {x : Int32} (h : cw_r 0 1 x) : fits .boolean (.int x) = true := by
  obtain ⟨z, h1, h2, rfl⟩ := h
  have h3 : z = 0 ∨ z = 1 := by omega
  rcases h3 with rfl | rfl <;> rfl
theorem ho_eq {w w' : gw_M} (h3 : w' 0 3 = w 0 3) (h12 : w' 0 12 = w 0 12) (h2 : w' 0 2 = w 0 2) (a1 : ∀ j, j < 3 → w' 1 j = w 1 j) (a2 : ∀ j, j < 8 → w' 2 j = w 2 j) (a3 : ∀ j, j < 6 → w' 3 j = w 3 j) (a4 : ∀ j, j < 6 → w' 4 j = w 4 j) (a5 : ∀ j, j < 6 → w' 5 j = w 5 j) (a6 : ∀ j, j < 6 → w' 6 j = w 6 j) (a7 : ∀ j, j < 20 → w' 7 j = w 7 j) (a8 : ∀ j, j < 20 → w' 8 j = w 8 j) (a9 : ∀ j, j < 20 → w' 9 j = w 9 j) (a10 : ∀ j, j < 120 → w' 10 j = w 10 j) (a11 : ∀ j, j < 8 → w' 11 j = w 11 j) (a12 : ∀ j, j < 8 → w' 12 j = w 12 j) (a13 : ∀ j, j < 8 → w' 13 j = w 13 j) : ho w' = ho w :=
  ho_ext (by rw [ho_j3]; exact h3) (fun j hj => by rw [ho_i3 w hj]; exact a3 j hj) (fun j hj => by rw [ho_i4 w hj]; exact a4 j hj) (fun j hj => by rw [ho_i5 w hj]; exact a5 j hj) (fun j hj => by rw [ho_i6 w hj]; exact a6 j hj) (fun j hj => by rw [ho_i7 w hj]; exact a7 j hj) (fun j hj => by rw [ho_i8 w hj]; exact a8 j hj) (fun j hj => by rw [ho_i9 w hj]; exact a9 j hj) (fun j hj => by rw [ho_i10 w hj]; exact a10 j hj) (by rw [ho_j12]; exact h12) (fun j hj => by rw [ho_i11 w hj]; exact a11 j hj) (fun j hj => by rw [ho_i12 w hj]; exact a12 j hj) (fun j hj => by rw [ho_i13 w hj]; exact a13 j hj) (by rw [ho_j2]; exact h2) (fun j hj => by rw [ho_i1 w hj]; exact a1 j hj) (fun j hj => by rw [ho_i2 w hj]; exact a2 j hj) (fun k hk => ho_out w hk)

set_option maxHeartbeats 8000000 in
set_option maxRecDepth 100000 in
theorem ok_X1_copyFrom (w0 : gw_M) (hs : ∀ k, k < 20 → cw_r 0 1 (w0 22 k)) : gw_Ok yX1_copyFrom cX1_copyFrom 2 none sH2 1 [.ref 0, .ref 14] (fun w => w 22 = w0 22) (fun w vr w1 => vr = none ∧ (∀ q, 14 ≤ q → w1 q = w q) ∧ ho w1 = ho (cw_w2 w)) := by
  refine gw_of (by decide) (Nat.le_of_ble_eq_true rfl) ?_
  intro X w h C F
  rw [← h] at hs
  refine g_aload_n C rfl dX1_copyFrom_0 ?_
  refine g_getr C fl_X1_9 rfl rfl dX1_copyFrom_1 ?_
  refine g_iconst (v := 0) C (by decide) dX1_copyFrom_4 ?_
  refine g_aload_n C rfl dX1_copyFrom_5 ?_
  refine g_getr C fl_X1_9 rfl rfl dX1_copyFrom_6 ?_
  refine g_iconst (v := 0) C (by decide) dX1_copyFrom_9 ?_
  refine g_iconst (v := 3) C (by decide) dX1_copyFrom_10 ?_
  refine g_acopy (q0 := 15) (q1 := 1) (kd := 0) (sp := 0) (dp := 0) (ln := 3) C ac_X1_58 rfl rfl (by decide) rfl rfl rfl (by decide) (by decide) (by decide) (by decide) (fun q => absurd q (by decide)) ⟨by decide, Nat.le_of_ble_eq_true rfl⟩ dX1_copyFrom_11 ?_
  refine g_aload_n C rfl dX1_copyFrom_14 ?_
  refine g_getr C fl_X1_15 rfl rfl dX1_copyFrom_15 ?_
  refine g_iconst (v := 0) C (by decide) dX1_copyFrom_18 ?_
  refine g_aload_n C rfl dX1_copyFrom_19 ?_
  refine g_getr C fl_X1_15 rfl rfl dX1_copyFrom_20 ?_
  refine g_iconst (v := 0) C (by decide) dX1_copyFrom_23 ?_
  refine g_bipush (v := 8) C (by decide) dX1_copyFrom_24 ?_
  refine g_acopy (q0 := 16) (q1 := 2) (kd := 0) (sp := 0) (dp := 0) (ln := 8) C ac_X1_58 rfl rfl (by decide) rfl rfl rfl (by decide) (by decide) (by decide) (by decide) (fun q => absurd q (by decide)) ⟨by decide, Nat.le_of_ble_eq_true rfl⟩ dX1_copyFrom_26 ?_
  refine g_aload_n C rfl dX1_copyFrom_29 ?_
  refine g_aload_n C rfl dX1_copyFrom_30 ?_
  refine g_getf C fl_X1_70 rfl rfl dX1_copyFrom_31 ?_
  refine g_putf C fl_X1_70 fp_1_2 rfl rfl (rfl) (rfl) dX1_copyFrom_34 ?_
  refine g_aload_n C rfl dX1_copyFrom_37 ?_
  refine g_aload_n C rfl dX1_copyFrom_38 ?_
  refine g_getf C fl_X1_74 rfl rfl dX1_copyFrom_39 ?_
  refine g_putf C fl_X1_74 fp_1_3 rfl rfl (rfl) (rfl) dX1_copyFrom_42 ?_
  refine g_aload_n C rfl dX1_copyFrom_45 ?_
  refine g_getr C fl_X1_18 rfl rfl dX1_copyFrom_46 ?_
  refine g_iconst (v := 0) C (by decide) dX1_copyFrom_49 ?_
  refine g_aload_n C rfl dX1_copyFrom_50 ?_
  refine g_getr C fl_X1_18 rfl rfl dX1_copyFrom_51 ?_
  refine g_iconst (v := 0) C (by decide) dX1_copyFrom_54 ?_
  refine g_bipush (v := 6) C (by decide) dX1_copyFrom_55 ?_
  refine g_acopy (q0 := 17) (q1 := 3) (kd := 0) (sp := 0) (dp := 0) (ln := 6) C ac_X1_58 rfl rfl (by decide) rfl rfl rfl (by decide) (by decide) (by decide) (by decide) (fun q => absurd q (by decide)) ⟨by decide, Nat.le_of_ble_eq_true rfl⟩ dX1_copyFrom_57 ?_
  refine g_aload_n C rfl dX1_copyFrom_60 ?_
  refine g_getr C fl_X1_21 rfl rfl dX1_copyFrom_61 ?_
  refine g_iconst (v := 0) C (by decide) dX1_copyFrom_64 ?_
  refine g_aload_n C rfl dX1_copyFrom_65 ?_
  refine g_getr C fl_X1_21 rfl rfl dX1_copyFrom_66 ?_
  refine g_iconst (v := 0) C (by decide) dX1_copyFrom_69 ?_
  refine g_bipush (v := 6) C (by decide) dX1_copyFrom_70 ?_
  refine g_acopy (q0 := 18) (q1 := 4) (kd := 0) (sp := 0) (dp := 0) (ln := 6) C ac_X1_58 rfl rfl (by decide) rfl rfl rfl (by decide) (by decide) (by decide) (by decide) (fun q => absurd q (by decide)) ⟨by decide, Nat.le_of_ble_eq_true rfl⟩ dX1_copyFrom_72 ?_
  refine g_aload_n C rfl dX1_copyFrom_75 ?_
  refine g_getr C fl_X1_24 rfl rfl dX1_copyFrom_76 ?_
  refine g_iconst (v := 0) C (by decide) dX1_copyFrom_79 ?_
  refine g_aload_n C rfl dX1_copyFrom_80 ?_
  refine g_getr C fl_X1_24 rfl rfl dX1_copyFrom_81 ?_
  refine g_iconst (v := 0) C (by decide) dX1_copyFrom_84 ?_
  refine g_bipush (v := 6) C (by decide) dX1_copyFrom_85 ?_
  refine g_acopy (q0 := 19) (q1 := 5) (kd := 0) (sp := 0) (dp := 0) (ln := 6) C ac_X1_58 rfl rfl (by decide) rfl rfl rfl (by decide) (by decide) (by decide) (by decide) (fun q => absurd q (by decide)) ⟨by decide, Nat.le_of_ble_eq_true rfl⟩ dX1_copyFrom_87 ?_
  refine g_aload_n C rfl dX1_copyFrom_90 ?_
  refine g_getr C fl_X1_27 rfl rfl dX1_copyFrom_91 ?_
  refine g_iconst (v := 0) C (by decide) dX1_copyFrom_94 ?_
  refine g_aload_n C rfl dX1_copyFrom_95 ?_
  refine g_getr C fl_X1_27 rfl rfl dX1_copyFrom_96 ?_
  refine g_iconst (v := 0) C (by decide) dX1_copyFrom_99 ?_
  refine g_bipush (v := 6) C (by decide) dX1_copyFrom_100 ?_
  refine g_acopy (q0 := 20) (q1 := 6) (kd := 0) (sp := 0) (dp := 0) (ln := 6) C ac_X1_58 rfl rfl (by decide) rfl rfl rfl (by decide) (by decide) (by decide) (by decide) (fun q => absurd q (by decide)) ⟨by decide, Nat.le_of_ble_eq_true rfl⟩ dX1_copyFrom_102 ?_
  refine g_aload_n C rfl dX1_copyFrom_105 ?_
  refine g_getr C fl_X1_30 rfl rfl dX1_copyFrom_106 ?_
  refine g_iconst (v := 0) C (by decide) dX1_copyFrom_109 ?_
  refine g_aload_n C rfl dX1_copyFrom_110 ?_
  refine g_getr C fl_X1_30 rfl rfl dX1_copyFrom_111 ?_
  refine g_iconst (v := 0) C (by decide) dX1_copyFrom_114 ?_
  refine g_bipush (v := 20) C (by decide) dX1_copyFrom_115 ?_
  refine g_acopy (q0 := 21) (q1 := 7) (kd := 0) (sp := 0) (dp := 0) (ln := 20) C ac_X1_58 rfl rfl (by decide) rfl rfl rfl (by decide) (by decide) (by decide) (by decide) (fun q => absurd q (by decide)) ⟨by decide, Nat.le_of_ble_eq_true rfl⟩ dX1_copyFrom_117 ?_
  refine g_aload_n C rfl dX1_copyFrom_120 ?_
  refine g_getr C fl_X1_33 rfl rfl dX1_copyFrom_121 ?_
  refine g_iconst (v := 0) C (by decide) dX1_copyFrom_124 ?_
  refine g_aload_n C rfl dX1_copyFrom_125 ?_
  refine g_getr C fl_X1_33 rfl rfl dX1_copyFrom_126 ?_
  refine g_iconst (v := 0) C (by decide) dX1_copyFrom_129 ?_
  refine g_bipush (v := 20) C (by decide) dX1_copyFrom_130 ?_
  refine g_acopy (q0 := 22) (q1 := 8) (kd := 1) (sp := 0) (dp := 0) (ln := 20) C ac_X1_58 rfl rfl (by decide) rfl rfl rfl (by decide) (by decide) (by decide) (by decide) (fun _ i hi => by rw [show 0 + i = i by omega]; exact cw_fit (hs i hi)) ⟨by decide, Nat.le_of_ble_eq_true rfl⟩ dX1_copyFrom_132 ?_
  refine g_aload_n C rfl dX1_copyFrom_135 ?_
  refine g_getr C fl_X1_37 rfl rfl dX1_copyFrom_136 ?_
  refine g_iconst (v := 0) C (by decide) dX1_copyFrom_139 ?_
  refine g_aload_n C rfl dX1_copyFrom_140 ?_
  refine g_getr C fl_X1_37 rfl rfl dX1_copyFrom_141 ?_
  refine g_iconst (v := 0) C (by decide) dX1_copyFrom_144 ?_
  refine g_bipush (v := 20) C (by decide) dX1_copyFrom_145 ?_
  refine g_acopy (q0 := 23) (q1 := 9) (kd := 0) (sp := 0) (dp := 0) (ln := 20) C ac_X1_58 rfl rfl (by decide) rfl rfl rfl (by decide) (by decide) (by decide) (by decide) (fun q => absurd q (by decide)) ⟨by decide, Nat.le_of_ble_eq_true rfl⟩ dX1_copyFrom_147 ?_
  refine g_aload_n C rfl dX1_copyFrom_150 ?_
  refine g_getr C fl_X1_40 rfl rfl dX1_copyFrom_151 ?_
  refine g_iconst (v := 0) C (by decide) dX1_copyFrom_154 ?_
  refine g_aload_n C rfl dX1_copyFrom_155 ?_
  refine g_getr C fl_X1_40 rfl rfl dX1_copyFrom_156 ?_
  refine g_iconst (v := 0) C (by decide) dX1_copyFrom_159 ?_
  refine g_bipush (v := 120) C (by decide) dX1_copyFrom_160 ?_
  refine g_acopy (q0 := 24) (q1 := 10) (kd := 0) (sp := 0) (dp := 0) (ln := 120) C ac_X1_58 rfl rfl (by decide) rfl rfl rfl (by decide) (by decide) (by decide) (by decide) (fun q => absurd q (by decide)) ⟨by decide, Nat.le_of_ble_eq_true rfl⟩ dX1_copyFrom_162 ?_
  refine g_aload_n C rfl dX1_copyFrom_165 ?_
  refine g_aload_n C rfl dX1_copyFrom_166 ?_
  refine g_getf C fl_X1_77 rfl rfl dX1_copyFrom_167 ?_
  refine g_putf C fl_X1_77 fp_1_12 rfl rfl (rfl) (rfl) dX1_copyFrom_170 ?_
  refine g_aload_n C rfl dX1_copyFrom_173 ?_
  refine g_getr C fl_X1_43 rfl rfl dX1_copyFrom_174 ?_
  refine g_iconst (v := 0) C (by decide) dX1_copyFrom_177 ?_
  refine g_aload_n C rfl dX1_copyFrom_178 ?_
  refine g_getr C fl_X1_43 rfl rfl dX1_copyFrom_179 ?_
  refine g_iconst (v := 0) C (by decide) dX1_copyFrom_182 ?_
  refine g_bipush (v := 8) C (by decide) dX1_copyFrom_183 ?_
  refine g_acopy (q0 := 25) (q1 := 11) (kd := 0) (sp := 0) (dp := 0) (ln := 8) C ac_X1_58 rfl rfl (by decide) rfl rfl rfl (by decide) (by decide) (by decide) (by decide) (fun q => absurd q (by decide)) ⟨by decide, Nat.le_of_ble_eq_true rfl⟩ dX1_copyFrom_185 ?_
  refine g_aload_n C rfl dX1_copyFrom_188 ?_
  refine g_getr C fl_X1_46 rfl rfl dX1_copyFrom_189 ?_
  refine g_iconst (v := 0) C (by decide) dX1_copyFrom_192 ?_
  refine g_aload_n C rfl dX1_copyFrom_193 ?_
  refine g_getr C fl_X1_46 rfl rfl dX1_copyFrom_194 ?_
  refine g_iconst (v := 0) C (by decide) dX1_copyFrom_197 ?_
  refine g_bipush (v := 8) C (by decide) dX1_copyFrom_198 ?_
  refine g_acopy (q0 := 26) (q1 := 12) (kd := 0) (sp := 0) (dp := 0) (ln := 8) C ac_X1_58 rfl rfl (by decide) rfl rfl rfl (by decide) (by decide) (by decide) (by decide) (fun q => absurd q (by decide)) ⟨by decide, Nat.le_of_ble_eq_true rfl⟩ dX1_copyFrom_200 ?_
  refine g_aload_n C rfl dX1_copyFrom_203 ?_
  refine g_getr C fl_X1_49 rfl rfl dX1_copyFrom_204 ?_
  refine g_iconst (v := 0) C (by decide) dX1_copyFrom_207 ?_
  refine g_aload_n C rfl dX1_copyFrom_208 ?_
  refine g_getr C fl_X1_49 rfl rfl dX1_copyFrom_209 ?_
  refine g_iconst (v := 0) C (by decide) dX1_copyFrom_212 ?_
  refine g_bipush (v := 8) C (by decide) dX1_copyFrom_213 ?_
  refine g_acopy (q0 := 27) (q1 := 13) (kd := 0) (sp := 0) (dp := 0) (ln := 8) C ac_X1_58 rfl rfl (by decide) rfl rfl rfl (by decide) (by decide) (by decide) (by decide) (fun q => absurd q (by decide)) ⟨by decide, Nat.le_of_ble_eq_true rfl⟩ dX1_copyFrom_215 ?_
  refine g_vret C F dX1_copyFrom_218 ?_
  refine ⟨rfl, fun q hq => ?_, ho_eq (by simp [gw_set, va_cpy, cw_w2, *]) (by simp [gw_set, va_cpy, cw_w2, *]) (by simp [gw_set, va_cpy, cw_w2, *]) (fun j hj => by simp [gw_set, va_cpy, cw_w2, *]) (fun j hj => by simp [gw_set, va_cpy, cw_w2, *]) (fun j hj => by simp [gw_set, va_cpy, cw_w2, *]) (fun j hj => by simp [gw_set, va_cpy, cw_w2, *]) (fun j hj => by simp [gw_set, va_cpy, cw_w2, *]) (fun j hj => by simp [gw_set, va_cpy, cw_w2, *]) (fun j hj => by simp [gw_set, va_cpy, cw_w2, *]) (fun j hj => by simp [gw_set, va_cpy, cw_w2, *]) (fun j hj => by simp [gw_set, va_cpy, cw_w2, *]) (fun j hj => by simp [gw_set, va_cpy, cw_w2, *]) (fun j hj => by simp [gw_set, va_cpy, cw_w2, *]) (fun j hj => by simp [gw_set, va_cpy, cw_w2, *]) (fun j hj => by simp [gw_set, va_cpy, cw_w2, *])⟩
  funext k
  simp [gw_set, show q ≠ 0 by omega, show q ≠ 1 by omega, show q ≠ 2 by omega, show q ≠ 3 by omega, show q ≠ 4 by omega, show q ≠ 5 by omega, show q ≠ 6 by omega, show q ≠ 7 by omega, show q ≠ 8 by omega, show q ≠ 9 by omega, show q ≠ 10 by omega, show q ≠ 11 by omega, show q ≠ 12 by omega, show q ≠ 13 by omega]
