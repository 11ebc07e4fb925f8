/-! THE FACE OF THE CLASS: scripts, simulations -/
theorem cw_p6 {N : Nat} (h : N ≤ 3) : 1000000 ^ N < 9223372036854775808 ∧ 0 < 1000000 ^ N := by
  have : N = 0 ∨ N = 1 ∨ N = 2 ∨ N = 3 := by omega
  rcases this with rfl | rfl | rfl | rfl <;> exact ⟨by decide +kernel, by decide +kernel⟩
theorem cw_sc_mul {i : Nat} (h : i < 3) : Int64.ofNat (1000000 ^ i) * 1000000 = Int64.ofNat (1000000 ^ (i + 1)) := by
  have : i = 0 ∨ i = 1 ∨ i = 2 := by omega
  rcases this with rfl | rfl | rfl <;> decide +kernel
theorem cw_l_dvg {a b : Nat} (ha : a < 9223372036854775808) (hb0 : 0 < b) (hb : b < 9223372036854775808) : Int64.ofNat a / Int64.ofNat b = Int64.ofNat (a / b) := by
  have h2 : a / b ≤ a := Nat.div_le_self _ _
  apply Int64.toInt_inj.mp
  rw [cw_l_nat (by omega), Int64.toInt_div, cw_l_nat ha, cw_l_nat hb, Int.tdiv_eq_ediv_of_nonneg (by omega)]
  rw [show (a : Int) / (b : Int) = ((a / b : Nat) : Int) from (Int.natCast_ediv a b).symm]
  generalize a / b = c at h2 ⊢
  exact Int.bmod_eq_of_le (by omega) (by omega)
theorem cw_ipow (N : Nat) : ((1000000 ^ N : Nat) : Int) = (1000000 : Int) ^ N := by
  induction N with
  | zero => rfl
  | succ N ih => rw [Nat.pow_succ, Int.pow_succ, Int.natCast_mul, ih]; rfl
theorem cw_sc_div {N j : Nat} (hN : N ≤ 3) (hj : j < N) : Int64.ofNat (1000000 ^ (N - j)) / 1000000 = Int64.ofNat (1000000 ^ (N - (j + 1))) := by
  rw [cw_l_div (cw_p6 (by omega)).1]
  congr 1
  rw [show N - j = N - (j + 1) + 1 by omega, Nat.pow_succ, Nat.mul_div_cancel _ (by decide)]
theorem cw_sc_ne {e : Nat} (h : e ≤ 3) : ¬ Int64.ofNat (1000000 ^ e) = 0 := fun q => by
  have h2 := congrArg Int64.toInt q
  have hp := cw_p6 h
  rw [cw_l_nat hp.1] at h2
  have z : (0 : Int64).toInt = 0 := rfl
  rw [z] at h2
  omega
theorem cw_lcn {a b : Nat} (ha : a < 9223372036854775808) (hb : b < 9223372036854775808) : lg_cmp (Int64.ofNat a) (Int64.ofNat b) < 0 ↔ a < b := by
  rw [lg_cmp_lt, Int64.lt_iff_toInt_lt, cw_l_nat ha, cw_l_nat hb]; omega
theorem cw_points_cgq {s' s : cw_s} (e : cw_eqq s' s) (h6 : cw_no s ≤ 6) : cw_points s' = cw_points s := by
  unfold cw_points; rw [cw_no_cgq e]
  exact cw_fold_congr _ 0 0 (fun j y _ h2 => by rw [cw_rdq e (by omega) (by omega)])

set_option maxHeartbeats 8000000 in
set_option maxRecDepth 100000 in
theorem ok_X6_runScript (A : cw_A) {n m : Nat} (hA : cw_IA n m A) (hB : cw_B (n + 21600) (m + 2400)) (k : Int32) (sc : Int64) (hc : (1 ≤ k ∧ k ≤ 3) ∧ 0 ≤ sc.toInt ∧ sc.toInt < 1000000 ^ cw_x k) : gw_Ok yX6_runScript cX6_runScript 7 (some .int) sC 9 [.ref 252, .int k, .long sc] (fun w => cw_RC A w) (fun _ vr w1 => vr = some (.int (cw_srun A.1 (cw_x k) sc (cw_x k)).1) ∧ cw_RC A w1) := by
  refine gw_of (by decide) (Nat.le_of_ble_eq_true rfl) ?_
  intro X w h C F
  have hw := h
  have e := hw.eq
  have hI := hA.1
  have hIt := cw_I_cg hI e
  have h6 := hI.m.2
  obtain ⟨N, rfl, hN, eN⟩ := cw_kn (b := 3) (by decide) hc.1
  obtain ⟨a, rfl, ha⟩ := cw_ln hc.2.1
  have haN : a < 1000000 ^ N := by have z := hc.2.2; rw [cw_l_nat ha, eN, ← cw_ipow] at z; exact Int.ofNat_lt.mp z
  have hp6 := cw_p6 hN
  refine g_aload_n C rfl dX6_runScript_0 ?_
  refine g_iload_n C rfl dX6_runScript_1 ?_
  refine g_iconst (v := 1) C (by decide) dX6_runScript_2 ?_
  refine g_iconst (v := 3) C (by decide) dX6_runScript_3 ?_
  refine g_call C (ok_X6_needRange (nI N) 1 3 hc.1) my_X6_needRange vi_X6_48 (by decide) ⟨Nat.le_refl _, Nat.le_refl _⟩ rfl rfl rfl (Nat.le_of_ble_eq_true rfl) dX6_runScript_4 rfl (trivial) (fun v_4 w_4 hp_4 => ?_)
  obtain ⟨rfl, hw_4⟩ := hp_4
  have hw_4 := hw_4.symm; subst hw_4
  refine g_lconst (v := 1) C (by decide) dX6_runScript_7 ?_
  refine g_topl (show _ = Int64.ofNat (1000000 ^ 0) from rfl) ?_
  refine g_lstore C (by decide) dX6_runScript_8 ?_
  refine g_iconst (v := 0) C (by decide) dX6_runScript_10 ?_
  refine g_istore C (by decide) dX6_runScript_11 ?_
  refine g_sub rfl (g_for (α := Unit) (N) (fun i9 x => [(0, .ref 252), (1, .int (nI N)), (2, .long (Int64.ofNat a)), (4, .long (Int64.ofNat (1000000 ^ i9))), (6, .int (nI i9))]) (fun i9 x w1 => w1 = w) 0 () _ (Nat.zero_le _) (rfl) (fun i9 x w1 hi1 hR1 ih1 => ?_) (fun x w1 hR1 => ?_))
  · have hw1 := hR1.symm
    subst hw1
    refine g_iload C rfl dX6_runScript_13 ?_
    refine g_iload_n C rfl dX6_runScript_15 ?_
    refine g_cmp_ge (tgt := 33) C (by decide) dX6_runScript_16 (fun c_16 => absurd c_16 (nI_ge hi1 (by omega))) (fun c_16 => ?_)
    refine g_lload C rfl dX6_runScript_19 ?_
    refine g_ldc2 C kl_X6_280 dX6_runScript_21 ?_
    refine g_lmul C dX6_runScript_24 ?_
    refine g_topl (cw_sc_mul (by omega)) ?_
    refine g_lstore C (by decide) dX6_runScript_25 ?_
    refine g_iinc (v := nI (i9 + 1)) C rfl (nI_1 i9) (by decide) dX6_runScript_27 ?_
    refine g_goto (tgt := 13) C (by decide) dX6_runScript_30 ?_
    exact g_sub rfl (ih1 () _ rfl)
  have hw1 := hR1.symm
  subst hw1
  refine g_iload C rfl dX6_runScript_13 ?_
  refine g_iload_n C rfl dX6_runScript_15 ?_
  refine g_cmp_ge (tgt := 33) C (by decide) dX6_runScript_16 (fun c_16 => ?_) (fun c_16 => absurd (nI_le (Nat.le_refl _) (by omega)) c_16)
  refine g_lload_n C rfl dX6_runScript_33 ?_
  refine g_lconst (v := 0) C (by decide) dX6_runScript_34 ?_
  refine g_lcmp C dX6_runScript_35 ?_
  refine g_if_lt (tgt := 46) C (by decide) dX6_runScript_36 (fun c_36 => absurd c_36 (fun z => absurd (cw_lc0 (z := 0) rfl z) (by rw [cw_l_nat ha]; omega))) (fun c_36 => ?_)
  refine g_lload_n C rfl dX6_runScript_39 ?_
  refine g_lload C rfl dX6_runScript_40 ?_
  refine g_lcmp C dX6_runScript_42 ?_
  refine g_if_lt (tgt := 57) C (by decide) dX6_runScript_43 (fun c_43 => ?_) (fun c_43 => absurd ((cw_lcn ha hp6.1).mpr haN) c_43)
  refine g_aload_n C rfl dX6_runScript_57 ?_
  refine g_getr C fl_X6_16 rfl rfl dX6_runScript_58 ?_
  refine g_aload_n C rfl dX6_runScript_61 ?_
  refine g_getr C fl_X6_10 rfl rfl dX6_runScript_62 ?_
  refine g_callW C (cw_emb_2 (1) (0) (by omega) (by omega) (by omega)) (ok_X1_copyFrom (cw_w0 1 0 w) (hw.sch hI)) my_X1_copyFrom vi_X6_284 (by decide) ⟨Nat.le_refl _, Nat.le_refl _⟩ rfl (((cw_emb_2 (1) (0) (by omega) (by omega) (by omega)).1 0 (by decide))) rfl (cw_wp2 (1) (0) w) (cw_wp2_i (by omega)) (cw_wp2_o) (cw_w0 (1) (0) w) (fun _ _ => rfl) (Nat.le_of_ble_eq_true rfl) dX6_runScript_65 rfl (rfl) (fun v_65 w_65 hp_65 => ?_)
  obtain ⟨rfl, hq65, hc65⟩ := hp_65
  obtain ⟨k1, k2⟩ := cw_copied (h := 1) (g := 0) (by omega) hq65 hc65
  refine g_iconst (v := 0) C (by decide) dX6_runScript_68 ?_
  refine g_istore C (by decide) dX6_runScript_69 ?_
  refine g_sub rfl (g_for (α := Unit) (N) (fun j9 y => [(0, .ref 252), (1, .int (nI N)), (2, .long (Int64.ofNat a)), (4, .long (Int64.ofNat (1000000 ^ (N - j9)))), (6, .int (nI j9))]) (fun j9 y w2 => (∀ q, ¬ (14 ≤ q ∧ q < 28) → w2 q = w q) ∧ (cw_srun A.1 N (Int64.ofNat a) j9).1 = -1 ∧ cw_eqq (ho (cw_hs 1 w2)) (cw_srun A.1 N (Int64.ofNat a) j9).2) 0 () _ (Nat.zero_le _) (⟨fun q hq => k2 q (by omega), rfl, cw_eqq_of (by rw [k1]; exact e)⟩) (fun j9 y w2 hi2 hR2 ih2 => ?_) (fun y w2 hR2 => ?_))
  · obtain ⟨g1, g2, g3⟩ := hR2
    obtain ⟨w9, ew9⟩ : ∃ z, z = w2 := ⟨_, rfl⟩
    rw [← ew9] at g1 g3 ⊢
    have hIi := cw_srun_I hI hB N (Int64.ofNat a) j9 (by omega)
    refine g_iload C rfl dX6_runScript_71 ?_
    refine g_iload_n C rfl dX6_runScript_73 ?_
    refine g_cmp_ge (tgt := 120) C (by decide) dX6_runScript_74 (fun c_74 => absurd c_74 (nI_ge hi2 (by omega))) (fun c_74 => ?_)
    refine g_lload C rfl dX6_runScript_77 ?_
    refine g_ldc2 C kl_X6_280 dX6_runScript_79 ?_
    refine g_ldiv C (by decide) dX6_runScript_82 ?_
    refine g_topl (cw_sc_div hN (by omega)) ?_
    have hpj := cw_p6 (N := N - (j9 + 1)) (by omega)
    refine g_lstore C (by decide) dX6_runScript_83 ?_
    refine g_lload C rfl dX6_runScript_85 ?_
    refine g_lconst (v := 1) C (by decide) dX6_runScript_87 ?_
    refine g_lcmp C dX6_runScript_88 ?_
    refine g_if_lt (tgt := 111) C (by decide) dX6_runScript_89 (fun c_89 => absurd c_89 (fun z => absurd (cw_lc0 (z := 1) rfl z) (by rw [cw_l_nat hpj.1]; omega))) (fun c_89 => ?_)
    refine g_aload_n C rfl dX6_runScript_92 ?_
    refine g_getr C fl_X6_16 rfl rfl dX6_runScript_93 ?_
    refine g_lload_n C rfl dX6_runScript_96 ?_
    refine g_lload C rfl dX6_runScript_97 ?_
    refine g_ldiv C (cw_sc_ne (by omega)) dX6_runScript_99 ?_
    refine g_topl (cw_l_dvg ha hpj.2 hpj.1) ?_
    refine g_ldc2 C kl_X6_280 dX6_runScript_100 ?_
    refine g_lrem C (by decide) dX6_runScript_103 ?_
    refine g_l2i C dX6_runScript_104 ?_
    refine g_top (show _ = cw_grp N (Int64.ofNat a) j9 by rw [cw_l_rm ha, cw_grp_at ha]) ?_
    refine g_callSW C (cw_emb_h 1 (by decide)) (ok_X3_succeeds (cw_grp N (Int64.ofNat a) j9) hIi (cw_B_le2 hB (by omega) (by omega)) g3) my_X3_succeeds si_X6_287 (by decide) ⟨Nat.le_refl _, Nat.le_refl _⟩ rfl (cw_wp (14 * 1) 14 w9) (cw_wp_i) (cw_wp_o) (cw_hs 1 w9) (fun _ _ => rfl) (Nat.le_of_ble_eq_true rfl) dX6_runScript_105 rfl (rfl) (fun v_105 w_105 hp_105 => ?_)
    obtain ⟨rfl, hs105⟩ := hp_105
    refine g_if_ne (tgt := 114) C (by decide) dX6_runScript_108 (fun c_108 => ?_) (fun c_108 => ?_)
    · refine g_iinc (v := nI (j9 + 1)) C rfl (nI_1 j9) (by decide) dX6_runScript_114 ?_
      refine g_goto (tgt := 71) C (by decide) dX6_runScript_117 ?_
      exact g_sub rfl (ih2 () _ ⟨fun q hq => by rw [cw_wp_out _ _ (by omega)]; exact g1 q hq, by rw [cw_srun_1, if_pos g2]; exact if_neg c_108, by rw [cw_hs_wp, cw_srun_1, if_pos g2]; exact hs105⟩)
    · refine g_iload C rfl dX6_runScript_111 ?_
      refine g_iret C F dX6_runScript_113 ?_
      have hst : (cw_srun A.1 N (Int64.ofNat a) (j9 + 1)).1 = nI j9 := by rw [cw_srun_1, if_pos g2]; exact if_pos c_108
      have hen := cw_srun_end A.1 N (Int64.ofNat a) (j9 + 1) (by rw [hst]; exact fun z => nI_pos (n := j9) (by omega) (by rw [z]; decide)) (N - (j9 + 1))
      rw [show j9 + 1 + (N - (j9 + 1)) = N by omega] at hen
      rw [eN, hen, hst]
      have gg : ∀ q, ¬ (14 ≤ q ∧ q < 28) → cw_wp (14 * 1) 14 w9 w_105 q = w q := fun q hq => by rw [cw_wp_out _ _ (by omega)]; exact g1 q hq
      exact ⟨rfl, hw.cg (fun q hq => gg q (by omega)) (congrFun (gg 257 (by omega)) 1)⟩
  obtain ⟨g1, g2, g3⟩ := hR2
  obtain ⟨w9, ew9⟩ : ∃ z, z = w2 := ⟨_, rfl⟩
  rw [← ew9] at g1 g3 ⊢
  refine g_iload C rfl dX6_runScript_71 ?_
  refine g_iload_n C rfl dX6_runScript_73 ?_
  refine g_cmp_ge (tgt := 120) C (by decide) dX6_runScript_74 (fun c_74 => ?_) (fun c_74 => absurd (nI_le (Nat.le_refl _) (by omega)) c_74)
  refine g_iconst (v := (-1)) C (by decide) dX6_runScript_120 ?_
  refine g_iret C F dX6_runScript_121 ?_
  rw [eN, g2]
  exact ⟨rfl, hw.cg (fun q hq => g1 q (by omega)) (congrFun (g1 257 (by omega)) 1)⟩

set_option maxHeartbeats 8000000 in
set_option maxRecDepth 100000 in
theorem thr_X6_runScript_2 (A : cw_A) {n m : Nat} (hA : cw_IA n m A) (k : Int32) (sc : Int64) (hc : ¬ (1 ≤ k ∧ k ≤ 3)) : gw_Thr yX6_runScript cX6_runScript 7 (some .int) sC 8 [.ref 252, .int k, .long sc] (fun w => cw_RC A w) "java/lang/IllegalArgumentException" (fun w w1 => w1 = w) := by
  refine gw_ofT (by decide) (Nat.le_of_ble_eq_true rfl) ?_
  intro X w h C F
  have hw := h
  have e := hw.eq
  have hI := hA.1
  have hIt := cw_I_cg hI e
  have h6 := hI.m.2
  refine g_aload_n C rfl dX6_runScript_0 ?_
  refine g_iload_n C rfl dX6_runScript_1 ?_
  refine g_iconst (v := 1) C (by decide) dX6_runScript_2 ?_
  refine g_iconst (v := 3) C (by decide) dX6_runScript_3 ?_
  exact g_callT C F (gw_emb_id sC) (thr_X6_needRange k 1 3 hc) my_X6_needRange vi_X6_48 (by decide) rfl (rfl) rfl ((fun w1 => w1)) (fun _ _ _ => rfl) (fun w1 j hj h => absurd rfl (h j hj)) (w) (fun _ _ => rfl) (Nat.le_of_ble_eq_true rfl) dX6_runScript_4 rfl (trivial) (fun w1 hw => hw)

set_option maxHeartbeats 8000000 in
set_option maxRecDepth 100000 in
theorem thr_X6_runScript_3 (A : cw_A) {n m : Nat} (hA : cw_IA n m A) (k : Int32) (sc : Int64) (hc : 1 ≤ k ∧ k ≤ 3) (h2 : ¬ (0 ≤ sc.toInt ∧ sc.toInt < 1000000 ^ cw_x k)) : gw_Thr yX6_runScript cX6_runScript 7 (some .int) sC 8 [.ref 252, .int k, .long sc] (fun w => cw_RC A w) "java/lang/IllegalArgumentException" (fun w w1 => w1 = w) := by
  refine gw_ofT (by decide) (Nat.le_of_ble_eq_true rfl) ?_
  intro X w h C F
  have hw := h
  have e := hw.eq
  have hI := hA.1
  have hIt := cw_I_cg hI e
  have h6 := hI.m.2
  obtain ⟨N, rfl, hN, eN⟩ := cw_kn (b := 3) (by decide) hc
  have hp6 := cw_p6 hN
  refine g_aload_n C rfl dX6_runScript_0 ?_
  refine g_iload_n C rfl dX6_runScript_1 ?_
  refine g_iconst (v := 1) C (by decide) dX6_runScript_2 ?_
  refine g_iconst (v := 3) C (by decide) dX6_runScript_3 ?_
  refine g_call C (ok_X6_needRange (nI N) 1 3 hc) my_X6_needRange vi_X6_48 (by decide) ⟨Nat.zero_le _, Nat.zero_le _⟩ rfl rfl rfl (Nat.le_of_ble_eq_true rfl) dX6_runScript_4 rfl (trivial) (fun v_4 w_4 hp_4 => ?_)
  obtain ⟨rfl, hw_4⟩ := hp_4
  have hw_4 := hw_4.symm; subst hw_4
  refine g_lconst (v := 1) C (by decide) dX6_runScript_7 ?_
  refine g_topl (show _ = Int64.ofNat (1000000 ^ 0) from rfl) ?_
  refine g_lstore C (by decide) dX6_runScript_8 ?_
  refine g_iconst (v := 0) C (by decide) dX6_runScript_10 ?_
  refine g_istore C (by decide) dX6_runScript_11 ?_
  refine g_sub rfl (g_for (α := Unit) (N) (fun i9 x => [(0, .ref 252), (1, .int (nI N)), (2, .long sc), (4, .long (Int64.ofNat (1000000 ^ i9))), (6, .int (nI i9))]) (fun i9 x w1 => w1 = w) 0 () _ (Nat.zero_le _) (rfl) (fun i9 x w1 hi1 hR1 ih1 => ?_) (fun x w1 hR1 => ?_))
  · have hw1 := hR1.symm
    subst hw1
    refine g_iload C rfl dX6_runScript_13 ?_
    refine g_iload_n C rfl dX6_runScript_15 ?_
    refine g_cmp_ge (tgt := 33) C (by decide) dX6_runScript_16 (fun c_16 => absurd c_16 (nI_ge hi1 (by omega))) (fun c_16 => ?_)
    refine g_lload C rfl dX6_runScript_19 ?_
    refine g_ldc2 C kl_X6_280 dX6_runScript_21 ?_
    refine g_lmul C dX6_runScript_24 ?_
    refine g_topl (cw_sc_mul (by omega)) ?_
    refine g_lstore C (by decide) dX6_runScript_25 ?_
    refine g_iinc (v := nI (i9 + 1)) C rfl (nI_1 i9) (by decide) dX6_runScript_27 ?_
    refine g_goto (tgt := 13) C (by decide) dX6_runScript_30 ?_
    exact g_sub rfl (ih1 () _ rfl)
  have hw1 := hR1.symm
  subst hw1
  refine g_iload C rfl dX6_runScript_13 ?_
  refine g_iload_n C rfl dX6_runScript_15 ?_
  refine g_cmp_ge (tgt := 33) C (by decide) dX6_runScript_16 (fun c_16 => ?_) (fun c_16 => absurd (nI_le (Nat.le_refl _) (by omega)) c_16)
  refine g_lload_n C rfl dX6_runScript_33 ?_
  refine g_lconst (v := 0) C (by decide) dX6_runScript_34 ?_
  refine g_lcmp C dX6_runScript_35 ?_
  refine g_if_lt (tgt := 46) C (by decide) dX6_runScript_36 (fun c_36 => ?_) (fun c_36 => ?_)
  · exact g_throwW C F tw_IAE (List.mem_of_getElem? (i := 12) rfl) (by decide) (Nat.le_of_ble_eq_true rfl) dX6_runScript_46 dX6_runScript_49 dX6_runScript_50 dX6_runScript_53 dX6_runScript_56 (rfl)
  · refine g_lload_n C rfl dX6_runScript_39 ?_
    refine g_lload C rfl dX6_runScript_40 ?_
    refine g_lcmp C dX6_runScript_42 ?_
    refine g_if_lt (tgt := 57) C (by decide) dX6_runScript_43 (fun c_43 => absurd c_43 (fun z => by
      have a0 := cw_lc1 (z := 0) rfl c_36
      have a1 := cw_lc0 (cw_l_nat hp6.1) z
      refine h2 ⟨by omega, ?_⟩
      rw [eN, ← cw_ipow]
      exact a1)) (fun c_43 => ?_)
    exact g_throwW C F tw_IAE (List.mem_of_getElem? (i := 12) rfl) (by decide) (Nat.le_of_ble_eq_true rfl) dX6_runScript_46 dX6_runScript_49 dX6_runScript_50 dX6_runScript_53 dX6_runScript_56 (rfl)

theorem thr_X6_runScript_1 (A : cw_A) {n m : Nat} (hA : cw_IA n m A) (k : Int32) (sc : Int64) (hc : ¬ ((1 ≤ k ∧ k ≤ 3) ∧ 0 ≤ sc.toInt ∧ sc.toInt < 1000000 ^ cw_x k)) : gw_Thr yX6_runScript cX6_runScript 7 (some .int) sC 8 [.ref 252, .int k, .long sc] (fun w => cw_RC A w) "java/lang/IllegalArgumentException" (fun w w1 => w1 = w) := by
  by_cases h : 1 ≤ k ∧ k ≤ 3
  · exact thr_X6_runScript_3 A hA k sc h (fun z => hc ⟨h, z⟩)
  · exact thr_X6_runScript_2 A hA k sc h

set_option maxHeartbeats 8000000 in
set_option maxRecDepth 100000 in
theorem ok_X6_simulate (A : cw_A) {n m : Nat} (hA : cw_IA n m A) (hB : cw_B (n + 21600) (m + 2400)) (sd : Int64) (k : Int32) (hc : 1 ≤ k ∧ k ≤ 60) : gw_Ok yX6_simulate cX6_simulate 7 (some .int) sC 9 [.ref 252, .long sd, .int k] (fun w => cw_RC A w) (fun _ vr w1 => vr = some (.int (10000 * cw_held (cw_sim A.1 sd (cw_x k)).2 (-1) + cw_points (cw_sim A.1 sd (cw_x k)).2)) ∧ cw_RC A w1) := by
  refine gw_of (by decide) (Nat.le_of_ble_eq_true rfl) ?_
  intro X w h C F
  have hw := h
  have e := hw.eq
  have hI := hA.1
  have hIt := cw_I_cg hI e
  have h6 := hI.m.2
  obtain ⟨N, rfl, hN, eN⟩ := cw_kn (b := 60) (by decide) hc
  refine g_aload_n C rfl dX6_simulate_0 ?_
  refine g_iload_n C rfl dX6_simulate_1 ?_
  refine g_iconst (v := 1) C (by decide) dX6_simulate_2 ?_
  refine g_bipush (v := 60) C (by decide) dX6_simulate_3 ?_
  refine g_call C (ok_X6_needRange (nI N) 1 60 hc) my_X6_needRange vi_X6_48 (by decide) ⟨Nat.le_refl _, Nat.le_refl _⟩ rfl rfl rfl (Nat.le_of_ble_eq_true rfl) dX6_simulate_5 rfl (trivial) (fun v_5 w_5 hp_5 => ?_)
  obtain ⟨rfl, hw_5⟩ := hp_5
  have hw_5 := hw_5.symm; subst hw_5
  refine g_aload_n C rfl dX6_simulate_8 ?_
  refine g_getr C fl_X6_16 rfl rfl dX6_simulate_9 ?_
  refine g_aload_n C rfl dX6_simulate_12 ?_
  refine g_getr C fl_X6_10 rfl rfl dX6_simulate_13 ?_
  refine g_callW C (cw_emb_2 (1) (0) (by omega) (by omega) (by omega)) (ok_X1_copyFrom (cw_w0 1 0 w) (hw.sch hI)) my_X1_copyFrom vi_X6_284 (by decide) ⟨Nat.le_refl _, Nat.le_refl _⟩ rfl (((cw_emb_2 (1) (0) (by omega) (by omega) (by omega)).1 0 (by decide))) rfl (cw_wp2 (1) (0) w) (cw_wp2_i (by omega)) (cw_wp2_o) (cw_w0 (1) (0) w) (fun _ _ => rfl) (Nat.le_of_ble_eq_true rfl) dX6_simulate_16 rfl (rfl) (fun v_16 w_16 hp_16 => ?_)
  obtain ⟨rfl, hq16, hc16⟩ := hp_16
  obtain ⟨k1, k2⟩ := cw_copied (h := 1) (g := 0) (by omega) hq16 hc16
  refine g_lload_n C rfl dX6_simulate_19 ?_
  refine g_lstore C (by decide) dX6_simulate_20 ?_
  refine g_iconst (v := 0) C (by decide) dX6_simulate_22 ?_
  refine g_istore C (by decide) dX6_simulate_23 ?_
  refine g_sub rfl (g_for (α := Unit) (N) (fun j9 y => [(0, .ref 252), (1, .long sd), (3, .int (nI N)), (4, .long (cw_sim A.1 sd j9).1), (6, .int (nI j9))]) (fun j9 y w1 => (∀ q, ¬ (14 ≤ q ∧ q < 28) → w1 q = w q) ∧ cw_eqq (ho (cw_hs 1 w1)) (cw_sim A.1 sd j9).2) 0 () _ (Nat.zero_le _) (⟨fun q hq => k2 q (by omega), cw_eqq_of (by rw [k1]; exact e)⟩) (fun j9 y w1 hi1 hR1 ih1 => ?_) (fun y w1 hR1 => ?_))
  · obtain ⟨g1, g3⟩ := hR1
    obtain ⟨w9, ew9⟩ : ∃ z, z = w1 := ⟨_, rfl⟩
    rw [← ew9] at g1 g3 ⊢
    have hIi := cw_sim_I hI hB sd j9 (by omega)
    refine g_iload C rfl dX6_simulate_25 ?_
    refine g_iload_n C rfl dX6_simulate_27 ?_
    refine g_cmp_ge (tgt := 62) C (by decide) dX6_simulate_28 (fun c_28 => absurd c_28 (nI_ge hi1 (by omega))) (fun c_28 => ?_)
    refine g_lload C rfl dX6_simulate_31 ?_
    refine g_ldc2 C kl_X6_293 dX6_simulate_33 ?_
    refine g_lmul C dX6_simulate_36 ?_
    refine g_ldc2 C kl_X6_295 dX6_simulate_37 ?_
    refine g_ladd C dX6_simulate_40 ?_
    refine g_topl (show _ = cw_sx (cw_sim A.1 sd j9).1 from rfl) ?_
    refine g_lstore C (by decide) dX6_simulate_41 ?_
    refine g_aload_n C rfl dX6_simulate_43 ?_
    refine g_getr C fl_X6_16 rfl rfl dX6_simulate_44 ?_
    refine g_lload C rfl dX6_simulate_47 ?_
    refine g_bipush (v := 33) C (by decide) dX6_simulate_49 ?_
    refine g_lushr C dX6_simulate_51 ?_
    refine g_l2i C dX6_simulate_52 ?_
    refine g_top (show _ = cw_sr (cw_sim A.1 sd j9).1 from rfl) ?_
    refine g_callSW C (cw_emb_h 1 (by decide)) (ok_X4_turn (cw_sr (cw_sim A.1 sd j9).1) (cw_sr_pos _) hIi (cw_B_le2 hB (by omega) (by omega)) g3) my_X4_turn si_X6_297 (by decide) ⟨Nat.le_refl _, Nat.le_refl _⟩ rfl (cw_wp (14 * 1) 14 w9) (cw_wp_i) (cw_wp_o) (cw_hs 1 w9) (fun _ _ => rfl) (Nat.le_of_ble_eq_true rfl) dX6_simulate_53 rfl (rfl) (fun v_53 w_53 hp_53 => ?_)
    obtain ⟨rfl, ht53⟩ := hp_53
    refine g_iinc (v := nI (j9 + 1)) C rfl (nI_1 j9) (by decide) dX6_simulate_56 ?_
    refine g_goto (tgt := 25) C (by decide) dX6_simulate_59 ?_
    exact g_sub (by rw [cw_sim_1]; rfl) (ih1 () _ ⟨fun q hq => by rw [cw_wp_out _ _ (by omega)]; exact g1 q hq, by rw [cw_hs_wp, cw_sim_1]; exact ht53⟩)
  obtain ⟨g1, g3⟩ := hR1
  obtain ⟨w9, ew9⟩ : ∃ z, z = w1 := ⟨_, rfl⟩
  rw [← ew9] at g1 g3 ⊢
  have hIN := cw_sim_I hI hB sd N (by omega)
  refine g_iload C rfl dX6_simulate_25 ?_
  refine g_iload_n C rfl dX6_simulate_27 ?_
  refine g_cmp_ge (tgt := 62) C (by decide) dX6_simulate_28 (fun c_28 => ?_) (fun c_28 => absurd (nI_le (Nat.le_refl _) (by omega)) c_28)
  refine g_sipush (v := 10000) C (by decide) dX6_simulate_62 ?_
  refine g_aload_n C rfl dX6_simulate_65 ?_
  refine g_getr C fl_X6_16 rfl rfl dX6_simulate_66 ?_
  refine g_iconst (v := (-1)) C (by decide) dX6_simulate_69 ?_
  refine g_callW C (cw_emb_h 1 (by decide)) (ok_X1_weeksHeldBy _ (cw_Iq hIN g3)) my_X1_weeksHeldBy vi_X6_93 (by decide) ⟨Nat.le_refl _, Nat.le_refl _⟩ rfl (((cw_emb_h 1 (by decide)).1 0 (by decide))) rfl (cw_wp (14 * 1) 14 w9) (cw_wp_i) (cw_wp_o) (cw_hs 1 w9) (fun _ _ => rfl) (Nat.le_of_ble_eq_true rfl) dX6_simulate_70 rfl (rfl) (fun v_70 w_70 hp_70 => ?_)
  obtain ⟨rfl, hw_70⟩ := hp_70
  have hw_70 := hw_70.symm; subst hw_70
  rw [cw_wp_hs]
  rw [cw_held_cgq g3]
  refine g_imul C dX6_simulate_73 ?_
  refine g_aload_n C rfl dX6_simulate_74 ?_
  refine g_getr C fl_X6_16 rfl rfl dX6_simulate_75 ?_
  refine g_callW C (cw_emb_h 1 (by decide)) (ok_X1_pointsOfAll (cw_Iq hIN g3)) my_X1_pointsOfAll vi_X6_101 (by decide) ⟨Nat.le_refl _, Nat.le_refl _⟩ rfl (((cw_emb_h 1 (by decide)).1 0 (by decide))) rfl (cw_wp (14 * 1) 14 w9) (cw_wp_i) (cw_wp_o) (cw_hs 1 w9) (fun _ _ => rfl) (Nat.le_of_ble_eq_true rfl) dX6_simulate_78 rfl (rfl) (fun v_78 w_78 hp_78 => ?_)
  obtain ⟨rfl, hw_78⟩ := hp_78
  have hw_78 := hw_78.symm; subst hw_78
  rw [cw_wp_hs]
  rw [cw_points_cgq g3 hIN.m.2]
  refine g_iadd C dX6_simulate_81 ?_
  refine g_iret C F dX6_simulate_82 ?_
  rw [eN]
  exact ⟨rfl, hw.cg (fun q hq => g1 q (by omega)) (congrFun (g1 257 (by omega)) 1)⟩

set_option maxHeartbeats 8000000 in
set_option maxRecDepth 100000 in
theorem thr_X6_simulate_1 (A : cw_A) {n m : Nat} (hA : cw_IA n m A) (sd : Int64) (k : Int32) (hc : ¬ (1 ≤ k ∧ k ≤ 60)) : gw_Thr yX6_simulate cX6_simulate 7 (some .int) sC 8 [.ref 252, .long sd, .int k] (fun w => cw_RC A w) "java/lang/IllegalArgumentException" (fun w w1 => w1 = w) := by
  refine gw_ofT (by decide) (Nat.le_of_ble_eq_true rfl) ?_
  intro X w h C F
  have hw := h
  have e := hw.eq
  have hI := hA.1
  have hIt := cw_I_cg hI e
  have h6 := hI.m.2
  refine g_aload_n C rfl dX6_simulate_0 ?_
  refine g_iload_n C rfl dX6_simulate_1 ?_
  refine g_iconst (v := 1) C (by decide) dX6_simulate_2 ?_
  refine g_bipush (v := 60) C (by decide) dX6_simulate_3 ?_
  exact g_callT C F (gw_emb_id sC) (thr_X6_needRange k 1 60 hc) my_X6_needRange vi_X6_48 (by decide) rfl (rfl) rfl ((fun w1 => w1)) (fun _ _ _ => rfl) (fun w1 j hj h => absurd rfl (h j hj)) (w) (fun _ _ => rfl) (Nat.le_of_ble_eq_true rfl) dX6_simulate_5 rfl (trivial) (fun w1 hw => hw)

