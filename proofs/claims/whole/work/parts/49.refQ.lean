theorem cw_k3 {k : Int32} (h : 1 ≤ k ∧ k ≤ 3) (h1 : ¬ k = 1) (h2 : ¬ k = 2) : k = 3 := by
  have a := cw_le.mp h.1
  have b := cw_le.mp h.2
  have z1 : (1 : Int32).toInt = 1 := rfl
  have z3 : (3 : Int32).toInt = 3 := rfl
  have c1 : ¬ k.toInt = 1 := fun q => h1 (gw_toInt (v := 1) q)
  have c2 : ¬ k.toInt = 2 := fun q => h2 (gw_toInt (v := 2) q)
  exact gw_toInt (v := 3) (by omega)
theorem cw_kn {k : Int32} {b : Nat} (hb : b < 1000) (h : 1 ≤ k ∧ k ≤ nI b) : ∃ N, k = nI N ∧ N ≤ b ∧ cw_x (nI N) = N := by
  have q1 := cw_le.mp h.1
  have q2 := cw_le.mp h.2
  have z1 : (1 : Int32).toInt = 1 := rfl
  rw [cw_ni hb] at q2
  refine ⟨k.toInt.toNat, ?_, by omega, cw_xn (by omega)⟩
  apply Int32.toInt_inj.mp
  rw [cw_ni (by omega)]; omega
theorem cw_ln {x : Int64} (h : 0 ≤ x.toInt) : ∃ a, x = Int64.ofNat a ∧ a < 9223372036854775808 := ⟨x.toInt.toNat, cw_l_of h, by have := Int64.toInt_lt x; omega⟩
theorem cw_lc0 {x : Int64} {L : Int64} {z : Int} (hz : L.toInt = z) (h : lg_cmp x L < 0) : x.toInt < z := by
  rw [← hz]; exact Int64.lt_iff_toInt_lt.mp ((lg_cmp_lt x L).mp h)
theorem cw_lc1 {x : Int64} {L : Int64} {z : Int} (hz : L.toInt = z) (h : ¬ lg_cmp x L < 0) : ¬ x.toInt < z := by
  rw [← hz]; exact fun q => h ((lg_cmp_lt x L).mpr (Int64.lt_iff_toInt_lt.mpr q))

set_option maxHeartbeats 8000000 in
set_option maxRecDepth 100000 in
theorem ok_X7_runScript (k : Int32) (sc : Int64) (A : cw_A) {n m : Nat} (hI : cw_I n m A.1) (hB : cw_B (n + 21600) (m + 2400)) : gw_Ok yX7_runScript cX7_runScript 6 (some .int) sM 9 [.ref 0, .int k, .long sc] (fun w => cw_RM A w) (fun _ vr w1 => cw_FP (sp_runScript A k sc) vr w1) := by
  refine gw_of (by decide) (Nat.le_of_ble_eq_true rfl) ?_
  intro X w h C F
  have es := cw_es h
  have h6 := hI.m.2
  have hIw : cw_I n m (w 1) := cw_I_cg hI es
  refine g_iload_n C rfl dX7_runScript_0 ?_
  refine g_iconst (v := 1) C (by decide) dX7_runScript_1 ?_
  refine g_cmp_ne (tgt := 11) C (by decide) dX7_runScript_2 (fun c_2 => ?_) (fun c_2 => ?_)
  · refine g_iload_n C rfl dX7_runScript_11 ?_
    refine g_iconst (v := 2) C (by decide) dX7_runScript_12 ?_
    refine g_cmp_ne (tgt := 22) C (by decide) dX7_runScript_13 (fun c_13 => ?_) (fun c_13 => ?_)
    · refine g_ldc2 C kl_X7_273 dX7_runScript_22 ?_
      have hL : (1 ≤ k ∧ k ≤ 3) → (1000000000000000000 : Int64).toInt = 1000000 ^ cw_x k := fun q => by rw [cw_k3 q c_2 c_13]; rfl
      refine g_lstore C (by decide) dX7_runScript_25 ?_
      refine g_aload_n C rfl dX7_runScript_27 ?_
      refine g_iload_n C rfl dX7_runScript_28 ?_
      refine g_iconst (v := 1) C (by decide) dX7_runScript_29 ?_
      refine g_iconst (v := 3) C (by decide) dX7_runScript_30 ?_
      refine g_callS C (ok_X7_in _ _ _) my_X7_in si_X7_40 (by decide) ⟨Nat.le_refl _, Nat.le_refl _⟩ rfl (Nat.le_of_ble_eq_true rfl) dX7_runScript_31 rfl (trivial) (fun v_31 w_31 hp_31 => ?_)
      obtain ⟨rfl, hw_31⟩ := hp_31
      have hw_31 := hw_31.symm; subst hw_31
      refine g_join1 55 (cw_if ((1 ≤ k ∧ k ≤ 3) ∧ 0 ≤ sc.toInt ∧ sc.toInt < 1000000 ^ cw_x k) 0 1) (fun k_55 => ?_) ?_
      · refine g_if_eq (tgt := 54) C (by decide) dX7_runScript_34 (fun c_34 => ?_) (fun c_34 => ?_)
        · refine g_iconst (v := 1) C (by decide) dX7_runScript_54 ?_
          exact k_55 _ (by rw [cw_ie (fun q => cw_b0.mp c_34 q.1)])
        · refine g_lload_n C rfl dX7_runScript_37 ?_
          refine g_lconst (v := 0) C (by decide) dX7_runScript_38 ?_
          refine g_lcmp C dX7_runScript_39 ?_
          refine g_if_lt (tgt := 54) C (by decide) dX7_runScript_40 (fun c_40 => ?_) (fun c_40 => ?_)
          · refine g_iconst (v := 1) C (by decide) dX7_runScript_54 ?_
            exact k_55 _ (by rw [cw_ie (fun q => absurd (cw_lc0 (z := 0) rfl c_40) (by omega))])
          · refine g_lload_n C rfl dX7_runScript_43 ?_
            refine g_lload C rfl dX7_runScript_44 ?_
            refine g_lcmp C dX7_runScript_46 ?_
            refine g_if_ge (tgt := 54) C (by decide) dX7_runScript_47 (fun c_47 => ?_) (fun c_47 => ?_)
            · refine g_iconst (v := 1) C (by decide) dX7_runScript_54 ?_
              exact k_55 _ (by rw [cw_ie (fun q => cw_lc1 (hL q.1) (Int32.not_lt.mpr c_47) q.2.2)])
            · refine g_iconst (v := 0) C (by decide) dX7_runScript_50 ?_
              refine g_goto (tgt := 55) C (by decide) dX7_runScript_51 ?_
              exact k_55 _ (by rw [cw_it ⟨cw_bn c_34, Int.not_lt.mp (cw_lc1 (z := 0) rfl c_40), cw_lc0 (hL (cw_bn c_34)) (Int32.not_le.mp c_47)⟩])
      refine g_call C (ok_X7_holds _) my_X7_holds vi_X7_174 (by decide) ⟨Nat.le_refl _, Nat.le_refl _⟩ rfl rfl rfl (Nat.le_of_ble_eq_true rfl) dX7_runScript_55 rfl (trivial) (fun v_55 w_55 hp_55 => ?_)
      obtain ⟨rfl, hw_55⟩ := hp_55
      have es2 : cw_eq (w_55 1) A.1 := by rw [hw_55, gw_set_ne _ _ _ _ (by decide)]; exact es
      have hI2 : cw_I n m (w_55 1) := cw_I_cg hI es2
      have hr2 : cw_RM A w_55 := by rw [hw_55]; exact cw_RM_thr h
      refine g_if_eq (tgt := 70) C (by decide) dX7_runScript_58 (fun c_58 => ?_) (fun c_58 => ?_)
      · refine g_iconst (v := 0) C (by decide) dX7_runScript_70 ?_
        refine g_iret C F dX7_runScript_71 ?_
        exact cw_fin1 h hw_55 (cw_b0.mp c_58)
      · have hE := cw_bn c_58
        have hE1 := cw_ifb (by decide) hE
        obtain ⟨N, rfl, hN, eN⟩ := cw_kn (b := 3) (by decide) hE1.1
        obtain ⟨a, rfl, ha⟩ := cw_ln hE1.2.1
        have ht2 : w_55 0 0 = 0 := by rw [hw_55, gw_set_self, cw_ups]; exact hE
        refine g_aload_n C rfl dX7_runScript_61 ?_
        refine g_iload_n C rfl dX7_runScript_62 ?_
        refine g_lload_n C rfl dX7_runScript_63 ?_
        refine g_call C (ok_X7_runs N a hN ha _ hI hB) my_X7_runs vi_X7_275 (by decide) ⟨Nat.le_refl _, Nat.le_refl _⟩ rfl rfl rfl (Nat.le_of_ble_eq_true rfl) dX7_runScript_64 rfl (es2) (fun v_64 w_64 hp_64 => ?_)
        obtain ⟨rfl, hf64, hk64, hs64⟩ := hp_64
        refine g_goto (tgt := 71) C (by decide) dX7_runScript_67 ?_
        refine g_iret C F dX7_runScript_71 ?_
        exact cw_fin0 hE (by show _ = (cw_srun A.1 (cw_x (nI N)) (Int64.ofNat a) (cw_x (nI N))).1; rw [eN]) (by rw [hk64 0 (by omega)]; exact ht2) (hr2.cg (cw_nf_cg hs64) (hf64 3 (by decide) (by decide) (by decide)) (hf64 4 (by decide) (by decide) (by decide)) (hf64 5 (by decide) (by decide) (by decide)) (hk64 4 (by omega)) (hk64 6 (by omega)) (hk64 8 (by omega)))
    · refine g_ldc2 C kl_X7_271 dX7_runScript_16 ?_
      refine g_goto (tgt := 25) C (by decide) dX7_runScript_19 ?_
      have hL : (1 ≤ k ∧ k ≤ 3) → (1000000000000 : Int64).toInt = 1000000 ^ cw_x k := fun _ => by rw [c_13]; rfl
      refine g_lstore C (by decide) dX7_runScript_25 ?_
      refine g_aload_n C rfl dX7_runScript_27 ?_
      refine g_iload_n C rfl dX7_runScript_28 ?_
      refine g_iconst (v := 1) C (by decide) dX7_runScript_29 ?_
      refine g_iconst (v := 3) C (by decide) dX7_runScript_30 ?_
      refine g_callS C (ok_X7_in _ _ _) my_X7_in si_X7_40 (by decide) ⟨Nat.le_refl _, Nat.le_refl _⟩ rfl (Nat.le_of_ble_eq_true rfl) dX7_runScript_31 rfl (trivial) (fun v_31 w_31 hp_31 => ?_)
      obtain ⟨rfl, hw_31⟩ := hp_31
      have hw_31 := hw_31.symm; subst hw_31
      refine g_join1 55 (cw_if ((1 ≤ k ∧ k ≤ 3) ∧ 0 ≤ sc.toInt ∧ sc.toInt < 1000000 ^ cw_x k) 0 1) (fun k_55 => ?_) ?_
      · refine g_if_eq (tgt := 54) C (by decide) dX7_runScript_34 (fun c_34 => ?_) (fun c_34 => ?_)
        · refine g_iconst (v := 1) C (by decide) dX7_runScript_54 ?_
          exact k_55 _ (by rw [cw_ie (fun q => cw_b0.mp c_34 q.1)])
        · refine g_lload_n C rfl dX7_runScript_37 ?_
          refine g_lconst (v := 0) C (by decide) dX7_runScript_38 ?_
          refine g_lcmp C dX7_runScript_39 ?_
          refine g_if_lt (tgt := 54) C (by decide) dX7_runScript_40 (fun c_40 => ?_) (fun c_40 => ?_)
          · refine g_iconst (v := 1) C (by decide) dX7_runScript_54 ?_
            exact k_55 _ (by rw [cw_ie (fun q => absurd (cw_lc0 (z := 0) rfl c_40) (by omega))])
          · refine g_lload_n C rfl dX7_runScript_43 ?_
            refine g_lload C rfl dX7_runScript_44 ?_
            refine g_lcmp C dX7_runScript_46 ?_
            refine g_if_ge (tgt := 54) C (by decide) dX7_runScript_47 (fun c_47 => ?_) (fun c_47 => ?_)
            · refine g_iconst (v := 1) C (by decide) dX7_runScript_54 ?_
              exact k_55 _ (by rw [cw_ie (fun q => cw_lc1 (hL q.1) (Int32.not_lt.mpr c_47) q.2.2)])
            · refine g_iconst (v := 0) C (by decide) dX7_runScript_50 ?_
              refine g_goto (tgt := 55) C (by decide) dX7_runScript_51 ?_
              exact k_55 _ (by rw [cw_it ⟨cw_bn c_34, Int.not_lt.mp (cw_lc1 (z := 0) rfl c_40), cw_lc0 (hL (cw_bn c_34)) (Int32.not_le.mp c_47)⟩])
      refine g_call C (ok_X7_holds _) my_X7_holds vi_X7_174 (by decide) ⟨Nat.le_refl _, Nat.le_refl _⟩ rfl rfl rfl (Nat.le_of_ble_eq_true rfl) dX7_runScript_55 rfl (trivial) (fun v_55 w_55 hp_55 => ?_)
      obtain ⟨rfl, hw_55⟩ := hp_55
      have es2 : cw_eq (w_55 1) A.1 := by rw [hw_55, gw_set_ne _ _ _ _ (by decide)]; exact es
      have hI2 : cw_I n m (w_55 1) := cw_I_cg hI es2
      have hr2 : cw_RM A w_55 := by rw [hw_55]; exact cw_RM_thr h
      refine g_if_eq (tgt := 70) C (by decide) dX7_runScript_58 (fun c_58 => ?_) (fun c_58 => ?_)
      · refine g_iconst (v := 0) C (by decide) dX7_runScript_70 ?_
        refine g_iret C F dX7_runScript_71 ?_
        exact cw_fin1 h hw_55 (cw_b0.mp c_58)
      · have hE := cw_bn c_58
        have hE1 := cw_ifb (by decide) hE
        obtain ⟨N, rfl, hN, eN⟩ := cw_kn (b := 3) (by decide) hE1.1
        obtain ⟨a, rfl, ha⟩ := cw_ln hE1.2.1
        have ht2 : w_55 0 0 = 0 := by rw [hw_55, gw_set_self, cw_ups]; exact hE
        refine g_aload_n C rfl dX7_runScript_61 ?_
        refine g_iload_n C rfl dX7_runScript_62 ?_
        refine g_lload_n C rfl dX7_runScript_63 ?_
        refine g_call C (ok_X7_runs N a hN ha _ hI hB) my_X7_runs vi_X7_275 (by decide) ⟨Nat.le_refl _, Nat.le_refl _⟩ rfl rfl rfl (Nat.le_of_ble_eq_true rfl) dX7_runScript_64 rfl (es2) (fun v_64 w_64 hp_64 => ?_)
        obtain ⟨rfl, hf64, hk64, hs64⟩ := hp_64
        refine g_goto (tgt := 71) C (by decide) dX7_runScript_67 ?_
        refine g_iret C F dX7_runScript_71 ?_
        exact cw_fin0 hE (by show _ = (cw_srun A.1 (cw_x (nI N)) (Int64.ofNat a) (cw_x (nI N))).1; rw [eN]) (by rw [hk64 0 (by omega)]; exact ht2) (hr2.cg (cw_nf_cg hs64) (hf64 3 (by decide) (by decide) (by decide)) (hf64 4 (by decide) (by decide) (by decide)) (hf64 5 (by decide) (by decide) (by decide)) (hk64 4 (by omega)) (hk64 6 (by omega)) (hk64 8 (by omega)))
  · refine g_ldc2 C kl_X7_266 dX7_runScript_5 ?_
    refine g_goto (tgt := 25) C (by decide) dX7_runScript_8 ?_
    have hL : (1 ≤ k ∧ k ≤ 3) → (1000000 : Int64).toInt = 1000000 ^ cw_x k := fun _ => by rw [c_2]; rfl
    refine g_lstore C (by decide) dX7_runScript_25 ?_
    refine g_aload_n C rfl dX7_runScript_27 ?_
    refine g_iload_n C rfl dX7_runScript_28 ?_
    refine g_iconst (v := 1) C (by decide) dX7_runScript_29 ?_
    refine g_iconst (v := 3) C (by decide) dX7_runScript_30 ?_
    refine g_callS C (ok_X7_in _ _ _) my_X7_in si_X7_40 (by decide) ⟨Nat.le_refl _, Nat.le_refl _⟩ rfl (Nat.le_of_ble_eq_true rfl) dX7_runScript_31 rfl (trivial) (fun v_31 w_31 hp_31 => ?_)
    obtain ⟨rfl, hw_31⟩ := hp_31
    have hw_31 := hw_31.symm; subst hw_31
    refine g_join1 55 (cw_if ((1 ≤ k ∧ k ≤ 3) ∧ 0 ≤ sc.toInt ∧ sc.toInt < 1000000 ^ cw_x k) 0 1) (fun k_55 => ?_) ?_
    · refine g_if_eq (tgt := 54) C (by decide) dX7_runScript_34 (fun c_34 => ?_) (fun c_34 => ?_)
      · refine g_iconst (v := 1) C (by decide) dX7_runScript_54 ?_
        exact k_55 _ (by rw [cw_ie (fun q => cw_b0.mp c_34 q.1)])
      · refine g_lload_n C rfl dX7_runScript_37 ?_
        refine g_lconst (v := 0) C (by decide) dX7_runScript_38 ?_
        refine g_lcmp C dX7_runScript_39 ?_
        refine g_if_lt (tgt := 54) C (by decide) dX7_runScript_40 (fun c_40 => ?_) (fun c_40 => ?_)
        · refine g_iconst (v := 1) C (by decide) dX7_runScript_54 ?_
          exact k_55 _ (by rw [cw_ie (fun q => absurd (cw_lc0 (z := 0) rfl c_40) (by omega))])
        · refine g_lload_n C rfl dX7_runScript_43 ?_
          refine g_lload C rfl dX7_runScript_44 ?_
          refine g_lcmp C dX7_runScript_46 ?_
          refine g_if_ge (tgt := 54) C (by decide) dX7_runScript_47 (fun c_47 => ?_) (fun c_47 => ?_)
          · refine g_iconst (v := 1) C (by decide) dX7_runScript_54 ?_
            exact k_55 _ (by rw [cw_ie (fun q => cw_lc1 (hL q.1) (Int32.not_lt.mpr c_47) q.2.2)])
          · refine g_iconst (v := 0) C (by decide) dX7_runScript_50 ?_
            refine g_goto (tgt := 55) C (by decide) dX7_runScript_51 ?_
            exact k_55 _ (by rw [cw_it ⟨cw_bn c_34, Int.not_lt.mp (cw_lc1 (z := 0) rfl c_40), cw_lc0 (hL (cw_bn c_34)) (Int32.not_le.mp c_47)⟩])
    refine g_call C (ok_X7_holds _) my_X7_holds vi_X7_174 (by decide) ⟨Nat.le_refl _, Nat.le_refl _⟩ rfl rfl rfl (Nat.le_of_ble_eq_true rfl) dX7_runScript_55 rfl (trivial) (fun v_55 w_55 hp_55 => ?_)
    obtain ⟨rfl, hw_55⟩ := hp_55
    have es2 : cw_eq (w_55 1) A.1 := by rw [hw_55, gw_set_ne _ _ _ _ (by decide)]; exact es
    have hI2 : cw_I n m (w_55 1) := cw_I_cg hI es2
    have hr2 : cw_RM A w_55 := by rw [hw_55]; exact cw_RM_thr h
    refine g_if_eq (tgt := 70) C (by decide) dX7_runScript_58 (fun c_58 => ?_) (fun c_58 => ?_)
    · refine g_iconst (v := 0) C (by decide) dX7_runScript_70 ?_
      refine g_iret C F dX7_runScript_71 ?_
      exact cw_fin1 h hw_55 (cw_b0.mp c_58)
    · have hE := cw_bn c_58
      have hE1 := cw_ifb (by decide) hE
      obtain ⟨N, rfl, hN, eN⟩ := cw_kn (b := 3) (by decide) hE1.1
      obtain ⟨a, rfl, ha⟩ := cw_ln hE1.2.1
      have ht2 : w_55 0 0 = 0 := by rw [hw_55, gw_set_self, cw_ups]; exact hE
      refine g_aload_n C rfl dX7_runScript_61 ?_
      refine g_iload_n C rfl dX7_runScript_62 ?_
      refine g_lload_n C rfl dX7_runScript_63 ?_
      refine g_call C (ok_X7_runs N a hN ha _ hI hB) my_X7_runs vi_X7_275 (by decide) ⟨Nat.le_refl _, Nat.le_refl _⟩ rfl rfl rfl (Nat.le_of_ble_eq_true rfl) dX7_runScript_64 rfl (es2) (fun v_64 w_64 hp_64 => ?_)
      obtain ⟨rfl, hf64, hk64, hs64⟩ := hp_64
      refine g_goto (tgt := 71) C (by decide) dX7_runScript_67 ?_
      refine g_iret C F dX7_runScript_71 ?_
      exact cw_fin0 hE (by show _ = (cw_srun A.1 (cw_x (nI N)) (Int64.ofNat a) (cw_x (nI N))).1; rw [eN]) (by rw [hk64 0 (by omega)]; exact ht2) (hr2.cg (cw_nf_cg hs64) (hf64 3 (by decide) (by decide) (by decide)) (hf64 4 (by decide) (by decide) (by decide)) (hf64 5 (by decide) (by decide) (by decide)) (hk64 4 (by omega)) (hk64 6 (by omega)) (hk64 8 (by omega)))

set_option maxHeartbeats 8000000 in
set_option maxRecDepth 100000 in
theorem ok_X7_simulate (sd : Int64) (k : Int32) (A : cw_A) {n m : Nat} (hI : cw_I n m A.1) (hB : cw_B (n + 21600) (m + 2400)) : gw_Ok yX7_simulate cX7_simulate 4 (some .int) sM 9 [.ref 0, .long sd, .int k] (fun w => cw_RM A w) (fun _ vr w1 => cw_FP (sp_simulate A sd k) vr w1) := by
  refine gw_of (by decide) (Nat.le_of_ble_eq_true rfl) ?_
  intro X w h C F
  have es := cw_es h
  have h6 := hI.m.2
  have hIw : cw_I n m (w 1) := cw_I_cg hI es
  refine g_aload_n C rfl dX7_simulate_0 ?_
  refine g_iload_n C rfl dX7_simulate_1 ?_
  refine g_iconst (v := 1) C (by decide) dX7_simulate_2 ?_
  refine g_bipush (v := 60) C (by decide) dX7_simulate_3 ?_
  refine g_callS C (ok_X7_in _ _ _) my_X7_in si_X7_40 (by decide) ⟨Nat.le_refl _, Nat.le_refl _⟩ rfl (Nat.le_of_ble_eq_true rfl) dX7_simulate_5 rfl (trivial) (fun v_5 w_5 hp_5 => ?_)
  obtain ⟨rfl, hw_5⟩ := hp_5
  have hw_5 := hw_5.symm; subst hw_5
  refine g_join1 16 (cw_if (1 ≤ k ∧ k ≤ 60) 0 1) (fun k_16 => ?_) ?_
  · refine g_if_eq (tgt := 15) C (by decide) dX7_simulate_8 (fun c_8 => ?_) (fun c_8 => ?_)
    · refine g_iconst (v := 1) C (by decide) dX7_simulate_15 ?_
      exact k_16 _ (by rw [cw_ie (cw_b0.mp c_8)])
    · refine g_iconst (v := 0) C (by decide) dX7_simulate_11 ?_
      refine g_goto (tgt := 16) C (by decide) dX7_simulate_12 ?_
      exact k_16 _ (by rw [cw_it (cw_bn c_8)])
  refine g_call C (ok_X7_holds _) my_X7_holds vi_X7_174 (by decide) ⟨Nat.le_refl _, Nat.le_refl _⟩ rfl rfl rfl (Nat.le_of_ble_eq_true rfl) dX7_simulate_16 rfl (trivial) (fun v_16 w_16 hp_16 => ?_)
  obtain ⟨rfl, hw_16⟩ := hp_16
  have es2 : cw_eq (w_16 1) A.1 := by rw [hw_16, gw_set_ne _ _ _ _ (by decide)]; exact es
  have hI2 : cw_I n m (w_16 1) := cw_I_cg hI es2
  have hr2 : cw_RM A w_16 := by rw [hw_16]; exact cw_RM_thr h
  refine g_if_eq (tgt := 31) C (by decide) dX7_simulate_19 (fun c_19 => ?_) (fun c_19 => ?_)
  · refine g_iconst (v := 0) C (by decide) dX7_simulate_31 ?_
    refine g_iret C F dX7_simulate_32 ?_
    exact cw_fin1 h hw_16 (cw_b0.mp c_19)
  · have hE := cw_bn c_19
    have hE1 := cw_ifb (by decide) hE
    obtain ⟨N, rfl, hN, eN⟩ := cw_kn (b := 60) (by decide) hE1
    have ht2 : w_16 0 0 = 0 := by rw [hw_16, gw_set_self, cw_ups]; exact hE
    refine g_aload_n C rfl dX7_simulate_22 ?_
    refine g_lload_n C rfl dX7_simulate_23 ?_
    refine g_iload_n C rfl dX7_simulate_24 ?_
    refine g_call C (ok_X7_simulates N hN sd _ hI hB) my_X7_simulates vi_X7_286 (by decide) ⟨Nat.le_refl _, Nat.le_refl _⟩ rfl rfl rfl (Nat.le_of_ble_eq_true rfl) dX7_simulate_25 rfl (es2) (fun v_25 w_25 hp_25 => ?_)
    obtain ⟨rfl, hf25, hk25, hs25⟩ := hp_25
    refine g_goto (tgt := 32) C (by decide) dX7_simulate_28 ?_
    refine g_iret C F dX7_simulate_32 ?_
    exact cw_fin0 hE (by show _ = 10000 * cw_held (cw_sim A.1 sd (cw_x (nI N))).2 (-1) + cw_points (cw_sim A.1 sd (cw_x (nI N))).2; rw [eN]) (by rw [hk25 0 (by omega)]; exact ht2) (hr2.cg (cw_nf_cg hs25) (hf25 3 (by decide) (by decide) (by decide)) (hf25 4 (by decide) (by decide) (by decide)) (hf25 5 (by decide) (by decide) (by decide)) (hk25 4 (by omega)) (hk25 6 (by omega)) (hk25 8 (by omega)))

