theorem cw_l_nat {a : Nat} (h : a < 9223372036854775808) : (Int64.ofNat a).toInt = a := Int64.toInt_ofNat_of_lt h
theorem cw_l_div {a : Nat} (h : a < 9223372036854775808) : Int64.ofNat a / 1000000 = Int64.ofNat (a / 1000000) := by
  apply Int64.toInt_inj.mp
  rw [cw_l_nat (by omega), Int64.toInt_div, cw_l_nat h]
  have z : (1000000 : Int64).toInt = 1000000 := rfl
  rw [z, Int.tdiv_eq_ediv_of_nonneg (by omega)]
  exact Int.bmod_eq_of_le (by omega) (by omega)
theorem cw_l_rem {a : Nat} (h : a < 9223372036854775808) : (Int64.ofNat a - Int64.ofNat a / 1000000 * 1000000).toInt32 = nI (a % 1000000) := by
  rw [cw_l_div h]
  apply Int32.toInt_inj.mp
  have z : (1000000 : Int64).toInt = 1000000 := rfl
  have e1 : (Int64.ofNat (a / 1000000) * 1000000).toInt = (a / 1000000 * 1000000 : Nat) := by
    rw [Int64.toInt_mul, cw_l_nat (by omega), z]
    rw [Int.bmod_eq_of_le (by omega) (by omega)]; omega
  rw [Int64.toInt_toInt32, Int64.toInt_sub, cw_l_nat h, e1]
  have e2 : ((a : Int) - (a / 1000000 * 1000000 : Nat)).bmod (2^64) = ((a % 1000000 : Nat) : Int) := by
    rw [Int.bmod_eq_of_le (by omega) (by omega)]; omega
  rw [e2, nI_toInt (by omega)]
  exact Int.bmod_eq_of_le (by omega) (by omega)
theorem cw_l_of {x : Int64} (h : 0 ≤ x.toInt) : x = Int64.ofNat x.toInt.toNat := by
  apply Int64.toInt_inj.mp
  have := Int64.toInt_lt x
  rw [cw_l_nat (by omega)]; omega
theorem cw_l_dv {a k : Nat} (h : a < 9223372036854775808) : Int64.ofNat (a / 1000000 ^ k) / 1000000 = Int64.ofNat (a / 1000000 ^ (k + 1)) := by
  have h2 : a / 1000000 ^ k ≤ a := Nat.div_le_self _ _
  rw [cw_l_div (by omega), Nat.div_div_eq_div_mul, Nat.pow_succ]
theorem cw_l_rm {a k : Nat} (h : a < 9223372036854775808) : (Int64.ofNat (a / 1000000 ^ k) - Int64.ofNat (a / 1000000 ^ k) / 1000000 * 1000000).toInt32 = nI (a / 1000000 ^ k % 1000000) := by
  have h2 : a / 1000000 ^ k ≤ a := Nat.div_le_self _ _
  exact cw_l_rem (by omega)
theorem cw_grp_at {N a i : Nat} (h : a < 9223372036854775808) : cw_grp N (Int64.ofNat a) i = nI (a / 1000000 ^ (N - (i + 1)) % 1000000) := by
  unfold cw_grp
  rw [cw_l_nat h, show N - 1 - i = N - (i + 1) by omega]
  rfl

set_option maxHeartbeats 8000000 in
set_option maxRecDepth 100000 in
theorem ok_X7_runs (N a : Nat) (hN : N ≤ 3) (ha : a < 9223372036854775808) (u : cw_s) {n m : Nat} (hI : cw_I n m u) (hB : cw_B (n + 21600) (m + 2400)) : gw_Ok yX7_runs cX7_runs 9 (some .int) sM 8 [.ref 0, .int (nI N), .long (Int64.ofNat a)] (fun w => cw_nf (w 1) = cw_nf u) (fun w vr w1 => vr = some (.int (cw_srun u N (Int64.ofNat a) N).1) ∧ (∀ q, q ≠ 0 → q ≠ 1 → q ≠ 2 → w1 q = w q) ∧ (∀ k, (k < 9 ∨ 12 < k) → w1 0 k = w 0 k) ∧ ∀ p, p < 242 → w1 1 p = w 1 p) := by
  refine gw_of (by decide) (Nat.le_of_ble_eq_true rfl) ?_
  intro X w h C F
  refine g_aload_n C rfl dX7_runs_0 ?_
  refine g_call C (ok_X7_putAside) my_X7_putAside vi_X7_249 (by decide) ⟨Nat.le_refl _, Nat.le_refl _⟩ rfl rfl rfl (Nat.le_of_ble_eq_true rfl) dX7_runs_1 rfl (trivial) (fun v_1 w_1 hp_1 => ?_)
  obtain ⟨rfl, hp1, hq1⟩ := hp_1
  refine g_iconst (v := (-1)) C (by decide) dX7_runs_4 ?_
  refine g_istore C (by decide) dX7_runs_5 ?_
  refine g_iconst (v := 0) C (by decide) dX7_runs_7 ?_
  refine g_istore C (by decide) dX7_runs_8 ?_
  refine g_sub rfl (g_for (α := Int32) (N) (fun i9 x => [(0, .ref 0), (1, .int (nI N)), (2, .long (Int64.ofNat a)), (4, .int x), (5, .int (nI i9))]) (fun i9 x w1 => x = (cw_srun u N (Int64.ofNat a) i9).1 ∧ cw_nf (w1 1) = cw_nf (cw_srun u N (Int64.ofNat a) i9).2 ∧ (∀ q, q ≠ 0 → q ≠ 1 → q ≠ 2 → w1 q = w q) ∧ (∀ k, (k < 9 ∨ 12 < k) → w1 0 k = w 0 k) ∧ ∀ p, p < 242 → w1 2 p = w 1 p) 0 (-1) _ (Nat.zero_le _) (⟨rfl, by rw [hp1 1 (by decide)]; exact h, fun q _ _ b => hp1 q b, fun k _ => by rw [hp1 0 (by decide)], hq1⟩) (fun i9 x w1 hi1 hR1 ih1 => ?_) (fun x w1 hR1 => ?_))
  · obtain ⟨hx1, hn1, hf1, hk1, hs1⟩ := hR1
    refine g_iload C rfl dX7_runs_10 ?_
    refine g_iload_n C rfl dX7_runs_12 ?_
    refine g_cmp_ge (tgt := 79) C (by decide) dX7_runs_13 (fun c_13 => absurd c_13 (nI_ge hi1 (by omega))) (fun c_13 => ?_)
    refine g_iload C rfl dX7_runs_16 ?_
    refine g_iconst (v := (-1)) C (by decide) dX7_runs_18 ?_
    refine g_cmp_ne (tgt := 79) C (by decide) dX7_runs_19 (fun c_19 => ?_) (fun c_19 => ?_)
    · refine g_aload_n C rfl dX7_runs_79 ?_
      refine g_call C (ok_X7_putBack) my_X7_putBack vi_X7_252 (by decide) ⟨Nat.le_refl _, Nat.le_refl _⟩ rfl rfl rfl (Nat.le_of_ble_eq_true rfl) dX7_runs_80 rfl (trivial) (fun v_80 w_80 hp_80 => ?_)
      obtain ⟨rfl, hp80, hq80⟩ := hp_80
      refine g_iload C rfl dX7_runs_83 ?_
      refine g_iret C F dX7_runs_85 ?_
      exact ⟨by rw [hx1]; have e := cw_srun_end u N (Int64.ofNat a) i9 (by rw [← hx1]; exact c_19) (N - i9); rw [show i9 + (N - i9) = N by omega] at e; rw [e], fun q h0 h1 h2 => (hp80 q h1).trans (hf1 q h0 h1 h2), fun k hk => by rw [hp80 0 (by decide)]; exact hk1 k hk, fun p hp => (hq80 p hp).trans (hs1 p hp)⟩
    · have hm : (cw_srun u N (Int64.ofNat a) i9).1 = -1 := by rw [← hx1]; exact c_19
      have hIi := cw_srun_I hI hB N (Int64.ofNat a) i9 (by omega)
      refine g_lload_n C rfl dX7_runs_22 ?_
      refine g_lstore C (by decide) dX7_runs_23 ?_
      refine g_iload C rfl dX7_runs_25 ?_
      refine g_iconst (v := 1) C (by decide) dX7_runs_27 ?_
      refine g_iadd C dX7_runs_28 ?_
      refine g_top (nI_1 i9) ?_
      refine g_istore C (by decide) dX7_runs_29 ?_
      refine g_sub rfl (g_for (α := Int64) (N) (fun j9 y => [(0, .ref 0), (1, .int (nI N)), (2, .long (Int64.ofNat a)), (4, .int x), (5, .int (nI i9)), (6, .long y), (8, .int (nI j9))]) (fun j9 y w2 => i9 + 1 ≤ j9 ∧ y = Int64.ofNat (a / 1000000 ^ (j9 - (i9 + 1))) ∧ (cw_nf (w2 1) = cw_nf (cw_srun u N (Int64.ofNat a) i9).2 ∧ (∀ q, q ≠ 0 → q ≠ 1 → q ≠ 2 → w2 q = w q) ∧ (∀ k, (k < 9 ∨ 12 < k) → w2 0 k = w 0 k) ∧ ∀ p, p < 242 → w2 2 p = w 1 p)) (i9 + 1) (Int64.ofNat a) _ (by omega) (⟨Nat.le_refl _, by rw [Nat.sub_self, Nat.pow_zero, Nat.div_one], hn1, hf1, hk1, hs1⟩) (fun j9 y w2 hi2 hR2 ih2 => ?_) (fun y w2 hR2 => ?_))
      · obtain ⟨hj2, hy, hn1, hf1, hk1, hs1⟩ := hR2
        refine g_iload C rfl dX7_runs_31 ?_
        refine g_iload_n C rfl dX7_runs_33 ?_
        refine g_cmp_ge (tgt := 51) C (by decide) dX7_runs_34 (fun c_34 => absurd c_34 (nI_ge hi2 (by omega))) (fun c_34 => ?_)
        refine g_lload C rfl dX7_runs_37 ?_
        refine g_ldc2 C kl_X7_266 dX7_runs_39 ?_
        refine g_ldiv C (by decide) dX7_runs_42 ?_
        refine g_lstore C (by decide) dX7_runs_43 ?_
        refine g_iinc (v := nI (j9 + 1)) C rfl (nI_1 j9) (by decide) dX7_runs_45 ?_
        refine g_goto (tgt := 31) C (by decide) dX7_runs_48 ?_
        exact g_sub rfl (ih2 _ _ ⟨by omega, by rw [hy, cw_l_dv ha, show j9 + 1 - (i9 + 1) = j9 - (i9 + 1) + 1 by omega], hn1, hf1, hk1, hs1⟩)
      obtain ⟨hj2, hy, hn1, hf1, hk1, hs1⟩ := hR2
      refine g_iload C rfl dX7_runs_31 ?_
      refine g_iload_n C rfl dX7_runs_33 ?_
      refine g_cmp_ge (tgt := 51) C (by decide) dX7_runs_34 (fun c_34 => ?_) (fun c_34 => absurd (nI_le (Nat.le_refl _) (by omega)) c_34)
      refine g_aload_n C rfl dX7_runs_51 ?_
      refine g_lload C rfl dX7_runs_52 ?_
      refine g_ldc2 C kl_X7_266 dX7_runs_54 ?_
      refine g_lrem C (by decide) dX7_runs_57 ?_
      refine g_l2i C dX7_runs_58 ?_
      refine g_top (show _ = cw_grp N (Int64.ofNat a) i9 by rw [hy, cw_l_rm ha, cw_grp_at ha]) ?_
      refine g_call C (ok_X7_succeeds _ _ hIi (cw_B_le2 hB (by omega) (by omega))) my_X7_succeeds vi_X7_268 (by decide) ⟨Nat.le_refl _, Nat.le_refl _⟩ rfl rfl rfl (Nat.le_of_ble_eq_true rfl) dX7_runs_59 rfl (hn1) (fun v_59 w_59 hp_59 => ?_)
      obtain ⟨rfl, hn59, hq59, hk59⟩ := hp_59
      refine g_join1 71 (if (cw_succ (cw_srun u N (Int64.ofNat a) i9).2 (cw_grp N (Int64.ofNat a) i9)).1 = 0 then nI i9 else -1) (fun k_71 => ?_) ?_
      · refine g_if_eq (tgt := 69) C (by decide) dX7_runs_62 (fun c_62 => ?_) (fun c_62 => ?_)
        · refine g_iload C rfl dX7_runs_69 ?_
          exact k_71 _ ((if_pos c_62).symm)
        · refine g_iconst (v := (-1)) C (by decide) dX7_runs_65 ?_
          refine g_goto (tgt := 71) C (by decide) dX7_runs_66 ?_
          exact k_71 _ ((if_neg c_62).symm)
      refine g_istore C (by decide) dX7_runs_71 ?_
      refine g_iinc (v := nI (i9 + 1)) C rfl (nI_1 i9) (by decide) dX7_runs_73 ?_
      refine g_goto (tgt := 10) C (by decide) dX7_runs_76 ?_
      exact g_sub rfl (ih1 _ _ ⟨by rw [cw_srun_1, if_pos hm], by rw [cw_srun_1, if_pos hm]; exact hn59, fun q h0 h1 h2 => (hq59 q h0 h1).trans (hf1 q h0 h1 h2), fun k hk => (hk59 k hk).trans (hk1 k hk), fun p hp => by rw [hq59 2 (by decide) (by decide)]; exact hs1 p hp⟩)
  obtain ⟨hx1, hn1, hf1, hk1, hs1⟩ := hR1
  refine g_iload C rfl dX7_runs_10 ?_
  refine g_iload_n C rfl dX7_runs_12 ?_
  refine g_cmp_ge (tgt := 79) C (by decide) dX7_runs_13 (fun c_13 => ?_) (fun c_13 => absurd (nI_le (Nat.le_refl _) (by omega)) c_13)
  refine g_aload_n C rfl dX7_runs_79 ?_
  refine g_call C (ok_X7_putBack) my_X7_putBack vi_X7_252 (by decide) ⟨Nat.le_refl _, Nat.le_refl _⟩ rfl rfl rfl (Nat.le_of_ble_eq_true rfl) dX7_runs_80 rfl (trivial) (fun v_80 w_80 hp_80 => ?_)
  obtain ⟨rfl, hp80, hq80⟩ := hp_80
  refine g_iload C rfl dX7_runs_83 ?_
  refine g_iret C F dX7_runs_85 ?_
  exact ⟨by rw [hx1], fun q h0 h1 h2 => (hp80 q h1).trans (hf1 q h0 h1 h2), fun k hk => by rw [hp80 0 (by decide)]; exact hk1 k hk, fun p hp => (hq80 p hp).trans (hs1 p hp)⟩

