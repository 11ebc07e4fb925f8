theorem kc_J6_265 : Jvm.Cond.constant RJ6 265 1431655765 ∈ gw_T := gw_T_at 639 (by decide +kernel) rfl
theorem kc_J6_266 : Jvm.Cond.constant RJ6 266 858993459 ∈ gw_T := gw_T_at 640 (by decide +kernel) rfl
theorem kc_J6_267 : Jvm.Cond.constant RJ6 267 252645135 ∈ gw_T := gw_T_at 641 (by decide +kernel) rfl
/-! MATCHING OF THE CLASS: itself, takers, tried, and the house -/
def sMH : gw_S := (17, fun i => if i = 0 then .inr (2, [some 1, some 2]) else if i < 3 then .inl (0, 20, fun j => j) else gw_pi (fun j => 3 + j) (sH.2 (i - 3)))
theorem cw_emb_HM : gw_emb sMH sH (fun i => 3 + i) := ⟨fun i hi => by
  have h2 : i < 14 := hi
  have h3 : ¬ 3 + i < 3 := by omega
  have h4 : ¬ 3 + i = 0 := by omega
  simp [gw_at, sMH, h3, show 3 + i < 17 by omega], fun i j _ _ h => by have h : 3 + i = 3 + j := h; omega⟩
theorem cw_emb_Z (S : gw_S) : gw_emb S sZ (fun i => i) := ⟨fun i hi => absurd hi (Nat.not_lt_zero _), fun i j hi _ _ => absurd hi (Nat.not_lt_zero _)⟩
def cw_ush (x y : Int32) : Int32 := (x.toUInt32 >>> (y.toUInt32 &&& Int32.toUInt32 31)).toInt32
def cw_bc1 (x : Int32) : Int32 := x - (cw_ush x 1 &&& 1431655765)
def cw_bc2 (x : Int32) : Int32 := (x &&& 858993459) + (cw_ush x 2 &&& 858993459)
def cw_bc3 (x : Int32) : Int32 := (x + cw_ush x 4) &&& 252645135
def cw_bc4 (x : Int32) : Int32 := x + cw_ush x 8
def cw_bc5 (x : Int32) : Int32 := x + cw_ush x 16
theorem cw_bc : ∀ k : Fin 64, (cw_bc5 (cw_bc4 (cw_bc3 (cw_bc2 (cw_bc1 (nI k.val)))))) &&& 63 = nI (cw_pop k.val) := by decide +kernel
theorem cw_lbo {S : Nat} (hS : S < 64) : cw_lb 1 S ↔ S = 0 := by
  have : ∀ S : Fin 64, (1 : Int64).toBitVec.getLsbD S.val = decide (S.val = 0) := by decide +kernel
  unfold cw_lb
  rw [this ⟨S, hS⟩, decide_eq_true_eq]

set_option maxHeartbeats 8000000 in
set_option maxRecDepth 100000 in
theorem ok_J6_bitCount_0f7a4 (k : Nat) (hk : k < 64) : gw_Ok yJ6_bitCount_0f7a4 cJ6_bitCount_0f7a4 1 (some .int) sZ 1 [.int (nI k)] (fun _ => True) (fun w vr w1 => vr = some (.int (nI (cw_pop k))) ∧ w1 = w) := by
  refine gw_of (by decide) (Nat.le_of_ble_eq_true rfl) ?_
  intro X w h C F
  refine g_iload_n C rfl dJ6_bitCount_0f7a4_0 ?_
  refine g_iload_n C rfl dJ6_bitCount_0f7a4_1 ?_
  refine g_iconst (v := 1) C (by decide) dJ6_bitCount_0f7a4_2 ?_
  refine g_iushr C dJ6_bitCount_0f7a4_3 ?_
  refine g_ldc_w C kc_J6_265 dJ6_bitCount_0f7a4_4 ?_
  refine g_iand C dJ6_bitCount_0f7a4_7 ?_
  refine g_isub C dJ6_bitCount_0f7a4_8 ?_
  refine g_top (show _ = cw_bc1 (nI k) from rfl) ?_
  refine g_istore_n C (by decide) dJ6_bitCount_0f7a4_9 ?_
  refine g_iload_n C rfl dJ6_bitCount_0f7a4_10 ?_
  refine g_ldc_w C kc_J6_266 dJ6_bitCount_0f7a4_11 ?_
  refine g_iand C dJ6_bitCount_0f7a4_14 ?_
  refine g_iload_n C rfl dJ6_bitCount_0f7a4_15 ?_
  refine g_iconst (v := 2) C (by decide) dJ6_bitCount_0f7a4_16 ?_
  refine g_iushr C dJ6_bitCount_0f7a4_17 ?_
  refine g_ldc_w C kc_J6_266 dJ6_bitCount_0f7a4_18 ?_
  refine g_iand C dJ6_bitCount_0f7a4_21 ?_
  refine g_iadd C dJ6_bitCount_0f7a4_22 ?_
  refine g_top (show _ = cw_bc2 (cw_bc1 (nI k)) from rfl) ?_
  refine g_istore_n C (by decide) dJ6_bitCount_0f7a4_23 ?_
  refine g_iload_n C rfl dJ6_bitCount_0f7a4_24 ?_
  refine g_iload_n C rfl dJ6_bitCount_0f7a4_25 ?_
  refine g_iconst (v := 4) C (by decide) dJ6_bitCount_0f7a4_26 ?_
  refine g_iushr C dJ6_bitCount_0f7a4_27 ?_
  refine g_iadd C dJ6_bitCount_0f7a4_28 ?_
  refine g_ldc_w C kc_J6_267 dJ6_bitCount_0f7a4_29 ?_
  refine g_iand C dJ6_bitCount_0f7a4_32 ?_
  refine g_top (show _ = cw_bc3 (cw_bc2 (cw_bc1 (nI k))) from rfl) ?_
  refine g_istore_n C (by decide) dJ6_bitCount_0f7a4_33 ?_
  refine g_iload_n C rfl dJ6_bitCount_0f7a4_34 ?_
  refine g_iload_n C rfl dJ6_bitCount_0f7a4_35 ?_
  refine g_bipush (v := 8) C (by decide) dJ6_bitCount_0f7a4_36 ?_
  refine g_iushr C dJ6_bitCount_0f7a4_38 ?_
  refine g_iadd C dJ6_bitCount_0f7a4_39 ?_
  refine g_top (show _ = cw_bc4 (cw_bc3 (cw_bc2 (cw_bc1 (nI k)))) from rfl) ?_
  refine g_istore_n C (by decide) dJ6_bitCount_0f7a4_40 ?_
  refine g_iload_n C rfl dJ6_bitCount_0f7a4_41 ?_
  refine g_iload_n C rfl dJ6_bitCount_0f7a4_42 ?_
  refine g_bipush (v := 16) C (by decide) dJ6_bitCount_0f7a4_43 ?_
  refine g_iushr C dJ6_bitCount_0f7a4_45 ?_
  refine g_iadd C dJ6_bitCount_0f7a4_46 ?_
  refine g_top (show _ = cw_bc5 (cw_bc4 (cw_bc3 (cw_bc2 (cw_bc1 (nI k))))) from rfl) ?_
  refine g_istore_n C (by decide) dJ6_bitCount_0f7a4_47 ?_
  refine g_iload_n C rfl dJ6_bitCount_0f7a4_48 ?_
  refine g_bipush (v := 63) C (by decide) dJ6_bitCount_0f7a4_49 ?_
  refine g_iand C dJ6_bitCount_0f7a4_51 ?_
  refine g_top (cw_bc ⟨k, hk⟩) ?_
  refine g_iret C F dJ6_bitCount_0f7a4_52 ?_
  exact ⟨rfl, rfl⟩

set_option maxHeartbeats 8000000 in
set_option maxRecDepth 100000 in
theorem ok_X2_countBySets {t : cw_s} {n m : Nat} (hI : cw_I n m t) : gw_Ok yX2_countBySets cX2_countBySets 6 (some .int) sMH 4 [.ref 0, .ref 3] (fun w => ho (cw_ws 3 w) = t) (fun w vr w1 => vr = some (.int (cw_most t)) ∧ w1 = w) := by
  refine gw_of (by decide) (Nat.le_of_ble_eq_true rfl) ?_
  intro X w h C F
  refine g_lconst (v := 1) C (by decide) dX2_countBySets_0 ?_
  refine g_lstore_n C (by decide) dX2_countBySets_1 ?_
  refine g_iconst (v := 0) C (by decide) dX2_countBySets_2 ?_
  refine g_istore C (by decide) dX2_countBySets_3 ?_
  refine g_sub rfl (g_for (α := Int64) 20 (fun k9 x => [(0, .ref 0), (1, .ref 3), (2, .long x), (4, .int (nI k9))]) (fun k9 x w1 => (∀ S, S < 64 → (cw_lb x S ↔ cw_rch t k9 S)) ∧ w1 = w) 0 1 _ (Nat.zero_le _) (⟨fun S hS => cw_lbo hS, rfl⟩) (fun k9 x w1 hi1 hR1 ih1 => ?_) (fun x w1 hR1 => ?_))
  · obtain ⟨hx1, hw1⟩ := hR1
    have hw1 := hw1.symm
    subst hw1
    refine g_iload C rfl dX2_countBySets_5 ?_
    refine g_bipush (v := 20) C (by decide) dX2_countBySets_7 ?_
    refine g_cmp_ge (tgt := 28) C (by decide) dX2_countBySets_9 (fun c_9 => absurd c_9 (nI_ge hi1 (by decide))) (fun c_9 => ?_)
    refine g_lload_n C rfl dX2_countBySets_12 ?_
    refine g_aload_n C rfl dX2_countBySets_13 ?_
    refine g_iload C rfl dX2_countBySets_14 ?_
    refine g_lload_n C rfl dX2_countBySets_16 ?_
    refine g_callSW C cw_emb_HM (ok_X2_growSets k9 (by omega) x hI) my_X2_growSets si_X2_34 (by decide) ⟨Nat.le_refl _, Nat.le_refl _⟩ rfl (cw_wp 3 14 w) (cw_wp_i) (cw_wp_o) (cw_ws 3 w) (fun i _ => rfl) (Nat.le_of_ble_eq_true rfl) dX2_countBySets_17 rfl (h) (fun v_17 w_17 hp_17 => ?_)
    obtain ⟨y17, rfl, hw17, hy17⟩ := hp_17
    rw [hw17, cw_wp_self]
    refine g_lor C dX2_countBySets_20 ?_
    refine g_lstore_n C (by decide) dX2_countBySets_21 ?_
    refine g_iinc (v := nI (k9 + 1)) C rfl (nI_1 k9) (by decide) dX2_countBySets_22 ?_
    refine g_goto (tgt := 5) C (by decide) dX2_countBySets_25 ?_
    exact g_sub rfl (ih1 _ _ ⟨fun T hT => by rw [cw_lb_or, hy17 T hT]; exact (cw_rch_grw hI.m.2 hx1 hT).symm, rfl⟩)
  obtain ⟨hx1, hw1⟩ := hR1
  have hw1 := hw1.symm
  subst hw1
  refine g_iload C rfl dX2_countBySets_5 ?_
  refine g_bipush (v := 20) C (by decide) dX2_countBySets_7 ?_
  refine g_cmp_ge (tgt := 28) C (by decide) dX2_countBySets_9 (fun c_9 => ?_) (fun c_9 => absurd (by decide) c_9)
  refine g_iconst (v := 0) C (by decide) dX2_countBySets_28 ?_
  refine g_istore C (by decide) dX2_countBySets_29 ?_
  refine g_iconst (v := 0) C (by decide) dX2_countBySets_31 ?_
  refine g_istore C (by decide) dX2_countBySets_32 ?_
  refine g_sub rfl (g_for (α := Int32) 64 (fun s9 y => [(0, .ref 0), (1, .ref 3), (2, .long x), (4, .int y), (5, .int (nI s9))]) (fun s9 y w2 => y = cw_fold (fun S x => cw_if (cw_rch t 20 S ∧ x < nI (cw_pop S)) (nI (cw_pop S)) x) 0 s9 0 ∧ w2 = w) 0 0 _ (Nat.zero_le _) (⟨rfl, rfl⟩) (fun s9 y w2 hi2 hR2 ih2 => ?_) (fun y w2 hR2 => ?_))
  · obtain ⟨hx2, hw2⟩ := hR2
    have hw2 := hw2.symm
    subst hw2
    refine g_iload C rfl dX2_countBySets_34 ?_
    refine g_bipush (v := 64) C (by decide) dX2_countBySets_36 ?_
    refine g_cmp_ge (tgt := 70) C (by decide) dX2_countBySets_38 (fun c_38 => absurd c_38 (nI_ge hi2 (by decide))) (fun c_38 => ?_)
    refine g_lload_n C rfl dX2_countBySets_41 ?_
    refine g_iload C rfl dX2_countBySets_42 ?_
    refine g_lushr C dX2_countBySets_44 ?_
    refine g_lconst (v := 1) C (by decide) dX2_countBySets_45 ?_
    refine g_land C dX2_countBySets_46 ?_
    refine g_lconst (v := 0) C (by decide) dX2_countBySets_47 ?_
    refine g_lcmp C dX2_countBySets_48 ?_
    refine g_if_eq (tgt := 64) C (by decide) dX2_countBySets_49 (fun c_49 => ?_) (fun c_49 => ?_)
    · refine g_iinc (v := nI (s9 + 1)) C rfl (nI_1 s9) (by decide) dX2_countBySets_64 ?_
      refine g_goto (tgt := 34) C (by decide) dX2_countBySets_67 ?_
      exact g_sub rfl (ih2 _ _ ⟨by rw [cw_fold0, ← hx2]; exact (cw_ie (fun q => (cw_lb_test x (by omega)).mp c_49 ((hx1 s9 (by omega)).mpr q.1))).symm, rfl⟩)
    · refine g_iload C rfl dX2_countBySets_52 ?_
      refine g_iload C rfl dX2_countBySets_54 ?_
      refine g_callSW C (cw_emb_Z sMH) (ok_J6_bitCount_0f7a4 s9 (by omega)) my_J6_bitCount_0f7a4 si_X2_38 (by decide) ⟨Nat.le_refl _, Nat.le_refl _⟩ rfl ((fun _ => w)) (fun _ _ hi => absurd hi (Nat.not_lt_zero _)) (fun _ _ _ _ => rfl) (w) (fun _ hi => absurd hi (Nat.not_lt_zero _)) (Nat.le_of_ble_eq_true rfl) dX2_countBySets_56 rfl (trivial) (fun v_56 w_56 hp_56 => ?_)
      obtain ⟨rfl, hw56⟩ := hp_56
      refine g_mmax C mx_X2_44 (by decide) dX2_countBySets_59 ?_
      refine g_istore C (by decide) dX2_countBySets_62 ?_
      refine g_iinc (v := nI (s9 + 1)) C rfl (nI_1 s9) (by decide) dX2_countBySets_64 ?_
      refine g_goto (tgt := 34) C (by decide) dX2_countBySets_67 ?_
      have hbit : cw_rch t 20 s9 := (hx1 s9 (by omega)).mp (Classical.byContradiction (fun q => c_49 ((cw_lb_test x (by omega)).mpr q)))
      exact g_sub rfl (ih2 _ _ ⟨by
        rw [cw_fold0, ← hx2]
        by_cases q : y < nI (cw_pop s9)
        · rw [if_pos q]; exact (cw_it ⟨hbit, q⟩).symm
        · rw [if_neg q]; exact (cw_ie (fun z => q z.2)).symm, rfl⟩)
  obtain ⟨hx2, hw2⟩ := hR2
  have hw2 := hw2.symm
  subst hw2
  refine g_iload C rfl dX2_countBySets_34 ?_
  refine g_bipush (v := 64) C (by decide) dX2_countBySets_36 ?_
  refine g_cmp_ge (tgt := 70) C (by decide) dX2_countBySets_38 (fun c_38 => ?_) (fun c_38 => absurd (by decide) c_38)
  refine g_iload C rfl dX2_countBySets_70 ?_
  refine g_iret C F dX2_countBySets_72 ?_
  exact ⟨by rw [hx2]; rfl, rfl⟩

def cw_td (w : gw_M) (k : Nat) : Prop := ¬ w 2 k = 0
def cw_fwp (t : cw_s) (M : Nat → Int32) (T : Nat → Prop) (o dep : Nat) : Prop := cw_mat t M ∧ (∀ k, k < 20 → M k = nI o → T k) ∧ dep ≤ cw_cn (fun k => T k ∧ ¬ M k = -1) 20
theorem cw_tdf (w : gw_M) (i : Nat) : cw_td (gw_set w 2 i 1) = fun k => cw_td w k ∨ k = i := by
  funext k
  apply propext
  unfold cw_td
  rw [gw_set_self]
  by_cases q : k = i
  · subst q; rw [cw_ups]; exact ⟨fun _ => Or.inr rfl, fun _ => by decide⟩
  · rw [cw_upn _ _ q]; exact ⟨Or.inl, fun z => z.resolve_right q⟩
theorem cw_fwp_r {t : cw_s} {M : Nat → Int32} {T T1 : Nat → Prop} {o i j dep : Nat} (hp : cw_fwp t M T o dep) (h : cw_lkg t M T T1 o i) (hi : i < 20) (h1 : ¬ T1 i) (hj : j < 6) (hM : M i = nI j) : cw_fwp t M (fun k => T1 k ∨ k = i) j (dep + 1) := by
  refine ⟨hp.1, fun k hk e => Or.inr (hp.1.2 k i j hk hi hj e hM), ?_⟩
  show dep + 1 ≤ cw_cn (fun k => (T1 k ∨ k = i) ∧ ¬ M k = -1) 20
  have e1 : cw_cn (fun k => T k ∧ ¬ M k = -1) 20 ≤ cw_cn (fun k => T1 k ∧ ¬ M k = -1) 20 := cw_cn_mono 20 (fun k hk z => ⟨h.1 k hk z.1, z.2⟩)
  have e2 := cw_cn_1 (P := fun k => T1 k ∧ ¬ M k = -1) (Q := fun k => (T1 k ∨ k = i) ∧ ¬ M k = -1) (w := i) 20 hi (fun z => h1 z.1) (fun k hk => ⟨fun z => z.1.elim (fun y => Or.inl ⟨y, z.2⟩) Or.inr, fun z => z.elim (fun y => ⟨Or.inl y.1, y.2⟩) (fun y => ⟨Or.inr y, by rw [y, hM]; exact cw_nI_m hj⟩)⟩)
  have e3 := hp.2.2
  omega
theorem cw_fwp_7 {t : cw_s} {M : Nat → Int32} {T : Nat → Prop} {o : Nat} (hp : cw_fwp t M T o 7) : False := by
  have e1 : cw_cn (fun k => T k ∧ ¬ M k = -1) 20 ≤ cw_cn (fun k => ¬ M k = -1) 20 := cw_cn_mono 20 (fun k _ z => z.2)
  have e2 := cw_mat_6 hp.1
  have e3 := hp.2.2
  omega
theorem cw_wsq {w w9 : gw_M} (h : ∀ q, q ≠ 1 → q ≠ 2 → w9 q = w q) : cw_ws 3 w9 = cw_ws 3 w := by funext i; exact h (3 + i) (by omega) (by omega)
theorem cw_s2q (w : gw_M) (i : Nat) (x : Int32) : ∀ q, q ≠ 1 → q ≠ 2 → gw_set w 2 i x q = w q := fun q _ h => gw_set_ne _ _ _ _ h

set_option maxHeartbeats 8000000 in
set_option maxRecDepth 100000 in
theorem ok_X2_findWeek_6 {t : cw_s} (o : Nat) (ho6 : o < 6) {n m : Nat} (hI : cw_I n m t) : gw_Ok yX2_findWeek cX2_findWeek 6 (some .boolean) sMH 3 [.ref 3, .int (nI o), .ref 1, .ref 2, .int 6] (fun w => ho (cw_ws 3 w) = t ∧ cw_fwp t (w 1) (cw_td w) o 6) (fun w vr w1 => ∃ x : Int32, vr = some (.int x) ∧ (∀ q, q ≠ 1 → q ≠ 2 → w1 q = w q) ∧ ((¬ x = 0 ∧ cw_fnd t (w 1) (w1 1) (cw_td w) o) ∨ (x = 0 ∧ w1 1 = w 1 ∧ cw_nfd t (w 1) (cw_td w) (cw_td w1) o))) := by
  refine gw_of (by decide) (Nat.le_of_ble_eq_true rfl) ?_
  intro X w h C F
  obtain ⟨h, hp⟩ := h
  refine g_iload C rfl dX2_findWeek_0 ?_
  refine g_bipush (v := 6) C (by decide) dX2_findWeek_2 ?_
  refine g_cmp_le (tgt := 9) C (by decide) dX2_findWeek_4 (fun c_4 => ?_) (fun c_4 => absurd (by decide) c_4)
  refine g_iconst (v := 0) C (by decide) dX2_findWeek_9 ?_
  refine g_istore C (by decide) dX2_findWeek_10 ?_
  refine g_sub rfl (g_for (α := Unit) 20 (fun i9 x => [(0, .ref 3), (1, .int (nI o)), (2, .ref 1), (3, .ref 2), (4, .int 6), (5, .int (nI i9))]) (fun i9 x w1 => (∀ q, q ≠ 2 → w1 q = w q) ∧ cw_lkg t (w 1) (cw_td w) (cw_td w1) o i9) 0 () _ (Nat.zero_le _) (⟨fun _ _ => rfl, cw_lkg_0⟩) (fun i9 x w1 hi1 hR1 ih1 => ?_) (fun x w1 hR1 => ?_))
  · obtain ⟨hf9, hlk⟩ := hR1
    obtain ⟨w9, ew9⟩ : ∃ z, z = w1 := ⟨_, rfl⟩
    rw [← ew9] at hf9 hlk ⊢
    refine g_iload C rfl dX2_findWeek_12 ?_
    refine g_bipush (v := 20) C (by decide) dX2_findWeek_14 ?_
    refine g_cmp_ge (tgt := 93) C (by decide) dX2_findWeek_16 (fun c_16 => absurd c_16 (nI_ge hi1 (by decide))) (fun c_16 => ?_)
    refine g_iload C rfl dX2_findWeek_19 ?_
    refine g_aload_n C rfl dX2_findWeek_21 ?_
    refine g_alen (v := 20) C rfl (by decide) rfl dX2_findWeek_22 ?_
    refine g_cmp_ge (tgt := 93) C (by decide) dX2_findWeek_23 (fun c_23 => absurd c_23 (nI_ge hi1 (by decide))) (fun c_23 => ?_)
    refine g_iload C rfl dX2_findWeek_26 ?_
    refine g_aload_n C rfl dX2_findWeek_28 ?_
    refine g_alen (v := 20) C rfl (by decide) rfl dX2_findWeek_29 ?_
    refine g_cmp_ge (tgt := 93) C (by decide) dX2_findWeek_30 (fun c_30 => absurd c_30 (nI_ge hi1 (by decide))) (fun c_30 => ?_)
    refine g_aload_n C rfl dX2_findWeek_33 ?_
    refine g_iload C rfl dX2_findWeek_34 ?_
    refine g_iald (j := i9) C rfl (rfl) (hi1) (by decide) dX2_findWeek_36 ?_
    refine g_if_ne (tgt := 87) C (by decide) dX2_findWeek_37 (fun c_37 => ?_) (fun c_37 => ?_)
    · refine g_iinc (v := nI (i9 + 1)) C rfl (nI_1 i9) (by decide) dX2_findWeek_87 ?_
      refine g_goto (tgt := 12) C (by decide) dX2_findWeek_90 ?_
      exact g_sub rfl (ih1 () _ ⟨hf9, cw_lkg_s hlk (fun _ => c_37)⟩)
    · have c_37 : ¬ cw_td w9 i9 := fun z => z c_37
      refine g_aload_n C rfl dX2_findWeek_40 ?_
      refine g_iload_n C rfl dX2_findWeek_41 ?_
      refine g_iload C rfl dX2_findWeek_42 ?_
      refine g_callW C cw_emb_HM (ok_X1_reasonAgainst (t := t) (nI o) (nI i9) hI) my_X1_reasonAgainst vi_X2_28 (by decide) ⟨Nat.le_refl _, Nat.le_refl _⟩ rfl ((cw_emb_HM.1 0 (by decide))) rfl (cw_wp 3 14 w9) (cw_wp_i) (cw_wp_o) (cw_ws 3 w9) (fun i _ => rfl) (Nat.le_of_ble_eq_true rfl) dX2_findWeek_44 rfl (by rw [cw_wsq (w := w) (fun q _ q2 => hf9 q q2)]; exact h) (fun v_44 w_44 hp_44 => ?_)
      obtain ⟨rfl, hw_44⟩ := hp_44
      have hw_44 := hw_44.symm; subst hw_44
      rw [cw_wp_self]
      refine g_if_ne (tgt := 87) C (by decide) dX2_findWeek_47 (fun c_47 => ?_) (fun c_47 => ?_)
      · refine g_iinc (v := nI (i9 + 1)) C rfl (nI_1 i9) (by decide) dX2_findWeek_87 ?_
        refine g_goto (tgt := 12) C (by decide) dX2_findWeek_90 ?_
        exact g_sub rfl (ih1 () _ ⟨hf9, cw_lkg_s hlk (fun z => absurd ((cw_frr hI ho6 hi1).mpr z) c_47)⟩)
      · have hed : cw_ed t o i9 := (cw_frr hI ho6 hi1).mp c_47
        have hM1 : (gw_set w9 2 i9 1) 1 = w 1 := by rw [gw_set_ne _ _ _ _ (by decide)]; exact hf9 1 (by decide)
        refine g_aload_n C rfl dX2_findWeek_50 ?_
        refine g_iload C rfl dX2_findWeek_51 ?_
        refine g_iconst (v := 1) C (by decide) dX2_findWeek_53 ?_
        refine g_iast (j := i9) C rfl (rfl) (hi1) (by decide) dX2_findWeek_54 ?_
        refine g_aload_n C rfl dX2_findWeek_55 ?_
        refine g_iload C rfl dX2_findWeek_56 ?_
        refine g_iald (j := i9) C rfl (rfl) (hi1) (by decide) dX2_findWeek_58 ?_
        refine g_top (congrFun hM1 i9) ?_
        refine g_iconst (v := (-1)) C (by decide) dX2_findWeek_59 ?_
        refine g_cmp_eq (tgt := 80) C (by decide) dX2_findWeek_60 (fun c_60 => ?_) (fun c_60 => ?_)
        · refine g_aload_n C rfl dX2_findWeek_80 ?_
          refine g_iload C rfl dX2_findWeek_81 ?_
          refine g_iload_n C rfl dX2_findWeek_83 ?_
          refine g_iast (j := i9) C rfl (rfl) (hi1) (by decide) dX2_findWeek_84 ?_
          refine g_iconst (v := 1) C (by decide) dX2_findWeek_85 ?_
          refine g_zret C F (rfl) dX2_findWeek_86 ?_
          refine ⟨1, rfl, fun q q1 q2 => by rw [gw_set_ne _ _ _ _ q1, gw_set_ne _ _ _ _ q2]; exact hf9 q q2, Or.inl ⟨by decide, ?_⟩⟩
          rw [gw_set_self, hM1]
          exact cw_fnd_0 hp.1 ho6 hp.2.1 hi1 hlk c_37 hed c_60
        · obtain ⟨j, hj, hM, -⟩ := (hp.1.1 i9 hi1).resolve_left c_60
          exact (cw_fwp_7 (cw_fwp_r hp hlk hi1 c_37 hj hM)).elim
  obtain ⟨hf9, hlk⟩ := hR1
  obtain ⟨w9, ew9⟩ : ∃ z, z = w1 := ⟨_, rfl⟩
  rw [← ew9] at hf9 hlk ⊢
  refine g_iload C rfl dX2_findWeek_12 ?_
  refine g_bipush (v := 20) C (by decide) dX2_findWeek_14 ?_
  refine g_cmp_ge (tgt := 93) C (by decide) dX2_findWeek_16 (fun c_16 => ?_) (fun c_16 => absurd (by decide) c_16)
  refine g_iconst (v := 0) C (by decide) dX2_findWeek_93 ?_
  refine g_zret C F (rfl) dX2_findWeek_94 ?_
  exact ⟨0, rfl, fun q _ q2 => hf9 q q2, Or.inr ⟨rfl, hf9 1 (by decide), hlk⟩⟩

set_option maxHeartbeats 8000000 in
set_option maxRecDepth 100000 in
theorem ok_X2_findWeek_5 {t : cw_s} (o : Nat) (ho6 : o < 6) {n m : Nat} (hI : cw_I n m t) : gw_Ok yX2_findWeek cX2_findWeek 6 (some .boolean) sMH 4 [.ref 3, .int (nI o), .ref 1, .ref 2, .int 5] (fun w => ho (cw_ws 3 w) = t ∧ cw_fwp t (w 1) (cw_td w) o 5) (fun w vr w1 => ∃ x : Int32, vr = some (.int x) ∧ (∀ q, q ≠ 1 → q ≠ 2 → w1 q = w q) ∧ ((¬ x = 0 ∧ cw_fnd t (w 1) (w1 1) (cw_td w) o) ∨ (x = 0 ∧ w1 1 = w 1 ∧ cw_nfd t (w 1) (cw_td w) (cw_td w1) o))) := by
  refine gw_of (by decide) (Nat.le_of_ble_eq_true rfl) ?_
  intro X w h C F
  obtain ⟨h, hp⟩ := h
  refine g_iload C rfl dX2_findWeek_0 ?_
  refine g_bipush (v := 6) C (by decide) dX2_findWeek_2 ?_
  refine g_cmp_le (tgt := 9) C (by decide) dX2_findWeek_4 (fun c_4 => ?_) (fun c_4 => absurd (by decide) c_4)
  refine g_iconst (v := 0) C (by decide) dX2_findWeek_9 ?_
  refine g_istore C (by decide) dX2_findWeek_10 ?_
  refine g_sub rfl (g_for (α := Unit) 20 (fun i9 x => [(0, .ref 3), (1, .int (nI o)), (2, .ref 1), (3, .ref 2), (4, .int 5), (5, .int (nI i9))]) (fun i9 x w1 => (∀ q, q ≠ 2 → w1 q = w q) ∧ cw_lkg t (w 1) (cw_td w) (cw_td w1) o i9) 0 () _ (Nat.zero_le _) (⟨fun _ _ => rfl, cw_lkg_0⟩) (fun i9 x w1 hi1 hR1 ih1 => ?_) (fun x w1 hR1 => ?_))
  · obtain ⟨hf9, hlk⟩ := hR1
    obtain ⟨w9, ew9⟩ : ∃ z, z = w1 := ⟨_, rfl⟩
    rw [← ew9] at hf9 hlk ⊢
    refine g_iload C rfl dX2_findWeek_12 ?_
    refine g_bipush (v := 20) C (by decide) dX2_findWeek_14 ?_
    refine g_cmp_ge (tgt := 93) C (by decide) dX2_findWeek_16 (fun c_16 => absurd c_16 (nI_ge hi1 (by decide))) (fun c_16 => ?_)
    refine g_iload C rfl dX2_findWeek_19 ?_
    refine g_aload_n C rfl dX2_findWeek_21 ?_
    refine g_alen (v := 20) C rfl (by decide) rfl dX2_findWeek_22 ?_
    refine g_cmp_ge (tgt := 93) C (by decide) dX2_findWeek_23 (fun c_23 => absurd c_23 (nI_ge hi1 (by decide))) (fun c_23 => ?_)
    refine g_iload C rfl dX2_findWeek_26 ?_
    refine g_aload_n C rfl dX2_findWeek_28 ?_
    refine g_alen (v := 20) C rfl (by decide) rfl dX2_findWeek_29 ?_
    refine g_cmp_ge (tgt := 93) C (by decide) dX2_findWeek_30 (fun c_30 => absurd c_30 (nI_ge hi1 (by decide))) (fun c_30 => ?_)
    refine g_aload_n C rfl dX2_findWeek_33 ?_
    refine g_iload C rfl dX2_findWeek_34 ?_
    refine g_iald (j := i9) C rfl (rfl) (hi1) (by decide) dX2_findWeek_36 ?_
    refine g_if_ne (tgt := 87) C (by decide) dX2_findWeek_37 (fun c_37 => ?_) (fun c_37 => ?_)
    · refine g_iinc (v := nI (i9 + 1)) C rfl (nI_1 i9) (by decide) dX2_findWeek_87 ?_
      refine g_goto (tgt := 12) C (by decide) dX2_findWeek_90 ?_
      exact g_sub rfl (ih1 () _ ⟨hf9, cw_lkg_s hlk (fun _ => c_37)⟩)
    · have c_37 : ¬ cw_td w9 i9 := fun z => z c_37
      refine g_aload_n C rfl dX2_findWeek_40 ?_
      refine g_iload_n C rfl dX2_findWeek_41 ?_
      refine g_iload C rfl dX2_findWeek_42 ?_
      refine g_callW C cw_emb_HM (ok_X1_reasonAgainst (t := t) (nI o) (nI i9) hI) my_X1_reasonAgainst vi_X2_28 (by decide) ⟨Nat.le_refl _, Nat.le_refl _⟩ rfl ((cw_emb_HM.1 0 (by decide))) rfl (cw_wp 3 14 w9) (cw_wp_i) (cw_wp_o) (cw_ws 3 w9) (fun i _ => rfl) (Nat.le_of_ble_eq_true rfl) dX2_findWeek_44 rfl (by rw [cw_wsq (w := w) (fun q _ q2 => hf9 q q2)]; exact h) (fun v_44 w_44 hp_44 => ?_)
      obtain ⟨rfl, hw_44⟩ := hp_44
      have hw_44 := hw_44.symm; subst hw_44
      rw [cw_wp_self]
      refine g_if_ne (tgt := 87) C (by decide) dX2_findWeek_47 (fun c_47 => ?_) (fun c_47 => ?_)
      · refine g_iinc (v := nI (i9 + 1)) C rfl (nI_1 i9) (by decide) dX2_findWeek_87 ?_
        refine g_goto (tgt := 12) C (by decide) dX2_findWeek_90 ?_
        exact g_sub rfl (ih1 () _ ⟨hf9, cw_lkg_s hlk (fun z => absurd ((cw_frr hI ho6 hi1).mpr z) c_47)⟩)
      · have hed : cw_ed t o i9 := (cw_frr hI ho6 hi1).mp c_47
        have hM1 : (gw_set w9 2 i9 1) 1 = w 1 := by rw [gw_set_ne _ _ _ _ (by decide)]; exact hf9 1 (by decide)
        refine g_aload_n C rfl dX2_findWeek_50 ?_
        refine g_iload C rfl dX2_findWeek_51 ?_
        refine g_iconst (v := 1) C (by decide) dX2_findWeek_53 ?_
        refine g_iast (j := i9) C rfl (rfl) (hi1) (by decide) dX2_findWeek_54 ?_
        refine g_aload_n C rfl dX2_findWeek_55 ?_
        refine g_iload C rfl dX2_findWeek_56 ?_
        refine g_iald (j := i9) C rfl (rfl) (hi1) (by decide) dX2_findWeek_58 ?_
        refine g_top (congrFun hM1 i9) ?_
        refine g_iconst (v := (-1)) C (by decide) dX2_findWeek_59 ?_
        refine g_cmp_eq (tgt := 80) C (by decide) dX2_findWeek_60 (fun c_60 => ?_) (fun c_60 => ?_)
        · refine g_aload_n C rfl dX2_findWeek_80 ?_
          refine g_iload C rfl dX2_findWeek_81 ?_
          refine g_iload_n C rfl dX2_findWeek_83 ?_
          refine g_iast (j := i9) C rfl (rfl) (hi1) (by decide) dX2_findWeek_84 ?_
          refine g_iconst (v := 1) C (by decide) dX2_findWeek_85 ?_
          refine g_zret C F (rfl) dX2_findWeek_86 ?_
          refine ⟨1, rfl, fun q q1 q2 => by rw [gw_set_ne _ _ _ _ q1, gw_set_ne _ _ _ _ q2]; exact hf9 q q2, Or.inl ⟨by decide, ?_⟩⟩
          rw [gw_set_self, hM1]
          exact cw_fnd_0 hp.1 ho6 hp.2.1 hi1 hlk c_37 hed c_60
        · obtain ⟨j, hj, hM, -⟩ := (hp.1.1 i9 hi1).resolve_left c_60
          refine g_aload_n C rfl dX2_findWeek_63 ?_
          refine g_aload_n C rfl dX2_findWeek_64 ?_
          refine g_iload C rfl dX2_findWeek_65 ?_
          refine g_iald (j := i9) C rfl (rfl) (hi1) (by decide) dX2_findWeek_67 ?_
          refine g_top ((congrFun hM1 i9).trans hM) ?_
          refine g_aload_n C rfl dX2_findWeek_68 ?_
          refine g_aload_n C rfl dX2_findWeek_69 ?_
          refine g_iload C rfl dX2_findWeek_70 ?_
          refine g_iconst (v := 1) C (by decide) dX2_findWeek_72 ?_
          refine g_iadd C dX2_findWeek_73 ?_
          refine g_top (show _ = 6 by decide) ?_
          refine g_callS C (ok_X2_findWeek_6 j hj hI) my_X2_findWeek si_X2_24 (by decide) ⟨Nat.le_refl _, Nat.le_refl _⟩ rfl (Nat.le_of_ble_eq_true rfl) dX2_findWeek_74 rfl (⟨by rw [cw_wsq (w := w) (fun q q1 q2 => (cw_s2q w9 i9 1 q q1 q2).trans (hf9 q q2))]; exact h, by rw [hM1, cw_tdf]; exact cw_fwp_r hp hlk hi1 c_37 hj hM⟩) (fun v_74 w_74 hp_74 => ?_)
          obtain ⟨x74, rfl, hq74, hc74⟩ := hp_74
          rw [hM1, cw_tdf] at hc74
          refine g_if_eq (tgt := 87) C (by decide) dX2_findWeek_77 (fun c_77 => ?_) (fun c_77 => ?_)
          · refine g_iinc (v := nI (i9 + 1)) C rfl (nI_1 i9) (by decide) dX2_findWeek_87 ?_
            refine g_goto (tgt := 12) C (by decide) dX2_findWeek_90 ?_
            have hn74 := (hc74.resolve_left (fun z => z.1 c_77)).2
            exact g_sub rfl (ih1 () _ ⟨fun q hq => by
              by_cases q1 : q = 1
              · subst q1; exact hn74.1
              · rw [hq74 q q1 hq, gw_set_ne _ _ _ _ hq]; exact hf9 q hq, cw_lkg_n hi1 hlk hj hM hn74.2⟩)
          · refine g_aload_n C rfl dX2_findWeek_80 ?_
            refine g_iload C rfl dX2_findWeek_81 ?_
            refine g_iload_n C rfl dX2_findWeek_83 ?_
            refine g_iast (j := i9) C rfl (rfl) (hi1) (by decide) dX2_findWeek_84 ?_
            refine g_iconst (v := 1) C (by decide) dX2_findWeek_85 ?_
            refine g_zret C F (rfl) dX2_findWeek_86 ?_
            have hs74 := (hc74.resolve_right (fun z => c_77 z.1)).2
            refine ⟨1, rfl, fun q q1 q2 => by rw [gw_set_ne _ _ _ _ q1, hq74 q q1 q2, gw_set_ne _ _ _ _ q2]; exact hf9 q q2, Or.inl ⟨by decide, ?_⟩⟩
            rw [gw_set_self]
            exact cw_fnd_m hp.1 ho6 hp.2.1 hi1 hlk c_37 hed hj hM hs74
  obtain ⟨hf9, hlk⟩ := hR1
  obtain ⟨w9, ew9⟩ : ∃ z, z = w1 := ⟨_, rfl⟩
  rw [← ew9] at hf9 hlk ⊢
  refine g_iload C rfl dX2_findWeek_12 ?_
  refine g_bipush (v := 20) C (by decide) dX2_findWeek_14 ?_
  refine g_cmp_ge (tgt := 93) C (by decide) dX2_findWeek_16 (fun c_16 => ?_) (fun c_16 => absurd (by decide) c_16)
  refine g_iconst (v := 0) C (by decide) dX2_findWeek_93 ?_
  refine g_zret C F (rfl) dX2_findWeek_94 ?_
  exact ⟨0, rfl, fun q _ q2 => hf9 q q2, Or.inr ⟨rfl, hf9 1 (by decide), hlk⟩⟩

set_option maxHeartbeats 8000000 in
set_option maxRecDepth 100000 in
theorem ok_X2_findWeek_4 {t : cw_s} (o : Nat) (ho6 : o < 6) {n m : Nat} (hI : cw_I n m t) : gw_Ok yX2_findWeek cX2_findWeek 6 (some .boolean) sMH 5 [.ref 3, .int (nI o), .ref 1, .ref 2, .int 4] (fun w => ho (cw_ws 3 w) = t ∧ cw_fwp t (w 1) (cw_td w) o 4) (fun w vr w1 => ∃ x : Int32, vr = some (.int x) ∧ (∀ q, q ≠ 1 → q ≠ 2 → w1 q = w q) ∧ ((¬ x = 0 ∧ cw_fnd t (w 1) (w1 1) (cw_td w) o) ∨ (x = 0 ∧ w1 1 = w 1 ∧ cw_nfd t (w 1) (cw_td w) (cw_td w1) o))) := by
  refine gw_of (by decide) (Nat.le_of_ble_eq_true rfl) ?_
  intro X w h C F
  obtain ⟨h, hp⟩ := h
  refine g_iload C rfl dX2_findWeek_0 ?_
  refine g_bipush (v := 6) C (by decide) dX2_findWeek_2 ?_
  refine g_cmp_le (tgt := 9) C (by decide) dX2_findWeek_4 (fun c_4 => ?_) (fun c_4 => absurd (by decide) c_4)
  refine g_iconst (v := 0) C (by decide) dX2_findWeek_9 ?_
  refine g_istore C (by decide) dX2_findWeek_10 ?_
  refine g_sub rfl (g_for (α := Unit) 20 (fun i9 x => [(0, .ref 3), (1, .int (nI o)), (2, .ref 1), (3, .ref 2), (4, .int 4), (5, .int (nI i9))]) (fun i9 x w1 => (∀ q, q ≠ 2 → w1 q = w q) ∧ cw_lkg t (w 1) (cw_td w) (cw_td w1) o i9) 0 () _ (Nat.zero_le _) (⟨fun _ _ => rfl, cw_lkg_0⟩) (fun i9 x w1 hi1 hR1 ih1 => ?_) (fun x w1 hR1 => ?_))
  · obtain ⟨hf9, hlk⟩ := hR1
    obtain ⟨w9, ew9⟩ : ∃ z, z = w1 := ⟨_, rfl⟩
    rw [← ew9] at hf9 hlk ⊢
    refine g_iload C rfl dX2_findWeek_12 ?_
    refine g_bipush (v := 20) C (by decide) dX2_findWeek_14 ?_
    refine g_cmp_ge (tgt := 93) C (by decide) dX2_findWeek_16 (fun c_16 => absurd c_16 (nI_ge hi1 (by decide))) (fun c_16 => ?_)
    refine g_iload C rfl dX2_findWeek_19 ?_
    refine g_aload_n C rfl dX2_findWeek_21 ?_
    refine g_alen (v := 20) C rfl (by decide) rfl dX2_findWeek_22 ?_
    refine g_cmp_ge (tgt := 93) C (by decide) dX2_findWeek_23 (fun c_23 => absurd c_23 (nI_ge hi1 (by decide))) (fun c_23 => ?_)
    refine g_iload C rfl dX2_findWeek_26 ?_
    refine g_aload_n C rfl dX2_findWeek_28 ?_
    refine g_alen (v := 20) C rfl (by decide) rfl dX2_findWeek_29 ?_
    refine g_cmp_ge (tgt := 93) C (by decide) dX2_findWeek_30 (fun c_30 => absurd c_30 (nI_ge hi1 (by decide))) (fun c_30 => ?_)
    refine g_aload_n C rfl dX2_findWeek_33 ?_
    refine g_iload C rfl dX2_findWeek_34 ?_
    refine g_iald (j := i9) C rfl (rfl) (hi1) (by decide) dX2_findWeek_36 ?_
    refine g_if_ne (tgt := 87) C (by decide) dX2_findWeek_37 (fun c_37 => ?_) (fun c_37 => ?_)
    · refine g_iinc (v := nI (i9 + 1)) C rfl (nI_1 i9) (by decide) dX2_findWeek_87 ?_
      refine g_goto (tgt := 12) C (by decide) dX2_findWeek_90 ?_
      exact g_sub rfl (ih1 () _ ⟨hf9, cw_lkg_s hlk (fun _ => c_37)⟩)
    · have c_37 : ¬ cw_td w9 i9 := fun z => z c_37
      refine g_aload_n C rfl dX2_findWeek_40 ?_
      refine g_iload_n C rfl dX2_findWeek_41 ?_
      refine g_iload C rfl dX2_findWeek_42 ?_
      refine g_callW C cw_emb_HM (ok_X1_reasonAgainst (t := t) (nI o) (nI i9) hI) my_X1_reasonAgainst vi_X2_28 (by decide) ⟨Nat.le_refl _, Nat.le_refl _⟩ rfl ((cw_emb_HM.1 0 (by decide))) rfl (cw_wp 3 14 w9) (cw_wp_i) (cw_wp_o) (cw_ws 3 w9) (fun i _ => rfl) (Nat.le_of_ble_eq_true rfl) dX2_findWeek_44 rfl (by rw [cw_wsq (w := w) (fun q _ q2 => hf9 q q2)]; exact h) (fun v_44 w_44 hp_44 => ?_)
      obtain ⟨rfl, hw_44⟩ := hp_44
      have hw_44 := hw_44.symm; subst hw_44
      rw [cw_wp_self]
      refine g_if_ne (tgt := 87) C (by decide) dX2_findWeek_47 (fun c_47 => ?_) (fun c_47 => ?_)
      · refine g_iinc (v := nI (i9 + 1)) C rfl (nI_1 i9) (by decide) dX2_findWeek_87 ?_
        refine g_goto (tgt := 12) C (by decide) dX2_findWeek_90 ?_
        exact g_sub rfl (ih1 () _ ⟨hf9, cw_lkg_s hlk (fun z => absurd ((cw_frr hI ho6 hi1).mpr z) c_47)⟩)
      · have hed : cw_ed t o i9 := (cw_frr hI ho6 hi1).mp c_47
        have hM1 : (gw_set w9 2 i9 1) 1 = w 1 := by rw [gw_set_ne _ _ _ _ (by decide)]; exact hf9 1 (by decide)
        refine g_aload_n C rfl dX2_findWeek_50 ?_
        refine g_iload C rfl dX2_findWeek_51 ?_
        refine g_iconst (v := 1) C (by decide) dX2_findWeek_53 ?_
        refine g_iast (j := i9) C rfl (rfl) (hi1) (by decide) dX2_findWeek_54 ?_
        refine g_aload_n C rfl dX2_findWeek_55 ?_
        refine g_iload C rfl dX2_findWeek_56 ?_
        refine g_iald (j := i9) C rfl (rfl) (hi1) (by decide) dX2_findWeek_58 ?_
        refine g_top (congrFun hM1 i9) ?_
        refine g_iconst (v := (-1)) C (by decide) dX2_findWeek_59 ?_
        refine g_cmp_eq (tgt := 80) C (by decide) dX2_findWeek_60 (fun c_60 => ?_) (fun c_60 => ?_)
        · refine g_aload_n C rfl dX2_findWeek_80 ?_
          refine g_iload C rfl dX2_findWeek_81 ?_
          refine g_iload_n C rfl dX2_findWeek_83 ?_
          refine g_iast (j := i9) C rfl (rfl) (hi1) (by decide) dX2_findWeek_84 ?_
          refine g_iconst (v := 1) C (by decide) dX2_findWeek_85 ?_
          refine g_zret C F (rfl) dX2_findWeek_86 ?_
          refine ⟨1, rfl, fun q q1 q2 => by rw [gw_set_ne _ _ _ _ q1, gw_set_ne _ _ _ _ q2]; exact hf9 q q2, Or.inl ⟨by decide, ?_⟩⟩
          rw [gw_set_self, hM1]
          exact cw_fnd_0 hp.1 ho6 hp.2.1 hi1 hlk c_37 hed c_60
        · obtain ⟨j, hj, hM, -⟩ := (hp.1.1 i9 hi1).resolve_left c_60
          refine g_aload_n C rfl dX2_findWeek_63 ?_
          refine g_aload_n C rfl dX2_findWeek_64 ?_
          refine g_iload C rfl dX2_findWeek_65 ?_
          refine g_iald (j := i9) C rfl (rfl) (hi1) (by decide) dX2_findWeek_67 ?_
          refine g_top ((congrFun hM1 i9).trans hM) ?_
          refine g_aload_n C rfl dX2_findWeek_68 ?_
          refine g_aload_n C rfl dX2_findWeek_69 ?_
          refine g_iload C rfl dX2_findWeek_70 ?_
          refine g_iconst (v := 1) C (by decide) dX2_findWeek_72 ?_
          refine g_iadd C dX2_findWeek_73 ?_
          refine g_top (show _ = 5 by decide) ?_
          refine g_callS C (ok_X2_findWeek_5 j hj hI) my_X2_findWeek si_X2_24 (by decide) ⟨Nat.le_refl _, Nat.le_refl _⟩ rfl (Nat.le_of_ble_eq_true rfl) dX2_findWeek_74 rfl (⟨by rw [cw_wsq (w := w) (fun q q1 q2 => (cw_s2q w9 i9 1 q q1 q2).trans (hf9 q q2))]; exact h, by rw [hM1, cw_tdf]; exact cw_fwp_r hp hlk hi1 c_37 hj hM⟩) (fun v_74 w_74 hp_74 => ?_)
          obtain ⟨x74, rfl, hq74, hc74⟩ := hp_74
          rw [hM1, cw_tdf] at hc74
          refine g_if_eq (tgt := 87) C (by decide) dX2_findWeek_77 (fun c_77 => ?_) (fun c_77 => ?_)
          · refine g_iinc (v := nI (i9 + 1)) C rfl (nI_1 i9) (by decide) dX2_findWeek_87 ?_
            refine g_goto (tgt := 12) C (by decide) dX2_findWeek_90 ?_
            have hn74 := (hc74.resolve_left (fun z => z.1 c_77)).2
            exact g_sub rfl (ih1 () _ ⟨fun q hq => by
              by_cases q1 : q = 1
              · subst q1; exact hn74.1
              · rw [hq74 q q1 hq, gw_set_ne _ _ _ _ hq]; exact hf9 q hq, cw_lkg_n hi1 hlk hj hM hn74.2⟩)
          · refine g_aload_n C rfl dX2_findWeek_80 ?_
            refine g_iload C rfl dX2_findWeek_81 ?_
            refine g_iload_n C rfl dX2_findWeek_83 ?_
            refine g_iast (j := i9) C rfl (rfl) (hi1) (by decide) dX2_findWeek_84 ?_
            refine g_iconst (v := 1) C (by decide) dX2_findWeek_85 ?_
            refine g_zret C F (rfl) dX2_findWeek_86 ?_
            have hs74 := (hc74.resolve_right (fun z => c_77 z.1)).2
            refine ⟨1, rfl, fun q q1 q2 => by rw [gw_set_ne _ _ _ _ q1, hq74 q q1 q2, gw_set_ne _ _ _ _ q2]; exact hf9 q q2, Or.inl ⟨by decide, ?_⟩⟩
            rw [gw_set_self]
            exact cw_fnd_m hp.1 ho6 hp.2.1 hi1 hlk c_37 hed hj hM hs74
  obtain ⟨hf9, hlk⟩ := hR1
  obtain ⟨w9, ew9⟩ : ∃ z, z = w1 := ⟨_, rfl⟩
  rw [← ew9] at hf9 hlk ⊢
  refine g_iload C rfl dX2_findWeek_12 ?_
  refine g_bipush (v := 20) C (by decide) dX2_findWeek_14 ?_
  refine g_cmp_ge (tgt := 93) C (by decide) dX2_findWeek_16 (fun c_16 => ?_) (fun c_16 => absurd (by decide) c_16)
  refine g_iconst (v := 0) C (by decide) dX2_findWeek_93 ?_
  refine g_zret C F (rfl) dX2_findWeek_94 ?_
  exact ⟨0, rfl, fun q _ q2 => hf9 q q2, Or.inr ⟨rfl, hf9 1 (by decide), hlk⟩⟩

set_option maxHeartbeats 8000000 in
set_option maxRecDepth 100000 in
theorem ok_X2_findWeek_3 {t : cw_s} (o : Nat) (ho6 : o < 6) {n m : Nat} (hI : cw_I n m t) : gw_Ok yX2_findWeek cX2_findWeek 6 (some .boolean) sMH 6 [.ref 3, .int (nI o), .ref 1, .ref 2, .int 3] (fun w => ho (cw_ws 3 w) = t ∧ cw_fwp t (w 1) (cw_td w) o 3) (fun w vr w1 => ∃ x : Int32, vr = some (.int x) ∧ (∀ q, q ≠ 1 → q ≠ 2 → w1 q = w q) ∧ ((¬ x = 0 ∧ cw_fnd t (w 1) (w1 1) (cw_td w) o) ∨ (x = 0 ∧ w1 1 = w 1 ∧ cw_nfd t (w 1) (cw_td w) (cw_td w1) o))) := by
  refine gw_of (by decide) (Nat.le_of_ble_eq_true rfl) ?_
  intro X w h C F
  obtain ⟨h, hp⟩ := h
  refine g_iload C rfl dX2_findWeek_0 ?_
  refine g_bipush (v := 6) C (by decide) dX2_findWeek_2 ?_
  refine g_cmp_le (tgt := 9) C (by decide) dX2_findWeek_4 (fun c_4 => ?_) (fun c_4 => absurd (by decide) c_4)
  refine g_iconst (v := 0) C (by decide) dX2_findWeek_9 ?_
  refine g_istore C (by decide) dX2_findWeek_10 ?_
  refine g_sub rfl (g_for (α := Unit) 20 (fun i9 x => [(0, .ref 3), (1, .int (nI o)), (2, .ref 1), (3, .ref 2), (4, .int 3), (5, .int (nI i9))]) (fun i9 x w1 => (∀ q, q ≠ 2 → w1 q = w q) ∧ cw_lkg t (w 1) (cw_td w) (cw_td w1) o i9) 0 () _ (Nat.zero_le _) (⟨fun _ _ => rfl, cw_lkg_0⟩) (fun i9 x w1 hi1 hR1 ih1 => ?_) (fun x w1 hR1 => ?_))
  · obtain ⟨hf9, hlk⟩ := hR1
    obtain ⟨w9, ew9⟩ : ∃ z, z = w1 := ⟨_, rfl⟩
    rw [← ew9] at hf9 hlk ⊢
    refine g_iload C rfl dX2_findWeek_12 ?_
    refine g_bipush (v := 20) C (by decide) dX2_findWeek_14 ?_
    refine g_cmp_ge (tgt := 93) C (by decide) dX2_findWeek_16 (fun c_16 => absurd c_16 (nI_ge hi1 (by decide))) (fun c_16 => ?_)
    refine g_iload C rfl dX2_findWeek_19 ?_
    refine g_aload_n C rfl dX2_findWeek_21 ?_
    refine g_alen (v := 20) C rfl (by decide) rfl dX2_findWeek_22 ?_
    refine g_cmp_ge (tgt := 93) C (by decide) dX2_findWeek_23 (fun c_23 => absurd c_23 (nI_ge hi1 (by decide))) (fun c_23 => ?_)
    refine g_iload C rfl dX2_findWeek_26 ?_
    refine g_aload_n C rfl dX2_findWeek_28 ?_
    refine g_alen (v := 20) C rfl (by decide) rfl dX2_findWeek_29 ?_
    refine g_cmp_ge (tgt := 93) C (by decide) dX2_findWeek_30 (fun c_30 => absurd c_30 (nI_ge hi1 (by decide))) (fun c_30 => ?_)
    refine g_aload_n C rfl dX2_findWeek_33 ?_
    refine g_iload C rfl dX2_findWeek_34 ?_
    refine g_iald (j := i9) C rfl (rfl) (hi1) (by decide) dX2_findWeek_36 ?_
    refine g_if_ne (tgt := 87) C (by decide) dX2_findWeek_37 (fun c_37 => ?_) (fun c_37 => ?_)
    · refine g_iinc (v := nI (i9 + 1)) C rfl (nI_1 i9) (by decide) dX2_findWeek_87 ?_
      refine g_goto (tgt := 12) C (by decide) dX2_findWeek_90 ?_
      exact g_sub rfl (ih1 () _ ⟨hf9, cw_lkg_s hlk (fun _ => c_37)⟩)
    · have c_37 : ¬ cw_td w9 i9 := fun z => z c_37
      refine g_aload_n C rfl dX2_findWeek_40 ?_
      refine g_iload_n C rfl dX2_findWeek_41 ?_
      refine g_iload C rfl dX2_findWeek_42 ?_
      refine g_callW C cw_emb_HM (ok_X1_reasonAgainst (t := t) (nI o) (nI i9) hI) my_X1_reasonAgainst vi_X2_28 (by decide) ⟨Nat.le_refl _, Nat.le_refl _⟩ rfl ((cw_emb_HM.1 0 (by decide))) rfl (cw_wp 3 14 w9) (cw_wp_i) (cw_wp_o) (cw_ws 3 w9) (fun i _ => rfl) (Nat.le_of_ble_eq_true rfl) dX2_findWeek_44 rfl (by rw [cw_wsq (w := w) (fun q _ q2 => hf9 q q2)]; exact h) (fun v_44 w_44 hp_44 => ?_)
      obtain ⟨rfl, hw_44⟩ := hp_44
      have hw_44 := hw_44.symm; subst hw_44
      rw [cw_wp_self]
      refine g_if_ne (tgt := 87) C (by decide) dX2_findWeek_47 (fun c_47 => ?_) (fun c_47 => ?_)
      · refine g_iinc (v := nI (i9 + 1)) C rfl (nI_1 i9) (by decide) dX2_findWeek_87 ?_
        refine g_goto (tgt := 12) C (by decide) dX2_findWeek_90 ?_
        exact g_sub rfl (ih1 () _ ⟨hf9, cw_lkg_s hlk (fun z => absurd ((cw_frr hI ho6 hi1).mpr z) c_47)⟩)
      · have hed : cw_ed t o i9 := (cw_frr hI ho6 hi1).mp c_47
        have hM1 : (gw_set w9 2 i9 1) 1 = w 1 := by rw [gw_set_ne _ _ _ _ (by decide)]; exact hf9 1 (by decide)
        refine g_aload_n C rfl dX2_findWeek_50 ?_
        refine g_iload C rfl dX2_findWeek_51 ?_
        refine g_iconst (v := 1) C (by decide) dX2_findWeek_53 ?_
        refine g_iast (j := i9) C rfl (rfl) (hi1) (by decide) dX2_findWeek_54 ?_
        refine g_aload_n C rfl dX2_findWeek_55 ?_
        refine g_iload C rfl dX2_findWeek_56 ?_
        refine g_iald (j := i9) C rfl (rfl) (hi1) (by decide) dX2_findWeek_58 ?_
        refine g_top (congrFun hM1 i9) ?_
        refine g_iconst (v := (-1)) C (by decide) dX2_findWeek_59 ?_
        refine g_cmp_eq (tgt := 80) C (by decide) dX2_findWeek_60 (fun c_60 => ?_) (fun c_60 => ?_)
        · refine g_aload_n C rfl dX2_findWeek_80 ?_
          refine g_iload C rfl dX2_findWeek_81 ?_
          refine g_iload_n C rfl dX2_findWeek_83 ?_
          refine g_iast (j := i9) C rfl (rfl) (hi1) (by decide) dX2_findWeek_84 ?_
          refine g_iconst (v := 1) C (by decide) dX2_findWeek_85 ?_
          refine g_zret C F (rfl) dX2_findWeek_86 ?_
          refine ⟨1, rfl, fun q q1 q2 => by rw [gw_set_ne _ _ _ _ q1, gw_set_ne _ _ _ _ q2]; exact hf9 q q2, Or.inl ⟨by decide, ?_⟩⟩
          rw [gw_set_self, hM1]
          exact cw_fnd_0 hp.1 ho6 hp.2.1 hi1 hlk c_37 hed c_60
        · obtain ⟨j, hj, hM, -⟩ := (hp.1.1 i9 hi1).resolve_left c_60
          refine g_aload_n C rfl dX2_findWeek_63 ?_
          refine g_aload_n C rfl dX2_findWeek_64 ?_
          refine g_iload C rfl dX2_findWeek_65 ?_
          refine g_iald (j := i9) C rfl (rfl) (hi1) (by decide) dX2_findWeek_67 ?_
          refine g_top ((congrFun hM1 i9).trans hM) ?_
          refine g_aload_n C rfl dX2_findWeek_68 ?_
          refine g_aload_n C rfl dX2_findWeek_69 ?_
          refine g_iload C rfl dX2_findWeek_70 ?_
          refine g_iconst (v := 1) C (by decide) dX2_findWeek_72 ?_
          refine g_iadd C dX2_findWeek_73 ?_
          refine g_top (show _ = 4 by decide) ?_
          refine g_callS C (ok_X2_findWeek_4 j hj hI) my_X2_findWeek si_X2_24 (by decide) ⟨Nat.le_refl _, Nat.le_refl _⟩ rfl (Nat.le_of_ble_eq_true rfl) dX2_findWeek_74 rfl (⟨by rw [cw_wsq (w := w) (fun q q1 q2 => (cw_s2q w9 i9 1 q q1 q2).trans (hf9 q q2))]; exact h, by rw [hM1, cw_tdf]; exact cw_fwp_r hp hlk hi1 c_37 hj hM⟩) (fun v_74 w_74 hp_74 => ?_)
          obtain ⟨x74, rfl, hq74, hc74⟩ := hp_74
          rw [hM1, cw_tdf] at hc74
          refine g_if_eq (tgt := 87) C (by decide) dX2_findWeek_77 (fun c_77 => ?_) (fun c_77 => ?_)
          · refine g_iinc (v := nI (i9 + 1)) C rfl (nI_1 i9) (by decide) dX2_findWeek_87 ?_
            refine g_goto (tgt := 12) C (by decide) dX2_findWeek_90 ?_
            have hn74 := (hc74.resolve_left (fun z => z.1 c_77)).2
            exact g_sub rfl (ih1 () _ ⟨fun q hq => by
              by_cases q1 : q = 1
              · subst q1; exact hn74.1
              · rw [hq74 q q1 hq, gw_set_ne _ _ _ _ hq]; exact hf9 q hq, cw_lkg_n hi1 hlk hj hM hn74.2⟩)
          · refine g_aload_n C rfl dX2_findWeek_80 ?_
            refine g_iload C rfl dX2_findWeek_81 ?_
            refine g_iload_n C rfl dX2_findWeek_83 ?_
            refine g_iast (j := i9) C rfl (rfl) (hi1) (by decide) dX2_findWeek_84 ?_
            refine g_iconst (v := 1) C (by decide) dX2_findWeek_85 ?_
            refine g_zret C F (rfl) dX2_findWeek_86 ?_
            have hs74 := (hc74.resolve_right (fun z => c_77 z.1)).2
            refine ⟨1, rfl, fun q q1 q2 => by rw [gw_set_ne _ _ _ _ q1, hq74 q q1 q2, gw_set_ne _ _ _ _ q2]; exact hf9 q q2, Or.inl ⟨by decide, ?_⟩⟩
            rw [gw_set_self]
            exact cw_fnd_m hp.1 ho6 hp.2.1 hi1 hlk c_37 hed hj hM hs74
  obtain ⟨hf9, hlk⟩ := hR1
  obtain ⟨w9, ew9⟩ : ∃ z, z = w1 := ⟨_, rfl⟩
  rw [← ew9] at hf9 hlk ⊢
  refine g_iload C rfl dX2_findWeek_12 ?_
  refine g_bipush (v := 20) C (by decide) dX2_findWeek_14 ?_
  refine g_cmp_ge (tgt := 93) C (by decide) dX2_findWeek_16 (fun c_16 => ?_) (fun c_16 => absurd (by decide) c_16)
  refine g_iconst (v := 0) C (by decide) dX2_findWeek_93 ?_
  refine g_zret C F (rfl) dX2_findWeek_94 ?_
  exact ⟨0, rfl, fun q _ q2 => hf9 q q2, Or.inr ⟨rfl, hf9 1 (by decide), hlk⟩⟩

set_option maxHeartbeats 8000000 in
set_option maxRecDepth 100000 in
theorem ok_X2_findWeek_2 {t : cw_s} (o : Nat) (ho6 : o < 6) {n m : Nat} (hI : cw_I n m t) : gw_Ok yX2_findWeek cX2_findWeek 6 (some .boolean) sMH 7 [.ref 3, .int (nI o), .ref 1, .ref 2, .int 2] (fun w => ho (cw_ws 3 w) = t ∧ cw_fwp t (w 1) (cw_td w) o 2) (fun w vr w1 => ∃ x : Int32, vr = some (.int x) ∧ (∀ q, q ≠ 1 → q ≠ 2 → w1 q = w q) ∧ ((¬ x = 0 ∧ cw_fnd t (w 1) (w1 1) (cw_td w) o) ∨ (x = 0 ∧ w1 1 = w 1 ∧ cw_nfd t (w 1) (cw_td w) (cw_td w1) o))) := by
  refine gw_of (by decide) (Nat.le_of_ble_eq_true rfl) ?_
  intro X w h C F
  obtain ⟨h, hp⟩ := h
  refine g_iload C rfl dX2_findWeek_0 ?_
  refine g_bipush (v := 6) C (by decide) dX2_findWeek_2 ?_
  refine g_cmp_le (tgt := 9) C (by decide) dX2_findWeek_4 (fun c_4 => ?_) (fun c_4 => absurd (by decide) c_4)
  refine g_iconst (v := 0) C (by decide) dX2_findWeek_9 ?_
  refine g_istore C (by decide) dX2_findWeek_10 ?_
  refine g_sub rfl (g_for (α := Unit) 20 (fun i9 x => [(0, .ref 3), (1, .int (nI o)), (2, .ref 1), (3, .ref 2), (4, .int 2), (5, .int (nI i9))]) (fun i9 x w1 => (∀ q, q ≠ 2 → w1 q = w q) ∧ cw_lkg t (w 1) (cw_td w) (cw_td w1) o i9) 0 () _ (Nat.zero_le _) (⟨fun _ _ => rfl, cw_lkg_0⟩) (fun i9 x w1 hi1 hR1 ih1 => ?_) (fun x w1 hR1 => ?_))
  · obtain ⟨hf9, hlk⟩ := hR1
    obtain ⟨w9, ew9⟩ : ∃ z, z = w1 := ⟨_, rfl⟩
    rw [← ew9] at hf9 hlk ⊢
    refine g_iload C rfl dX2_findWeek_12 ?_
    refine g_bipush (v := 20) C (by decide) dX2_findWeek_14 ?_
    refine g_cmp_ge (tgt := 93) C (by decide) dX2_findWeek_16 (fun c_16 => absurd c_16 (nI_ge hi1 (by decide))) (fun c_16 => ?_)
    refine g_iload C rfl dX2_findWeek_19 ?_
    refine g_aload_n C rfl dX2_findWeek_21 ?_
    refine g_alen (v := 20) C rfl (by decide) rfl dX2_findWeek_22 ?_
    refine g_cmp_ge (tgt := 93) C (by decide) dX2_findWeek_23 (fun c_23 => absurd c_23 (nI_ge hi1 (by decide))) (fun c_23 => ?_)
    refine g_iload C rfl dX2_findWeek_26 ?_
    refine g_aload_n C rfl dX2_findWeek_28 ?_
    refine g_alen (v := 20) C rfl (by decide) rfl dX2_findWeek_29 ?_
    refine g_cmp_ge (tgt := 93) C (by decide) dX2_findWeek_30 (fun c_30 => absurd c_30 (nI_ge hi1 (by decide))) (fun c_30 => ?_)
    refine g_aload_n C rfl dX2_findWeek_33 ?_
    refine g_iload C rfl dX2_findWeek_34 ?_
    refine g_iald (j := i9) C rfl (rfl) (hi1) (by decide) dX2_findWeek_36 ?_
    refine g_if_ne (tgt := 87) C (by decide) dX2_findWeek_37 (fun c_37 => ?_) (fun c_37 => ?_)
    · refine g_iinc (v := nI (i9 + 1)) C rfl (nI_1 i9) (by decide) dX2_findWeek_87 ?_
      refine g_goto (tgt := 12) C (by decide) dX2_findWeek_90 ?_
      exact g_sub rfl (ih1 () _ ⟨hf9, cw_lkg_s hlk (fun _ => c_37)⟩)
    · have c_37 : ¬ cw_td w9 i9 := fun z => z c_37
      refine g_aload_n C rfl dX2_findWeek_40 ?_
      refine g_iload_n C rfl dX2_findWeek_41 ?_
      refine g_iload C rfl dX2_findWeek_42 ?_
      refine g_callW C cw_emb_HM (ok_X1_reasonAgainst (t := t) (nI o) (nI i9) hI) my_X1_reasonAgainst vi_X2_28 (by decide) ⟨Nat.le_refl _, Nat.le_refl _⟩ rfl ((cw_emb_HM.1 0 (by decide))) rfl (cw_wp 3 14 w9) (cw_wp_i) (cw_wp_o) (cw_ws 3 w9) (fun i _ => rfl) (Nat.le_of_ble_eq_true rfl) dX2_findWeek_44 rfl (by rw [cw_wsq (w := w) (fun q _ q2 => hf9 q q2)]; exact h) (fun v_44 w_44 hp_44 => ?_)
      obtain ⟨rfl, hw_44⟩ := hp_44
      have hw_44 := hw_44.symm; subst hw_44
      rw [cw_wp_self]
      refine g_if_ne (tgt := 87) C (by decide) dX2_findWeek_47 (fun c_47 => ?_) (fun c_47 => ?_)
      · refine g_iinc (v := nI (i9 + 1)) C rfl (nI_1 i9) (by decide) dX2_findWeek_87 ?_
        refine g_goto (tgt := 12) C (by decide) dX2_findWeek_90 ?_
        exact g_sub rfl (ih1 () _ ⟨hf9, cw_lkg_s hlk (fun z => absurd ((cw_frr hI ho6 hi1).mpr z) c_47)⟩)
      · have hed : cw_ed t o i9 := (cw_frr hI ho6 hi1).mp c_47
        have hM1 : (gw_set w9 2 i9 1) 1 = w 1 := by rw [gw_set_ne _ _ _ _ (by decide)]; exact hf9 1 (by decide)
        refine g_aload_n C rfl dX2_findWeek_50 ?_
        refine g_iload C rfl dX2_findWeek_51 ?_
        refine g_iconst (v := 1) C (by decide) dX2_findWeek_53 ?_
        refine g_iast (j := i9) C rfl (rfl) (hi1) (by decide) dX2_findWeek_54 ?_
        refine g_aload_n C rfl dX2_findWeek_55 ?_
        refine g_iload C rfl dX2_findWeek_56 ?_
        refine g_iald (j := i9) C rfl (rfl) (hi1) (by decide) dX2_findWeek_58 ?_
        refine g_top (congrFun hM1 i9) ?_
        refine g_iconst (v := (-1)) C (by decide) dX2_findWeek_59 ?_
        refine g_cmp_eq (tgt := 80) C (by decide) dX2_findWeek_60 (fun c_60 => ?_) (fun c_60 => ?_)
        · refine g_aload_n C rfl dX2_findWeek_80 ?_
          refine g_iload C rfl dX2_findWeek_81 ?_
          refine g_iload_n C rfl dX2_findWeek_83 ?_
          refine g_iast (j := i9) C rfl (rfl) (hi1) (by decide) dX2_findWeek_84 ?_
          refine g_iconst (v := 1) C (by decide) dX2_findWeek_85 ?_
          refine g_zret C F (rfl) dX2_findWeek_86 ?_
          refine ⟨1, rfl, fun q q1 q2 => by rw [gw_set_ne _ _ _ _ q1, gw_set_ne _ _ _ _ q2]; exact hf9 q q2, Or.inl ⟨by decide, ?_⟩⟩
          rw [gw_set_self, hM1]
          exact cw_fnd_0 hp.1 ho6 hp.2.1 hi1 hlk c_37 hed c_60
        · obtain ⟨j, hj, hM, -⟩ := (hp.1.1 i9 hi1).resolve_left c_60
          refine g_aload_n C rfl dX2_findWeek_63 ?_
          refine g_aload_n C rfl dX2_findWeek_64 ?_
          refine g_iload C rfl dX2_findWeek_65 ?_
          refine g_iald (j := i9) C rfl (rfl) (hi1) (by decide) dX2_findWeek_67 ?_
          refine g_top ((congrFun hM1 i9).trans hM) ?_
          refine g_aload_n C rfl dX2_findWeek_68 ?_
          refine g_aload_n C rfl dX2_findWeek_69 ?_
          refine g_iload C rfl dX2_findWeek_70 ?_
          refine g_iconst (v := 1) C (by decide) dX2_findWeek_72 ?_
          refine g_iadd C dX2_findWeek_73 ?_
          refine g_top (show _ = 3 by decide) ?_
          refine g_callS C (ok_X2_findWeek_3 j hj hI) my_X2_findWeek si_X2_24 (by decide) ⟨Nat.le_refl _, Nat.le_refl _⟩ rfl (Nat.le_of_ble_eq_true rfl) dX2_findWeek_74 rfl (⟨by rw [cw_wsq (w := w) (fun q q1 q2 => (cw_s2q w9 i9 1 q q1 q2).trans (hf9 q q2))]; exact h, by rw [hM1, cw_tdf]; exact cw_fwp_r hp hlk hi1 c_37 hj hM⟩) (fun v_74 w_74 hp_74 => ?_)
          obtain ⟨x74, rfl, hq74, hc74⟩ := hp_74
          rw [hM1, cw_tdf] at hc74
          refine g_if_eq (tgt := 87) C (by decide) dX2_findWeek_77 (fun c_77 => ?_) (fun c_77 => ?_)
          · refine g_iinc (v := nI (i9 + 1)) C rfl (nI_1 i9) (by decide) dX2_findWeek_87 ?_
            refine g_goto (tgt := 12) C (by decide) dX2_findWeek_90 ?_
            have hn74 := (hc74.resolve_left (fun z => z.1 c_77)).2
            exact g_sub rfl (ih1 () _ ⟨fun q hq => by
              by_cases q1 : q = 1
              · subst q1; exact hn74.1
              · rw [hq74 q q1 hq, gw_set_ne _ _ _ _ hq]; exact hf9 q hq, cw_lkg_n hi1 hlk hj hM hn74.2⟩)
          · refine g_aload_n C rfl dX2_findWeek_80 ?_
            refine g_iload C rfl dX2_findWeek_81 ?_
            refine g_iload_n C rfl dX2_findWeek_83 ?_
            refine g_iast (j := i9) C rfl (rfl) (hi1) (by decide) dX2_findWeek_84 ?_
            refine g_iconst (v := 1) C (by decide) dX2_findWeek_85 ?_
            refine g_zret C F (rfl) dX2_findWeek_86 ?_
            have hs74 := (hc74.resolve_right (fun z => c_77 z.1)).2
            refine ⟨1, rfl, fun q q1 q2 => by rw [gw_set_ne _ _ _ _ q1, hq74 q q1 q2, gw_set_ne _ _ _ _ q2]; exact hf9 q q2, Or.inl ⟨by decide, ?_⟩⟩
            rw [gw_set_self]
            exact cw_fnd_m hp.1 ho6 hp.2.1 hi1 hlk c_37 hed hj hM hs74
  obtain ⟨hf9, hlk⟩ := hR1
  obtain ⟨w9, ew9⟩ : ∃ z, z = w1 := ⟨_, rfl⟩
  rw [← ew9] at hf9 hlk ⊢
  refine g_iload C rfl dX2_findWeek_12 ?_
  refine g_bipush (v := 20) C (by decide) dX2_findWeek_14 ?_
  refine g_cmp_ge (tgt := 93) C (by decide) dX2_findWeek_16 (fun c_16 => ?_) (fun c_16 => absurd (by decide) c_16)
  refine g_iconst (v := 0) C (by decide) dX2_findWeek_93 ?_
  refine g_zret C F (rfl) dX2_findWeek_94 ?_
  exact ⟨0, rfl, fun q _ q2 => hf9 q q2, Or.inr ⟨rfl, hf9 1 (by decide), hlk⟩⟩

set_option maxHeartbeats 8000000 in
set_option maxRecDepth 100000 in
theorem ok_X2_findWeek_1 {t : cw_s} (o : Nat) (ho6 : o < 6) {n m : Nat} (hI : cw_I n m t) : gw_Ok yX2_findWeek cX2_findWeek 6 (some .boolean) sMH 8 [.ref 3, .int (nI o), .ref 1, .ref 2, .int 1] (fun w => ho (cw_ws 3 w) = t ∧ cw_fwp t (w 1) (cw_td w) o 1) (fun w vr w1 => ∃ x : Int32, vr = some (.int x) ∧ (∀ q, q ≠ 1 → q ≠ 2 → w1 q = w q) ∧ ((¬ x = 0 ∧ cw_fnd t (w 1) (w1 1) (cw_td w) o) ∨ (x = 0 ∧ w1 1 = w 1 ∧ cw_nfd t (w 1) (cw_td w) (cw_td w1) o))) := by
  refine gw_of (by decide) (Nat.le_of_ble_eq_true rfl) ?_
  intro X w h C F
  obtain ⟨h, hp⟩ := h
  refine g_iload C rfl dX2_findWeek_0 ?_
  refine g_bipush (v := 6) C (by decide) dX2_findWeek_2 ?_
  refine g_cmp_le (tgt := 9) C (by decide) dX2_findWeek_4 (fun c_4 => ?_) (fun c_4 => absurd (by decide) c_4)
  refine g_iconst (v := 0) C (by decide) dX2_findWeek_9 ?_
  refine g_istore C (by decide) dX2_findWeek_10 ?_
  refine g_sub rfl (g_for (α := Unit) 20 (fun i9 x => [(0, .ref 3), (1, .int (nI o)), (2, .ref 1), (3, .ref 2), (4, .int 1), (5, .int (nI i9))]) (fun i9 x w1 => (∀ q, q ≠ 2 → w1 q = w q) ∧ cw_lkg t (w 1) (cw_td w) (cw_td w1) o i9) 0 () _ (Nat.zero_le _) (⟨fun _ _ => rfl, cw_lkg_0⟩) (fun i9 x w1 hi1 hR1 ih1 => ?_) (fun x w1 hR1 => ?_))
  · obtain ⟨hf9, hlk⟩ := hR1
    obtain ⟨w9, ew9⟩ : ∃ z, z = w1 := ⟨_, rfl⟩
    rw [← ew9] at hf9 hlk ⊢
    refine g_iload C rfl dX2_findWeek_12 ?_
    refine g_bipush (v := 20) C (by decide) dX2_findWeek_14 ?_
    refine g_cmp_ge (tgt := 93) C (by decide) dX2_findWeek_16 (fun c_16 => absurd c_16 (nI_ge hi1 (by decide))) (fun c_16 => ?_)
    refine g_iload C rfl dX2_findWeek_19 ?_
    refine g_aload_n C rfl dX2_findWeek_21 ?_
    refine g_alen (v := 20) C rfl (by decide) rfl dX2_findWeek_22 ?_
    refine g_cmp_ge (tgt := 93) C (by decide) dX2_findWeek_23 (fun c_23 => absurd c_23 (nI_ge hi1 (by decide))) (fun c_23 => ?_)
    refine g_iload C rfl dX2_findWeek_26 ?_
    refine g_aload_n C rfl dX2_findWeek_28 ?_
    refine g_alen (v := 20) C rfl (by decide) rfl dX2_findWeek_29 ?_
    refine g_cmp_ge (tgt := 93) C (by decide) dX2_findWeek_30 (fun c_30 => absurd c_30 (nI_ge hi1 (by decide))) (fun c_30 => ?_)
    refine g_aload_n C rfl dX2_findWeek_33 ?_
    refine g_iload C rfl dX2_findWeek_34 ?_
    refine g_iald (j := i9) C rfl (rfl) (hi1) (by decide) dX2_findWeek_36 ?_
    refine g_if_ne (tgt := 87) C (by decide) dX2_findWeek_37 (fun c_37 => ?_) (fun c_37 => ?_)
    · refine g_iinc (v := nI (i9 + 1)) C rfl (nI_1 i9) (by decide) dX2_findWeek_87 ?_
      refine g_goto (tgt := 12) C (by decide) dX2_findWeek_90 ?_
      exact g_sub rfl (ih1 () _ ⟨hf9, cw_lkg_s hlk (fun _ => c_37)⟩)
    · have c_37 : ¬ cw_td w9 i9 := fun z => z c_37
      refine g_aload_n C rfl dX2_findWeek_40 ?_
      refine g_iload_n C rfl dX2_findWeek_41 ?_
      refine g_iload C rfl dX2_findWeek_42 ?_
      refine g_callW C cw_emb_HM (ok_X1_reasonAgainst (t := t) (nI o) (nI i9) hI) my_X1_reasonAgainst vi_X2_28 (by decide) ⟨Nat.le_refl _, Nat.le_refl _⟩ rfl ((cw_emb_HM.1 0 (by decide))) rfl (cw_wp 3 14 w9) (cw_wp_i) (cw_wp_o) (cw_ws 3 w9) (fun i _ => rfl) (Nat.le_of_ble_eq_true rfl) dX2_findWeek_44 rfl (by rw [cw_wsq (w := w) (fun q _ q2 => hf9 q q2)]; exact h) (fun v_44 w_44 hp_44 => ?_)
      obtain ⟨rfl, hw_44⟩ := hp_44
      have hw_44 := hw_44.symm; subst hw_44
      rw [cw_wp_self]
      refine g_if_ne (tgt := 87) C (by decide) dX2_findWeek_47 (fun c_47 => ?_) (fun c_47 => ?_)
      · refine g_iinc (v := nI (i9 + 1)) C rfl (nI_1 i9) (by decide) dX2_findWeek_87 ?_
        refine g_goto (tgt := 12) C (by decide) dX2_findWeek_90 ?_
        exact g_sub rfl (ih1 () _ ⟨hf9, cw_lkg_s hlk (fun z => absurd ((cw_frr hI ho6 hi1).mpr z) c_47)⟩)
      · have hed : cw_ed t o i9 := (cw_frr hI ho6 hi1).mp c_47
        have hM1 : (gw_set w9 2 i9 1) 1 = w 1 := by rw [gw_set_ne _ _ _ _ (by decide)]; exact hf9 1 (by decide)
        refine g_aload_n C rfl dX2_findWeek_50 ?_
        refine g_iload C rfl dX2_findWeek_51 ?_
        refine g_iconst (v := 1) C (by decide) dX2_findWeek_53 ?_
        refine g_iast (j := i9) C rfl (rfl) (hi1) (by decide) dX2_findWeek_54 ?_
        refine g_aload_n C rfl dX2_findWeek_55 ?_
        refine g_iload C rfl dX2_findWeek_56 ?_
        refine g_iald (j := i9) C rfl (rfl) (hi1) (by decide) dX2_findWeek_58 ?_
        refine g_top (congrFun hM1 i9) ?_
        refine g_iconst (v := (-1)) C (by decide) dX2_findWeek_59 ?_
        refine g_cmp_eq (tgt := 80) C (by decide) dX2_findWeek_60 (fun c_60 => ?_) (fun c_60 => ?_)
        · refine g_aload_n C rfl dX2_findWeek_80 ?_
          refine g_iload C rfl dX2_findWeek_81 ?_
          refine g_iload_n C rfl dX2_findWeek_83 ?_
          refine g_iast (j := i9) C rfl (rfl) (hi1) (by decide) dX2_findWeek_84 ?_
          refine g_iconst (v := 1) C (by decide) dX2_findWeek_85 ?_
          refine g_zret C F (rfl) dX2_findWeek_86 ?_
          refine ⟨1, rfl, fun q q1 q2 => by rw [gw_set_ne _ _ _ _ q1, gw_set_ne _ _ _ _ q2]; exact hf9 q q2, Or.inl ⟨by decide, ?_⟩⟩
          rw [gw_set_self, hM1]
          exact cw_fnd_0 hp.1 ho6 hp.2.1 hi1 hlk c_37 hed c_60
        · obtain ⟨j, hj, hM, -⟩ := (hp.1.1 i9 hi1).resolve_left c_60
          refine g_aload_n C rfl dX2_findWeek_63 ?_
          refine g_aload_n C rfl dX2_findWeek_64 ?_
          refine g_iload C rfl dX2_findWeek_65 ?_
          refine g_iald (j := i9) C rfl (rfl) (hi1) (by decide) dX2_findWeek_67 ?_
          refine g_top ((congrFun hM1 i9).trans hM) ?_
          refine g_aload_n C rfl dX2_findWeek_68 ?_
          refine g_aload_n C rfl dX2_findWeek_69 ?_
          refine g_iload C rfl dX2_findWeek_70 ?_
          refine g_iconst (v := 1) C (by decide) dX2_findWeek_72 ?_
          refine g_iadd C dX2_findWeek_73 ?_
          refine g_top (show _ = 2 by decide) ?_
          refine g_callS C (ok_X2_findWeek_2 j hj hI) my_X2_findWeek si_X2_24 (by decide) ⟨Nat.le_refl _, Nat.le_refl _⟩ rfl (Nat.le_of_ble_eq_true rfl) dX2_findWeek_74 rfl (⟨by rw [cw_wsq (w := w) (fun q q1 q2 => (cw_s2q w9 i9 1 q q1 q2).trans (hf9 q q2))]; exact h, by rw [hM1, cw_tdf]; exact cw_fwp_r hp hlk hi1 c_37 hj hM⟩) (fun v_74 w_74 hp_74 => ?_)
          obtain ⟨x74, rfl, hq74, hc74⟩ := hp_74
          rw [hM1, cw_tdf] at hc74
          refine g_if_eq (tgt := 87) C (by decide) dX2_findWeek_77 (fun c_77 => ?_) (fun c_77 => ?_)
          · refine g_iinc (v := nI (i9 + 1)) C rfl (nI_1 i9) (by decide) dX2_findWeek_87 ?_
            refine g_goto (tgt := 12) C (by decide) dX2_findWeek_90 ?_
            have hn74 := (hc74.resolve_left (fun z => z.1 c_77)).2
            exact g_sub rfl (ih1 () _ ⟨fun q hq => by
              by_cases q1 : q = 1
              · subst q1; exact hn74.1
              · rw [hq74 q q1 hq, gw_set_ne _ _ _ _ hq]; exact hf9 q hq, cw_lkg_n hi1 hlk hj hM hn74.2⟩)
          · refine g_aload_n C rfl dX2_findWeek_80 ?_
            refine g_iload C rfl dX2_findWeek_81 ?_
            refine g_iload_n C rfl dX2_findWeek_83 ?_
            refine g_iast (j := i9) C rfl (rfl) (hi1) (by decide) dX2_findWeek_84 ?_
            refine g_iconst (v := 1) C (by decide) dX2_findWeek_85 ?_
            refine g_zret C F (rfl) dX2_findWeek_86 ?_
            have hs74 := (hc74.resolve_right (fun z => c_77 z.1)).2
            refine ⟨1, rfl, fun q q1 q2 => by rw [gw_set_ne _ _ _ _ q1, hq74 q q1 q2, gw_set_ne _ _ _ _ q2]; exact hf9 q q2, Or.inl ⟨by decide, ?_⟩⟩
            rw [gw_set_self]
            exact cw_fnd_m hp.1 ho6 hp.2.1 hi1 hlk c_37 hed hj hM hs74
  obtain ⟨hf9, hlk⟩ := hR1
  obtain ⟨w9, ew9⟩ : ∃ z, z = w1 := ⟨_, rfl⟩
  rw [← ew9] at hf9 hlk ⊢
  refine g_iload C rfl dX2_findWeek_12 ?_
  refine g_bipush (v := 20) C (by decide) dX2_findWeek_14 ?_
  refine g_cmp_ge (tgt := 93) C (by decide) dX2_findWeek_16 (fun c_16 => ?_) (fun c_16 => absurd (by decide) c_16)
  refine g_iconst (v := 0) C (by decide) dX2_findWeek_93 ?_
  refine g_zret C F (rfl) dX2_findWeek_94 ?_
  exact ⟨0, rfl, fun q _ q2 => hf9 q q2, Or.inr ⟨rfl, hf9 1 (by decide), hlk⟩⟩

set_option maxHeartbeats 8000000 in
set_option maxRecDepth 100000 in
theorem ok_X2_findWeek_0 {t : cw_s} (o : Nat) (ho6 : o < 6) {n m : Nat} (hI : cw_I n m t) : gw_Ok yX2_findWeek cX2_findWeek 6 (some .boolean) sMH 9 [.ref 3, .int (nI o), .ref 1, .ref 2, .int 0] (fun w => ho (cw_ws 3 w) = t ∧ cw_fwp t (w 1) (cw_td w) o 0) (fun w vr w1 => ∃ x : Int32, vr = some (.int x) ∧ (∀ q, q ≠ 1 → q ≠ 2 → w1 q = w q) ∧ ((¬ x = 0 ∧ cw_fnd t (w 1) (w1 1) (cw_td w) o) ∨ (x = 0 ∧ w1 1 = w 1 ∧ cw_nfd t (w 1) (cw_td w) (cw_td w1) o))) := by
  refine gw_of (by decide) (Nat.le_of_ble_eq_true rfl) ?_
  intro X w h C F
  obtain ⟨h, hp⟩ := h
  refine g_iload C rfl dX2_findWeek_0 ?_
  refine g_bipush (v := 6) C (by decide) dX2_findWeek_2 ?_
  refine g_cmp_le (tgt := 9) C (by decide) dX2_findWeek_4 (fun c_4 => ?_) (fun c_4 => absurd (by decide) c_4)
  refine g_iconst (v := 0) C (by decide) dX2_findWeek_9 ?_
  refine g_istore C (by decide) dX2_findWeek_10 ?_
  refine g_sub rfl (g_for (α := Unit) 20 (fun i9 x => [(0, .ref 3), (1, .int (nI o)), (2, .ref 1), (3, .ref 2), (4, .int 0), (5, .int (nI i9))]) (fun i9 x w1 => (∀ q, q ≠ 2 → w1 q = w q) ∧ cw_lkg t (w 1) (cw_td w) (cw_td w1) o i9) 0 () _ (Nat.zero_le _) (⟨fun _ _ => rfl, cw_lkg_0⟩) (fun i9 x w1 hi1 hR1 ih1 => ?_) (fun x w1 hR1 => ?_))
  · obtain ⟨hf9, hlk⟩ := hR1
    obtain ⟨w9, ew9⟩ : ∃ z, z = w1 := ⟨_, rfl⟩
    rw [← ew9] at hf9 hlk ⊢
    refine g_iload C rfl dX2_findWeek_12 ?_
    refine g_bipush (v := 20) C (by decide) dX2_findWeek_14 ?_
    refine g_cmp_ge (tgt := 93) C (by decide) dX2_findWeek_16 (fun c_16 => absurd c_16 (nI_ge hi1 (by decide))) (fun c_16 => ?_)
    refine g_iload C rfl dX2_findWeek_19 ?_
    refine g_aload_n C rfl dX2_findWeek_21 ?_
    refine g_alen (v := 20) C rfl (by decide) rfl dX2_findWeek_22 ?_
    refine g_cmp_ge (tgt := 93) C (by decide) dX2_findWeek_23 (fun c_23 => absurd c_23 (nI_ge hi1 (by decide))) (fun c_23 => ?_)
    refine g_iload C rfl dX2_findWeek_26 ?_
    refine g_aload_n C rfl dX2_findWeek_28 ?_
    refine g_alen (v := 20) C rfl (by decide) rfl dX2_findWeek_29 ?_
    refine g_cmp_ge (tgt := 93) C (by decide) dX2_findWeek_30 (fun c_30 => absurd c_30 (nI_ge hi1 (by decide))) (fun c_30 => ?_)
    refine g_aload_n C rfl dX2_findWeek_33 ?_
    refine g_iload C rfl dX2_findWeek_34 ?_
    refine g_iald (j := i9) C rfl (rfl) (hi1) (by decide) dX2_findWeek_36 ?_
    refine g_if_ne (tgt := 87) C (by decide) dX2_findWeek_37 (fun c_37 => ?_) (fun c_37 => ?_)
    · refine g_iinc (v := nI (i9 + 1)) C rfl (nI_1 i9) (by decide) dX2_findWeek_87 ?_
      refine g_goto (tgt := 12) C (by decide) dX2_findWeek_90 ?_
      exact g_sub rfl (ih1 () _ ⟨hf9, cw_lkg_s hlk (fun _ => c_37)⟩)
    · have c_37 : ¬ cw_td w9 i9 := fun z => z c_37
      refine g_aload_n C rfl dX2_findWeek_40 ?_
      refine g_iload_n C rfl dX2_findWeek_41 ?_
      refine g_iload C rfl dX2_findWeek_42 ?_
      refine g_callW C cw_emb_HM (ok_X1_reasonAgainst (t := t) (nI o) (nI i9) hI) my_X1_reasonAgainst vi_X2_28 (by decide) ⟨Nat.le_refl _, Nat.le_refl _⟩ rfl ((cw_emb_HM.1 0 (by decide))) rfl (cw_wp 3 14 w9) (cw_wp_i) (cw_wp_o) (cw_ws 3 w9) (fun i _ => rfl) (Nat.le_of_ble_eq_true rfl) dX2_findWeek_44 rfl (by rw [cw_wsq (w := w) (fun q _ q2 => hf9 q q2)]; exact h) (fun v_44 w_44 hp_44 => ?_)
      obtain ⟨rfl, hw_44⟩ := hp_44
      have hw_44 := hw_44.symm; subst hw_44
      rw [cw_wp_self]
      refine g_if_ne (tgt := 87) C (by decide) dX2_findWeek_47 (fun c_47 => ?_) (fun c_47 => ?_)
      · refine g_iinc (v := nI (i9 + 1)) C rfl (nI_1 i9) (by decide) dX2_findWeek_87 ?_
        refine g_goto (tgt := 12) C (by decide) dX2_findWeek_90 ?_
        exact g_sub rfl (ih1 () _ ⟨hf9, cw_lkg_s hlk (fun z => absurd ((cw_frr hI ho6 hi1).mpr z) c_47)⟩)
      · have hed : cw_ed t o i9 := (cw_frr hI ho6 hi1).mp c_47
        have hM1 : (gw_set w9 2 i9 1) 1 = w 1 := by rw [gw_set_ne _ _ _ _ (by decide)]; exact hf9 1 (by decide)
        refine g_aload_n C rfl dX2_findWeek_50 ?_
        refine g_iload C rfl dX2_findWeek_51 ?_
        refine g_iconst (v := 1) C (by decide) dX2_findWeek_53 ?_
        refine g_iast (j := i9) C rfl (rfl) (hi1) (by decide) dX2_findWeek_54 ?_
        refine g_aload_n C rfl dX2_findWeek_55 ?_
        refine g_iload C rfl dX2_findWeek_56 ?_
        refine g_iald (j := i9) C rfl (rfl) (hi1) (by decide) dX2_findWeek_58 ?_
        refine g_top (congrFun hM1 i9) ?_
        refine g_iconst (v := (-1)) C (by decide) dX2_findWeek_59 ?_
        refine g_cmp_eq (tgt := 80) C (by decide) dX2_findWeek_60 (fun c_60 => ?_) (fun c_60 => ?_)
        · refine g_aload_n C rfl dX2_findWeek_80 ?_
          refine g_iload C rfl dX2_findWeek_81 ?_
          refine g_iload_n C rfl dX2_findWeek_83 ?_
          refine g_iast (j := i9) C rfl (rfl) (hi1) (by decide) dX2_findWeek_84 ?_
          refine g_iconst (v := 1) C (by decide) dX2_findWeek_85 ?_
          refine g_zret C F (rfl) dX2_findWeek_86 ?_
          refine ⟨1, rfl, fun q q1 q2 => by rw [gw_set_ne _ _ _ _ q1, gw_set_ne _ _ _ _ q2]; exact hf9 q q2, Or.inl ⟨by decide, ?_⟩⟩
          rw [gw_set_self, hM1]
          exact cw_fnd_0 hp.1 ho6 hp.2.1 hi1 hlk c_37 hed c_60
        · obtain ⟨j, hj, hM, -⟩ := (hp.1.1 i9 hi1).resolve_left c_60
          refine g_aload_n C rfl dX2_findWeek_63 ?_
          refine g_aload_n C rfl dX2_findWeek_64 ?_
          refine g_iload C rfl dX2_findWeek_65 ?_
          refine g_iald (j := i9) C rfl (rfl) (hi1) (by decide) dX2_findWeek_67 ?_
          refine g_top ((congrFun hM1 i9).trans hM) ?_
          refine g_aload_n C rfl dX2_findWeek_68 ?_
          refine g_aload_n C rfl dX2_findWeek_69 ?_
          refine g_iload C rfl dX2_findWeek_70 ?_
          refine g_iconst (v := 1) C (by decide) dX2_findWeek_72 ?_
          refine g_iadd C dX2_findWeek_73 ?_
          refine g_top (show _ = 1 by decide) ?_
          refine g_callS C (ok_X2_findWeek_1 j hj hI) my_X2_findWeek si_X2_24 (by decide) ⟨Nat.le_refl _, Nat.le_refl _⟩ rfl (Nat.le_of_ble_eq_true rfl) dX2_findWeek_74 rfl (⟨by rw [cw_wsq (w := w) (fun q q1 q2 => (cw_s2q w9 i9 1 q q1 q2).trans (hf9 q q2))]; exact h, by rw [hM1, cw_tdf]; exact cw_fwp_r hp hlk hi1 c_37 hj hM⟩) (fun v_74 w_74 hp_74 => ?_)
          obtain ⟨x74, rfl, hq74, hc74⟩ := hp_74
          rw [hM1, cw_tdf] at hc74
          refine g_if_eq (tgt := 87) C (by decide) dX2_findWeek_77 (fun c_77 => ?_) (fun c_77 => ?_)
          · refine g_iinc (v := nI (i9 + 1)) C rfl (nI_1 i9) (by decide) dX2_findWeek_87 ?_
            refine g_goto (tgt := 12) C (by decide) dX2_findWeek_90 ?_
            have hn74 := (hc74.resolve_left (fun z => z.1 c_77)).2
            exact g_sub rfl (ih1 () _ ⟨fun q hq => by
              by_cases q1 : q = 1
              · subst q1; exact hn74.1
              · rw [hq74 q q1 hq, gw_set_ne _ _ _ _ hq]; exact hf9 q hq, cw_lkg_n hi1 hlk hj hM hn74.2⟩)
          · refine g_aload_n C rfl dX2_findWeek_80 ?_
            refine g_iload C rfl dX2_findWeek_81 ?_
            refine g_iload_n C rfl dX2_findWeek_83 ?_
            refine g_iast (j := i9) C rfl (rfl) (hi1) (by decide) dX2_findWeek_84 ?_
            refine g_iconst (v := 1) C (by decide) dX2_findWeek_85 ?_
            refine g_zret C F (rfl) dX2_findWeek_86 ?_
            have hs74 := (hc74.resolve_right (fun z => c_77 z.1)).2
            refine ⟨1, rfl, fun q q1 q2 => by rw [gw_set_ne _ _ _ _ q1, hq74 q q1 q2, gw_set_ne _ _ _ _ q2]; exact hf9 q q2, Or.inl ⟨by decide, ?_⟩⟩
            rw [gw_set_self]
            exact cw_fnd_m hp.1 ho6 hp.2.1 hi1 hlk c_37 hed hj hM hs74
  obtain ⟨hf9, hlk⟩ := hR1
  obtain ⟨w9, ew9⟩ : ∃ z, z = w1 := ⟨_, rfl⟩
  rw [← ew9] at hf9 hlk ⊢
  refine g_iload C rfl dX2_findWeek_12 ?_
  refine g_bipush (v := 20) C (by decide) dX2_findWeek_14 ?_
  refine g_cmp_ge (tgt := 93) C (by decide) dX2_findWeek_16 (fun c_16 => ?_) (fun c_16 => absurd (by decide) c_16)
  refine g_iconst (v := 0) C (by decide) dX2_findWeek_93 ?_
  refine g_zret C F (rfl) dX2_findWeek_94 ?_
  exact ⟨0, rfl, fun q _ q2 => hf9 q q2, Or.inr ⟨rfl, hf9 1 (by decide), hlk⟩⟩

set_option maxHeartbeats 8000000 in
set_option maxRecDepth 100000 in
theorem ok_X2_countByMoving {t : cw_s} {n m : Nat} (hI : cw_I n m t) : gw_Ok yX2_countByMoving cX2_countByMoving 4 (some .int) sMH 10 [.ref 0, .ref 3] (fun w => ho (cw_ws 3 w) = t) (fun w vr w1 => vr = some (.int (cw_most t)) ∧ ∀ q, q ≠ 1 → q ≠ 2 → w1 q = w q) := by
  refine gw_of (by decide) (Nat.le_of_ble_eq_true rfl) ?_
  intro X w h C F
  refine g_aload_n C rfl dX2_countByMoving_0 ?_
  refine g_getr C fl_X2_9 rfl rfl dX2_countByMoving_1 ?_
  refine g_iconst (v := (-1)) C (by decide) dX2_countByMoving_4 ?_
  refine g_fill C (q := 1) (len := 20) rfl (by decide) (by decide) ⟨Nat.le_refl _, Nat.le_refl _⟩ (Nat.le_of_ble_eq_true rfl) si_X2_18 dX2_countByMoving_5 ?_
  refine g_genP (P := fun v => (∀ q, q ≠ 1 → v q = w q) ∧ ∀ k, k < 20 → v 1 k = -1) ⟨fun q hq => cw_put_ne _ _ _ hq, fun k hk => by rw [cw_put_self]; exact if_pos hk⟩ (fun w5 h5 => ?_)
  obtain ⟨a1, a2⟩ := h5
  refine g_iconst (v := 0) C (by decide) dX2_countByMoving_8 ?_
  refine g_istore_n C (by decide) dX2_countByMoving_9 ?_
  refine g_iconst (v := 0) C (by decide) dX2_countByMoving_10 ?_
  refine g_istore_n C (by decide) dX2_countByMoving_11 ?_
  refine g_sub rfl (g_for (α := Int32) 6 (fun i9 x => [(0, .ref 0), (1, .ref 3), (2, .int x), (3, .int (nI i9))]) (fun i9 x w1 => ∃ c, x = nI c ∧ cw_kuh t (w1 1) i9 c ∧ ∀ q, q ≠ 1 → q ≠ 2 → w1 q = w q) 0 0 _ (Nat.zero_le _) (⟨0, rfl, cw_kuh_0 a2, fun q q1 _ => a1 q q1⟩) (fun i9 x w1 hi1 hR1 ih1 => ?_) (fun x w1 hR1 => ?_))
  · obtain ⟨c9, hx9, hk9, hf9⟩ := hR1
    obtain ⟨w9, ew9⟩ : ∃ z, z = w1 := ⟨_, rfl⟩
    rw [← ew9] at hk9 hf9 ⊢
    refine g_iload_n C rfl dX2_countByMoving_12 ?_
    refine g_bipush (v := 6) C (by decide) dX2_countByMoving_13 ?_
    refine g_cmp_ge (tgt := 52) C (by decide) dX2_countByMoving_15 (fun c_15 => absurd c_15 (nI_ge hi1 (by decide))) (fun c_15 => ?_)
    refine g_aload_n C rfl dX2_countByMoving_18 ?_
    refine g_getr C fl_X2_15 rfl rfl dX2_countByMoving_19 ?_
    refine g_iconst (v := 0) C (by decide) dX2_countByMoving_22 ?_
    refine g_fill C (q := 2) (len := 20) rfl (by decide) (by decide) ⟨Nat.le_refl _, Nat.le_refl _⟩ (Nat.le_of_ble_eq_true rfl) si_X2_18 dX2_countByMoving_23 ?_
    refine g_genP (P := fun v => (∀ q, q ≠ 2 → v q = w9 q) ∧ ∀ k, k < 20 → v 2 k = 0) ⟨fun q hq => cw_put_ne _ _ _ hq, fun k hk => by rw [cw_put_self]; exact if_pos hk⟩ (fun w8 h8 => ?_)
    obtain ⟨p2, hT0⟩ := h8
    have p1 := p2 1 (by decide)
    refine g_aload_n C rfl dX2_countByMoving_26 ?_
    refine g_iload_n C rfl dX2_countByMoving_27 ?_
    refine g_aload_n C rfl dX2_countByMoving_28 ?_
    refine g_getr C fl_X2_9 rfl rfl dX2_countByMoving_29 ?_
    refine g_aload_n C rfl dX2_countByMoving_32 ?_
    refine g_getr C fl_X2_15 rfl rfl dX2_countByMoving_33 ?_
    refine g_iconst (v := 0) C (by decide) dX2_countByMoving_36 ?_
    refine g_callS C (ok_X2_findWeek_0 i9 hi1 hI) my_X2_findWeek si_X2_24 (by decide) ⟨Nat.le_refl _, Nat.le_refl _⟩ rfl (Nat.le_of_ble_eq_true rfl) dX2_countByMoving_37 rfl (⟨by rw [cw_wsq (w := w) (fun q q1 q2 => (p2 q q2).trans (hf9 q q1 q2))]; exact h, by rw [p1]; exact ⟨hk9.1, fun k hk e => absurd (hk9.2.2.1 k i9 hk hi1 e) (Nat.lt_irrefl _), Nat.zero_le _⟩⟩) (fun v_37 w_37 hp_37 => ?_)
    obtain ⟨x37, rfl, hq37, hc37⟩ := hp_37
    refine g_if_eq (tgt := 46) C (by decide) dX2_countByMoving_40 (fun c_40 => ?_) (fun c_40 => ?_)
    · refine g_iinc (v := nI (i9 + 1)) C rfl (nI_1 i9) (by decide) dX2_countByMoving_46 ?_
      refine g_goto (tgt := 12) C (by decide) dX2_countByMoving_49 ?_
      have hn37 := (hc37.resolve_left (fun z => z.1 c_40)).2
      exact g_sub rfl (ih1 _ _ ⟨c9, hx9, by rw [hn37.1, p1]; exact cw_kuh_n hi1 hk9 (T := cw_td w8) (fun k hk z => absurd (hT0 k hk) z) (by rw [← p1]; exact hn37.2), fun q q1 q2 => (hq37 q q1 q2).trans ((p2 q q2).trans (hf9 q q1 q2))⟩)
    · refine g_iinc (v := x + 1) C rfl (rfl) (by decide) dX2_countByMoving_43 ?_
      refine g_iinc (v := nI (i9 + 1)) C rfl (nI_1 i9) (by decide) dX2_countByMoving_46 ?_
      refine g_goto (tgt := 12) C (by decide) dX2_countByMoving_49 ?_
      have hs37 := (hc37.resolve_right (fun z => c_40 z.1)).2
      exact g_sub rfl (ih1 _ _ ⟨c9 + 1, by rw [hx9, nI_1], cw_kuh_y hi1 hk9 (T := cw_td w8) (fun k hk z => absurd (hT0 k hk) z) (by rw [← p1]; exact hs37), fun q q1 q2 => (hq37 q q1 q2).trans ((p2 q q2).trans (hf9 q q1 q2))⟩)
  obtain ⟨c9, hx9, hk9, hf9⟩ := hR1
  obtain ⟨w9, ew9⟩ : ∃ z, z = w1 := ⟨_, rfl⟩
  rw [← ew9] at hk9 hf9 ⊢
  refine g_iload_n C rfl dX2_countByMoving_12 ?_
  refine g_bipush (v := 6) C (by decide) dX2_countByMoving_13 ?_
  refine g_cmp_ge (tgt := 52) C (by decide) dX2_countByMoving_15 (fun c_15 => ?_) (fun c_15 => absurd (by decide) c_15)
  refine g_iload_n C rfl dX2_countByMoving_52 ?_
  refine g_iret C F dX2_countByMoving_53 ?_
  obtain ⟨hm, hc, -, K, hK, hd⟩ := hk9
  exact ⟨by rw [hx9, cw_moved hI.m.2 hm hK hd, hc], hf9⟩
