set_option maxHeartbeats 8000000 in
set_option maxRecDepth 100000 in
theorem ok_X7_remember (A : cw_A) : gw_Ok yX7_remember cX7_remember 2 none sM 1 [.ref 0] (fun w => cw_RM A w) (fun w vr w1 => vr = none ∧ w1 1 = w 1 ∧ (∀ k, k ≠ 4 → w1 0 k = w 0 k) ∧ cw_RM (cw_rem A) w1) := by
  refine gw_of (by decide) (Nat.le_of_ble_eq_true rfl) ?_
  intro X w h C F
  obtain ⟨u0, ⟨b1, b2, b3⟩, ⟨c1, c2⟩, d1, d2, d3⟩ := h
  refine g_aload_n C rfl dX7_remember_0 ?_
  refine g_getf C fl_X7_51 rfl rfl dX7_remember_1 ?_
  refine g_bipush (v := 14) C (by decide) dX7_remember_4 ?_
  refine g_cmp_ne (tgt := 50) C (by decide) dX7_remember_6 (fun c_6 => ?_) (fun c_6 => ?_)
  · have hk : A.2.1.1 < 14 := by
      rcases Nat.lt_or_ge A.2.1.1 14 with q | q
      · exact q
      · exact absurd (by rw [b1, show A.2.1.1 = 14 by omega]; rfl) c_6
    have hkk : A.2.1.1 ≠ 14 := by omega
    refine g_iconst (v := 0) C (by decide) dX7_remember_50 ?_
    refine g_istore_n C (by decide) dX7_remember_51 ?_
    refine g_sub rfl (g_for (α := Unit) 242 (fun i9 x1 => [(0, .ref 0), (1, .int (nI i9))]) (fun i9 x1 w1 => (∀ q, q ≠ 3 → w1 q = w q) ∧ (∀ p, p < i9 → w1 3 (242 * A.2.1.1 + p) = w 1 p) ∧ ∀ p, (p < 242 * A.2.1.1 ∨ 242 * A.2.1.1 + i9 ≤ p) → w1 3 p = w 3 p) 0 () _ (Nat.zero_le _) (⟨fun _ _ => rfl, fun p hp => absurd hp (Nat.not_lt_zero p), fun _ _ => rfl⟩) (fun i9 x1 w1 hi1 hR1 ih1 => ?_) (fun x1 w1 hR1 => ?_))
    · obtain ⟨ha9, hb9, hc9⟩ := hR1
      refine g_iload_n C rfl dX7_remember_52 ?_
      refine g_sipush (v := 242) C (by decide) dX7_remember_53 ?_
      refine g_cmp_ge (tgt := 86) C (by decide) dX7_remember_56 (fun c_56 => absurd c_56 (nI_ge hi1 (by decide))) (fun c_56 => ?_)
      refine g_aload_n C rfl dX7_remember_59 ?_
      refine g_getr C fl_X7_16 rfl rfl dX7_remember_60 ?_
      refine g_sipush (v := 242) C (by decide) dX7_remember_63 ?_
      refine g_aload_n C rfl dX7_remember_66 ?_
      refine g_getf C fl_X7_51 rfl rfl dX7_remember_67 ?_
      refine g_imul C dX7_remember_70 ?_
      refine g_iload_n C rfl dX7_remember_71 ?_
      refine g_iadd C dX7_remember_72 ?_
      refine g_aload_n C rfl dX7_remember_73 ?_
      refine g_getr C fl_X7_7 rfl rfl dX7_remember_74 ?_
      refine g_iload_n C rfl dX7_remember_77 ?_
      refine g_iald C rfl (by first | rfl | assumption | (simp only [nI_add, pk_mul, *]; done)) (by first | assumption | omega) (by decide) dX7_remember_78 ?_
      refine g_iast (j := 242 * A.2.1.1 + i9) C rfl (by rw [ha9 0 (by decide), b1]; exact cw_ix 242 _ i9) (by omega) (by decide) dX7_remember_79 ?_
      refine g_iinc (v := nI (i9 + 1)) C rfl (nI_1 i9) (by decide) dX7_remember_80 ?_
      refine g_goto (tgt := 52) C (by decide) dX7_remember_83 ?_
      exact g_sub rfl (ih1 () _ ⟨fun q hq => by rw [gw_set_ne _ _ _ _ hq]; exact ha9 q hq, fun p hp => by
        rw [gw_set_self]; unfold upd; split
        · next q => rw [ha9 1 (by decide)]; congr 1; omega
        · exact hb9 p (by omega), fun p hp => by rw [gw_set_self, cw_upn _ _ (by omega)]; exact hc9 p (by omega)⟩)
    obtain ⟨ha9, hb9, hc9⟩ := hR1
    refine g_iload_n C rfl dX7_remember_52 ?_
    refine g_sipush (v := 242) C (by decide) dX7_remember_53 ?_
    refine g_cmp_ge (tgt := 86) C (by decide) dX7_remember_56 (fun c_56 => ?_) (fun c_56 => absurd (by decide) c_56)
    refine g_aload_n C rfl dX7_remember_86 ?_
    refine g_dup C rfl dX7_remember_87 ?_
    refine g_getf C fl_X7_51 rfl rfl dX7_remember_88 ?_
    refine g_iconst (v := 1) C (by decide) dX7_remember_91 ?_
    refine g_iadd C dX7_remember_92 ?_
    refine g_putf C fl_X7_51 fp_5_4 rfl rfl (rfl) (rfl) dX7_remember_93 ?_
    refine g_vret C F dX7_remember_96 ?_
    refine ⟨rfl, ?_, fun k hk4 => ?_, ?_, ⟨?_, ?_, fun i hi => ?_⟩, ⟨?_, fun i hi v hv => ?_⟩, ?_, d2, fun i hi => ?_⟩
    · rw [gw_set_ne _ _ _ _ (by decide), ha9 1 (by decide)]
    · rw [gw_set_self, cw_upn _ _ hk4, ha9 0 (by decide)]
    · rw [gw_set_ne _ _ _ _ (by decide), ha9 1 (by decide)]; exact u0
    · rw [gw_set_self, cw_ups, ha9 0 (by decide), b1]; show _ = nI (if A.2.1.1 = 14 then (14, _) else (_, _) : Nat × (Nat → cw_s)).1; rw [if_neg hkk]; exact nI_1 _
    · show (if A.2.1.1 = 14 then (14, _) else (_, _) : Nat × (Nat → cw_s)).1 ≤ 14; rw [if_neg hkk]; exact hk
    · have hi : i < (if A.2.1.1 = 14 then (14, fun i => if i = 13 then A.1 else A.2.1.2 (i + 1)) else (A.2.1.1 + 1, fun i => if i = A.2.1.1 then A.1 else A.2.1.2 i) : Nat × (Nat → cw_s)).1 := hi
      rw [if_neg hkk] at hi
      show _ = (if A.2.1.1 = 14 then (14, fun i => if i = 13 then A.1 else A.2.1.2 (i + 1)) else (A.2.1.1 + 1, fun i => if i = A.2.1.1 then A.1 else A.2.1.2 i) : Nat × (Nat → cw_s)).2 i
      rw [if_neg hkk]
      show cw_nf (cw_row _ _) = if i = A.2.1.1 then A.1 else A.2.1.2 i
      have hi : i < A.2.1.1 + 1 := hi
      rw [gw_set_ne _ _ _ _ (by decide)]
      split
      · next q => rw [← u0]; exact cw_nf_cg (fun k hk2 => by show _ = w 1 k; unfold cw_row; rw [q, hb9 k hk2])
      · next q => rw [← b3 i (by omega)]; exact cw_row_nf (fun k hk2 => by rw [hc9 _ (by omega)])
    · rw [gw_set_self, cw_upn _ _ (by decide), ha9 0 (by decide)]; exact c1
    · rw [gw_set_ne _ _ _ _ (by decide), ha9 4 (by decide)]; exact c2 i hi v hv
    · rw [gw_set_self, cw_upn _ _ (by decide), ha9 0 (by decide)]; exact d1
    · rw [gw_set_ne _ _ _ _ (by decide), ha9 5 (by decide)]; exact d3 i hi
  · have hk : A.2.1.1 = 14 := by
      have q := c_6
      rw [b1, cw_eqi, cw_ni (by omega)] at q
      have z : (14 : Int32).toInt = 14 := rfl
      omega
    refine g_iconst (v := 0) C (by decide) dX7_remember_9 ?_
    refine g_istore_n C (by decide) dX7_remember_10 ?_
    refine g_sub rfl (g_for (α := Unit) 3146 (fun i8 x2 => [(0, .ref 0), (1, .int (nI i8))]) (fun i8 x2 w2 => (∀ q, q ≠ 3 → w2 q = w q) ∧ (∀ p, p < i8 → w2 3 p = w 3 (p + 242)) ∧ ∀ p, i8 ≤ p → w2 3 p = w 3 p) 0 () _ (Nat.zero_le _) (⟨fun _ _ => rfl, fun p hp => absurd hp (Nat.not_lt_zero p), fun _ _ => rfl⟩) (fun i8 x2 w2 hi2 hR2 ih2 => ?_) (fun x2 w2 hR2 => ?_))
    · obtain ⟨ha8, hb8, hc8⟩ := hR2
      refine g_iload_n C rfl dX7_remember_11 ?_
      refine g_sipush (v := 3146) C (by decide) dX7_remember_12 ?_
      refine g_cmp_ge (tgt := 40) C (by decide) dX7_remember_15 (fun c_15 => absurd c_15 (nI_ge hi2 (by decide))) (fun c_15 => ?_)
      refine g_aload_n C rfl dX7_remember_18 ?_
      refine g_getr C fl_X7_16 rfl rfl dX7_remember_19 ?_
      refine g_iload_n C rfl dX7_remember_22 ?_
      refine g_aload_n C rfl dX7_remember_23 ?_
      refine g_getr C fl_X7_16 rfl rfl dX7_remember_24 ?_
      refine g_iload_n C rfl dX7_remember_27 ?_
      refine g_sipush (v := 242) C (by decide) dX7_remember_28 ?_
      refine g_iadd C dX7_remember_31 ?_
      refine g_iald (j := i8 + 242) C rfl (nI_add i8 242) (by omega) (by decide) dX7_remember_32 ?_
      refine g_iast C rfl (by first | rfl | assumption | (simp only [nI_add, pk_mul, *]; done)) (by first | assumption | omega) (by decide) dX7_remember_33 ?_
      refine g_iinc (v := nI (i8 + 1)) C rfl (nI_1 i8) (by decide) dX7_remember_34 ?_
      refine g_goto (tgt := 11) C (by decide) dX7_remember_37 ?_
      exact g_sub rfl (ih2 () _ ⟨fun q hq => by rw [gw_set_ne _ _ _ _ hq]; exact ha8 q hq, fun p hp => by
        rw [gw_set_self]; unfold upd; split
        · next q => rw [q]; exact hc8 _ (by omega)
        · exact hb8 p (by omega), fun p hp => by rw [gw_set_self, cw_upn _ _ (by omega)]; exact hc8 p (by omega)⟩)
    obtain ⟨ha8, hb8, hc8⟩ := hR2
    refine g_iload_n C rfl dX7_remember_11 ?_
    refine g_sipush (v := 3146) C (by decide) dX7_remember_12 ?_
    refine g_cmp_ge (tgt := 40) C (by decide) dX7_remember_15 (fun c_15 => ?_) (fun c_15 => absurd (by decide) c_15)
    refine g_aload_n C rfl dX7_remember_40 ?_
    refine g_dup C rfl dX7_remember_41 ?_
    refine g_getf C fl_X7_51 rfl rfl dX7_remember_42 ?_
    refine g_iconst (v := 1) C (by decide) dX7_remember_45 ?_
    refine g_isub C dX7_remember_46 ?_
    refine g_putf C fl_X7_51 fp_5_4 rfl rfl (rfl) (rfl) dX7_remember_47 ?_
    refine g_genP (P := fun v => (∀ q, q ≠ 3 → q ≠ 0 → v q = w q) ∧ v 0 4 = nI 13 ∧ (∀ k, k ≠ 4 → v 0 k = w 0 k) ∧ ∀ p, p < 3146 → v 3 p = w 3 (p + 242)) ⟨fun q h1 h2 => by rw [gw_set_ne _ _ _ _ h2]; exact ha8 q h1, by rw [gw_set_self, cw_ups, ha8 0 (by decide), b1, hk]; rfl, fun k hk => by rw [gw_set_self, cw_upn _ _ hk, ha8 0 (by decide)], fun p hp => by rw [gw_set_ne _ _ _ _ (by decide)]; exact hb8 p hp⟩ (fun w4 h4 => ?_)
    obtain ⟨e1, e2, e3, e4⟩ := h4
    refine g_iconst (v := 0) C (by decide) dX7_remember_50 ?_
    refine g_istore_n C (by decide) dX7_remember_51 ?_
    refine g_sub rfl (g_for (α := Unit) 242 (fun i9 x3 => [(0, .ref 0), (1, .int (nI i9))]) (fun i9 x3 w3 => (∀ q, q ≠ 3 → w3 q = w4 q) ∧ (∀ p, p < i9 → w3 3 (242 * 13 + p) = w4 1 p) ∧ ∀ p, (p < 242 * 13 ∨ 242 * 13 + i9 ≤ p) → w3 3 p = w4 3 p) 0 () _ (Nat.zero_le _) (⟨fun _ _ => rfl, fun p hp => absurd hp (Nat.not_lt_zero p), fun _ _ => rfl⟩) (fun i9 x3 w3 hi3 hR3 ih3 => ?_) (fun x3 w3 hR3 => ?_))
    · obtain ⟨ha9, hb9, hc9⟩ := hR3
      refine g_iload_n C rfl dX7_remember_52 ?_
      refine g_sipush (v := 242) C (by decide) dX7_remember_53 ?_
      refine g_cmp_ge (tgt := 86) C (by decide) dX7_remember_56 (fun c_56 => absurd c_56 (nI_ge hi3 (by decide))) (fun c_56 => ?_)
      refine g_aload_n C rfl dX7_remember_59 ?_
      refine g_getr C fl_X7_16 rfl rfl dX7_remember_60 ?_
      refine g_sipush (v := 242) C (by decide) dX7_remember_63 ?_
      refine g_aload_n C rfl dX7_remember_66 ?_
      refine g_getf C fl_X7_51 rfl rfl dX7_remember_67 ?_
      refine g_imul C dX7_remember_70 ?_
      refine g_iload_n C rfl dX7_remember_71 ?_
      refine g_iadd C dX7_remember_72 ?_
      refine g_aload_n C rfl dX7_remember_73 ?_
      refine g_getr C fl_X7_7 rfl rfl dX7_remember_74 ?_
      refine g_iload_n C rfl dX7_remember_77 ?_
      refine g_iald C rfl (by first | rfl | assumption | (simp only [nI_add, pk_mul, *]; done)) (by first | assumption | omega) (by decide) dX7_remember_78 ?_
      refine g_iast (j := 242 * 13 + i9) C rfl (by rw [ha9 0 (by decide), e2]; exact cw_ix 242 13 i9) (by omega) (by decide) dX7_remember_79 ?_
      refine g_iinc (v := nI (i9 + 1)) C rfl (nI_1 i9) (by decide) dX7_remember_80 ?_
      refine g_goto (tgt := 52) C (by decide) dX7_remember_83 ?_
      exact g_sub rfl (ih3 () _ ⟨fun q hq => by rw [gw_set_ne _ _ _ _ hq]; exact ha9 q hq, fun p hp => by
        rw [gw_set_self]; unfold upd; split
        · next q => rw [ha9 1 (by decide)]; congr 1; omega
        · exact hb9 p (by omega), fun p hp => by rw [gw_set_self, cw_upn _ _ (by omega)]; exact hc9 p (by omega)⟩)
    obtain ⟨ha9, hb9, hc9⟩ := hR3
    refine g_iload_n C rfl dX7_remember_52 ?_
    refine g_sipush (v := 242) C (by decide) dX7_remember_53 ?_
    refine g_cmp_ge (tgt := 86) C (by decide) dX7_remember_56 (fun c_56 => ?_) (fun c_56 => absurd (by decide) c_56)
    refine g_aload_n C rfl dX7_remember_86 ?_
    refine g_dup C rfl dX7_remember_87 ?_
    refine g_getf C fl_X7_51 rfl rfl dX7_remember_88 ?_
    refine g_iconst (v := 1) C (by decide) dX7_remember_91 ?_
    refine g_iadd C dX7_remember_92 ?_
    refine g_putf C fl_X7_51 fp_5_4 rfl rfl (rfl) (rfl) dX7_remember_93 ?_
    refine g_vret C F dX7_remember_96 ?_
    refine ⟨rfl, ?_, fun k hk4 => ?_, ?_, ⟨?_, ?_, fun i hi => ?_⟩, ⟨?_, fun i hi v hv => ?_⟩, ?_, d2, fun i hi => ?_⟩
    · rw [gw_set_ne _ _ _ _ (by decide), ha9 1 (by decide), e1 1 (by decide) (by decide)]
    · rw [gw_set_self, cw_upn _ _ hk4, ha9 0 (by decide), e3 k hk4]
    · rw [gw_set_ne _ _ _ _ (by decide), ha9 1 (by decide), e1 1 (by decide) (by decide)]; exact u0
    · rw [gw_set_self, cw_ups, ha9 0 (by decide), e2]; show _ = nI (if A.2.1.1 = 14 then (14, _) else (_, _) : Nat × (Nat → cw_s)).1; rw [if_pos hk]; rfl
    · show (if A.2.1.1 = 14 then (14, _) else (_, _) : Nat × (Nat → cw_s)).1 ≤ 14; rw [if_pos hk]; exact Nat.le_refl _
    · have hi : i < (if A.2.1.1 = 14 then (14, fun i => if i = 13 then A.1 else A.2.1.2 (i + 1)) else (A.2.1.1 + 1, fun i => if i = A.2.1.1 then A.1 else A.2.1.2 i) : Nat × (Nat → cw_s)).1 := hi
      rw [if_pos hk] at hi
      show _ = (if A.2.1.1 = 14 then (14, fun i => if i = 13 then A.1 else A.2.1.2 (i + 1)) else (A.2.1.1 + 1, fun i => if i = A.2.1.1 then A.1 else A.2.1.2 i) : Nat × (Nat → cw_s)).2 i
      rw [if_pos hk]
      show cw_nf (cw_row _ _) = if i = 13 then A.1 else A.2.1.2 (i + 1)
      have hi : i < 14 := hi
      rw [gw_set_ne _ _ _ _ (by decide)]
      split
      · next q => rw [← u0]; exact cw_nf_cg (fun k hk2 => by show _ = w 1 k; unfold cw_row; rw [q, hb9 k hk2, e1 1 (by decide) (by decide)])
      · next q => rw [← b3 (i + 1) (by omega)]; exact cw_row_nf (fun k hk2 => by rw [hc9 _ (by omega), e4 _ (by omega)]; congr 1; omega)
    · rw [gw_set_self, cw_upn _ _ (by decide), ha9 0 (by decide), e3 6 (by decide)]; exact c1
    · rw [gw_set_ne _ _ _ _ (by decide), ha9 4 (by decide), e1 4 (by decide) (by decide)]; exact c2 i hi v hv
    · rw [gw_set_self, cw_upn _ _ (by decide), ha9 0 (by decide), e3 8 (by decide)]; exact d1
    · rw [gw_set_ne _ _ _ _ (by decide), ha9 5 (by decide), e1 5 (by decide) (by decide)]; exact d3 i hi

set_option maxHeartbeats 8000000 in
set_option maxRecDepth 100000 in
theorem ok_X7_putAside : gw_Ok yX7_putAside cX7_putAside 2 none sM 1 [.ref 0] (fun _ => True) (fun w vr w1 => vr = none ∧ (∀ q, q ≠ 2 → w1 q = w q) ∧ ∀ k, k < 242 → w1 2 k = w 1 k) := by
  refine gw_of (by decide) (Nat.le_of_ble_eq_true rfl) ?_
  intro X w h C F
  refine g_iconst (v := 0) C (by decide) dX7_putAside_0 ?_
  refine g_istore_n C (by decide) dX7_putAside_1 ?_
  refine g_sub rfl (g_for (α := Unit) 242 (fun i1 x1 => [(0, .ref 0), (1, .int (nI i1))]) (fun i1 x1 w1 => (∀ q, q ≠ 2 → w1 q = w q) ∧ ∀ k, k < i1 → w1 2 k = w 1 k) 0 () _ (Nat.zero_le _) (⟨fun _ _ => rfl, fun p hp => absurd hp (Nat.not_lt_zero p)⟩) (fun i1 x1 w1 hi1 hR1 ih1 => ?_) (fun x1 w1 hR1 => ?_))
  · obtain ⟨ha1, hb1⟩ := hR1
    refine g_iload_n C rfl dX7_putAside_2 ?_
    refine g_sipush (v := 242) C (by decide) dX7_putAside_3 ?_
    refine g_cmp_ge (tgt := 27) C (by decide) dX7_putAside_6 (fun c_6 => absurd c_6 (nI_ge hi1 (by decide))) (fun c_6 => ?_)
    refine g_aload_n C rfl dX7_putAside_9 ?_
    refine g_getr C fl_X7_13 rfl rfl dX7_putAside_10 ?_
    refine g_iload_n C rfl dX7_putAside_13 ?_
    refine g_aload_n C rfl dX7_putAside_14 ?_
    refine g_getr C fl_X7_7 rfl rfl dX7_putAside_15 ?_
    refine g_iload_n C rfl dX7_putAside_18 ?_
    refine g_iald C rfl (by first | rfl | assumption | (simp only [nI_add, pk_mul, *]; done)) (by first | assumption | omega) (by decide) dX7_putAside_19 ?_
    refine g_iast C rfl (by first | rfl | assumption | (simp only [nI_add, pk_mul, *]; done)) (by first | assumption | omega) (by decide) dX7_putAside_20 ?_
    refine g_iinc (v := nI (i1 + 1)) C rfl (nI_1 i1) (by decide) dX7_putAside_21 ?_
    refine g_goto (tgt := 2) C (by decide) dX7_putAside_24 ?_
    exact g_sub rfl (ih1 () _ ⟨fun q hq => by rw [gw_set_ne _ _ _ _ hq]; exact ha1 q hq, fun p hp => by
      rw [gw_set_self]; unfold upd; split
      · next q => rw [q, ha1 1 (by decide)]
      · exact hb1 p (by omega)⟩)
  obtain ⟨ha1, hb1⟩ := hR1
  refine g_iload_n C rfl dX7_putAside_2 ?_
  refine g_sipush (v := 242) C (by decide) dX7_putAside_3 ?_
  refine g_cmp_ge (tgt := 27) C (by decide) dX7_putAside_6 (fun c_6 => ?_) (fun c_6 => absurd (by decide) c_6)
  refine g_vret C F dX7_putAside_27 ?_
  exact ⟨rfl, ha1, hb1⟩

set_option maxHeartbeats 8000000 in
set_option maxRecDepth 100000 in
theorem ok_X7_putBack : gw_Ok yX7_putBack cX7_putBack 2 none sM 1 [.ref 0] (fun _ => True) (fun w vr w1 => vr = none ∧ (∀ q, q ≠ 1 → w1 q = w q) ∧ ∀ k, k < 242 → w1 1 k = w 2 k) := by
  refine gw_of (by decide) (Nat.le_of_ble_eq_true rfl) ?_
  intro X w h C F
  refine g_iconst (v := 0) C (by decide) dX7_putBack_0 ?_
  refine g_istore_n C (by decide) dX7_putBack_1 ?_
  refine g_sub rfl (g_for (α := Unit) 242 (fun i1 x1 => [(0, .ref 0), (1, .int (nI i1))]) (fun i1 x1 w1 => (∀ q, q ≠ 1 → w1 q = w q) ∧ ∀ k, k < i1 → w1 1 k = w 2 k) 0 () _ (Nat.zero_le _) (⟨fun _ _ => rfl, fun p hp => absurd hp (Nat.not_lt_zero p)⟩) (fun i1 x1 w1 hi1 hR1 ih1 => ?_) (fun x1 w1 hR1 => ?_))
  · obtain ⟨ha1, hb1⟩ := hR1
    refine g_iload_n C rfl dX7_putBack_2 ?_
    refine g_sipush (v := 242) C (by decide) dX7_putBack_3 ?_
    refine g_cmp_ge (tgt := 27) C (by decide) dX7_putBack_6 (fun c_6 => absurd c_6 (nI_ge hi1 (by decide))) (fun c_6 => ?_)
    refine g_aload_n C rfl dX7_putBack_9 ?_
    refine g_getr C fl_X7_7 rfl rfl dX7_putBack_10 ?_
    refine g_iload_n C rfl dX7_putBack_13 ?_
    refine g_aload_n C rfl dX7_putBack_14 ?_
    refine g_getr C fl_X7_13 rfl rfl dX7_putBack_15 ?_
    refine g_iload_n C rfl dX7_putBack_18 ?_
    refine g_iald C rfl (by first | rfl | assumption | (simp only [nI_add, pk_mul, *]; done)) (by first | assumption | omega) (by decide) dX7_putBack_19 ?_
    refine g_iast C rfl (by first | rfl | assumption | (simp only [nI_add, pk_mul, *]; done)) (by first | assumption | omega) (by decide) dX7_putBack_20 ?_
    refine g_iinc (v := nI (i1 + 1)) C rfl (nI_1 i1) (by decide) dX7_putBack_21 ?_
    refine g_goto (tgt := 2) C (by decide) dX7_putBack_24 ?_
    exact g_sub rfl (ih1 () _ ⟨fun q hq => by rw [gw_set_ne _ _ _ _ hq]; exact ha1 q hq, fun p hp => by
      rw [gw_set_self]; unfold upd; split
      · next q => rw [q, ha1 2 (by decide)]
      · exact hb1 p (by omega)⟩)
  obtain ⟨ha1, hb1⟩ := hR1
  refine g_iload_n C rfl dX7_putBack_2 ?_
  refine g_sipush (v := 242) C (by decide) dX7_putBack_3 ?_
  refine g_cmp_ge (tgt := 27) C (by decide) dX7_putBack_6 (fun c_6 => ?_) (fun c_6 => absurd (by decide) c_6)
  refine g_vret C F dX7_putBack_27 ?_
  exact ⟨rfl, ha1, hb1⟩

