def cw_bad (least most op d v : Int32) : Prop := d < 0 ∨ 9 < d ∨ most < v * op ∨ v * op + op - 1 < least
/-- a number read by the class -/
noncomputable def cw_num (tx : Nat → Int32) (len : Nat) (least most : Int32) (D : Nat) (g : cw_sg) (i : Nat) : cw_sg × Int32 := cw_fold (fun k (x : cw_sg × Int32) => cw_if (x.1.1 = false) (cw_if (cw_bad least most (nI (10 ^ (D - (k + 1)))) (cw_sgn tx len x.1.2 - 48) (x.2 * 10 + (cw_sgn tx len x.1.2 - 48))) ((true, x.1.2), x.2 * 10 + (cw_sgn tx len x.1.2 - 48)) ((false, x.1.2 + 1), x.2 * 10 + (cw_sgn tx len x.1.2 - 48))) x) 0 i (g, 0)
theorem cw_num_1 (tx : Nat → Int32) (len : Nat) (least most : Int32) (D : Nat) (g : cw_sg) (i : Nat) : cw_num tx len least most D g (i + 1) = (fun k (x : cw_sg × Int32) => cw_if (x.1.1 = false) (cw_if (cw_bad least most (nI (10 ^ (D - (k + 1)))) (cw_sgn tx len x.1.2 - 48) (x.2 * 10 + (cw_sgn tx len x.1.2 - 48))) ((true, x.1.2), x.2 * 10 + (cw_sgn tx len x.1.2 - 48)) ((false, x.1.2 + 1), x.2 * 10 + (cw_sgn tx len x.1.2 - 48))) x) i (cw_num tx len least most D g i) := cw_fold0 (fun k (x : cw_sg × Int32) => cw_if (x.1.1 = false) (cw_if (cw_bad least most (nI (10 ^ (D - (k + 1)))) (cw_sgn tx len x.1.2 - 48) (x.2 * 10 + (cw_sgn tx len x.1.2 - 48))) ((true, x.1.2), x.2 * 10 + (cw_sgn tx len x.1.2 - 48)) ((false, x.1.2 + 1), x.2 * 10 + (cw_sgn tx len x.1.2 - 48))) x) i (g, 0)
theorem cw_num_end (tx : Nat → Int32) (len : Nat) (least most : Int32) (D : Nat) (g : cw_sg) (i : Nat) (h : ¬ (cw_num tx len least most D g i).1.1 = false) : ∀ k, cw_num tx len least most D g (i + k) = cw_num tx len least most D g i := by
  intro k
  induction k with
  | zero => rfl
  | succ k ih => show cw_num tx len least most D g ((i + k) + 1) = _; rw [cw_num_1, ih]; exact cw_ie h
theorem cw_p10 {k : Nat} (h : k ≤ 2) : nI (10 ^ (k + 1)) / 10 = nI (10 ^ k) := by
  have : k = 0 ∨ k = 1 ∨ k = 2 := by omega
  rcases this with rfl | rfl | rfl <;> decide
theorem cw_bad_lt {tx : Nat → Int32} {len p : Nat} {least most op v : Int32} (h : ¬ cw_bad least most op (cw_sgn tx len p - 48) v) : p < len := by
  refine Nat.lt_of_not_le (fun q => h (Or.inl ?_))
  rw [cw_sgn, cw_ie (by omega)]
  decide
theorem cw_TS.wr {tx : Nat → Int32} {len : Nat} {g : cw_sg} {w : gw_M} (h : cw_TS tx len g w) : cw_TS tx len (true, g.2) (gw_set w 0 3 1) :=
  ⟨h.1.set (by decide), by rw [gw_set_self, cw_upn _ _ (by decide)]; exact h.2.1, by rw [gw_set_self, cw_ups]; rfl, h.2.2.2⟩
theorem cw_TS.go {tx : Nat → Int32} {len : Nat} {g : cw_sg} {w : gw_M} (h : cw_TS tx len g w) (hp : g.2 < len) : cw_TS tx len (false, g.2 + 1) (gw_set (gw_set w 0 3 0) 0 2 (nI (g.2 + 1))) :=
  ⟨(h.1.set (by decide)).set (by decide), by rw [gw_set_self, cw_ups], by rw [gw_set_self, cw_upn _ _ (by decide), gw_set_self, cw_ups]; rfl, by have := h.1.2.1; show g.2 + 1 ≤ 120; omega⟩

set_option maxHeartbeats 8000000 in
set_option maxRecDepth 100000 in
theorem ok_X5_readNumber {tx : Nat → Int32} {len : Nat} (D : Nat) (hD : D ≤ 3) (least most : Int32) (g : cw_sg) (c : Nat) (hc : c < 3) : gw_Ok yX5_readNumber cX5_readNumber 8 none sT 2 [.ref 0, .int (nI D), .int least, .int most] (fun w => cw_TS tx len g w ∧ w 0 5 = nI c) (fun w vr w1 => vr = none ∧ cw_TS tx len (cw_num tx len least most D g D).1 w1 ∧ w1 0 5 = nI (c + 1) ∧ w1 2 = upd (w 2) c (cw_num tx len least most D g D).2 ∧ w1 1 = w 1) := by
  refine gw_of (by decide) (Nat.le_of_ble_eq_true rfl) ?_
  intro X w h C F
  obtain ⟨hts, h5⟩ := h
  refine g_iconst (v := 1) C (by decide) dX5_readNumber_0 ?_
  refine g_istore C (by decide) dX5_readNumber_1 ?_
  refine g_iconst (v := 0) C (by decide) dX5_readNumber_3 ?_
  refine g_istore C (by decide) dX5_readNumber_4 ?_
  refine g_sub rfl (g_for (α := Int32) (D) (fun i9 x => [(0, .ref 0), (1, .int (nI D)), (2, .int least), (3, .int most), (4, .int x), (5, .int (nI i9))]) (fun i9 x w1 => x = nI (10 ^ i9) ∧ w1 = w) 0 1 _ (Nat.zero_le _) (⟨rfl, rfl⟩) (fun i9 x w1 hi1 hR1 ih1 => ?_) (fun x w1 hR1 => ?_))
  · obtain ⟨hx1, hw1⟩ := hR1
    refine g_iload C rfl dX5_readNumber_6 ?_
    refine g_iload_n C rfl dX5_readNumber_8 ?_
    refine g_cmp_ge (tgt := 25) C (by decide) dX5_readNumber_9 (fun c_9 => absurd c_9 (nI_ge hi1 (by omega))) (fun c_9 => ?_)
    refine g_iload C rfl dX5_readNumber_12 ?_
    refine g_bipush (v := 10) C (by decide) dX5_readNumber_14 ?_
    refine g_imul C dX5_readNumber_16 ?_
    refine g_istore C (by decide) dX5_readNumber_17 ?_
    refine g_iinc (v := nI (i9 + 1)) C rfl (nI_1 i9) (by decide) dX5_readNumber_19 ?_
    refine g_goto (tgt := 6) C (by decide) dX5_readNumber_22 ?_
    exact g_sub rfl (ih1 _ _ ⟨by rw [hx1, show (10 : Int32) = nI 10 from rfl, pk_mul, Nat.pow_succ], hw1⟩)
  obtain ⟨hx1, hq1⟩ := hR1
  have hq1 := hq1.symm
  subst hq1
  subst hx1
  refine g_iload C rfl dX5_readNumber_6 ?_
  refine g_iload_n C rfl dX5_readNumber_8 ?_
  refine g_cmp_ge (tgt := 25) C (by decide) dX5_readNumber_9 (fun c_9 => ?_) (fun c_9 => absurd (nI_le (Nat.le_refl _) (by omega)) c_9)
  refine g_iconst (v := 0) C (by decide) dX5_readNumber_25 ?_
  refine g_istore C (by decide) dX5_readNumber_26 ?_
  refine g_iconst (v := 0) C (by decide) dX5_readNumber_28 ?_
  refine g_istore C (by decide) dX5_readNumber_29 ?_
  refine g_sub rfl (g_for (α := cw_sg × Int32) (D) (fun i9 x => [(0, .ref 0), (1, .int (nI D)), (2, .int least), (3, .int most), (4, .int (nI (10 ^ (D - i9)))), (5, .int (x).2), (6, .int (nI i9))]) (fun i9 x w2 => x = (cw_num tx len least most D g i9) ∧ cw_TS tx len (x).1 w2 ∧ w2 0 5 = nI c ∧ w2 1 = w 1 ∧ w2 2 = w 2) 0 (g, 0) _ (Nat.zero_le _) (⟨rfl, hts, h5, rfl, rfl⟩) (fun i9 x w2 hi2 hR2 ih2 => ?_) (fun x w2 hR2 => ?_))
  · obtain ⟨hx2, hts2, h52, hw12, hw22⟩ := hR2
    refine g_iload C rfl dX5_readNumber_31 ?_
    refine g_iload_n C rfl dX5_readNumber_33 ?_
    refine g_cmp_ge (tgt := 137) C (by decide) dX5_readNumber_34 (fun c_34 => absurd c_34 (nI_ge hi2 (by omega))) (fun c_34 => ?_)
    refine g_aload_n C rfl dX5_readNumber_37 ?_
    refine g_getf C fl_X5_37 rfl rfl dX5_readNumber_38 ?_
    refine g_top hts2.2.2.1 ?_
    refine g_if_ne (tgt := 137) C (by decide) dX5_readNumber_41 (fun c_41 => ?_) (fun c_41 => ?_)
    · have hww : ¬ x.1.1 = false := fun q => c_41 (by rw [q]; rfl)
      refine g_aload_n C rfl dX5_readNumber_137 ?_
      refine g_iload C rfl dX5_readNumber_138 ?_
      refine g_call C (ok_X5_keepValue (tx := tx) (len := len) _ c hc) my_X5_keepValue vi_X5_79 (by decide) ⟨Nat.le_refl _, Nat.le_refl _⟩ rfl rfl rfl (Nat.le_of_ble_eq_true rfl) dX5_readNumber_140 rfl (h52) (fun v_140 w_140 hp_140 => ?_)
      obtain ⟨rfl, hw140⟩ := hp_140
      refine g_vret C F dX5_readNumber_143 ?_
      have hxe : x = cw_num tx len least most D g D := by have e := cw_num_end tx len least most D g i9 (by rw [← hx2]; exact hww) (D - i9); rw [show i9 + (D - i9) = D by omega] at e; rw [e]; exact hx2
      rw [hxe] at hts2 hw140
      refine ⟨rfl, ⟨?_, ?_, ?_, hts2.2.2.2⟩, ?_, ?_, ?_⟩
      · exact hts2.1.cg (by rw [hw140, gw_set_ne _ _ _ _ (by decide), gw_set_ne _ _ _ _ (by decide)]) (by rw [hw140, gw_set_self, cw_upn _ _ (by decide), gw_set_ne _ _ _ _ (by decide)])
      · rw [hw140, gw_set_self, cw_upn _ _ (by decide), gw_set_ne _ _ _ _ (by decide)]; exact hts2.2.1
      · rw [hw140, gw_set_self, cw_upn _ _ (by decide), gw_set_ne _ _ _ _ (by decide)]; exact hts2.2.2.1
      · rw [hw140, gw_set_self, cw_ups]
      · rw [hw140, gw_set_ne _ _ _ _ (by decide), gw_set_self, hw22]
      · rw [hw140, gw_set_ne _ _ _ _ (by decide), gw_set_ne _ _ _ _ (by decide)]; exact hw12
    · have hww : x.1.1 = false := cw_bi0 c_41
      refine g_aload_n C rfl dX5_readNumber_44 ?_
      refine g_call C (ok_X5_nextSign x.1.2) my_X5_nextSign vi_X5_48 (by decide) ⟨Nat.le_refl _, Nat.le_refl _⟩ rfl rfl rfl (Nat.le_of_ble_eq_true rfl) dX5_readNumber_45 rfl (⟨hts2.1, hts2.2.1, hts2.2.2.2⟩) (fun v_45 w_45 hp_45 => ?_)
      obtain ⟨rfl, hw_45⟩ := hp_45
      have hw_45 := hw_45.symm; subst hw_45
      refine g_bipush (v := 48) C (by decide) dX5_readNumber_48 ?_
      refine g_isub C dX5_readNumber_50 ?_
      refine g_istore C (by decide) dX5_readNumber_51 ?_
      refine g_iload C rfl dX5_readNumber_53 ?_
      refine g_bipush (v := 10) C (by decide) dX5_readNumber_55 ?_
      refine g_idiv C (by decide) dX5_readNumber_57 ?_
      refine g_top (show _ = nI (10 ^ (D - (i9 + 1))) by rw [show D - i9 = (D - (i9 + 1)) + 1 by omega]; exact cw_p10 (by omega)) ?_
      refine g_istore C (by decide) dX5_readNumber_58 ?_
      refine g_iload C rfl dX5_readNumber_60 ?_
      refine g_bipush (v := 10) C (by decide) dX5_readNumber_62 ?_
      refine g_imul C dX5_readNumber_64 ?_
      refine g_iload C rfl dX5_readNumber_65 ?_
      refine g_iadd C dX5_readNumber_67 ?_
      refine g_istore C (by decide) dX5_readNumber_68 ?_
      refine g_aload_n C rfl dX5_readNumber_70 ?_
      refine g_iload C rfl dX5_readNumber_71 ?_
      refine g_join1 111 (cw_b (cw_bad least most (nI (10 ^ (D - (i9 + 1)))) (cw_sgn tx len x.1.2 - 48) (x.2 * 10 + (cw_sgn tx len x.1.2 - 48)))) (fun k_111 => ?_) ?_
      · refine g_if_lt (tgt := 106) C (by decide) dX5_readNumber_73 (fun c_73 => ?_) (fun c_73 => ?_)
        · refine g_iconst (v := 1) C (by decide) dX5_readNumber_106 ?_
          refine g_goto (tgt := 111) C (by decide) dX5_readNumber_107 ?_
          exact k_111 _ ((cw_b1 (Or.inl c_73)).symm)
        · refine g_iload C rfl dX5_readNumber_76 ?_
          refine g_bipush (v := 9) C (by decide) dX5_readNumber_78 ?_
          refine g_cmp_gt (tgt := 106) C (by decide) dX5_readNumber_80 (fun c_80 => ?_) (fun c_80 => ?_)
          · refine g_iconst (v := 1) C (by decide) dX5_readNumber_106 ?_
            refine g_goto (tgt := 111) C (by decide) dX5_readNumber_107 ?_
            exact k_111 _ ((cw_b1 (Or.inr (Or.inl c_80))).symm)
          · refine g_iload C rfl dX5_readNumber_83 ?_
            refine g_iload C rfl dX5_readNumber_85 ?_
            refine g_imul C dX5_readNumber_87 ?_
            refine g_iload_n C rfl dX5_readNumber_88 ?_
            refine g_cmp_gt (tgt := 106) C (by decide) dX5_readNumber_89 (fun c_89 => ?_) (fun c_89 => ?_)
            · refine g_iconst (v := 1) C (by decide) dX5_readNumber_106 ?_
              refine g_goto (tgt := 111) C (by decide) dX5_readNumber_107 ?_
              exact k_111 _ ((cw_b1 (Or.inr (Or.inr (Or.inl c_89)))).symm)
            · refine g_iload C rfl dX5_readNumber_92 ?_
              refine g_iload C rfl dX5_readNumber_94 ?_
              refine g_imul C dX5_readNumber_96 ?_
              refine g_iload C rfl dX5_readNumber_97 ?_
              refine g_iadd C dX5_readNumber_99 ?_
              refine g_iconst (v := 1) C (by decide) dX5_readNumber_100 ?_
              refine g_isub C dX5_readNumber_101 ?_
              refine g_iload_n C rfl dX5_readNumber_102 ?_
              refine g_cmp_ge (tgt := 110) C (by decide) dX5_readNumber_103 (fun c_103 => ?_) (fun c_103 => ?_)
              · refine g_iconst (v := 0) C (by decide) dX5_readNumber_110 ?_
                exact k_111 _ ((cw_bf (fun q => q.elim c_73 (fun q => q.elim (fun z => c_80 z) (fun q => q.elim (fun z => c_89 z) (fun z => absurd c_103 (Int32.not_le.mpr z)))))).symm)
              · refine g_iconst (v := 1) C (by decide) dX5_readNumber_106 ?_
                refine g_goto (tgt := 111) C (by decide) dX5_readNumber_107 ?_
                exact k_111 _ ((cw_b1 (Or.inr (Or.inr (Or.inr (Int32.not_le.mp c_103))))).symm)
      refine g_putf C fl_X5_37 fp_3_3 rfl rfl (cw_bz _) (cw_fit (cw_b_r _)) dX5_readNumber_111 ?_
      refine g_aload_n C rfl dX5_readNumber_114 ?_
      refine g_getf C fl_X5_37 rfl rfl dX5_readNumber_115 ?_
      refine g_top (show _ = cw_b (cw_bad least most (nI (10 ^ (D - (i9 + 1)))) (cw_sgn tx len x.1.2 - 48) (x.2 * 10 + (cw_sgn tx len x.1.2 - 48))) by rw [gw_set_self, cw_ups]) ?_
      refine g_if_ne (tgt := 131) C (by decide) dX5_readNumber_118 (fun c_118 => ?_) (fun c_118 => ?_)
      · refine g_iinc (v := nI (i9 + 1)) C rfl (nI_1 i9) (by decide) dX5_readNumber_131 ?_
        refine g_goto (tgt := 31) C (by decide) dX5_readNumber_134 ?_
        have hbd := cw_bn c_118
        rw [cw_b1 hbd]
        exact g_sub rfl (ih2 ((true, x.1.2), (x.2 * 10 + (cw_sgn tx len x.1.2 - 48))) _ ⟨by rw [cw_num_1, ← hx2]; show _ = cw_if _ _ _; rw [cw_it hww, cw_it hbd], hts2.wr, by rw [gw_set_self, cw_upn _ _ (by decide)]; exact h52, by rw [gw_set_ne _ _ _ _ (by decide)]; exact hw12, by rw [gw_set_ne _ _ _ _ (by decide)]; exact hw22⟩)
      · refine g_aload_n C rfl dX5_readNumber_121 ?_
        refine g_dup C rfl dX5_readNumber_122 ?_
        refine g_getf C fl_X5_41 rfl rfl dX5_readNumber_123 ?_
        refine g_top (show _ = nI x.1.2 by rw [gw_set_self, cw_upn _ _ (by decide)]; exact hts2.2.1) ?_
        refine g_iconst (v := 1) C (by decide) dX5_readNumber_126 ?_
        refine g_iadd C dX5_readNumber_127 ?_
        refine g_top (nI_1 x.1.2) ?_
        refine g_putf C fl_X5_41 fp_3_2 rfl rfl (rfl) (rfl) dX5_readNumber_128 ?_
        refine g_iinc (v := nI (i9 + 1)) C rfl (nI_1 i9) (by decide) dX5_readNumber_131 ?_
        refine g_goto (tgt := 31) C (by decide) dX5_readNumber_134 ?_
        have hbd := cw_b0.mp c_118
        rw [cw_bf hbd]
        exact g_sub rfl (ih2 ((false, x.1.2 + 1), (x.2 * 10 + (cw_sgn tx len x.1.2 - 48))) _ ⟨by rw [cw_num_1, ← hx2]; show _ = cw_if _ _ _; rw [cw_it hww, cw_ie hbd], hts2.go (cw_bad_lt hbd), by rw [gw_set_self, cw_upn _ _ (by decide), gw_set_self, cw_upn _ _ (by decide)]; exact h52, by rw [gw_set_ne _ _ _ _ (by decide), gw_set_ne _ _ _ _ (by decide)]; exact hw12, by rw [gw_set_ne _ _ _ _ (by decide), gw_set_ne _ _ _ _ (by decide)]; exact hw22⟩)
  obtain ⟨hx2, hts2, h52, hw12, hw22⟩ := hR2
  refine g_iload C rfl dX5_readNumber_31 ?_
  refine g_iload_n C rfl dX5_readNumber_33 ?_
  refine g_cmp_ge (tgt := 137) C (by decide) dX5_readNumber_34 (fun c_34 => ?_) (fun c_34 => absurd (nI_le (Nat.le_refl _) (by omega)) c_34)
  refine g_aload_n C rfl dX5_readNumber_137 ?_
  refine g_iload C rfl dX5_readNumber_138 ?_
  refine g_call C (ok_X5_keepValue (tx := tx) (len := len) _ c hc) my_X5_keepValue vi_X5_79 (by decide) ⟨Nat.le_refl _, Nat.le_refl _⟩ rfl rfl rfl (Nat.le_of_ble_eq_true rfl) dX5_readNumber_140 rfl (h52) (fun v_140 w_140 hp_140 => ?_)
  obtain ⟨rfl, hw140⟩ := hp_140
  refine g_vret C F dX5_readNumber_143 ?_
  have hxe : x = cw_num tx len least most D g D := by exact hx2
  rw [hxe] at hts2 hw140
  refine ⟨rfl, ⟨?_, ?_, ?_, hts2.2.2.2⟩, ?_, ?_, ?_⟩
  · exact hts2.1.cg (by rw [hw140, gw_set_ne _ _ _ _ (by decide), gw_set_ne _ _ _ _ (by decide)]) (by rw [hw140, gw_set_self, cw_upn _ _ (by decide), gw_set_ne _ _ _ _ (by decide)])
  · rw [hw140, gw_set_self, cw_upn _ _ (by decide), gw_set_ne _ _ _ _ (by decide)]; exact hts2.2.1
  · rw [hw140, gw_set_self, cw_upn _ _ (by decide), gw_set_ne _ _ _ _ (by decide)]; exact hts2.2.2.1
  · rw [hw140, gw_set_self, cw_ups]
  · rw [hw140, gw_set_ne _ _ _ _ (by decide), gw_set_self, hw22]
  · rw [hw140, gw_set_ne _ _ _ _ (by decide), gw_set_ne _ _ _ _ (by decide)]; exact hw12

