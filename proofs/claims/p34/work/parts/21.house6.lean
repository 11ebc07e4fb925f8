set_option maxHeartbeats 8000000 in
set_option maxRecDepth 100000 in
theorem ok_X1_partOf {t : cw_s} (a c : Int32)  (j : Nat) (hj : j < 6) (ea : a = nI j) {n m : Nat} (hI : cw_I n m t) (hc1 : 0 ≤ c.toInt) (hc2 : c.toInt ≤ 999) : gw_Ok yX1_partOf cX1_partOf 9 (some .int) sH 2 [.ref 0, .int a, .int c] (fun w => ho w = t) (fun w vr w1 => vr = some (.int (cw_part t j c)) ∧ w1 = w) := by
  refine gw_of (by decide) (Nat.le_of_ble_eq_true rfl) ?_
  intro X w h C F
  have hno := hI.no
  subst ea
  have ij : (nI j).toInt = (j : Int) := cw_ni (by omega)
  have hsr := (cw_shares_r hI).toInt (by decide)
  unfold cw_part at F
  refine g_aload_n C rfl dX1_partOf_0 ?_
  refine g_call C (ok_X1_sharesOfAll hI) my_X1_sharesOfAll vi_X1_152 (by decide) ⟨Nat.le_refl _, Nat.le_refl _⟩ rfl rfl rfl (Nat.le_of_ble_eq_true rfl) dX1_partOf_1 rfl (h) (fun v_1 w_1 hp_1 => ?_)
  obtain ⟨rfl, hw_1⟩ := hp_1
  have hw_1 := hw_1.symm; subst hw_1
  refine g_istore_n C (by decide) dX1_partOf_4 ?_
  refine g_aload_n C rfl dX1_partOf_5 ?_
  refine g_iload_n C rfl dX1_partOf_6 ?_
  refine g_call C (ok_X1_hasOwner _ (by first | assumption)) my_X1_hasOwner vi_X1_80 (by decide) ⟨Nat.le_refl _, Nat.le_refl _⟩ rfl rfl rfl (Nat.le_of_ble_eq_true rfl) dX1_partOf_7 rfl (h) (fun v_7 w_7 hp_7 => ?_)
  obtain ⟨rfl, hw_7⟩ := hp_7
  have hw_7 := hw_7.symm; subst hw_7
  refine g_if_eq (tgt := 17) C (by decide) dX1_partOf_10 (fun c_10 => ?_) (fun c_10 => ?_)
  · refine g_iconst (v := 0) C (by decide) dX1_partOf_17 ?_
    refine g_iret C F dX1_partOf_18 ?_
    exact ⟨by rw [cw_ie (fun q => cw_b0.mp c_10 (cw_isO_nI hI.m q))], rfl⟩
  · have hjn : j < cw_no t := by
      rcases Nat.lt_or_ge j (cw_no t) with q | q
      · exact q
      · exact absurd (cw_bn c_10) (cw_isO_no hI.m (by omega) hj)
    have hs0 : 0 < cw_shares t := by rw [cw_lt]; have z : (0 : Int32).toInt = 0 := rfl; omega
    have hs1 : ¬ cw_shares t = 0 := fun q => by rw [q] at hsr; have z : (0 : Int32).toInt = 0 := rfl; omega
    refine g_iload_n C rfl dX1_partOf_13 ?_
    refine g_if_gt (tgt := 19) C (by decide) dX1_partOf_14 (fun c_14 => ?_) (fun c_14 => absurd (hs0) c_14)
    refine g_iload_n C rfl dX1_partOf_19 ?_
    refine g_aload_n C rfl dX1_partOf_20 ?_
    refine g_getr C fl_X1_18 rfl rfl dX1_partOf_21 ?_
    refine g_iload_n C rfl dX1_partOf_24 ?_
    refine g_iald C rfl (by first | rfl | assumption | (simp only [nI_add, pk_mul, *]; done)) (by first | assumption | omega) (by decide) dX1_partOf_25 ?_
    refine g_top (ho_r3 h (by first | assumption | omega) (rfl)) ?_
    refine g_imul C dX1_partOf_26 ?_
    refine g_iload_n C rfl dX1_partOf_27 ?_
    refine g_irem C (hs1) dX1_partOf_28 ?_
    refine g_istore C (by decide) dX1_partOf_29 ?_
    refine g_iload_n C rfl dX1_partOf_31 ?_
    refine g_istore C (by decide) dX1_partOf_32 ?_
    refine g_iconst (v := 0) C (by decide) dX1_partOf_34 ?_
    refine g_istore C (by decide) dX1_partOf_35 ?_
    refine g_iconst (v := 0) C (by decide) dX1_partOf_37 ?_
    refine g_istore C (by decide) dX1_partOf_38 ?_
    refine g_sub rfl (g_for (α := Int32 × Int32) 6 (fun i1 x => [(0, .ref 0), (1, .int (nI j)), (2, .int c), (3, .int (cw_shares t)), (4, .int (cw_md (c * t (1 + 4 * j + 0)) (cw_shares t))), (5, .int (x).1), (6, .int (x).2), (7, .int (nI i1))]) (fun i1 x w1 => x = cw_fold (cw_ahead t j c) 0 i1 (c, 0) ∧ w1 = w) 0 (c, 0) _ (Nat.zero_le _) (⟨rfl, rfl⟩) (fun i1 x w1 hi1 hR1 ih1 => ?_) (fun x w1 hR1 => ?_))
    · obtain ⟨hx1, rfl⟩ := hR1
      refine g_iload C rfl dX1_partOf_40 ?_
      refine g_bipush (v := 6) C (by decide) dX1_partOf_42 ?_
      refine g_cmp_ge (tgt := 105) C (by decide) dX1_partOf_44 (fun c_44 => absurd c_44 (nI_ge hi1 (by decide))) (fun c_44 => ?_)
      refine g_iload C rfl dX1_partOf_47 ?_
      refine g_iload_n C rfl dX1_partOf_49 ?_
      refine g_aload_n C rfl dX1_partOf_50 ?_
      refine g_getr C fl_X1_18 rfl rfl dX1_partOf_51 ?_
      refine g_iload C rfl dX1_partOf_54 ?_
      refine g_iald C rfl (by first | rfl | assumption | (simp only [nI_add, pk_mul, *]; done)) (by first | assumption | omega) (by decide) dX1_partOf_56 ?_
      refine g_top (ho_r3 h (by first | assumption | omega) (rfl)) ?_
      refine g_imul C dX1_partOf_57 ?_
      refine g_iload_n C rfl dX1_partOf_58 ?_
      refine g_idiv C (hs1) dX1_partOf_59 ?_
      refine g_isub C dX1_partOf_60 ?_
      refine g_istore C (by decide) dX1_partOf_61 ?_
      refine g_iload_n C rfl dX1_partOf_63 ?_
      refine g_aload_n C rfl dX1_partOf_64 ?_
      refine g_getr C fl_X1_18 rfl rfl dX1_partOf_65 ?_
      refine g_iload C rfl dX1_partOf_68 ?_
      refine g_iald C rfl (by first | rfl | assumption | (simp only [nI_add, pk_mul, *]; done)) (by first | assumption | omega) (by decide) dX1_partOf_70 ?_
      refine g_top (ho_r3 h (by first | assumption | omega) (rfl)) ?_
      refine g_imul C dX1_partOf_71 ?_
      refine g_iload_n C rfl dX1_partOf_72 ?_
      refine g_irem C (hs1) dX1_partOf_73 ?_
      refine g_top (show _ = cw_md (c * t (1 + 4 * i1 + 0)) (cw_shares t) from rfl) ?_
      refine g_istore C (by decide) dX1_partOf_74 ?_
      refine g_iload C rfl dX1_partOf_76 ?_
      refine g_iload C rfl dX1_partOf_78 ?_
      refine g_cmp_gt (tgt := 96) C (by decide) dX1_partOf_80 (fun c_80 => ?_) (fun c_80 => ?_)
      · refine g_iinc (v := x.2 + 1) C rfl (rfl) (by decide) dX1_partOf_96 ?_
        refine g_iinc (v := nI (i1 + 1)) C rfl (nI_1 i1) (by decide) dX1_partOf_99 ?_
        refine g_goto (tgt := 40) C (by decide) dX1_partOf_102 ?_
        exact g_sub rfl (ih1 (_, _) _ ⟨by rw [cw_fold0, ← hx1]; unfold cw_ahead; rw [if_pos (Or.inl c_80)], rfl⟩)
      · refine g_iload C rfl dX1_partOf_83 ?_
        refine g_iload C rfl dX1_partOf_85 ?_
        refine g_cmp_ne (tgt := 99) C (by decide) dX1_partOf_87 (fun c_87 => ?_) (fun c_87 => ?_)
        · refine g_iinc (v := nI (i1 + 1)) C rfl (nI_1 i1) (by decide) dX1_partOf_99 ?_
          refine g_goto (tgt := 40) C (by decide) dX1_partOf_102 ?_
          exact g_sub rfl (ih1 (_, _) _ ⟨by rw [cw_fold0, ← hx1]; unfold cw_ahead; rw [if_neg (fun q => q.elim c_80 (fun z => c_87 z.1))], rfl⟩)
        · refine g_iload C rfl dX1_partOf_90 ?_
          refine g_iload_n C rfl dX1_partOf_92 ?_
          refine g_cmp_ge (tgt := 99) C (by decide) dX1_partOf_93 (fun c_93 => ?_) (fun c_93 => ?_)
          · refine g_iinc (v := nI (i1 + 1)) C rfl (nI_1 i1) (by decide) dX1_partOf_99 ?_
            refine g_goto (tgt := 40) C (by decide) dX1_partOf_102 ?_
            exact g_sub rfl (ih1 (_, _) _ ⟨by rw [cw_fold0, ← hx1]; unfold cw_ahead; rw [if_neg (fun q => q.elim c_80 (fun z => by have z := z.2; rw [cw_le, cw_ni (show i1 < 1000 by omega), ij] at c_93; omega))], rfl⟩)
          · refine g_iinc (v := x.2 + 1) C rfl (rfl) (by decide) dX1_partOf_96 ?_
            refine g_iinc (v := nI (i1 + 1)) C rfl (nI_1 i1) (by decide) dX1_partOf_99 ?_
            refine g_goto (tgt := 40) C (by decide) dX1_partOf_102 ?_
            exact g_sub rfl (ih1 (_, _) _ ⟨by rw [cw_fold0, ← hx1]; unfold cw_ahead; rw [if_pos (Or.inr ⟨c_87, by have z := c_93; rw [cw_le, cw_ni (show i1 < 1000 by omega), ij] at z; omega⟩)], rfl⟩)
    obtain ⟨hx1, rfl⟩ := hR1
    refine g_iload C rfl dX1_partOf_40 ?_
    refine g_bipush (v := 6) C (by decide) dX1_partOf_42 ?_
    refine g_cmp_ge (tgt := 105) C (by decide) dX1_partOf_44 (fun c_44 => ?_) (fun c_44 => absurd (by decide) c_44)
    refine g_iload_n C rfl dX1_partOf_105 ?_
    refine g_aload_n C rfl dX1_partOf_106 ?_
    refine g_getr C fl_X1_18 rfl rfl dX1_partOf_107 ?_
    refine g_iload_n C rfl dX1_partOf_110 ?_
    refine g_iald C rfl (by first | rfl | assumption | (simp only [nI_add, pk_mul, *]; done)) (by first | assumption | omega) (by decide) dX1_partOf_111 ?_
    refine g_top (ho_r3 h (by first | assumption | omega) (rfl)) ?_
    refine g_imul C dX1_partOf_112 ?_
    refine g_iload_n C rfl dX1_partOf_113 ?_
    refine g_idiv C (hs1) dX1_partOf_114 ?_
    refine g_iload C rfl dX1_partOf_115 ?_
    refine g_iload C rfl dX1_partOf_117 ?_
    refine g_cmp_ge (tgt := 126) C (by decide) dX1_partOf_119 (fun c_119 => ?_) (fun c_119 => ?_)
    · refine g_iconst (v := 0) C (by decide) dX1_partOf_126 ?_
      refine g_iadd C dX1_partOf_127 ?_
      refine g_iret C F dX1_partOf_128 ?_
      have hf : x = cw_fold (cw_ahead t j c) 0 (cw_no t) (c, 0) := by rw [hx1, cw_fold_id (f := (cw_ahead t j c)) (cw_no t) 6 hI.m.2 (c, 0) (fun i a1 a2 => cw_partOf_nil hI hc1 hc2 hjn i a1 a2 _)]
      exact ⟨by rw [cw_it hjn, cw_partOf, ← hf]; show _ = some (Value.int (_ + (if x.2 < x.1 then 1 else 0))); rw [if_neg (Int32.not_lt.mpr c_119)], rfl⟩
    · refine g_iconst (v := 1) C (by decide) dX1_partOf_122 ?_
      refine g_goto (tgt := 127) C (by decide) dX1_partOf_123 ?_
      refine g_iadd C dX1_partOf_127 ?_
      refine g_iret C F dX1_partOf_128 ?_
      have hf : x = cw_fold (cw_ahead t j c) 0 (cw_no t) (c, 0) := by rw [hx1, cw_fold_id (f := (cw_ahead t j c)) (cw_no t) 6 hI.m.2 (c, 0) (fun i a1 a2 => cw_partOf_nil hI hc1 hc2 hjn i a1 a2 _)]
      exact ⟨by rw [cw_it hjn, cw_partOf, ← hf]; show _ = some (Value.int (_ + (if x.2 < x.1 then 1 else 0))); rw [if_pos (Int32.not_le.mp c_119)], rfl⟩

set_option maxHeartbeats 8000000 in
set_option maxRecDepth 100000 in
theorem ok_X1_payUpkeep {t : cw_s} (c : Int32) {n m : Nat} (hI : cw_I n m t) : gw_Ok yX1_payUpkeep cX1_payUpkeep 5 (some .int) sH 3 [.ref 0, .int c] (fun w => ho w = t) (fun _ vr w1 => vr = some (.int (cw_re (cw_oUpkeep t c).1)) ∧ ho w1 = (cw_oUpkeep t c).2) := by
  refine gw_of (by decide) (Nat.le_of_ble_eq_true rfl) ?_
  intro X w h C F
  have hno := hI.no
  refine g_aload_n C rfl dX1_payUpkeep_0 ?_
  refine g_getf C fl_X1_74 rfl rfl dX1_payUpkeep_1 ?_
  refine g_top (ho_f3 h) ?_
  refine g_if_eq (tgt := 19) C (by decide) dX1_payUpkeep_4 (fun c_4 => ?_) (fun c_4 => ?_)
  · refine g_bipush (v := (-2)) C (by decide) dX1_payUpkeep_19 ?_
    refine g_iret C F dX1_payUpkeep_21 ?_
    have hq : cw_oUpkeep t c = (-9, t) := cw_ie (fun q => by first | exact q.2 c_4 | exact absurd q.1.1 (Int32.not_le.mpr c_9) | exact c_16 q.1.2)
    exact ⟨by rw [hq]; rfl, by rw [hq]; exact h⟩
  · refine g_iload_n C rfl dX1_payUpkeep_7 ?_
    refine g_iconst (v := 1) C (by decide) dX1_payUpkeep_8 ?_
    refine g_cmp_lt (tgt := 19) C (by decide) dX1_payUpkeep_9 (fun c_9 => ?_) (fun c_9 => ?_)
    · refine g_bipush (v := (-2)) C (by decide) dX1_payUpkeep_19 ?_
      refine g_iret C F dX1_payUpkeep_21 ?_
      have hq : cw_oUpkeep t c = (-9, t) := cw_ie (fun q => by first | exact q.2 c_4 | exact absurd q.1.1 (Int32.not_le.mpr c_9) | exact c_16 q.1.2)
      exact ⟨by rw [hq]; rfl, by rw [hq]; exact h⟩
    · refine g_iload_n C rfl dX1_payUpkeep_12 ?_
      refine g_sipush (v := 999) C (by decide) dX1_payUpkeep_13 ?_
      refine g_cmp_le (tgt := 22) C (by decide) dX1_payUpkeep_16 (fun c_16 => ?_) (fun c_16 => ?_)
      · have hqq : (1 ≤ c ∧ c ≤ 999) ∧ ¬ t 0 = 0 := ⟨⟨Int32.not_lt.mp c_9, c_16⟩, c_4⟩
        have hc1 : 0 ≤ c.toInt := by have q := cw_le.mp hqq.1.1; have z : (1 : Int32).toInt = 1 := rfl; omega
        have hc2 : c.toInt ≤ 999 := cw_le.mp c_16
        refine g_iconst (v := 0) C (by decide) dX1_payUpkeep_22 ?_
        refine g_istore_n C (by decide) dX1_payUpkeep_23 ?_
        refine g_iconst (v := 0) C (by decide) dX1_payUpkeep_24 ?_
        refine g_istore_n C (by decide) dX1_payUpkeep_25 ?_
        refine g_sub rfl (g_for (α := Int32 × cw_s) 6 (fun i1 x => [(0, .ref 0), (1, .int c), (2, .int (x).1), (3, .int (nI i1))]) (fun i1 x w1 => x = cw_fold (cw_pays t c) 0 (min i1 (cw_no t)) (0, t) ∧ ho w1 = (x).2) 0 (0, t) _ (Nat.zero_le _) (⟨by rw [Nat.zero_min]; rfl, h⟩) (fun i1 x w1 hi1 hR1 ih1 => ?_) (fun x w1 hR1 => ?_))
        · obtain ⟨hx1, hw1⟩ := hR1
          have hf1 := cw_pays_ok hI hc1 hc2 (min i1 (cw_no t)) (Nat.min_le_right _ _)
          rw [← hx1] at hf1
          refine g_iload_n C rfl dX1_payUpkeep_26 ?_
          refine g_bipush (v := 6) C (by decide) dX1_payUpkeep_27 ?_
          refine g_cmp_ge (tgt := 64) C (by decide) dX1_payUpkeep_29 (fun c_29 => absurd c_29 (nI_ge hi1 (by decide))) (fun c_29 => ?_)
          refine g_aload_n C rfl dX1_payUpkeep_32 ?_
          refine g_iload_n C rfl dX1_payUpkeep_33 ?_
          refine g_iload_n C rfl dX1_payUpkeep_34 ?_
          refine g_call C (ok_X1_partOf (t := x.2) _ _ i1 hi1 rfl hf1.1 hc1 hc2) my_X1_partOf vi_X1_149 (by decide) ⟨Nat.le_refl _, Nat.le_refl _⟩ rfl rfl rfl (Nat.le_of_ble_eq_true rfl) dX1_payUpkeep_35 rfl (hw1) (fun v_35 w_35 hp_35 => ?_)
          obtain ⟨rfl, hw_35⟩ := hp_35
          have hw_35 := hw_35.symm; subst hw_35
          refine g_top (show _ = cw_part t i1 c by unfold cw_part; rw [cw_no_eq hf1.2.1, cw_partOf_cg hf1.2.1 hno.2 hf1.2.2.1 hi1]) ?_
          refine g_istore C (by decide) dX1_payUpkeep_38 ?_
          refine g_aload_n C rfl dX1_payUpkeep_40 ?_
          refine g_getr C fl_X1_27 rfl rfl dX1_payUpkeep_41 ?_
          refine g_iload_n C rfl dX1_payUpkeep_44 ?_
          refine g_dup2 C rfl rfl dX1_payUpkeep_45 ?_
          refine g_iald C rfl (by first | rfl | assumption | (simp only [nI_add, pk_mul, *]; done)) (by first | assumption | omega) (by decide) dX1_payUpkeep_46 ?_
          refine g_top (ho_r6 hw1 (by first | assumption | omega) (rfl)) ?_
          refine g_iload C rfl dX1_payUpkeep_47 ?_
          refine g_iadd C dX1_payUpkeep_49 ?_
          refine g_iast C rfl (by first | rfl | assumption | (simp only [nI_add, pk_mul, *]; done)) (by first | assumption | omega) (by decide) dX1_payUpkeep_50 ?_
          refine g_gen (ho_s6 hw1 (by first | assumption | omega) (rfl)) (fun w2 h2 => ?_)
          refine g_iload_n C rfl dX1_payUpkeep_51 ?_
          refine g_iload C rfl dX1_payUpkeep_52 ?_
          refine g_mmax C mx_X1_95 (by decide) dX1_payUpkeep_54 ?_
          refine g_istore_n C (by decide) dX1_payUpkeep_57 ?_
          refine g_iinc (v := nI (i1 + 1)) C rfl (nI_1 i1) (by decide) dX1_payUpkeep_58 ?_
          refine g_goto (tgt := 26) C (by decide) dX1_payUpkeep_61 ?_
          exact g_sub rfl (ih1 (_, _) _ ⟨by rw [hx1]; exact cw_pays_min hI hc1 hc2 hi1, h2⟩)
        obtain ⟨hx1, hw1⟩ := hR1
        refine g_iload_n C rfl dX1_payUpkeep_26 ?_
        refine g_bipush (v := 6) C (by decide) dX1_payUpkeep_27 ?_
        refine g_cmp_ge (tgt := 64) C (by decide) dX1_payUpkeep_29 (fun c_29 => ?_) (fun c_29 => absurd (by decide) c_29)
        refine g_aload_n C rfl dX1_payUpkeep_64 ?_
        refine g_getr C fl_X1_15 rfl rfl dX1_payUpkeep_65 ?_
        refine g_bipush (v := 7) C (by decide) dX1_payUpkeep_68 ?_
        refine g_dup2 C rfl rfl dX1_payUpkeep_70 ?_
        refine g_iald (j := 7) C rfl (rfl) (by decide) (by decide) dX1_payUpkeep_71 ?_
        refine g_top (ho_r2 (k := 241) hw1 (by decide) (rfl)) ?_
        refine g_iload_n C rfl dX1_payUpkeep_72 ?_
        refine g_iadd C dX1_payUpkeep_73 ?_
        refine g_iast (j := 7) C rfl (rfl) (by decide) (by decide) dX1_payUpkeep_74 ?_
        refine g_gen (ho_s2 (k := 241) hw1 (by decide) (rfl)) (fun w3 h3 => ?_)
        refine g_iload_n C rfl dX1_payUpkeep_75 ?_
        refine g_iret C F dX1_payUpkeep_76 ?_
        have hx9 : x = cw_fold (cw_pays t c) 0 (cw_no t) (0, t) := by rw [hx1, show min 6 (cw_no t) = cw_no t by omega]
        have hf9 := cw_pays_ok hI hc1 hc2 (cw_no t) (Nat.le_refl _)
        rw [← hx9] at hf9
        have hq : cw_oUpkeep t c = (x.1, upd x.2 241 (x.2 241 + c)) := by rw [cw_oUpkeep, cw_it hqq, ← hx9]
        exact ⟨by rw [hq, cw_ren (cw_r_9 hf9.2.2.2 (by decide))], by rw [hq]; exact h3⟩
      · refine g_bipush (v := (-2)) C (by decide) dX1_payUpkeep_19 ?_
        refine g_iret C F dX1_payUpkeep_21 ?_
        have hq : cw_oUpkeep t c = (-9, t) := cw_ie (fun q => by first | exact q.2 c_4 | exact absurd q.1.1 (Int32.not_le.mpr c_9) | exact c_16 q.1.2)
        exact ⟨by rw [hq]; rfl, by rw [hq]; exact h⟩

set_option maxHeartbeats 8000000 in
set_option maxRecDepth 100000 in
theorem ok_X1_beginYear {t : cw_s} {n m : Nat} (hI : cw_I n m t) : gw_Ok yX1_beginYear cX1_beginYear 4 (some .int) sH 2 [.ref 0] (fun w => ho w = t) (fun _ vr w1 => vr = some (.int ((cw_oYear t).1)) ∧ ho w1 = (cw_oYear t).2) := by
  refine gw_of (by decide) (Nat.le_of_ble_eq_true rfl) ?_
  intro X w h C F
  have hno := hI.no
  refine g_aload_n C rfl dX1_beginYear_0 ?_
  refine g_dup C rfl dX1_beginYear_1 ?_
  refine g_getf C fl_X1_70 rfl rfl dX1_beginYear_2 ?_
  refine g_top (ho_f2 h) ?_
  refine g_iconst (v := 1) C (by decide) dX1_beginYear_5 ?_
  refine g_iadd C dX1_beginYear_6 ?_
  refine g_putf C fl_X1_70 fp_1_2 rfl rfl (rfl) (rfl) dX1_beginYear_7 ?_
  refine g_gen (ho_p2 h) (fun w1 h1 => ?_)
  refine g_aload_n C rfl dX1_beginYear_10 ?_
  refine g_getr C fl_X1_37 rfl rfl dX1_beginYear_11 ?_
  refine g_iconst (v := (-1)) C (by decide) dX1_beginYear_14 ?_
  refine g_fill C rfl (by decide) (by decide) ⟨Nat.le_refl _, Nat.le_refl _⟩ (Nat.le_of_ble_eq_true rfl) si_X1_64 dX1_beginYear_15 ?_
  refine g_gen (ho_fillh h1) (fun w8 h8 => ?_)
  refine g_aload_n C rfl dX1_beginYear_18 ?_
  refine g_getr C fl_X1_40 rfl rfl dX1_beginYear_19 ?_
  refine g_iconst (v := (-1)) C (by decide) dX1_beginYear_22 ?_
  refine g_fill C rfl (by decide) (by decide) ⟨Nat.le_refl _, Nat.le_refl _⟩ (Nat.le_of_ble_eq_true rfl) si_X1_64 dX1_beginYear_23 ?_
  refine g_gen (ho_fillb h8) (fun w9 h9 => ?_)
  refine g_aload_n C rfl dX1_beginYear_26 ?_
  refine g_iconst (v := 0) C (by decide) dX1_beginYear_27 ?_
  refine g_putf C fl_X1_77 fp_1_12 rfl rfl (rfl) (rfl) dX1_beginYear_28 ?_
  refine g_gen (ho_p12 h9) (fun w2 h2 => ?_)
  refine g_iconst (v := 0) C (by decide) dX1_beginYear_31 ?_
  refine g_istore_n C (by decide) dX1_beginYear_32 ?_
  refine g_iconst (v := 0) C (by decide) dX1_beginYear_33 ?_
  refine g_istore_n C (by decide) dX1_beginYear_34 ?_
  refine g_sub rfl (g_for (α := Int32 × cw_s) 6 (fun i3 x => [(0, .ref 0), (1, .int (x).1), (2, .int (nI i3))]) (fun i3 x w3 => x = cw_fold cw_lapse 0 (min i3 (cw_no t)) (0, cw_yM t t) ∧ ho w3 = (x).2) 0 (0, cw_yM t t) _ (Nat.zero_le _) (⟨by rw [Nat.zero_min]; rfl, h2.trans (cw_yM_0 t)⟩) (fun i3 x w3 hi3 hR3 ih3 => ?_) (fun x w3 hR3 => ?_))
  · obtain ⟨hx3, hw3⟩ := hR3
    refine g_iload_n C rfl dX1_beginYear_35 ?_
    refine g_bipush (v := 6) C (by decide) dX1_beginYear_36 ?_
    refine g_cmp_ge (tgt := 84) C (by decide) dX1_beginYear_38 (fun c_38 => absurd c_38 (nI_ge hi3 (by decide))) (fun c_38 => ?_)
    refine g_iconst (v := 0) C (by decide) dX1_beginYear_41 ?_
    refine g_aload_n C rfl dX1_beginYear_42 ?_
    refine g_getr C fl_X1_21 rfl rfl dX1_beginYear_43 ?_
    refine g_iload_n C rfl dX1_beginYear_46 ?_
    refine g_iald C rfl (by first | rfl | assumption | (simp only [nI_add, pk_mul, *]; done)) (by first | assumption | omega) (by decide) dX1_beginYear_47 ?_
    refine g_top (ho_r4 hw3 (by first | assumption | omega) (rfl)) ?_
    refine g_aload_n C rfl dX1_beginYear_48 ?_
    refine g_getr C fl_X1_9 rfl rfl dX1_beginYear_49 ?_
    refine g_iconst (v := 1) C (by decide) dX1_beginYear_52 ?_
    refine g_iald (j := 1) C rfl (rfl) (by decide) (by decide) dX1_beginYear_53 ?_
    refine g_top (ho_r1 (k := 232) hw3 (by decide) (rfl)) ?_
    refine g_isub C dX1_beginYear_54 ?_
    refine g_mmax C mx_X1_95 (by decide) dX1_beginYear_55 ?_
    refine g_istore_n C (by decide) dX1_beginYear_58 ?_
    refine g_aload_n C rfl dX1_beginYear_59 ?_
    refine g_getr C fl_X1_21 rfl rfl dX1_beginYear_60 ?_
    refine g_iload_n C rfl dX1_beginYear_63 ?_
    refine g_dup2 C rfl rfl dX1_beginYear_64 ?_
    refine g_iald C rfl (by first | rfl | assumption | (simp only [nI_add, pk_mul, *]; done)) (by first | assumption | omega) (by decide) dX1_beginYear_65 ?_
    refine g_top (ho_r4 hw3 (by first | assumption | omega) (rfl)) ?_
    refine g_iload_n C rfl dX1_beginYear_66 ?_
    refine g_isub C dX1_beginYear_67 ?_
    refine g_iast C rfl (by first | rfl | assumption | (simp only [nI_add, pk_mul, *]; done)) (by first | assumption | omega) (by decide) dX1_beginYear_68 ?_
    refine g_gen (ho_s4 hw3 (by first | assumption | omega) (rfl)) (fun w4 h4 => ?_)
    refine g_iload_n C rfl dX1_beginYear_69 ?_
    refine g_iload_n C rfl dX1_beginYear_70 ?_
    refine g_iadd C dX1_beginYear_71 ?_
    refine g_istore_n C (by decide) dX1_beginYear_72 ?_
    refine g_aload_n C rfl dX1_beginYear_73 ?_
    refine g_iload_n C rfl dX1_beginYear_74 ?_
    refine g_call C (ok_X1_givePoints _ i3 hi3 rfl) my_X1_givePoints vi_X1_100 (by decide) ⟨Nat.le_refl _, Nat.le_refl _⟩ rfl rfl rfl (Nat.le_of_ble_eq_true rfl) dX1_beginYear_75 rfl (h4) (fun v_75 w_75 hp_75 => ?_)
    obtain ⟨rfl, h_75⟩ := hp_75
    refine g_iinc (v := nI (i3 + 1)) C rfl (nI_1 i3) (by decide) dX1_beginYear_78 ?_
    refine g_goto (tgt := 35) C (by decide) dX1_beginYear_81 ?_
    exact g_sub rfl (ih3 (_, _) _ ⟨by rw [← cw_lapse_min hI hi3, ← hx3]; rfl, h_75⟩)
  obtain ⟨hx3, hw3⟩ := hR3
  refine g_iload_n C rfl dX1_beginYear_35 ?_
  refine g_bipush (v := 6) C (by decide) dX1_beginYear_36 ?_
  refine g_cmp_ge (tgt := 84) C (by decide) dX1_beginYear_38 (fun c_38 => ?_) (fun c_38 => absurd (by decide) c_38)
  refine g_aload_n C rfl dX1_beginYear_84 ?_
  refine g_getr C fl_X1_15 rfl rfl dX1_beginYear_85 ?_
  refine g_iconst (v := 3) C (by decide) dX1_beginYear_88 ?_
  refine g_dup2 C rfl rfl dX1_beginYear_89 ?_
  refine g_iald (j := 3) C rfl (rfl) (by decide) (by decide) dX1_beginYear_90 ?_
  refine g_top (ho_r2 (k := 237) hw3 (by decide) (rfl)) ?_
  refine g_iload_n C rfl dX1_beginYear_91 ?_
  refine g_iadd C dX1_beginYear_92 ?_
  refine g_iast (j := 3) C rfl (rfl) (by decide) (by decide) dX1_beginYear_93 ?_
  refine g_gen (ho_s2 (k := 237) hw3 (by decide) (rfl)) (fun w5 h5 => ?_)
  refine g_iload_n C rfl dX1_beginYear_94 ?_
  refine g_iret C F dX1_beginYear_95 ?_
  have hx9 : x = cw_fold cw_lapse 0 (cw_no t) (0, cw_yM t t) := by rw [hx3, show min 6 (cw_no t) = cw_no t by omega]
  have hq : (x.1, upd x.2 237 (x.2 237 + x.1)) = cw_oYear t := by rw [hx9]; exact cw_year_eq hI
  exact ⟨by rw [← hq], by rw [← hq]; exact h5⟩

set_option maxHeartbeats 8000000 in
set_option maxRecDepth 100000 in
theorem ok_X1_dropOffer {t : cw_s} (a : Int32)  (k : Nat) (hk : k < cw_x (t 205)) (ea : a = nI k) {n m : Nat} (hI : cw_I n m t) : gw_Ok yX1_dropOffer cX1_dropOffer 3 none sH 1 [.ref 0, .int a] (fun w => ho w = t) (fun _ vr w1 => vr = none ∧ ho w1 = cw_drop t k (cw_x (t 205))) := by
  refine gw_of (by decide) (Nat.le_of_ble_eq_true rfl) ?_
  intro X w h C F
  have hno := hI.no
  subst ea
  have hxq := cw_x_lt hI
  generalize hq : cw_x (t 205) = q at hk hxq F
  refine g_aload_n C rfl dX1_dropOffer_0 ?_
  refine g_dup C rfl dX1_dropOffer_1 ?_
  refine g_getf C fl_X1_77 rfl rfl dX1_dropOffer_2 ?_
  refine g_top (ho_f12 h) ?_
  refine g_iconst (v := 1) C (by decide) dX1_dropOffer_5 ?_
  refine g_isub C dX1_dropOffer_6 ?_
  refine g_putf C fl_X1_77 fp_1_12 rfl rfl (rfl) (rfl) dX1_dropOffer_7 ?_
  refine g_gen (ho_p12 h) (fun w1 h1 => ?_)
  have h1 := h1.trans (cw_dr_0 t k q (by omega) hxq.2)
  refine g_iload_n C rfl dX1_dropOffer_10 ?_
  refine g_istore_n C (by decide) dX1_dropOffer_11 ?_
  refine g_sub rfl (g_for (α := Unit) (q - 1) (fun i2 x2 => [(0, .ref 0), (2, .int (nI i2))]) (fun i2 x2 w2 => k ≤ i2 ∧ ho w2 = cw_dr t k q i2) k () _ (by omega) (⟨Nat.le_refl _, h1⟩) (fun i2 x2 w2 hi2 hR2 ih2 => ?_) (fun x2 w2 hR2 => ?_))
  · obtain ⟨hk2, hw2⟩ := hR2
    refine g_iload_n C rfl dX1_dropOffer_12 ?_
    refine g_aload_n C rfl dX1_dropOffer_13 ?_
    refine g_getf C fl_X1_77 rfl rfl dX1_dropOffer_14 ?_
    refine g_top (ho_f12 hw2) ?_
    refine g_top (show _ = nI (q - 1) from rfl) ?_
    refine g_cmp_ge (tgt := 76) C (by decide) dX1_dropOffer_17 (fun c_17 => absurd c_17 (nI_ge hi2 (by omega))) (fun c_17 => ?_)
    refine g_iload_n C rfl dX1_dropOffer_20 ?_
    refine g_iconst (v := 1) C (by decide) dX1_dropOffer_21 ?_
    refine g_iadd C dX1_dropOffer_22 ?_
    refine g_bipush (v := 8) C (by decide) dX1_dropOffer_23 ?_
    refine g_cmp_ge (tgt := 76) C (by decide) dX1_dropOffer_25 (fun c_25 => absurd c_25 (by rw [nI_1, cw_le, cw_ni (by omega)]; have z : (8 : Int32).toInt = 8 := rfl; omega)) (fun c_25 => ?_)
    refine g_aload_n C rfl dX1_dropOffer_28 ?_
    refine g_getr C fl_X1_43 rfl rfl dX1_dropOffer_29 ?_
    refine g_iload_n C rfl dX1_dropOffer_32 ?_
    refine g_aload_n C rfl dX1_dropOffer_33 ?_
    refine g_getr C fl_X1_43 rfl rfl dX1_dropOffer_34 ?_
    refine g_iload_n C rfl dX1_dropOffer_37 ?_
    refine g_iconst (v := 1) C (by decide) dX1_dropOffer_38 ?_
    refine g_iadd C dX1_dropOffer_39 ?_
    refine g_iald (j := i2 + 1) C rfl (nI_1 i2) (by first | assumption | omega) (by decide) dX1_dropOffer_40 ?_
    refine g_top (ho_r11 hw2 (by first | assumption | omega) (rfl)) ?_
    refine g_iast C rfl (by first | rfl | assumption | (simp only [nI_add, pk_mul, *]; done)) (by first | assumption | omega) (by decide) dX1_dropOffer_41 ?_
    refine g_gen (ho_s11 hw2 (by first | assumption | omega) (rfl)) (fun w3 h3 => ?_)
    refine g_aload_n C rfl dX1_dropOffer_42 ?_
    refine g_getr C fl_X1_46 rfl rfl dX1_dropOffer_43 ?_
    refine g_iload_n C rfl dX1_dropOffer_46 ?_
    refine g_aload_n C rfl dX1_dropOffer_47 ?_
    refine g_getr C fl_X1_46 rfl rfl dX1_dropOffer_48 ?_
    refine g_iload_n C rfl dX1_dropOffer_51 ?_
    refine g_iconst (v := 1) C (by decide) dX1_dropOffer_52 ?_
    refine g_iadd C dX1_dropOffer_53 ?_
    refine g_iald (j := i2 + 1) C rfl (nI_1 i2) (by first | assumption | omega) (by decide) dX1_dropOffer_54 ?_
    refine g_top (ho_r12 h3 (by first | assumption | omega) (rfl)) ?_
    refine g_iast C rfl (by first | rfl | assumption | (simp only [nI_add, pk_mul, *]; done)) (by first | assumption | omega) (by decide) dX1_dropOffer_55 ?_
    refine g_gen (ho_s12 h3 (by first | assumption | omega) (rfl)) (fun w4 h4 => ?_)
    refine g_aload_n C rfl dX1_dropOffer_56 ?_
    refine g_getr C fl_X1_49 rfl rfl dX1_dropOffer_57 ?_
    refine g_iload_n C rfl dX1_dropOffer_60 ?_
    refine g_aload_n C rfl dX1_dropOffer_61 ?_
    refine g_getr C fl_X1_49 rfl rfl dX1_dropOffer_62 ?_
    refine g_iload_n C rfl dX1_dropOffer_65 ?_
    refine g_iconst (v := 1) C (by decide) dX1_dropOffer_66 ?_
    refine g_iadd C dX1_dropOffer_67 ?_
    refine g_iald (j := i2 + 1) C rfl (nI_1 i2) (by first | assumption | omega) (by decide) dX1_dropOffer_68 ?_
    refine g_top (ho_r13 h4 (by first | assumption | omega) (rfl)) ?_
    refine g_iast C rfl (by first | rfl | assumption | (simp only [nI_add, pk_mul, *]; done)) (by first | assumption | omega) (by decide) dX1_dropOffer_69 ?_
    refine g_gen (ho_s13 h4 (by first | assumption | omega) (rfl)) (fun w5 h5 => ?_)
    refine g_iinc (v := nI (i2 + 1)) C rfl (nI_1 i2) (by decide) dX1_dropOffer_70 ?_
    refine g_goto (tgt := 12) C (by decide) dX1_dropOffer_73 ?_
    exact g_sub rfl (ih2 () _ ⟨by omega, h5.trans (cw_dr_1 t k q i2 hk2)⟩)
  obtain ⟨hk2, hw2⟩ := hR2
  refine g_iload_n C rfl dX1_dropOffer_12 ?_
  refine g_aload_n C rfl dX1_dropOffer_13 ?_
  refine g_getf C fl_X1_77 rfl rfl dX1_dropOffer_14 ?_
  refine g_top (ho_f12 hw2) ?_
  refine g_top (show _ = nI (q - 1) from rfl) ?_
  refine g_cmp_ge (tgt := 76) C (by decide) dX1_dropOffer_17 (fun c_17 => ?_) (fun c_17 => absurd (nI_le (Nat.le_refl _) (by omega)) c_17)
  refine g_vret C F dX1_dropOffer_76 ?_
  refine ⟨rfl, hw2.trans ?_⟩
  funext p
  unfold cw_dr cw_drop
  rfl
