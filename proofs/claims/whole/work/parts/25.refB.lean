def cw_bg (a b : Nat) : cw_s := fun k => if 25 ≤ k ∧ k < 25 + 3 * a then (if (k - 25) % 3 = 0 then 3 else if (k - 25) % 3 = 1 then 0 else -1) else if 85 ≤ k ∧ k < 85 + b then -1 else 0
theorem cw_bg_w (a : Nat) (ha : a < 20) (k : Nat) (x : cw_s) (h : ∀ k, k < 242 → x k = cw_bg a 0 k) (hk : k < 242) : upd (upd x (25 + 3 * a + 0) 3) (25 + 3 * a + 2) (-1) k = cw_bg (a + 1) 0 k := by
  unfold upd
  by_cases c2 : k = 25 + 3 * a + 2
  · rw [if_pos c2]; unfold cw_bg; rw [if_pos (by omega), if_neg (by omega), if_neg (by omega)]
  rw [if_neg c2]
  by_cases c0 : k = 25 + 3 * a + 0
  · rw [if_pos c0]; unfold cw_bg; rw [if_pos (by omega), if_pos (by omega)]
  rw [if_neg c0, h k hk]
  unfold cw_bg
  by_cases c : 25 ≤ k ∧ k < 25 + 3 * a
  · rw [if_pos c, if_pos (show 25 ≤ k ∧ k < 25 + 3 * (a + 1) by omega)]
  · rw [if_neg c, if_neg (show ¬ (85 ≤ k ∧ k < 85 + 0) by omega)]
    by_cases d : k = 25 + 3 * a + 1
    · rw [if_pos (show 25 ≤ k ∧ k < 25 + 3 * (a + 1) by omega), if_neg (by omega), if_pos (by omega)]
    · rw [if_neg (show ¬ (25 ≤ k ∧ k < 25 + 3 * (a + 1)) by omega)]
theorem cw_bg_b (b : Nat) (hb : b < 120) (k : Nat) (x : cw_s) (h : ∀ k, k < 242 → x k = cw_bg 20 b k) (hk : k < 242) : upd x (85 + b) (-1) k = cw_bg 20 (b + 1) k := by
  unfold upd
  by_cases c : k = 85 + b
  · rw [if_pos c]; unfold cw_bg; rw [if_neg (by omega), if_pos (by omega)]
  · rw [if_neg c, h k hk]; unfold cw_bg
    by_cases d : 25 ≤ k ∧ k < 25 + 3 * 20
    · rw [if_pos d, if_pos d]
    · rw [if_neg d, if_neg d]
      by_cases e : 85 ≤ k ∧ k < 85 + b
      · rw [if_pos e, if_pos (by omega)]
      · rw [if_neg e, if_neg (by omega)]
theorem cw_bg_new (x : cw_s) (h : ∀ k, k < 242 → x k = cw_bg 20 120 k) : cw_nf (upd (upd (upd x 231 4) 232 5) 233 3) = cw_new := by
  have e : ∀ k, k < 242 → upd (upd (upd x 231 4) 232 5) 233 3 k = cw_new k := fun k hk => by
    unfold upd
    by_cases c3 : k = 233
    · rw [if_pos c3, c3]; rfl
    by_cases c2 : k = 232
    · rw [if_neg c3, if_pos c2, c2]; rfl
    by_cases c1 : k = 231
    · rw [if_neg c3, if_neg c2, if_pos c1, c1]; rfl
    rw [if_neg c3, if_neg c2, if_neg c1, h k hk]
    unfold cw_bg cw_new
    by_cases d : 25 ≤ k ∧ k < 85
    · rw [if_pos (by omega), if_pos d]
    · rw [if_neg (by omega), if_neg d]
      by_cases f : 85 ≤ k ∧ k < 205
      · rw [if_pos (by omega), if_pos f]
      · rw [if_neg (by omega), if_neg f, if_neg c1, if_neg c2, if_neg c3]
  funext p
  have e5 : upd (upd (upd x 231 4) 232 5) 233 3 205 = 0 := by rw [e 205 (by decide)]; rfl
  unfold cw_nf
  rw [e5]
  by_cases c : p < 242 ∧ ¬ (206 + 3 * cw_x 0 ≤ p ∧ p < 230)
  · rw [if_pos c]; exact e p c.1
  · rw [if_neg c]
    have z : cw_x 0 = 0 := rfl
    rw [z] at c
    unfold cw_new
    rw [if_neg (by omega), if_neg (by omega), if_neg (by omega), if_neg (by omega), if_neg (by omega)]
def cw_sh (T : cw_s) (a i : Nat) : cw_s := fun p => if a ≤ p ∧ p < i then T (p + 3) else T p
theorem cw_sh_1 (T : cw_s) (a i : Nat) (h : a ≤ i) : upd (cw_sh T a i) i (cw_sh T a i (i + 3)) = cw_sh T a (i + 1) := by
  funext p; unfold upd cw_sh
  by_cases c : p = i
  · rw [if_pos c, if_neg (by omega), if_pos (by omega), c]
  · rw [if_neg c]
    by_cases d : a ≤ p ∧ p < i
    · rw [if_pos d, if_pos (by omega)]
    · rw [if_neg d, if_neg (by omega)]
theorem cw_sh_0 (T : cw_s) (a : Nat) : cw_sh T a a = T := by funext p; unfold cw_sh; rw [if_neg (by omega)]

set_option maxHeartbeats 8000000 in
set_option maxRecDepth 100000 in
theorem ok_X7_begins {s : cw_s} : gw_Ok yX7_begins cX7_begins 2 none sM 2 [.ref 0] (fun w => w 1 = s) (fun w vr w1 => vr = none ∧ ∃ s2, w1 = cw_S w s2 ∧ cw_nf s2 = cw_new) := by
  refine gw_of (by decide) (Nat.le_of_ble_eq_true rfl) ?_
  intro X w h C F
  have h := hr_in h
  refine g_iconst (v := 0) C (by decide) dX7_begins_0 ?_
  refine g_istore_n C (by decide) dX7_begins_1 ?_
  refine g_sub rfl (g_for (α := cw_s) 242 (fun i1 x => [(0, .ref 0), (1, .int (nI i1))]) (fun i1 x w1 => (∀ k, k < i1 → x k = 0) ∧ w1 = cw_S w x) 0 s _ (Nat.zero_le _) (⟨fun k hk => absurd hk (Nat.not_lt_zero k), h⟩) (fun i1 x w1 hi1 hR1 ih1 => ?_) (fun x w1 hR1 => ?_))
  · obtain ⟨hx1, hw1⟩ := hR1
    refine g_iload_n C rfl dX7_begins_2 ?_
    refine g_sipush (v := 242) C (by decide) dX7_begins_3 ?_
    refine g_cmp_ge (tgt := 22) C (by decide) dX7_begins_6 (fun c_6 => absurd c_6 (nI_ge hi1 (by decide))) (fun c_6 => ?_)
    refine g_aload_n C rfl dX7_begins_9 ?_
    refine g_getr C fl_X7_7 rfl rfl dX7_begins_10 ?_
    refine g_iload_n C rfl dX7_begins_13 ?_
    refine g_iconst (v := 0) C (by decide) dX7_begins_14 ?_
    refine g_iast C rfl (by first | rfl | assumption | (simp only [nI_add, pk_mul, *]; done)) (by first | assumption | omega) (by decide) dX7_begins_15 ?_
    refine g_genR (hr_set hw1) (fun w2 h2 => ?_)
    refine g_iinc (v := nI (i1 + 1)) C rfl (nI_1 i1) (by decide) dX7_begins_16 ?_
    refine g_goto (tgt := 2) C (by decide) dX7_begins_19 ?_
    exact g_sub rfl (ih1 _ _ ⟨fun k hk => by
      unfold upd; split
      · rfl
      · exact hx1 k (by omega), h2⟩)
  obtain ⟨hx1, hw1⟩ := hR1
  refine g_iload_n C rfl dX7_begins_2 ?_
  refine g_sipush (v := 242) C (by decide) dX7_begins_3 ?_
  refine g_cmp_ge (tgt := 22) C (by decide) dX7_begins_6 (fun c_6 => ?_) (fun c_6 => absurd (by decide) c_6)
  refine g_iconst (v := 0) C (by decide) dX7_begins_22 ?_
  refine g_istore_n C (by decide) dX7_begins_23 ?_
  refine g_sub rfl (g_for (α := cw_s) 20 (fun i3 y => [(0, .ref 0), (1, .int (nI i3))]) (fun i3 y w3 => (∀ k, k < 242 → y k = cw_bg i3 0 k) ∧ w3 = cw_S w y) 0 x _ (Nat.zero_le _) (⟨fun k hk => by rw [hx1 k hk]; unfold cw_bg; rw [if_neg (by omega), if_neg (by omega)], hw1⟩) (fun i3 y w3 hi3 hR3 ih3 => ?_) (fun y w3 hR3 => ?_))
  · obtain ⟨hx3, hw3⟩ := hR3
    refine g_iload_n C rfl dX7_begins_24 ?_
    refine g_bipush (v := 20) C (by decide) dX7_begins_25 ?_
    refine g_cmp_ge (tgt := 58) C (by decide) dX7_begins_27 (fun c_27 => absurd c_27 (nI_ge hi3 (by decide))) (fun c_27 => ?_)
    refine g_aload_n C rfl dX7_begins_30 ?_
    refine g_getr C fl_X7_7 rfl rfl dX7_begins_31 ?_
    refine g_iload_n C rfl dX7_begins_34 ?_
    refine g_iconst (v := 0) C (by decide) dX7_begins_35 ?_
    refine g_callS C (ok_X7_ofWeek (i := 0) _ _ _ (by first | rfl | assumption) rfl) my_X7_ofWeek si_X7_36 (by decide) ⟨Nat.le_refl _, Nat.le_refl _⟩ rfl (Nat.le_of_ble_eq_true rfl) dX7_begins_36 rfl (trivial) (fun v_36 w_36 hp_36 => ?_)
    obtain ⟨rfl, hw_36⟩ := hp_36
    have hw_36 := hw_36.symm; subst hw_36
    refine g_iconst (v := 3) C (by decide) dX7_begins_39 ?_
    refine g_iast C rfl (by first | rfl | assumption | (simp only [nI_add, pk_mul, *]; done)) (by first | assumption | omega) (by decide) dX7_begins_40 ?_
    refine g_genR (hr_set hw3) (fun w4 h4 => ?_)
    refine g_aload_n C rfl dX7_begins_41 ?_
    refine g_getr C fl_X7_7 rfl rfl dX7_begins_42 ?_
    refine g_iload_n C rfl dX7_begins_45 ?_
    refine g_iconst (v := 2) C (by decide) dX7_begins_46 ?_
    refine g_callS C (ok_X7_ofWeek (i := 2) _ _ _ (by first | rfl | assumption) rfl) my_X7_ofWeek si_X7_36 (by decide) ⟨Nat.le_refl _, Nat.le_refl _⟩ rfl (Nat.le_of_ble_eq_true rfl) dX7_begins_47 rfl (trivial) (fun v_47 w_47 hp_47 => ?_)
    obtain ⟨rfl, hw_47⟩ := hp_47
    have hw_47 := hw_47.symm; subst hw_47
    refine g_iconst (v := (-1)) C (by decide) dX7_begins_50 ?_
    refine g_iast C rfl (by first | rfl | assumption | (simp only [nI_add, pk_mul, *]; done)) (by first | assumption | omega) (by decide) dX7_begins_51 ?_
    refine g_genR (hr_set h4) (fun w5 h5 => ?_)
    refine g_iinc (v := nI (i3 + 1)) C rfl (nI_1 i3) (by decide) dX7_begins_52 ?_
    refine g_goto (tgt := 24) C (by decide) dX7_begins_55 ?_
    exact g_sub rfl (ih3 _ _ ⟨fun k hk => cw_bg_w _ hi3 k _ hx3 hk, h5⟩)
  obtain ⟨hx3, hw3⟩ := hR3
  refine g_iload_n C rfl dX7_begins_24 ?_
  refine g_bipush (v := 20) C (by decide) dX7_begins_25 ?_
  refine g_cmp_ge (tgt := 58) C (by decide) dX7_begins_27 (fun c_27 => ?_) (fun c_27 => absurd (by decide) c_27)
  refine g_iconst (v := 0) C (by decide) dX7_begins_58 ?_
  refine g_istore_n C (by decide) dX7_begins_59 ?_
  refine g_sub rfl (g_for (α := cw_s) 120 (fun i6 z => [(0, .ref 0), (1, .int (nI i6))]) (fun i6 z w6 => (∀ k, k < 242 → z k = cw_bg 20 i6 k) ∧ w6 = cw_S w z) 0 y _ (Nat.zero_le _) (⟨hx3, hw3⟩) (fun i6 z w6 hi6 hR6 ih6 => ?_) (fun z w6 hR6 => ?_))
  · obtain ⟨hx6, hw6⟩ := hR6
    refine g_iload_n C rfl dX7_begins_60 ?_
    refine g_bipush (v := 120) C (by decide) dX7_begins_61 ?_
    refine g_cmp_ge (tgt := 82) C (by decide) dX7_begins_63 (fun c_63 => absurd c_63 (nI_ge hi6 (by decide))) (fun c_63 => ?_)
    refine g_aload_n C rfl dX7_begins_66 ?_
    refine g_getr C fl_X7_7 rfl rfl dX7_begins_67 ?_
    refine g_bipush (v := 85) C (by decide) dX7_begins_70 ?_
    refine g_iload_n C rfl dX7_begins_72 ?_
    refine g_iadd C dX7_begins_73 ?_
    refine g_iconst (v := (-1)) C (by decide) dX7_begins_74 ?_
    refine g_iast C rfl (nI_add 85 _) (by omega) (by decide) dX7_begins_75 ?_
    refine g_genR (hr_set hw6) (fun w7 h7 => ?_)
    refine g_iinc (v := nI (i6 + 1)) C rfl (nI_1 i6) (by decide) dX7_begins_76 ?_
    refine g_goto (tgt := 60) C (by decide) dX7_begins_79 ?_
    exact g_sub rfl (ih6 _ _ ⟨fun k hk => cw_bg_b _ hi6 k _ hx6 hk, h7⟩)
  obtain ⟨hx6, hw6⟩ := hR6
  refine g_iload_n C rfl dX7_begins_60 ?_
  refine g_bipush (v := 120) C (by decide) dX7_begins_61 ?_
  refine g_cmp_ge (tgt := 82) C (by decide) dX7_begins_63 (fun c_63 => ?_) (fun c_63 => absurd (by decide) c_63)
  refine g_aload_n C rfl dX7_begins_82 ?_
  refine g_getr C fl_X7_7 rfl rfl dX7_begins_83 ?_
  refine g_sipush (v := 231) C (by decide) dX7_begins_86 ?_
  refine g_iconst (v := 4) C (by decide) dX7_begins_89 ?_
  refine g_iast (j := 231) C rfl (rfl) (by decide) (by decide) dX7_begins_90 ?_
  refine g_genR (hr_set hw6) (fun w8 h8 => ?_)
  refine g_aload_n C rfl dX7_begins_91 ?_
  refine g_getr C fl_X7_7 rfl rfl dX7_begins_92 ?_
  refine g_sipush (v := 232) C (by decide) dX7_begins_95 ?_
  refine g_iconst (v := 5) C (by decide) dX7_begins_98 ?_
  refine g_iast (j := 232) C rfl (rfl) (by decide) (by decide) dX7_begins_99 ?_
  refine g_genR (hr_set h8) (fun w9 h9 => ?_)
  refine g_aload_n C rfl dX7_begins_100 ?_
  refine g_getr C fl_X7_7 rfl rfl dX7_begins_101 ?_
  refine g_sipush (v := 233) C (by decide) dX7_begins_104 ?_
  refine g_iconst (v := 3) C (by decide) dX7_begins_107 ?_
  refine g_iast (j := 233) C rfl (rfl) (by decide) (by decide) dX7_begins_108 ?_
  refine g_genR (hr_set h9) (fun w10 h10 => ?_)
  refine g_vret C F dX7_begins_109 ?_
  exact ⟨rfl, _, h10, cw_bg_new _ hx6⟩

set_option maxHeartbeats 8000000 in
set_option maxRecDepth 100000 in
theorem ok_X7_noBids {s : cw_s} : gw_Ok yX7_noBids cX7_noBids 2 none sM 1 [.ref 0] (fun w => w 1 = s) (fun w vr w1 => vr = none ∧ w1 = cw_S w (cw_noBids s)) := by
  refine gw_of (by decide) (Nat.le_of_ble_eq_true rfl) ?_
  intro X w h C F
  have h := hr_in h
  refine g_iconst (v := 0) C (by decide) dX7_noBids_0 ?_
  refine g_istore_n C (by decide) dX7_noBids_1 ?_
  refine g_sub rfl (g_for (α := cw_s) 120 (fun i1 x => [(0, .ref 0), (1, .int (nI i1))]) (fun i1 x w1 => x = cw_fold (fun k s => upd s (85 + k) (-1)) 0 i1 s ∧ w1 = cw_S w x) 0 s _ (Nat.zero_le _) (⟨rfl, h⟩) (fun i1 x w1 hi1 hR1 ih1 => ?_) (fun x w1 hR1 => ?_))
  · obtain ⟨hx1, hw1⟩ := hR1
    refine g_iload_n C rfl dX7_noBids_2 ?_
    refine g_bipush (v := 120) C (by decide) dX7_noBids_3 ?_
    refine g_cmp_ge (tgt := 24) C (by decide) dX7_noBids_5 (fun c_5 => absurd c_5 (nI_ge hi1 (by decide))) (fun c_5 => ?_)
    refine g_aload_n C rfl dX7_noBids_8 ?_
    refine g_getr C fl_X7_7 rfl rfl dX7_noBids_9 ?_
    refine g_bipush (v := 85) C (by decide) dX7_noBids_12 ?_
    refine g_iload_n C rfl dX7_noBids_14 ?_
    refine g_iadd C dX7_noBids_15 ?_
    refine g_iconst (v := (-1)) C (by decide) dX7_noBids_16 ?_
    refine g_iast C rfl (nI_add 85 _) (by omega) (by decide) dX7_noBids_17 ?_
    refine g_genR (hr_set hw1) (fun w2 h2 => ?_)
    refine g_iinc (v := nI (i1 + 1)) C rfl (nI_1 i1) (by decide) dX7_noBids_18 ?_
    refine g_goto (tgt := 2) C (by decide) dX7_noBids_21 ?_
    exact g_sub rfl (ih1 _ _ ⟨by rw [cw_fold0, ← hx1], h2⟩)
  obtain ⟨hx1, hw1⟩ := hR1
  refine g_iload_n C rfl dX7_noBids_2 ?_
  refine g_bipush (v := 120) C (by decide) dX7_noBids_3 ?_
  refine g_cmp_ge (tgt := 24) C (by decide) dX7_noBids_5 (fun c_5 => ?_) (fun c_5 => absurd (by decide) c_5)
  refine g_vret C F dX7_noBids_24 ?_
  exact ⟨rfl, by rw [hw1, hx1]; rfl⟩

theorem cw_start (s : cw_s) (k : Nat) : (-1 : Int32) = cw_if (cw_open s k) (cw_fold (fun j x => cw_if (cw_canWin s j k ∧ (x = -1 ∨ cw_better s j (cw_x x) k)) (nI j) x) 0 0 (-1)) (-1) := by
  by_cases q : cw_open s k
  · rw [cw_it q]; rfl
  · rw [cw_ie q]
set_option maxHeartbeats 8000000 in
set_option maxRecDepth 100000 in
theorem ok_X7_settlesOne {s : cw_s} (b : Int32) (k : Nat) (eb : b = nI k) (hk : k < 20) {n m : Nat} (hI : cw_I n m s) : gw_Ok yX7_settlesOne cX7_settlesOne 6 (some .int) sM 4 [.ref 0, .int b] (fun w => w 1 = s) (fun w vr w1 => vr = some (.int (cw_best s k)) ∧ w1 = cw_S w (cw_settle1 s k)) := by
  refine gw_of (by decide) (Nat.le_of_ble_eq_true rfl) ?_
  intro X w h C F
  have h := hr_in h
  subst eb
  have hm := hI.m
  have h6 := hm.2
  refine g_iconst (v := (-1)) C (by decide) dX7_settlesOne_0 ?_
  refine g_istore_n C (by decide) dX7_settlesOne_1 ?_
  refine g_aload_n C rfl dX7_settlesOne_2 ?_
  refine g_getr C fl_X7_7 rfl rfl dX7_settlesOne_3 ?_
  refine g_iload_n C rfl dX7_settlesOne_6 ?_
  refine g_iconst (v := 1) C (by decide) dX7_settlesOne_7 ?_
  refine g_callS C (ok_X7_ofWeek (i := 1) _ _ _ (by first | rfl | assumption) rfl) my_X7_ofWeek si_X7_36 (by decide) ⟨Nat.le_refl _, Nat.le_refl _⟩ rfl (Nat.le_of_ble_eq_true rfl) dX7_settlesOne_8 rfl (trivial) (fun v_8 w_8 hp_8 => ?_)
  obtain ⟨rfl, hw_8⟩ := hp_8
  have hw_8 := hw_8.symm; subst hw_8
  refine g_iald C rfl (by first | rfl | assumption | (simp only [nI_add, pk_mul, *]; done)) (by first | assumption | omega) (by decide) dX7_settlesOne_11 ?_
  refine g_top (hr_rd h) ?_
  refine g_iconst (v := 1) C (by decide) dX7_settlesOne_12 ?_
  refine g_join2 35 (cw_b (cw_open s k)) (fun k_35 => ?_) ?_
  · refine g_cmp_ne (tgt := 34) C (by decide) dX7_settlesOne_13 (fun c_13 => ?_) (fun c_13 => ?_)
    · refine g_iconst (v := 0) C (by decide) dX7_settlesOne_34 ?_
      exact k_35 _ (by rw [cw_bf (fun q : cw_open s k => c_13 q.1)])
    · refine g_aload_n C rfl dX7_settlesOne_16 ?_
      refine g_getr C fl_X7_7 rfl rfl dX7_settlesOne_17 ?_
      refine g_iload_n C rfl dX7_settlesOne_20 ?_
      refine g_iconst (v := 2) C (by decide) dX7_settlesOne_21 ?_
      refine g_callS C (ok_X7_ofWeek (i := 2) _ _ _ (by first | rfl | assumption) rfl) my_X7_ofWeek si_X7_36 (by decide) ⟨Nat.le_refl _, Nat.le_refl _⟩ rfl (Nat.le_of_ble_eq_true rfl) dX7_settlesOne_22 rfl (trivial) (fun v_22 w_22 hp_22 => ?_)
      obtain ⟨rfl, hw_22⟩ := hp_22
      have hw_22 := hw_22.symm; subst hw_22
      refine g_iald C rfl (by first | rfl | assumption | (simp only [nI_add, pk_mul, *]; done)) (by first | assumption | omega) (by decide) dX7_settlesOne_25 ?_
      refine g_top (hr_rd h) ?_
      refine g_iconst (v := (-1)) C (by decide) dX7_settlesOne_26 ?_
      refine g_cmp_ne (tgt := 34) C (by decide) dX7_settlesOne_27 (fun c_27 => ?_) (fun c_27 => ?_)
      · refine g_iconst (v := 0) C (by decide) dX7_settlesOne_34 ?_
        exact k_35 _ (by rw [cw_bf (fun q : cw_open s k => c_27 q.2)])
      · refine g_iconst (v := 1) C (by decide) dX7_settlesOne_30 ?_
        refine g_goto (tgt := 35) C (by decide) dX7_settlesOne_31 ?_
        exact k_35 _ (by rw [cw_b1 (show cw_open s k from ⟨c_13, c_27⟩)])
  refine g_istore_n C (by decide) dX7_settlesOne_35 ?_
  refine g_iconst (v := 0) C (by decide) dX7_settlesOne_36 ?_
  refine g_istore C (by decide) dX7_settlesOne_37 ?_
  refine g_sub rfl (g_for (α := Int32) (cw_no s) (fun i1 x => [(0, .ref 0), (1, .int (nI k)), (2, .int x), (3, .int (cw_b (cw_open s k))), (4, .int (nI i1))]) (fun i1 x w1 => x = cw_if (cw_open s k) (cw_fold (fun j x => cw_if (cw_canWin s j k ∧ (x = -1 ∨ cw_better s j (cw_x x) k)) (nI j) x) 0 i1 (-1)) (-1) ∧ (x = -1 ∨ ∃ z, z < cw_no s ∧ x = nI z) ∧ w1 = w) 0 (-1) _ (Nat.zero_le _) (⟨cw_start s k, Or.inl rfl, rfl⟩) (fun i1 x w1 hi1 hR1 ih1 => ?_) (fun x w1 hR1 => ?_))
  · obtain ⟨hx1, hxx1, rfl⟩ := hR1
    refine g_iload C rfl dX7_settlesOne_39 ?_
    refine g_aload_n C rfl dX7_settlesOne_41 ?_
    refine g_getr C fl_X7_7 rfl rfl dX7_settlesOne_42 ?_
    refine g_iconst (v := 0) C (by decide) dX7_settlesOne_45 ?_
    refine g_iald (j := 0) C rfl (rfl) (by decide) (by decide) dX7_settlesOne_46 ?_
    refine g_top (hr_rd h) ?_
    refine g_cmp_ge (tgt := 105) C (by decide) dX7_settlesOne_47 (fun c_47 => absurd c_47 (cw_liml hm hi1)) (fun c_47 => ?_)
    refine g_iload_n C rfl dX7_settlesOne_50 ?_
    refine g_if_eq (tgt := 105) C (by decide) dX7_settlesOne_51 (fun c_51 => ?_) (fun c_51 => ?_)
    · have hb : x = cw_best s k := by rw [hx1, cw_best, cw_ie (cw_b0.mp c_51), cw_ie (cw_b0.mp c_51)]
      refine g_iload_n C rfl dX7_settlesOne_105 ?_
      refine g_iconst (v := (-1)) C (by decide) dX7_settlesOne_106 ?_
      refine g_cmp_eq (tgt := 161) C (by decide) dX7_settlesOne_107 (fun c_107 => ?_) (fun c_107 => ?_)
      · refine g_iload_n C rfl dX7_settlesOne_161 ?_
        refine g_iret C F dX7_settlesOne_162 ?_
        exact ⟨by rw [hb], by rw [cw_settle1, cw_it (hb.symm.trans c_107)]; exact h⟩
      · obtain ⟨j, hjn, hj⟩ : ∃ j, j < cw_no s ∧ x = nI j := by
          rcases cw_best_cases hI hk with q | ⟨j, q1, q2, -⟩
          · exact absurd (hb.trans q) c_107
          · exact ⟨j, q1, hb.trans q2⟩
        have hj6 : j < 6 := by omega
        refine g_aload_n C rfl dX7_settlesOne_110 ?_
        refine g_iload_n C rfl dX7_settlesOne_111 ?_
        refine g_aload_n C rfl dX7_settlesOne_112 ?_
        refine g_getr C fl_X7_7 rfl rfl dX7_settlesOne_113 ?_
        refine g_iload_n C rfl dX7_settlesOne_116 ?_
        refine g_iconst (v := 0) C (by decide) dX7_settlesOne_117 ?_
        refine g_callS C (ok_X7_ofWeek (i := 0) _ _ _ (by first | rfl | assumption) rfl) my_X7_ofWeek si_X7_36 (by decide) ⟨Nat.le_refl _, Nat.le_refl _⟩ rfl (Nat.le_of_ble_eq_true rfl) dX7_settlesOne_118 rfl (trivial) (fun v_118 w_118 hp_118 => ?_)
        obtain ⟨rfl, hw_118⟩ := hp_118
        have hw_118 := hw_118.symm; subst hw_118
        refine g_iald C rfl (by first | rfl | assumption | (simp only [nI_add, pk_mul, *]; done)) (by first | assumption | omega) (by decide) dX7_settlesOne_121 ?_
        refine g_top (hr_rd h) ?_
        refine g_aload_n C rfl dX7_settlesOne_122 ?_
        refine g_getr C fl_X7_7 rfl rfl dX7_settlesOne_123 ?_
        refine g_iload_n C rfl dX7_settlesOne_126 ?_
        refine g_iload_n C rfl dX7_settlesOne_127 ?_
        refine g_callS C (ok_X7_ofBid _ _ _ _ (by first | rfl | assumption) (by first | rfl | assumption)) my_X7_ofBid si_X7_72 (by decide) ⟨Nat.le_refl _, Nat.le_refl _⟩ rfl (Nat.le_of_ble_eq_true rfl) dX7_settlesOne_128 rfl (trivial) (fun v_128 w_128 hp_128 => ?_)
        obtain ⟨rfl, hw_128⟩ := hp_128
        have hw_128 := hw_128.symm; subst hw_128
        refine g_iald C rfl (by first | rfl | assumption | (simp only [nI_add, pk_mul, *]; done)) (by first | assumption | omega) (by decide) dX7_settlesOne_131 ?_
        refine g_top (hr_rd h) ?_
        refine g_iadd C dX7_settlesOne_132 ?_
        refine g_call C (ok_X7_spends _ _ _ (by first | rfl | assumption) (by first | assumption | omega)) my_X7_spends vi_X7_68 (by decide) ⟨Nat.le_refl _, Nat.le_refl _⟩ rfl rfl rfl (Nat.le_of_ble_eq_true rfl) dX7_settlesOne_133 rfl (hr_1 h) (fun v_133 w_133 hp_133 => ?_)
        obtain ⟨rfl, h_133⟩ := hp_133
        have h_133 := hr_call h h_133
        refine g_aload_n C rfl dX7_settlesOne_136 ?_
        refine g_getr C fl_X7_7 rfl rfl dX7_settlesOne_137 ?_
        refine g_iload_n C rfl dX7_settlesOne_140 ?_
        refine g_iconst (v := 2) C (by decide) dX7_settlesOne_141 ?_
        refine g_callS C (ok_X7_of (i := 2) _ _ _ (by first | rfl | assumption) rfl) my_X7_of si_X7_54 (by decide) ⟨Nat.le_refl _, Nat.le_refl _⟩ rfl (Nat.le_of_ble_eq_true rfl) dX7_settlesOne_142 rfl (trivial) (fun v_142 w_142 hp_142 => ?_)
        obtain ⟨rfl, hw_142⟩ := hp_142
        have hw_142 := hw_142.symm; subst hw_142
        refine g_dup2 C rfl rfl dX7_settlesOne_145 ?_
        refine g_iald C rfl (by first | rfl | assumption | (simp only [nI_add, pk_mul, *]; done)) (by first | assumption | omega) (by decide) dX7_settlesOne_146 ?_
        refine g_top (hr_rd h_133) ?_
        refine g_iconst (v := 1) C (by decide) dX7_settlesOne_147 ?_
        refine g_iadd C dX7_settlesOne_148 ?_
        refine g_iast C rfl (by first | rfl | assumption | (simp only [nI_add, pk_mul, *]; done)) (by first | assumption | omega) (by decide) dX7_settlesOne_149 ?_
        refine g_genR (hr_set h_133) (fun w2 h2 => ?_)
        refine g_aload_n C rfl dX7_settlesOne_150 ?_
        refine g_getr C fl_X7_7 rfl rfl dX7_settlesOne_151 ?_
        refine g_iload_n C rfl dX7_settlesOne_154 ?_
        refine g_iconst (v := 2) C (by decide) dX7_settlesOne_155 ?_
        refine g_callS C (ok_X7_ofWeek (i := 2) _ _ _ (by first | rfl | assumption) rfl) my_X7_ofWeek si_X7_36 (by decide) ⟨Nat.le_refl _, Nat.le_refl _⟩ rfl (Nat.le_of_ble_eq_true rfl) dX7_settlesOne_156 rfl (trivial) (fun v_156 w_156 hp_156 => ?_)
        obtain ⟨rfl, hw_156⟩ := hp_156
        have hw_156 := hw_156.symm; subst hw_156
        refine g_iload_n C rfl dX7_settlesOne_159 ?_
        refine g_iast C rfl (by first | rfl | assumption | (simp only [nI_add, pk_mul, *]; done)) (by first | assumption | omega) (by decide) dX7_settlesOne_160 ?_
        refine g_genR (hr_set h2) (fun w3 h3 => ?_)
        refine g_iload_n C rfl dX7_settlesOne_161 ?_
        refine g_iret C F dX7_settlesOne_162 ?_
        exact ⟨by rw [hb], by rw [cw_settle1, cw_ie (fun q => c_107 (hb.trans q)), ← hb, hj, cw_xn (by omega)]; have hz := h3; rw [hj] at hz; exact hz⟩
    · have hop := cw_bn c_51
      refine g_aload_n C rfl dX7_settlesOne_54 ?_
      refine g_iload C rfl dX7_settlesOne_55 ?_
      refine g_iload_n C rfl dX7_settlesOne_57 ?_
      refine g_call C (ok_X7_canWin _ _ i1 k rfl rfl (by omega) hk) my_X7_canWin vi_X7_78 (by decide) ⟨Nat.le_refl _, Nat.le_refl _⟩ rfl rfl rfl (Nat.le_of_ble_eq_true rfl) dX7_settlesOne_58 rfl (hr_1 h) (fun v_58 w_58 hp_58 => ?_)
      obtain ⟨rfl, hw_58⟩ := hp_58
      have hw_58 := hw_58.symm; subst hw_58
      refine g_if_eq (tgt := 84) C (by decide) dX7_settlesOne_61 (fun c_61 => ?_) (fun c_61 => ?_)
      · refine g_iconst (v := 0) C (by decide) dX7_settlesOne_84 ?_
        refine g_istore C (by decide) dX7_settlesOne_85 ?_
        refine g_iload C rfl dX7_settlesOne_87 ?_
        refine g_if_eq (tgt := 97) C (by decide) dX7_settlesOne_89 (fun c_89 => ?_) (fun c_89 => absurd (by decide) c_89)
        refine g_iload_n C rfl dX7_settlesOne_97 ?_
        refine g_istore_n C (by decide) dX7_settlesOne_98 ?_
        refine g_iinc (v := nI (i1 + 1)) C rfl (nI_1 i1) (by decide) dX7_settlesOne_99 ?_
        refine g_goto (tgt := 39) C (by decide) dX7_settlesOne_102 ?_
        exact g_sub rfl (ih1 _ _ ⟨by rw [cw_it hop] at hx1 ⊢; rw [cw_fold0, ← hx1]; exact (cw_ie (fun q => cw_b0.mp c_61 q.1)).symm, hxx1, rfl⟩)
      · refine g_iload_n C rfl dX7_settlesOne_64 ?_
        refine g_iconst (v := (-1)) C (by decide) dX7_settlesOne_65 ?_
        refine g_cmp_eq (tgt := 80) C (by decide) dX7_settlesOne_66 (fun c_66 => ?_) (fun c_66 => ?_)
        · refine g_iconst (v := 1) C (by decide) dX7_settlesOne_80 ?_
          refine g_goto (tgt := 85) C (by decide) dX7_settlesOne_81 ?_
          refine g_istore C (by decide) dX7_settlesOne_85 ?_
          refine g_iload C rfl dX7_settlesOne_87 ?_
          refine g_if_eq (tgt := 97) C (by decide) dX7_settlesOne_89 (fun c_89 => absurd c_89 (by decide)) (fun c_89 => ?_)
          refine g_iload C rfl dX7_settlesOne_92 ?_
          refine g_goto (tgt := 98) C (by decide) dX7_settlesOne_94 ?_
          refine g_istore_n C (by decide) dX7_settlesOne_98 ?_
          refine g_iinc (v := nI (i1 + 1)) C rfl (nI_1 i1) (by decide) dX7_settlesOne_99 ?_
          refine g_goto (tgt := 39) C (by decide) dX7_settlesOne_102 ?_
          exact g_sub rfl (ih1 _ _ ⟨by rw [cw_it hop] at hx1 ⊢; rw [cw_fold0, ← hx1]; exact (cw_it ⟨cw_bn c_61, Or.inl c_66⟩).symm, Or.inr ⟨i1, hi1, rfl⟩, rfl⟩)
        · obtain ⟨i9, hn9, rfl⟩ := hxx1.resolve_left c_66
          refine g_aload_n C rfl dX7_settlesOne_69 ?_
          refine g_iload C rfl dX7_settlesOne_70 ?_
          refine g_iload_n C rfl dX7_settlesOne_72 ?_
          refine g_iload_n C rfl dX7_settlesOne_73 ?_
          refine g_call C (ok_X7_isBetter _ _ _ i1 i9 k rfl rfl rfl (by omega) (by omega) hk) my_X7_isBetter vi_X7_82 (by decide) ⟨Nat.le_refl _, Nat.le_refl _⟩ rfl rfl rfl (Nat.le_of_ble_eq_true rfl) dX7_settlesOne_74 rfl (hr_1 h) (fun v_74 w_74 hp_74 => ?_)
          obtain ⟨rfl, hw_74⟩ := hp_74
          have hw_74 := hw_74.symm; subst hw_74
          refine g_if_eq (tgt := 84) C (by decide) dX7_settlesOne_77 (fun c_77 => ?_) (fun c_77 => ?_)
          · refine g_iconst (v := 0) C (by decide) dX7_settlesOne_84 ?_
            refine g_istore C (by decide) dX7_settlesOne_85 ?_
            refine g_iload C rfl dX7_settlesOne_87 ?_
            refine g_if_eq (tgt := 97) C (by decide) dX7_settlesOne_89 (fun c_89 => ?_) (fun c_89 => absurd (by decide) c_89)
            refine g_iload_n C rfl dX7_settlesOne_97 ?_
            refine g_istore_n C (by decide) dX7_settlesOne_98 ?_
            refine g_iinc (v := nI (i1 + 1)) C rfl (nI_1 i1) (by decide) dX7_settlesOne_99 ?_
            refine g_goto (tgt := 39) C (by decide) dX7_settlesOne_102 ?_
            exact g_sub rfl (ih1 _ _ ⟨by rw [cw_it hop] at hx1 ⊢; rw [cw_fold0, ← hx1]; exact (cw_ie (fun q => q.2.elim c_66 (fun z => cw_b0.mp c_77 (by rwa [cw_xn (by omega)] at z)))).symm, Or.inr ⟨i9, hn9, rfl⟩, rfl⟩)
          · refine g_iconst (v := 1) C (by decide) dX7_settlesOne_80 ?_
            refine g_goto (tgt := 85) C (by decide) dX7_settlesOne_81 ?_
            refine g_istore C (by decide) dX7_settlesOne_85 ?_
            refine g_iload C rfl dX7_settlesOne_87 ?_
            refine g_if_eq (tgt := 97) C (by decide) dX7_settlesOne_89 (fun c_89 => absurd c_89 (by decide)) (fun c_89 => ?_)
            refine g_iload C rfl dX7_settlesOne_92 ?_
            refine g_goto (tgt := 98) C (by decide) dX7_settlesOne_94 ?_
            refine g_istore_n C (by decide) dX7_settlesOne_98 ?_
            refine g_iinc (v := nI (i1 + 1)) C rfl (nI_1 i1) (by decide) dX7_settlesOne_99 ?_
            refine g_goto (tgt := 39) C (by decide) dX7_settlesOne_102 ?_
            exact g_sub rfl (ih1 _ _ ⟨by rw [cw_it hop] at hx1 ⊢; rw [cw_fold0, ← hx1]; exact (cw_it ⟨cw_bn c_61, Or.inr (by rw [cw_xn (by omega)]; exact cw_bn c_77)⟩).symm, Or.inr ⟨i1, hi1, rfl⟩, rfl⟩)
  obtain ⟨hx1, hxx1, rfl⟩ := hR1
  refine g_iload C rfl dX7_settlesOne_39 ?_
  refine g_aload_n C rfl dX7_settlesOne_41 ?_
  refine g_getr C fl_X7_7 rfl rfl dX7_settlesOne_42 ?_
  refine g_iconst (v := 0) C (by decide) dX7_settlesOne_45 ?_
  refine g_iald (j := 0) C rfl (rfl) (by decide) (by decide) dX7_settlesOne_46 ?_
  refine g_top (hr_rd h) ?_
  refine g_cmp_ge (tgt := 105) C (by decide) dX7_settlesOne_47 (fun c_47 => ?_) (fun c_47 => absurd (cw_lim hm) c_47)
  have hb : x = cw_best s k := hx1
  refine g_iload_n C rfl dX7_settlesOne_105 ?_
  refine g_iconst (v := (-1)) C (by decide) dX7_settlesOne_106 ?_
  refine g_cmp_eq (tgt := 161) C (by decide) dX7_settlesOne_107 (fun c_107 => ?_) (fun c_107 => ?_)
  · refine g_iload_n C rfl dX7_settlesOne_161 ?_
    refine g_iret C F dX7_settlesOne_162 ?_
    exact ⟨by rw [hb], by rw [cw_settle1, cw_it (hb.symm.trans c_107)]; exact h⟩
  · obtain ⟨j, hjn, hj⟩ : ∃ j, j < cw_no s ∧ x = nI j := by
      rcases cw_best_cases hI hk with q | ⟨j, q1, q2, -⟩
      · exact absurd (hb.trans q) c_107
      · exact ⟨j, q1, hb.trans q2⟩
    have hj6 : j < 6 := by omega
    refine g_aload_n C rfl dX7_settlesOne_110 ?_
    refine g_iload_n C rfl dX7_settlesOne_111 ?_
    refine g_aload_n C rfl dX7_settlesOne_112 ?_
    refine g_getr C fl_X7_7 rfl rfl dX7_settlesOne_113 ?_
    refine g_iload_n C rfl dX7_settlesOne_116 ?_
    refine g_iconst (v := 0) C (by decide) dX7_settlesOne_117 ?_
    refine g_callS C (ok_X7_ofWeek (i := 0) _ _ _ (by first | rfl | assumption) rfl) my_X7_ofWeek si_X7_36 (by decide) ⟨Nat.le_refl _, Nat.le_refl _⟩ rfl (Nat.le_of_ble_eq_true rfl) dX7_settlesOne_118 rfl (trivial) (fun v_118 w_118 hp_118 => ?_)
    obtain ⟨rfl, hw_118⟩ := hp_118
    have hw_118 := hw_118.symm; subst hw_118
    refine g_iald C rfl (by first | rfl | assumption | (simp only [nI_add, pk_mul, *]; done)) (by first | assumption | omega) (by decide) dX7_settlesOne_121 ?_
    refine g_top (hr_rd h) ?_
    refine g_aload_n C rfl dX7_settlesOne_122 ?_
    refine g_getr C fl_X7_7 rfl rfl dX7_settlesOne_123 ?_
    refine g_iload_n C rfl dX7_settlesOne_126 ?_
    refine g_iload_n C rfl dX7_settlesOne_127 ?_
    refine g_callS C (ok_X7_ofBid _ _ _ _ (by first | rfl | assumption) (by first | rfl | assumption)) my_X7_ofBid si_X7_72 (by decide) ⟨Nat.le_refl _, Nat.le_refl _⟩ rfl (Nat.le_of_ble_eq_true rfl) dX7_settlesOne_128 rfl (trivial) (fun v_128 w_128 hp_128 => ?_)
    obtain ⟨rfl, hw_128⟩ := hp_128
    have hw_128 := hw_128.symm; subst hw_128
    refine g_iald C rfl (by first | rfl | assumption | (simp only [nI_add, pk_mul, *]; done)) (by first | assumption | omega) (by decide) dX7_settlesOne_131 ?_
    refine g_top (hr_rd h) ?_
    refine g_iadd C dX7_settlesOne_132 ?_
    refine g_call C (ok_X7_spends _ _ _ (by first | rfl | assumption) (by first | assumption | omega)) my_X7_spends vi_X7_68 (by decide) ⟨Nat.le_refl _, Nat.le_refl _⟩ rfl rfl rfl (Nat.le_of_ble_eq_true rfl) dX7_settlesOne_133 rfl (hr_1 h) (fun v_133 w_133 hp_133 => ?_)
    obtain ⟨rfl, h_133⟩ := hp_133
    have h_133 := hr_call h h_133
    refine g_aload_n C rfl dX7_settlesOne_136 ?_
    refine g_getr C fl_X7_7 rfl rfl dX7_settlesOne_137 ?_
    refine g_iload_n C rfl dX7_settlesOne_140 ?_
    refine g_iconst (v := 2) C (by decide) dX7_settlesOne_141 ?_
    refine g_callS C (ok_X7_of (i := 2) _ _ _ (by first | rfl | assumption) rfl) my_X7_of si_X7_54 (by decide) ⟨Nat.le_refl _, Nat.le_refl _⟩ rfl (Nat.le_of_ble_eq_true rfl) dX7_settlesOne_142 rfl (trivial) (fun v_142 w_142 hp_142 => ?_)
    obtain ⟨rfl, hw_142⟩ := hp_142
    have hw_142 := hw_142.symm; subst hw_142
    refine g_dup2 C rfl rfl dX7_settlesOne_145 ?_
    refine g_iald C rfl (by first | rfl | assumption | (simp only [nI_add, pk_mul, *]; done)) (by first | assumption | omega) (by decide) dX7_settlesOne_146 ?_
    refine g_top (hr_rd h_133) ?_
    refine g_iconst (v := 1) C (by decide) dX7_settlesOne_147 ?_
    refine g_iadd C dX7_settlesOne_148 ?_
    refine g_iast C rfl (by first | rfl | assumption | (simp only [nI_add, pk_mul, *]; done)) (by first | assumption | omega) (by decide) dX7_settlesOne_149 ?_
    refine g_genR (hr_set h_133) (fun w4 h4 => ?_)
    refine g_aload_n C rfl dX7_settlesOne_150 ?_
    refine g_getr C fl_X7_7 rfl rfl dX7_settlesOne_151 ?_
    refine g_iload_n C rfl dX7_settlesOne_154 ?_
    refine g_iconst (v := 2) C (by decide) dX7_settlesOne_155 ?_
    refine g_callS C (ok_X7_ofWeek (i := 2) _ _ _ (by first | rfl | assumption) rfl) my_X7_ofWeek si_X7_36 (by decide) ⟨Nat.le_refl _, Nat.le_refl _⟩ rfl (Nat.le_of_ble_eq_true rfl) dX7_settlesOne_156 rfl (trivial) (fun v_156 w_156 hp_156 => ?_)
    obtain ⟨rfl, hw_156⟩ := hp_156
    have hw_156 := hw_156.symm; subst hw_156
    refine g_iload_n C rfl dX7_settlesOne_159 ?_
    refine g_iast C rfl (by first | rfl | assumption | (simp only [nI_add, pk_mul, *]; done)) (by first | assumption | omega) (by decide) dX7_settlesOne_160 ?_
    refine g_genR (hr_set h4) (fun w5 h5 => ?_)
    refine g_iload_n C rfl dX7_settlesOne_161 ?_
    refine g_iret C F dX7_settlesOne_162 ?_
    exact ⟨by rw [hb], by rw [cw_settle1, cw_ie (fun q => c_107 (hb.trans q)), ← hb, hj, cw_xn (by omega)]; have hz := h5; rw [hj] at hz; exact hz⟩

set_option maxHeartbeats 8000000 in
set_option maxRecDepth 100000 in
theorem ok_X7_settles {s : cw_s} {n m : Nat} (hI : cw_I n m s) (hB : cw_B n (m + 20)) : gw_Ok yX7_settles cX7_settles 3 (some .int) sM 5 [.ref 0] (fun w => w 1 = s) (fun w vr w1 => vr = some (.int ((cw_settles s).1)) ∧ w1 = cw_S w ((cw_settles s).2)) := by
  refine gw_of (by decide) (Nat.le_of_ble_eq_true rfl) ?_
  intro X w h C F
  have h := hr_in h
  refine g_iconst (v := 0) C (by decide) dX7_settles_0 ?_
  refine g_istore_n C (by decide) dX7_settles_1 ?_
  refine g_iconst (v := 0) C (by decide) dX7_settles_2 ?_
  refine g_istore_n C (by decide) dX7_settles_3 ?_
  refine g_sub rfl (g_for (α := Int32 × cw_s) 20 (fun i1 x => [(0, .ref 0), (1, .int (x).1), (2, .int (nI i1))]) (fun i1 x w1 => x = cw_fold (fun k (x : Int32 × cw_s) => (cw_if (cw_best x.2 k = -1) x.1 (x.1 + 1), cw_settle1 x.2 k)) 0 i1 (0, s) ∧ cw_I n (m + i1) (x).2 ∧ w1 = cw_S w (x).2) 0 (0, s) _ (Nat.zero_le _) (⟨rfl, hI, h⟩) (fun i1 x w1 hi1 hR1 ih1 => ?_) (fun x w1 hR1 => ?_))
  · obtain ⟨hx1, hI1, hw1⟩ := hR1
    refine g_iload_n C rfl dX7_settles_4 ?_
    refine g_bipush (v := 20) C (by decide) dX7_settles_5 ?_
    refine g_cmp_ge (tgt := 33) C (by decide) dX7_settles_7 (fun c_7 => absurd c_7 (nI_ge hi1 (by decide))) (fun c_7 => ?_)
    refine g_iload_n C rfl dX7_settles_10 ?_
    refine g_aload_n C rfl dX7_settles_11 ?_
    refine g_iload_n C rfl dX7_settles_12 ?_
    refine g_call C (ok_X7_settlesOne _ i1 rfl hi1 hI1) my_X7_settlesOne vi_X7_85 (by decide) ⟨Nat.le_refl _, Nat.le_refl _⟩ rfl rfl rfl (Nat.le_of_ble_eq_true rfl) dX7_settles_13 rfl (hr_1 hw1) (fun v_13 w_13 hp_13 => ?_)
    obtain ⟨rfl, h_13⟩ := hp_13
    have h_13 := hr_call hw1 h_13
    refine g_iconst (v := (-1)) C (by decide) dX7_settles_16 ?_
    refine g_cmp_ne (tgt := 24) C (by decide) dX7_settles_17 (fun c_17 => ?_) (fun c_17 => ?_)
    · refine g_iconst (v := 1) C (by decide) dX7_settles_24 ?_
      refine g_iadd C dX7_settles_25 ?_
      refine g_istore_n C (by decide) dX7_settles_26 ?_
      refine g_iinc (v := nI (i1 + 1)) C rfl (nI_1 i1) (by decide) dX7_settles_27 ?_
      refine g_goto (tgt := 4) C (by decide) dX7_settles_30 ?_
      exact g_sub rfl (ih1 (_, _) _ ⟨by rw [cw_fold0, ← hx1]; exact congrArg (fun z => (z, cw_settle1 x.2 i1)) (cw_ie c_17).symm, (cw_I_settle1 hI1 (cw_B_le hB (by omega)) hi1).mono (Nat.le_refl _) (by omega), h_13⟩)
    · refine g_iconst (v := 0) C (by decide) dX7_settles_20 ?_
      refine g_goto (tgt := 25) C (by decide) dX7_settles_21 ?_
      refine g_iadd C dX7_settles_25 ?_
      refine g_istore_n C (by decide) dX7_settles_26 ?_
      refine g_iinc (v := nI (i1 + 1)) C rfl (nI_1 i1) (by decide) dX7_settles_27 ?_
      refine g_goto (tgt := 4) C (by decide) dX7_settles_30 ?_
      exact g_sub rfl (ih1 (_, _) _ ⟨by rw [cw_fold0, ← hx1]; exact congrArg (fun z => (z, cw_settle1 x.2 i1)) ((cw_it c_17).trans (Int32.add_zero _).symm).symm, (cw_I_settle1 hI1 (cw_B_le hB (by omega)) hi1).mono (Nat.le_refl _) (by omega), h_13⟩)
  obtain ⟨hx1, hI1, hw1⟩ := hR1
  refine g_iload_n C rfl dX7_settles_4 ?_
  refine g_bipush (v := 20) C (by decide) dX7_settles_5 ?_
  refine g_cmp_ge (tgt := 33) C (by decide) dX7_settles_7 (fun c_7 => ?_) (fun c_7 => absurd (by decide) c_7)
  refine g_aload_n C rfl dX7_settles_33 ?_
  refine g_call C (ok_X7_noBids ) my_X7_noBids vi_X7_88 (by decide) ⟨Nat.le_refl _, Nat.le_refl _⟩ rfl rfl rfl (Nat.le_of_ble_eq_true rfl) dX7_settles_34 rfl (hr_1 hw1) (fun v_34 w_34 hp_34 => ?_)
  obtain ⟨rfl, h_34⟩ := hp_34
  have h_34 := hr_call hw1 h_34
  refine g_iload_n C rfl dX7_settles_37 ?_
  refine g_iret C F dX7_settles_38 ?_
  have e : cw_settles s = (x.1, cw_noBids x.2) := by rw [hx1]; rfl
  exact ⟨by rw [e], by rw [e]; exact h_34⟩

