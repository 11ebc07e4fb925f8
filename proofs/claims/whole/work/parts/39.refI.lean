theorem cw_19 {i : Nat} (h : i ≤ 19) : (19 : Int32) - nI i = nI (19 - i) := by
  apply Int32.toInt_inj.mp
  rw [cw_ni (by omega)]
  have := pk_sub_toInt (a := 19) (b := i) (by omega) (by omega)
  have e : nI 19 = (19 : Int32) := rfl
  rw [← e, this]; omega
theorem cw_191 {i : Nat} (h : i ≤ 19) : nI (19 - i) + Int32.ofInt (-1) = 19 - nI (i + 1) := by
  rw [← cw_19 h, ← nI_1 i]
  have e : Int32.ofInt (-1) = -1 := rfl
  rw [e, Int32.sub_eq_add_neg, Int32.sub_eq_add_neg, Int32.neg_add, Int32.add_assoc, Int32.sub_eq_add_neg]

set_option maxHeartbeats 8000000 in
set_option maxRecDepth 100000 in
theorem ok_X7_points {s : cw_s} (hm : cw_m s) : gw_Ok yX7_points cX7_points 3 (some .int) sM 2 [.ref 0] (fun w => w 1 = s) (fun w vr w1 => vr = some (.int (cw_points s)) ∧ w1 = w) := by
  refine gw_of (by decide) (Nat.le_of_ble_eq_true rfl) ?_
  intro X w h C F
  have h := hr_in h
  have h6 := hm.2
  refine g_iconst (v := 0) C (by decide) dX7_points_0 ?_
  refine g_istore_n C (by decide) dX7_points_1 ?_
  refine g_iconst (v := 0) C (by decide) dX7_points_2 ?_
  refine g_istore_n C (by decide) dX7_points_3 ?_
  refine g_sub rfl (g_for (α := Int32) (cw_no s) (fun i1 x => [(0, .ref 0), (1, .int x), (2, .int (nI i1))]) (fun i1 x w1 => x = cw_fold (fun j x => x + s (1 + 4 * j + 1)) 0 i1 0 ∧ w1 = w) 0 0 _ (Nat.zero_le _) (⟨rfl, rfl⟩) (fun i1 x w1 hi1 hR1 ih1 => ?_) (fun x w1 hR1 => ?_))
  · obtain ⟨hx1, rfl⟩ := hR1
    refine g_iload_n C rfl dX7_points_4 ?_
    refine g_aload_n C rfl dX7_points_5 ?_
    refine g_getr C fl_X7_7 rfl rfl dX7_points_6 ?_
    refine g_iconst (v := 0) C (by decide) dX7_points_9 ?_
    refine g_iald (j := 0) C rfl (rfl) (by decide) (by decide) dX7_points_10 ?_
    refine g_top (hr_rd h) ?_
    refine g_cmp_ge (tgt := 33) C (by decide) dX7_points_11 (fun c_11 => absurd c_11 (cw_liml hm hi1)) (fun c_11 => ?_)
    refine g_iload_n C rfl dX7_points_14 ?_
    refine g_aload_n C rfl dX7_points_15 ?_
    refine g_getr C fl_X7_7 rfl rfl dX7_points_16 ?_
    refine g_iload_n C rfl dX7_points_19 ?_
    refine g_iconst (v := 1) C (by decide) dX7_points_20 ?_
    refine g_callS C (ok_X7_of (i := 1) _ _ _ (by first | rfl | assumption) rfl) my_X7_of si_X7_54 (by decide) ⟨Nat.le_refl _, Nat.le_refl _⟩ rfl (Nat.le_of_ble_eq_true rfl) dX7_points_21 rfl (trivial) (fun v_21 w_21 hp_21 => ?_)
    obtain ⟨rfl, hw_21⟩ := hp_21
    have hw_21 := hw_21.symm; subst hw_21
    refine g_iald C rfl (by first | rfl | assumption | (simp only [nI_add, pk_mul, *]; done)) (by first | assumption | omega) (by decide) dX7_points_24 ?_
    refine g_top (hr_rd h) ?_
    refine g_iadd C dX7_points_25 ?_
    refine g_istore_n C (by decide) dX7_points_26 ?_
    refine g_iinc (v := nI (i1 + 1)) C rfl (nI_1 i1) (by decide) dX7_points_27 ?_
    refine g_goto (tgt := 4) C (by decide) dX7_points_30 ?_
    exact g_sub rfl (ih1 _ _ ⟨by rw [cw_fold0, ← hx1]; all_goals simp [], rfl⟩)
  obtain ⟨hx1, rfl⟩ := hR1
  refine g_iload_n C rfl dX7_points_4 ?_
  refine g_aload_n C rfl dX7_points_5 ?_
  refine g_getr C fl_X7_7 rfl rfl dX7_points_6 ?_
  refine g_iconst (v := 0) C (by decide) dX7_points_9 ?_
  refine g_iald (j := 0) C rfl (rfl) (by decide) (by decide) dX7_points_10 ?_
  refine g_top (hr_rd h) ?_
  refine g_cmp_ge (tgt := 33) C (by decide) dX7_points_11 (fun c_11 => ?_) (fun c_11 => absurd (cw_lim hm) c_11)
  refine g_iload_n C rfl dX7_points_33 ?_
  refine g_iret C F dX7_points_34 ?_
  exact ⟨by rw [hx1]; rfl, rfl⟩

set_option maxHeartbeats 8000000 in
set_option maxRecDepth 100000 in
theorem ok_X7_allBids {s : cw_s} (hm : cw_m s) : gw_Ok yX7_allBids cX7_allBids 3 (some .int) sM 3 [.ref 0] (fun w => w 1 = s) (fun w vr w1 => vr = some (.int (cw_allBids s)) ∧ w1 = w) := by
  refine gw_of (by decide) (Nat.le_of_ble_eq_true rfl) ?_
  intro X w h C F
  have h := hr_in h
  have h6 := hm.2
  refine g_iconst (v := 0) C (by decide) dX7_allBids_0 ?_
  refine g_istore_n C (by decide) dX7_allBids_1 ?_
  refine g_iconst (v := 0) C (by decide) dX7_allBids_2 ?_
  refine g_istore_n C (by decide) dX7_allBids_3 ?_
  refine g_sub rfl (g_for (α := Int32) 20 (fun i1 x => [(0, .ref 0), (1, .int x), (2, .int (nI i1))]) (fun i1 x w1 => x = cw_fold (fun k x => x + cw_bidsFor s k) 0 i1 0 ∧ w1 = w) 0 0 _ (Nat.zero_le _) (⟨rfl, rfl⟩) (fun i1 x w1 hi1 hR1 ih1 => ?_) (fun x w1 hR1 => ?_))
  · obtain ⟨hx1, rfl⟩ := hR1
    refine g_iload_n C rfl dX7_allBids_4 ?_
    refine g_bipush (v := 20) C (by decide) dX7_allBids_5 ?_
    refine g_cmp_ge (tgt := 24) C (by decide) dX7_allBids_7 (fun c_7 => absurd c_7 (nI_ge hi1 (by decide))) (fun c_7 => ?_)
    refine g_iload_n C rfl dX7_allBids_10 ?_
    refine g_aload_n C rfl dX7_allBids_11 ?_
    refine g_iload_n C rfl dX7_allBids_12 ?_
    refine g_call C (ok_X7_bidsFor _ i1 rfl hi1 hm) my_X7_bidsFor vi_X7_75 (by decide) ⟨Nat.le_refl _, Nat.le_refl _⟩ rfl rfl rfl (Nat.le_of_ble_eq_true rfl) dX7_allBids_13 rfl (hr_1 h) (fun v_13 w_13 hp_13 => ?_)
    obtain ⟨rfl, hw_13⟩ := hp_13
    have hw_13 := hw_13.symm; subst hw_13
    refine g_iadd C dX7_allBids_16 ?_
    refine g_istore_n C (by decide) dX7_allBids_17 ?_
    refine g_iinc (v := nI (i1 + 1)) C rfl (nI_1 i1) (by decide) dX7_allBids_18 ?_
    refine g_goto (tgt := 4) C (by decide) dX7_allBids_21 ?_
    exact g_sub rfl (ih1 _ _ ⟨by rw [cw_fold0, ← hx1]; all_goals simp [], rfl⟩)
  obtain ⟨hx1, rfl⟩ := hR1
  refine g_iload_n C rfl dX7_allBids_4 ?_
  refine g_bipush (v := 20) C (by decide) dX7_allBids_5 ?_
  refine g_cmp_ge (tgt := 24) C (by decide) dX7_allBids_7 (fun c_7 => ?_) (fun c_7 => absurd (by decide) c_7)
  refine g_iload_n C rfl dX7_allBids_24 ?_
  refine g_iret C F dX7_allBids_25 ?_
  exact ⟨by rw [hx1]; rfl, rfl⟩

set_option maxHeartbeats 8000000 in
set_option maxRecDepth 100000 in
theorem ok_X7_told {s : cw_s} (k : Int32) (hk1 : 0 ≤ k) (hk2 : k ≤ 13) (hm : cw_m s) : gw_Ok yX7_told cX7_told 2 (some .int) sM 4 [.ref 0, .int k] (fun w => w 1 = s) (fun w vr w1 => vr = some (.int (cw_told s k)) ∧ w1 = w) := by
  refine gw_of (by decide) (Nat.le_of_ble_eq_true rfl) ?_
  intro X w h C F
  have h := hr_in h
  have q1 := cw_le.mp hk1
  have q2 := cw_le.mp hk2
  have z0 : (0 : Int32).toInt = 0 := rfl
  have z13 : (13 : Int32).toInt = 13 := rfl
  refine g_iload_n C rfl dX7_told_0 ?_
  have hsw_1 : (k.toInt < 0 ∨ 9 < k.toInt) ∨ k.toInt = 0 ∨ k.toInt = 1 ∨ k.toInt = 2 ∨ k.toInt = 3 ∨ k.toInt = 4 ∨ k.toInt = 5 ∨ k.toInt = 6 ∨ k.toInt = 7 ∨ k.toInt = 8 ∨ k.toInt = 9 := by omega
  rcases hsw_1 with hsw_1 | hsw_1 | hsw_1 | hsw_1 | hsw_1 | hsw_1 | hsw_1 | hsw_1 | hsw_1 | hsw_1 | hsw_1
  · refine g_tabOut (tgt := 97) C hsw_1 (by decide) dX7_told_1 ?_
    have hd4 : k = 10 ∨ k = 11 ∨ k = 12 ∨ k = 13 := by
      have e : k.toInt = 10 ∨ k.toInt = 11 ∨ k.toInt = 12 ∨ k.toInt = 13 := by omega
      rcases e with e | e | e | e
      · exact Or.inl (gw_toInt (v := 10) e)
      · exact Or.inr (Or.inl (gw_toInt (v := 11) e))
      · exact Or.inr (Or.inr (Or.inl (gw_toInt (v := 12) e)))
      · exact Or.inr (Or.inr (Or.inr (gw_toInt (v := 13) e)))
    rcases hd4 with rfl | rfl | rfl | rfl
    · refine g_iload_n C rfl dX7_told_97 ?_
      refine g_bipush (v := 7) C (by decide) dX7_told_98 ?_
      refine g_cmp_ge (tgt := 118) C (by decide) dX7_told_100 (fun c_100 => ?_) (fun c_100 => absurd (by decide) c_100)
      refine g_aload_n C rfl dX7_told_118 ?_
      refine g_getr C fl_X7_7 rfl rfl dX7_told_119 ?_
      refine g_sipush (v := 238) C (by decide) dX7_told_122 ?_
      refine g_iload_n C rfl dX7_told_125 ?_
      refine g_iadd C dX7_told_126 ?_
      refine g_bipush (v := 10) C (by decide) dX7_told_127 ?_
      refine g_isub C dX7_told_129 ?_
      refine g_iald (j := 238) C rfl (rfl) (by decide) (by decide) dX7_told_130 ?_
      refine g_top (hr_rd h) ?_
      refine g_iret C F dX7_told_131 ?_
      exact ⟨by first | rfl | (unfold cw_told; simp), rfl⟩
    · refine g_iload_n C rfl dX7_told_97 ?_
      refine g_bipush (v := 7) C (by decide) dX7_told_98 ?_
      refine g_cmp_ge (tgt := 118) C (by decide) dX7_told_100 (fun c_100 => ?_) (fun c_100 => absurd (by decide) c_100)
      refine g_aload_n C rfl dX7_told_118 ?_
      refine g_getr C fl_X7_7 rfl rfl dX7_told_119 ?_
      refine g_sipush (v := 238) C (by decide) dX7_told_122 ?_
      refine g_iload_n C rfl dX7_told_125 ?_
      refine g_iadd C dX7_told_126 ?_
      refine g_bipush (v := 10) C (by decide) dX7_told_127 ?_
      refine g_isub C dX7_told_129 ?_
      refine g_iald (j := 239) C rfl (rfl) (by decide) (by decide) dX7_told_130 ?_
      refine g_top (hr_rd h) ?_
      refine g_iret C F dX7_told_131 ?_
      exact ⟨by first | rfl | (unfold cw_told; simp), rfl⟩
    · refine g_iload_n C rfl dX7_told_97 ?_
      refine g_bipush (v := 7) C (by decide) dX7_told_98 ?_
      refine g_cmp_ge (tgt := 118) C (by decide) dX7_told_100 (fun c_100 => ?_) (fun c_100 => absurd (by decide) c_100)
      refine g_aload_n C rfl dX7_told_118 ?_
      refine g_getr C fl_X7_7 rfl rfl dX7_told_119 ?_
      refine g_sipush (v := 238) C (by decide) dX7_told_122 ?_
      refine g_iload_n C rfl dX7_told_125 ?_
      refine g_iadd C dX7_told_126 ?_
      refine g_bipush (v := 10) C (by decide) dX7_told_127 ?_
      refine g_isub C dX7_told_129 ?_
      refine g_iald (j := 240) C rfl (rfl) (by decide) (by decide) dX7_told_130 ?_
      refine g_top (hr_rd h) ?_
      refine g_iret C F dX7_told_131 ?_
      exact ⟨by first | rfl | (unfold cw_told; simp), rfl⟩
    · refine g_iload_n C rfl dX7_told_97 ?_
      refine g_bipush (v := 7) C (by decide) dX7_told_98 ?_
      refine g_cmp_ge (tgt := 118) C (by decide) dX7_told_100 (fun c_100 => ?_) (fun c_100 => absurd (by decide) c_100)
      refine g_aload_n C rfl dX7_told_118 ?_
      refine g_getr C fl_X7_7 rfl rfl dX7_told_119 ?_
      refine g_sipush (v := 238) C (by decide) dX7_told_122 ?_
      refine g_iload_n C rfl dX7_told_125 ?_
      refine g_iadd C dX7_told_126 ?_
      refine g_bipush (v := 10) C (by decide) dX7_told_127 ?_
      refine g_isub C dX7_told_129 ?_
      refine g_iald (j := 241) C rfl (rfl) (by decide) (by decide) dX7_told_130 ?_
      refine g_top (hr_rd h) ?_
      refine g_iret C F dX7_told_131 ?_
      exact ⟨by first | rfl | (unfold cw_told; simp), rfl⟩
  · obtain rfl : k = 0 := gw_toInt hsw_1
    refine g_tabIn (off := 55) (tgt := 56) C (by decide) (by decide) rfl (by decide) dX7_told_1 ?_
    refine g_aload_n C rfl dX7_told_56 ?_
    refine g_getr C fl_X7_7 rfl rfl dX7_told_57 ?_
    refine g_iconst (v := 0) C (by decide) dX7_told_60 ?_
    refine g_iald (j := 0) C rfl (rfl) (by decide) (by decide) dX7_told_61 ?_
    refine g_top (hr_rd h) ?_
    refine g_iret C F dX7_told_62 ?_
    exact ⟨by first | rfl | (unfold cw_told; simp), rfl⟩
  · obtain rfl : k = 1 := gw_toInt hsw_1
    refine g_tabIn (off := 62) (tgt := 63) C (by decide) (by decide) rfl (by decide) dX7_told_1 ?_
    refine g_aload_n C rfl dX7_told_63 ?_
    refine g_getr C fl_X7_7 rfl rfl dX7_told_64 ?_
    refine g_sipush (v := 230) C (by decide) dX7_told_67 ?_
    refine g_iald (j := 230) C rfl (rfl) (by decide) (by decide) dX7_told_70 ?_
    refine g_top (hr_rd h) ?_
    refine g_iret C F dX7_told_71 ?_
    exact ⟨by first | rfl | (unfold cw_told; simp), rfl⟩
  · obtain rfl : k = 2 := gw_toInt hsw_1
    refine g_tabIn (off := 71) (tgt := 72) C (by decide) (by decide) rfl (by decide) dX7_told_1 ?_
    refine g_aload_n C rfl dX7_told_72 ?_
    refine g_iconst (v := (-1)) C (by decide) dX7_told_73 ?_
    refine g_call C (ok_X7_held _) my_X7_held vi_X7_57 (by decide) ⟨Nat.le_refl _, Nat.le_refl _⟩ rfl rfl rfl (Nat.le_of_ble_eq_true rfl) dX7_told_74 rfl (hr_1 h) (fun v_74 w_74 hp_74 => ?_)
    obtain ⟨rfl, hw_74⟩ := hp_74
    have hw_74 := hw_74.symm; subst hw_74
    refine g_iret C F dX7_told_77 ?_
    exact ⟨by first | rfl | (unfold cw_told; simp), rfl⟩
  · obtain rfl : k = 3 := gw_toInt hsw_1
    refine g_tabIn (off := 96) (tgt := 97) C (by decide) (by decide) rfl (by decide) dX7_told_1 ?_
    refine g_iload_n C rfl dX7_told_97 ?_
    refine g_bipush (v := 7) C (by decide) dX7_told_98 ?_
    refine g_cmp_ge (tgt := 118) C (by decide) dX7_told_100 (fun c_100 => absurd c_100 (by decide)) (fun c_100 => ?_)
    refine g_aload_n C rfl dX7_told_103 ?_
    refine g_getr C fl_X7_7 rfl rfl dX7_told_104 ?_
    refine g_sipush (v := 234) C (by decide) dX7_told_107 ?_
    refine g_iload_n C rfl dX7_told_110 ?_
    refine g_iadd C dX7_told_111 ?_
    refine g_iconst (v := 3) C (by decide) dX7_told_112 ?_
    refine g_isub C dX7_told_113 ?_
    refine g_iald (j := 234) C rfl (rfl) (by decide) (by decide) dX7_told_114 ?_
    refine g_top (hr_rd h) ?_
    refine g_goto (tgt := 131) C (by decide) dX7_told_115 ?_
    refine g_iret C F dX7_told_131 ?_
    exact ⟨by first | rfl | (unfold cw_told; simp), rfl⟩
  · obtain rfl : k = 4 := gw_toInt hsw_1
    refine g_tabIn (off := 96) (tgt := 97) C (by decide) (by decide) rfl (by decide) dX7_told_1 ?_
    refine g_iload_n C rfl dX7_told_97 ?_
    refine g_bipush (v := 7) C (by decide) dX7_told_98 ?_
    refine g_cmp_ge (tgt := 118) C (by decide) dX7_told_100 (fun c_100 => absurd c_100 (by decide)) (fun c_100 => ?_)
    refine g_aload_n C rfl dX7_told_103 ?_
    refine g_getr C fl_X7_7 rfl rfl dX7_told_104 ?_
    refine g_sipush (v := 234) C (by decide) dX7_told_107 ?_
    refine g_iload_n C rfl dX7_told_110 ?_
    refine g_iadd C dX7_told_111 ?_
    refine g_iconst (v := 3) C (by decide) dX7_told_112 ?_
    refine g_isub C dX7_told_113 ?_
    refine g_iald (j := 235) C rfl (rfl) (by decide) (by decide) dX7_told_114 ?_
    refine g_top (hr_rd h) ?_
    refine g_goto (tgt := 131) C (by decide) dX7_told_115 ?_
    refine g_iret C F dX7_told_131 ?_
    exact ⟨by first | rfl | (unfold cw_told; simp), rfl⟩
  · obtain rfl : k = 5 := gw_toInt hsw_1
    refine g_tabIn (off := 96) (tgt := 97) C (by decide) (by decide) rfl (by decide) dX7_told_1 ?_
    refine g_iload_n C rfl dX7_told_97 ?_
    refine g_bipush (v := 7) C (by decide) dX7_told_98 ?_
    refine g_cmp_ge (tgt := 118) C (by decide) dX7_told_100 (fun c_100 => absurd c_100 (by decide)) (fun c_100 => ?_)
    refine g_aload_n C rfl dX7_told_103 ?_
    refine g_getr C fl_X7_7 rfl rfl dX7_told_104 ?_
    refine g_sipush (v := 234) C (by decide) dX7_told_107 ?_
    refine g_iload_n C rfl dX7_told_110 ?_
    refine g_iadd C dX7_told_111 ?_
    refine g_iconst (v := 3) C (by decide) dX7_told_112 ?_
    refine g_isub C dX7_told_113 ?_
    refine g_iald (j := 236) C rfl (rfl) (by decide) (by decide) dX7_told_114 ?_
    refine g_top (hr_rd h) ?_
    refine g_goto (tgt := 131) C (by decide) dX7_told_115 ?_
    refine g_iret C F dX7_told_131 ?_
    exact ⟨by first | rfl | (unfold cw_told; simp), rfl⟩
  · obtain rfl : k = 6 := gw_toInt hsw_1
    refine g_tabIn (off := 96) (tgt := 97) C (by decide) (by decide) rfl (by decide) dX7_told_1 ?_
    refine g_iload_n C rfl dX7_told_97 ?_
    refine g_bipush (v := 7) C (by decide) dX7_told_98 ?_
    refine g_cmp_ge (tgt := 118) C (by decide) dX7_told_100 (fun c_100 => absurd c_100 (by decide)) (fun c_100 => ?_)
    refine g_aload_n C rfl dX7_told_103 ?_
    refine g_getr C fl_X7_7 rfl rfl dX7_told_104 ?_
    refine g_sipush (v := 234) C (by decide) dX7_told_107 ?_
    refine g_iload_n C rfl dX7_told_110 ?_
    refine g_iadd C dX7_told_111 ?_
    refine g_iconst (v := 3) C (by decide) dX7_told_112 ?_
    refine g_isub C dX7_told_113 ?_
    refine g_iald (j := 237) C rfl (rfl) (by decide) (by decide) dX7_told_114 ?_
    refine g_top (hr_rd h) ?_
    refine g_goto (tgt := 131) C (by decide) dX7_told_115 ?_
    refine g_iret C F dX7_told_131 ?_
    exact ⟨by first | rfl | (unfold cw_told; simp), rfl⟩
  · obtain rfl : k = 7 := gw_toInt hsw_1
    refine g_tabIn (off := 77) (tgt := 78) C (by decide) (by decide) rfl (by decide) dX7_told_1 ?_
    refine g_aload_n C rfl dX7_told_78 ?_
    refine g_call C (ok_X7_points (by assumption)) my_X7_points vi_X7_212 (by decide) ⟨Nat.le_refl _, Nat.le_refl _⟩ rfl rfl rfl (Nat.le_of_ble_eq_true rfl) dX7_told_79 rfl (hr_1 h) (fun v_79 w_79 hp_79 => ?_)
    obtain ⟨rfl, hw_79⟩ := hp_79
    have hw_79 := hw_79.symm; subst hw_79
    refine g_iret C F dX7_told_82 ?_
    exact ⟨by first | rfl | (unfold cw_told; simp), rfl⟩
  · obtain rfl : k = 8 := gw_toInt hsw_1
    refine g_tabIn (off := 82) (tgt := 83) C (by decide) (by decide) rfl (by decide) dX7_told_1 ?_
    refine g_aload_n C rfl dX7_told_83 ?_
    refine g_call C (ok_X7_allBids (by assumption)) my_X7_allBids vi_X7_215 (by decide) ⟨Nat.le_refl _, Nat.le_refl _⟩ rfl rfl rfl (Nat.le_of_ble_eq_true rfl) dX7_told_84 rfl (hr_1 h) (fun v_84 w_84 hp_84 => ?_)
    obtain ⟨rfl, hw_84⟩ := hp_84
    have hw_84 := hw_84.symm; subst hw_84
    refine g_iret C F dX7_told_87 ?_
    exact ⟨by first | rfl | (unfold cw_told; simp), rfl⟩
  · obtain rfl : k = 9 := gw_toInt hsw_1
    refine g_tabIn (off := 87) (tgt := 88) C (by decide) (by decide) rfl (by decide) dX7_told_1 ?_
    refine g_aload_n C rfl dX7_told_88 ?_
    refine g_getr C fl_X7_7 rfl rfl dX7_told_89 ?_
    refine g_sipush (v := 205) C (by decide) dX7_told_92 ?_
    refine g_iald (j := 205) C rfl (rfl) (by decide) (by decide) dX7_told_95 ?_
    refine g_top (hr_rd h) ?_
    refine g_iret C F dX7_told_96 ?_
    exact ⟨by first | rfl | (unfold cw_told; simp), rfl⟩

set_option maxHeartbeats 8000000 in
set_option maxRecDepth 100000 in
theorem ok_X7_lowestOf {s : cw_s} (o : Int32) : gw_Ok yX7_lowestOf cX7_lowestOf 4 (some .int) sM 2 [.ref 0, .int o] (fun w => w 1 = s) (fun w vr w1 => vr = some (.int (cw_low s o)) ∧ w1 = w) := by
  refine gw_of (by decide) (Nat.le_of_ble_eq_true rfl) ?_
  intro X w h C F
  have h := hr_in h
  refine g_iconst (v := (-1)) C (by decide) dX7_lowestOf_0 ?_
  refine g_istore_n C (by decide) dX7_lowestOf_1 ?_
  refine g_bipush (v := 19) C (by decide) dX7_lowestOf_2 ?_
  refine g_istore_n C (by decide) dX7_lowestOf_4 ?_
  refine g_sub rfl (g_for (α := Int32) 20 (fun i9 x => [(0, .ref 0), (1, .int o), (2, .int x), (3, .int (19 - nI i9))]) (fun i9 x w1 => x = cw_fold (fun k x => if s (25 + 3 * (19 - k) + 2) = o then nI (19 - k) else x) 0 i9 (-1) ∧ w1 = w) 0 (-1) _ (Nat.zero_le _) (⟨rfl, rfl⟩) (fun i9 x w1 hi1 hR1 ih1 => ?_) (fun x w1 hR1 => ?_))
  · obtain ⟨hx1, rfl⟩ := hR1
    have h19 : (19 : Int32) - nI i9 = nI (19 - i9) := cw_19 (by omega)
    refine g_sub (lv' := [(0, .ref 0), (1, .int o), (2, .int x), (3, .int (nI (19 - i9)))]) (by rw [← h19]; rfl) ?_
    refine g_iload_n C rfl dX7_lowestOf_5 ?_
    refine g_if_lt (tgt := 35) C (by decide) dX7_lowestOf_6 (fun c_6 => absurd c_6 (by rw [cw_lt, cw_ni (by omega)]; have z : (0 : Int32).toInt = 0 := rfl; omega)) (fun c_6 => ?_)
    refine g_aload_n C rfl dX7_lowestOf_9 ?_
    refine g_getr C fl_X7_7 rfl rfl dX7_lowestOf_10 ?_
    refine g_iload_n C rfl dX7_lowestOf_13 ?_
    refine g_iconst (v := 2) C (by decide) dX7_lowestOf_14 ?_
    refine g_callS C (ok_X7_ofWeek (i := 2) _ _ (19 - i9) rfl rfl) my_X7_ofWeek si_X7_36 (by decide) ⟨Nat.le_refl _, Nat.le_refl _⟩ rfl (Nat.le_of_ble_eq_true rfl) dX7_lowestOf_15 rfl (trivial) (fun v_15 w_15 hp_15 => ?_)
    obtain ⟨rfl, hw_15⟩ := hp_15
    have hw_15 := hw_15.symm; subst hw_15
    refine g_iald (j := (25 + 3 * (19 - i9) + 2)) C rfl (rfl) (by omega) (by decide) dX7_lowestOf_18 ?_
    refine g_top (hr_rd h) ?_
    refine g_iload_n C rfl dX7_lowestOf_19 ?_
    refine g_cmp_ne (tgt := 27) C (by decide) dX7_lowestOf_20 (fun c_20 => ?_) (fun c_20 => ?_)
    · refine g_iload_n C rfl dX7_lowestOf_27 ?_
      refine g_istore_n C (by decide) dX7_lowestOf_28 ?_
      refine g_iinc (v := 19 - nI (i9 + 1)) C rfl (cw_191 (by omega)) (by decide) dX7_lowestOf_29 ?_
      refine g_goto (tgt := 5) C (by decide) dX7_lowestOf_32 ?_
      exact g_sub rfl (ih1 _ _ ⟨by rw [cw_fold0, ← hx1]; exact (if_neg c_20).symm, rfl⟩)
    · refine g_iload_n C rfl dX7_lowestOf_23 ?_
      refine g_goto (tgt := 28) C (by decide) dX7_lowestOf_24 ?_
      refine g_istore_n C (by decide) dX7_lowestOf_28 ?_
      refine g_iinc (v := 19 - nI (i9 + 1)) C rfl (cw_191 (by omega)) (by decide) dX7_lowestOf_29 ?_
      refine g_goto (tgt := 5) C (by decide) dX7_lowestOf_32 ?_
      exact g_sub rfl (ih1 _ _ ⟨by rw [cw_fold0, ← hx1]; exact (if_pos c_20).symm, rfl⟩)
  obtain ⟨hx1, rfl⟩ := hR1
  refine g_iload_n C rfl dX7_lowestOf_5 ?_
  refine g_if_lt (tgt := 35) C (by decide) dX7_lowestOf_6 (fun c_6 => ?_) (fun c_6 => absurd (by decide) c_6)
  refine g_iload_n C rfl dX7_lowestOf_35 ?_
  refine g_iret C F dX7_lowestOf_36 ?_
  exact ⟨by rw [hx1]; rfl, rfl⟩

set_option maxHeartbeats 8000000 in
set_option maxRecDepth 100000 in
theorem ok_X7_bidsOf {s : cw_s} (o : Int32) (j : Nat) (eo : o = nI j) (hj : j < 6) : gw_Ok yX7_bidsOf cX7_bidsOf 4 (some .int) sM 2 [.ref 0, .int o] (fun w => w 1 = s) (fun w vr w1 => vr = some (.int (cw_bidsBy s j)) ∧ w1 = w) := by
  refine gw_of (by decide) (Nat.le_of_ble_eq_true rfl) ?_
  intro X w h C F
  have h := hr_in h
  subst eo
  refine g_iconst (v := 0) C (by decide) dX7_bidsOf_0 ?_
  refine g_istore_n C (by decide) dX7_bidsOf_1 ?_
  refine g_iconst (v := 0) C (by decide) dX7_bidsOf_2 ?_
  refine g_istore_n C (by decide) dX7_bidsOf_3 ?_
  refine g_sub rfl (g_for (α := Int32) 20 (fun i1 x => [(0, .ref 0), (1, .int (nI j)), (2, .int x), (3, .int (nI i1))]) (fun i1 x w1 => x = cw_fold (fun k x => if s (85 + 20 * j + k) = -1 then x else x + 1) 0 i1 0 ∧ w1 = w) 0 0 _ (Nat.zero_le _) (⟨rfl, rfl⟩) (fun i1 x w1 hi1 hR1 ih1 => ?_) (fun x w1 hR1 => ?_))
  · obtain ⟨hx1, rfl⟩ := hR1
    refine g_iload_n C rfl dX7_bidsOf_4 ?_
    refine g_bipush (v := 20) C (by decide) dX7_bidsOf_5 ?_
    refine g_cmp_ge (tgt := 38) C (by decide) dX7_bidsOf_7 (fun c_7 => absurd c_7 (nI_ge hi1 (by decide))) (fun c_7 => ?_)
    refine g_iload_n C rfl dX7_bidsOf_10 ?_
    refine g_aload_n C rfl dX7_bidsOf_11 ?_
    refine g_getr C fl_X7_7 rfl rfl dX7_bidsOf_12 ?_
    refine g_iload_n C rfl dX7_bidsOf_15 ?_
    refine g_iload_n C rfl dX7_bidsOf_16 ?_
    refine g_callS C (ok_X7_ofBid _ _ _ _ (by first | rfl | assumption) (by first | rfl | assumption)) my_X7_ofBid si_X7_72 (by decide) ⟨Nat.le_refl _, Nat.le_refl _⟩ rfl (Nat.le_of_ble_eq_true rfl) dX7_bidsOf_17 rfl (trivial) (fun v_17 w_17 hp_17 => ?_)
    obtain ⟨rfl, hw_17⟩ := hp_17
    have hw_17 := hw_17.symm; subst hw_17
    refine g_iald C rfl (by first | rfl | assumption | (simp only [nI_add, pk_mul, *]; done)) (by first | assumption | omega) (by decide) dX7_bidsOf_20 ?_
    refine g_top (hr_rd h) ?_
    refine g_iconst (v := (-1)) C (by decide) dX7_bidsOf_21 ?_
    refine g_cmp_ne (tgt := 29) C (by decide) dX7_bidsOf_22 (fun c_22 => ?_) (fun c_22 => ?_)
    · refine g_iconst (v := 1) C (by decide) dX7_bidsOf_29 ?_
      refine g_iadd C dX7_bidsOf_30 ?_
      refine g_istore_n C (by decide) dX7_bidsOf_31 ?_
      refine g_iinc (v := nI (i1 + 1)) C rfl (nI_1 i1) (by decide) dX7_bidsOf_32 ?_
      refine g_goto (tgt := 4) C (by decide) dX7_bidsOf_35 ?_
      exact g_sub rfl (ih1 _ _ ⟨by rw [cw_fold0, ← hx1]; all_goals simp [c_22], rfl⟩)
    · refine g_iconst (v := 0) C (by decide) dX7_bidsOf_25 ?_
      refine g_goto (tgt := 30) C (by decide) dX7_bidsOf_26 ?_
      refine g_iadd C dX7_bidsOf_30 ?_
      refine g_istore_n C (by decide) dX7_bidsOf_31 ?_
      refine g_iinc (v := nI (i1 + 1)) C rfl (nI_1 i1) (by decide) dX7_bidsOf_32 ?_
      refine g_goto (tgt := 4) C (by decide) dX7_bidsOf_35 ?_
      exact g_sub rfl (ih1 _ _ ⟨by rw [cw_fold0, ← hx1]; all_goals simp [c_22], rfl⟩)
  obtain ⟨hx1, rfl⟩ := hR1
  refine g_iload_n C rfl dX7_bidsOf_4 ?_
  refine g_bipush (v := 20) C (by decide) dX7_bidsOf_5 ?_
  refine g_cmp_ge (tgt := 38) C (by decide) dX7_bidsOf_7 (fun c_7 => ?_) (fun c_7 => absurd (by decide) c_7)
  refine g_iload_n C rfl dX7_bidsOf_38 ?_
  refine g_iret C F dX7_bidsOf_39 ?_
  exact ⟨by rw [hx1]; rfl, rfl⟩

set_option maxHeartbeats 8000000 in
set_option maxRecDepth 100000 in
theorem ok_X7_ofOwner {s : cw_s} (o k : Int32) (j : Nat) (eo : o = nI j) (hj : j < 6) (hk1 : 0 ≤ k) (hk2 : k ≤ 6) : gw_Ok yX7_ofOwner cX7_ofOwner 3 (some .int) sM 3 [.ref 0, .int o, .int k] (fun w => w 1 = s) (fun w vr w1 => vr = some (.int (cw_ofO s j k)) ∧ w1 = w) := by
  refine gw_of (by decide) (Nat.le_of_ble_eq_true rfl) ?_
  intro X w h C F
  have h := hr_in h
  subst eo
  have q1 := cw_le.mp hk1
  have q2 := cw_le.mp hk2
  have z0 : (0 : Int32).toInt = 0 := rfl
  have z6 : (6 : Int32).toInt = 6 := rfl
  refine g_iload_n C rfl dX7_ofOwner_0 ?_
  have hsw_1 : (k.toInt < 2 ∨ 6 < k.toInt) ∨ k.toInt = 2 ∨ k.toInt = 3 ∨ k.toInt = 4 ∨ k.toInt = 5 ∨ k.toInt = 6 := by omega
  rcases hsw_1 with hsw_1 | hsw_1 | hsw_1 | hsw_1 | hsw_1 | hsw_1
  · refine g_tabOut (tgt := 67) C hsw_1 (by decide) dX7_ofOwner_1 ?_
    have hd4 : k = 0 ∨ k = 1 := by
      have e : k.toInt = 0 ∨ k.toInt = 1 := by omega
      rcases e with e | e
      · exact Or.inl (gw_toInt (v := 0) e)
      · exact Or.inr (gw_toInt (v := 1) e)
    rcases hd4 with rfl | rfl
    · refine g_aload_n C rfl dX7_ofOwner_67 ?_
      refine g_getr C fl_X7_7 rfl rfl dX7_ofOwner_68 ?_
      refine g_iload_n C rfl dX7_ofOwner_71 ?_
      refine g_iload_n C rfl dX7_ofOwner_72 ?_
      refine g_callS C (ok_X7_of (i := 0) _ _ j rfl rfl) my_X7_of si_X7_54 (by decide) ⟨Nat.le_refl _, Nat.le_refl _⟩ rfl (Nat.le_of_ble_eq_true rfl) dX7_ofOwner_73 rfl (trivial) (fun v_73 w_73 hp_73 => ?_)
      obtain ⟨rfl, hw_73⟩ := hp_73
      have hw_73 := hw_73.symm; subst hw_73
      refine g_iald (j := 1 + 4 * j + 0) C rfl (rfl) (by omega) (by decide) dX7_ofOwner_76 ?_
      refine g_top (hr_rd h) ?_
      refine g_iret C F dX7_ofOwner_77 ?_
      exact ⟨by first | rfl | (unfold cw_ofO; simp), rfl⟩
    · refine g_aload_n C rfl dX7_ofOwner_67 ?_
      refine g_getr C fl_X7_7 rfl rfl dX7_ofOwner_68 ?_
      refine g_iload_n C rfl dX7_ofOwner_71 ?_
      refine g_iload_n C rfl dX7_ofOwner_72 ?_
      refine g_callS C (ok_X7_of (i := 1) _ _ j rfl rfl) my_X7_of si_X7_54 (by decide) ⟨Nat.le_refl _, Nat.le_refl _⟩ rfl (Nat.le_of_ble_eq_true rfl) dX7_ofOwner_73 rfl (trivial) (fun v_73 w_73 hp_73 => ?_)
      obtain ⟨rfl, hw_73⟩ := hp_73
      have hw_73 := hw_73.symm; subst hw_73
      refine g_iald (j := 1 + 4 * j + 1) C rfl (rfl) (by omega) (by decide) dX7_ofOwner_76 ?_
      refine g_top (hr_rd h) ?_
      refine g_iret C F dX7_ofOwner_77 ?_
      exact ⟨by first | rfl | (unfold cw_ofO; simp), rfl⟩
  · obtain rfl : k = 2 := gw_toInt hsw_1
    refine g_tabIn (off := 35) (tgt := 36) C (by decide) (by decide) rfl (by decide) dX7_ofOwner_1 ?_
    refine g_aload_n C rfl dX7_ofOwner_36 ?_
    refine g_iload_n C rfl dX7_ofOwner_37 ?_
    refine g_call C (ok_X7_held _) my_X7_held vi_X7_57 (by decide) ⟨Nat.le_refl _, Nat.le_refl _⟩ rfl rfl rfl (Nat.le_of_ble_eq_true rfl) dX7_ofOwner_38 rfl (hr_1 h) (fun v_38 w_38 hp_38 => ?_)
    obtain ⟨rfl, hw_38⟩ := hp_38
    have hw_38 := hw_38.symm; subst hw_38
    refine g_iret C F dX7_ofOwner_41 ?_
    exact ⟨by first | rfl | (unfold cw_ofO; simp), rfl⟩
  · obtain rfl : k = 3 := gw_toInt hsw_1
    refine g_tabIn (off := 41) (tgt := 42) C (by decide) (by decide) rfl (by decide) dX7_ofOwner_1 ?_
    refine g_aload_n C rfl dX7_ofOwner_42 ?_
    refine g_getr C fl_X7_7 rfl rfl dX7_ofOwner_43 ?_
    refine g_iload_n C rfl dX7_ofOwner_46 ?_
    refine g_iload_n C rfl dX7_ofOwner_47 ?_
    refine g_iconst (v := 1) C (by decide) dX7_ofOwner_48 ?_
    refine g_isub C dX7_ofOwner_49 ?_
    refine g_callS C (ok_X7_of (i := 2) _ _ j rfl rfl) my_X7_of si_X7_54 (by decide) ⟨Nat.le_refl _, Nat.le_refl _⟩ rfl (Nat.le_of_ble_eq_true rfl) dX7_ofOwner_50 rfl (trivial) (fun v_50 w_50 hp_50 => ?_)
    obtain ⟨rfl, hw_50⟩ := hp_50
    have hw_50 := hw_50.symm; subst hw_50
    refine g_iald (j := 1 + 4 * j + 2) C rfl (rfl) (by omega) (by decide) dX7_ofOwner_53 ?_
    refine g_top (hr_rd h) ?_
    refine g_iret C F dX7_ofOwner_54 ?_
    exact ⟨by first | rfl | (unfold cw_ofO; simp), rfl⟩
  · obtain rfl : k = 4 := gw_toInt hsw_1
    refine g_tabIn (off := 41) (tgt := 42) C (by decide) (by decide) rfl (by decide) dX7_ofOwner_1 ?_
    refine g_aload_n C rfl dX7_ofOwner_42 ?_
    refine g_getr C fl_X7_7 rfl rfl dX7_ofOwner_43 ?_
    refine g_iload_n C rfl dX7_ofOwner_46 ?_
    refine g_iload_n C rfl dX7_ofOwner_47 ?_
    refine g_iconst (v := 1) C (by decide) dX7_ofOwner_48 ?_
    refine g_isub C dX7_ofOwner_49 ?_
    refine g_callS C (ok_X7_of (i := 3) _ _ j rfl rfl) my_X7_of si_X7_54 (by decide) ⟨Nat.le_refl _, Nat.le_refl _⟩ rfl (Nat.le_of_ble_eq_true rfl) dX7_ofOwner_50 rfl (trivial) (fun v_50 w_50 hp_50 => ?_)
    obtain ⟨rfl, hw_50⟩ := hp_50
    have hw_50 := hw_50.symm; subst hw_50
    refine g_iald (j := 1 + 4 * j + 3) C rfl (rfl) (by omega) (by decide) dX7_ofOwner_53 ?_
    refine g_top (hr_rd h) ?_
    refine g_iret C F dX7_ofOwner_54 ?_
    exact ⟨by first | rfl | (unfold cw_ofO; simp), rfl⟩
  · obtain rfl : k = 5 := gw_toInt hsw_1
    refine g_tabIn (off := 54) (tgt := 55) C (by decide) (by decide) rfl (by decide) dX7_ofOwner_1 ?_
    refine g_aload_n C rfl dX7_ofOwner_55 ?_
    refine g_iload_n C rfl dX7_ofOwner_56 ?_
    refine g_call C (ok_X7_lowestOf _) my_X7_lowestOf vi_X7_221 (by decide) ⟨Nat.le_refl _, Nat.le_refl _⟩ rfl rfl rfl (Nat.le_of_ble_eq_true rfl) dX7_ofOwner_57 rfl (hr_1 h) (fun v_57 w_57 hp_57 => ?_)
    obtain ⟨rfl, hw_57⟩ := hp_57
    have hw_57 := hw_57.symm; subst hw_57
    refine g_iret C F dX7_ofOwner_60 ?_
    exact ⟨by first | rfl | (unfold cw_ofO; simp), rfl⟩
  · obtain rfl : k = 6 := gw_toInt hsw_1
    refine g_tabIn (off := 60) (tgt := 61) C (by decide) (by decide) rfl (by decide) dX7_ofOwner_1 ?_
    refine g_aload_n C rfl dX7_ofOwner_61 ?_
    refine g_iload_n C rfl dX7_ofOwner_62 ?_
    refine g_call C (ok_X7_bidsOf _ _ (by first | rfl | assumption) (by first | assumption | omega)) my_X7_bidsOf vi_X7_224 (by decide) ⟨Nat.le_refl _, Nat.le_refl _⟩ rfl rfl rfl (Nat.le_of_ble_eq_true rfl) dX7_ofOwner_63 rfl (hr_1 h) (fun v_63 w_63 hp_63 => ?_)
    obtain ⟨rfl, hw_63⟩ := hp_63
    have hw_63 := hw_63.symm; subst hw_63
    refine g_iret C F dX7_ofOwner_66 ?_
    exact ⟨by first | rfl | (unfold cw_ofO; simp), rfl⟩

set_option maxHeartbeats 8000000 in
set_option maxRecDepth 100000 in
theorem ok_X7_greatestFor {s : cw_s} (b : Int32) (k : Nat) (eb : b = nI k) (hk : k < 20) (hm : cw_m s) : gw_Ok yX7_greatestFor cX7_greatestFor 4 (some .int) sM 2 [.ref 0, .int b] (fun w => w 1 = s) (fun w vr w1 => vr = some (.int (cw_great s k)) ∧ w1 = w) := by
  refine gw_of (by decide) (Nat.le_of_ble_eq_true rfl) ?_
  intro X w h C F
  have h := hr_in h
  subst eb; have h6 := hm.2
  refine g_iconst (v := (-1)) C (by decide) dX7_greatestFor_0 ?_
  refine g_istore_n C (by decide) dX7_greatestFor_1 ?_
  refine g_iconst (v := 0) C (by decide) dX7_greatestFor_2 ?_
  refine g_istore_n C (by decide) dX7_greatestFor_3 ?_
  refine g_sub rfl (g_for (α := Int32) (cw_no s) (fun i1 x => [(0, .ref 0), (1, .int (nI k)), (2, .int x), (3, .int (nI i1))]) (fun i1 x w1 => x = cw_fold (fun j x => if x < s (85 + 20 * j + k) then s (85 + 20 * j + k) else x) 0 i1 (-1) ∧ w1 = w) 0 (-1) _ (Nat.zero_le _) (⟨rfl, rfl⟩) (fun i1 x w1 hi1 hR1 ih1 => ?_) (fun x w1 hR1 => ?_))
  · obtain ⟨hx1, rfl⟩ := hR1
    refine g_iload_n C rfl dX7_greatestFor_4 ?_
    refine g_aload_n C rfl dX7_greatestFor_5 ?_
    refine g_getr C fl_X7_7 rfl rfl dX7_greatestFor_6 ?_
    refine g_iconst (v := 0) C (by decide) dX7_greatestFor_9 ?_
    refine g_iald (j := 0) C rfl (rfl) (by decide) (by decide) dX7_greatestFor_10 ?_
    refine g_top (hr_rd h) ?_
    refine g_cmp_ge (tgt := 49) C (by decide) dX7_greatestFor_11 (fun c_11 => absurd c_11 (cw_liml hm hi1)) (fun c_11 => ?_)
    refine g_aload_n C rfl dX7_greatestFor_14 ?_
    refine g_getr C fl_X7_7 rfl rfl dX7_greatestFor_15 ?_
    refine g_iload_n C rfl dX7_greatestFor_18 ?_
    refine g_iload_n C rfl dX7_greatestFor_19 ?_
    refine g_callS C (ok_X7_ofBid _ _ _ _ (by first | rfl | assumption) (by first | rfl | assumption)) my_X7_ofBid si_X7_72 (by decide) ⟨Nat.le_refl _, Nat.le_refl _⟩ rfl (Nat.le_of_ble_eq_true rfl) dX7_greatestFor_20 rfl (trivial) (fun v_20 w_20 hp_20 => ?_)
    obtain ⟨rfl, hw_20⟩ := hp_20
    have hw_20 := hw_20.symm; subst hw_20
    refine g_iald C rfl (by first | rfl | assumption | (simp only [nI_add, pk_mul, *]; done)) (by first | assumption | omega) (by decide) dX7_greatestFor_23 ?_
    refine g_top (hr_rd h) ?_
    refine g_iload_n C rfl dX7_greatestFor_24 ?_
    refine g_cmp_le (tgt := 41) C (by decide) dX7_greatestFor_25 (fun c_25 => ?_) (fun c_25 => ?_)
    · refine g_iload_n C rfl dX7_greatestFor_41 ?_
      refine g_istore_n C (by decide) dX7_greatestFor_42 ?_
      refine g_iinc (v := nI (i1 + 1)) C rfl (nI_1 i1) (by decide) dX7_greatestFor_43 ?_
      refine g_goto (tgt := 4) C (by decide) dX7_greatestFor_46 ?_
      exact g_sub rfl (ih1 _ _ ⟨by rw [cw_fold0, ← hx1]; exact (if_neg (Int32.not_lt.mpr c_25)).symm, rfl⟩)
    · refine g_aload_n C rfl dX7_greatestFor_28 ?_
      refine g_getr C fl_X7_7 rfl rfl dX7_greatestFor_29 ?_
      refine g_iload_n C rfl dX7_greatestFor_32 ?_
      refine g_iload_n C rfl dX7_greatestFor_33 ?_
      refine g_callS C (ok_X7_ofBid _ _ _ _ (by first | rfl | assumption) (by first | rfl | assumption)) my_X7_ofBid si_X7_72 (by decide) ⟨Nat.le_refl _, Nat.le_refl _⟩ rfl (Nat.le_of_ble_eq_true rfl) dX7_greatestFor_34 rfl (trivial) (fun v_34 w_34 hp_34 => ?_)
      obtain ⟨rfl, hw_34⟩ := hp_34
      have hw_34 := hw_34.symm; subst hw_34
      refine g_iald C rfl (by first | rfl | assumption | (simp only [nI_add, pk_mul, *]; done)) (by first | assumption | omega) (by decide) dX7_greatestFor_37 ?_
      refine g_top (hr_rd h) ?_
      refine g_goto (tgt := 42) C (by decide) dX7_greatestFor_38 ?_
      refine g_istore_n C (by decide) dX7_greatestFor_42 ?_
      refine g_iinc (v := nI (i1 + 1)) C rfl (nI_1 i1) (by decide) dX7_greatestFor_43 ?_
      refine g_goto (tgt := 4) C (by decide) dX7_greatestFor_46 ?_
      exact g_sub rfl (ih1 _ _ ⟨by rw [cw_fold0, ← hx1]; exact (if_pos (Int32.not_le.mp c_25)).symm, rfl⟩)
  obtain ⟨hx1, rfl⟩ := hR1
  refine g_iload_n C rfl dX7_greatestFor_4 ?_
  refine g_aload_n C rfl dX7_greatestFor_5 ?_
  refine g_getr C fl_X7_7 rfl rfl dX7_greatestFor_6 ?_
  refine g_iconst (v := 0) C (by decide) dX7_greatestFor_9 ?_
  refine g_iald (j := 0) C rfl (rfl) (by decide) (by decide) dX7_greatestFor_10 ?_
  refine g_top (hr_rd h) ?_
  refine g_cmp_ge (tgt := 49) C (by decide) dX7_greatestFor_11 (fun c_11 => ?_) (fun c_11 => absurd (cw_lim hm) c_11)
  refine g_iload_n C rfl dX7_greatestFor_49 ?_
  refine g_iret C F dX7_greatestFor_50 ?_
  exact ⟨by rw [hx1]; rfl, rfl⟩

