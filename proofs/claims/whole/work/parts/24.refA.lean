/-! THE REFERENCE: its cells: itself, s, aside, history, slots, text, sets -/
def sM : gw_S := (7, fun i => match i with
  | 0 => .inr (5, [none, some 1, some 2, some 3, none, some 4, none, some 5, none, none, none, none, none, none, none, some 6])
  | 1 => .inl (0, 242, fun j => j)
  | 2 => .inl (0, 242, fun j => j)
  | 3 => .inl (0, 3388, fun j => j)
  | 4 => .inl (0, 484, fun j => j)
  | 5 => .inl (0, 120, fun j => j)
  | _ => .inl (1, 64, fun j => j))

theorem cw_lim {s : cw_s} (hm : cw_m s) : s 0 ≤ nI (cw_no s) := by rw [hm.1]; exact nI_le (Nat.le_refl _) (Nat.lt_of_le_of_lt hm.2 (by decide))
theorem cw_liml {s : cw_s} (hm : cw_m s) {i : Nat} (h : i < cw_no s) : ¬ s 0 ≤ nI i := by rw [hm.1]; exact nI_ge h (Nat.lt_of_le_of_lt hm.2 (by decide))

set_option maxHeartbeats 8000000 in
set_option maxRecDepth 100000 in
theorem ok_X7_in (v a b : Int32) : gw_Ok yX7_in cX7_in 3 (some .boolean) sM 1 [.int v, .int a, .int b] (fun _ => True) (fun w vr w1 => vr = some (.int (cw_b (a ≤ v ∧ v ≤ b))) ∧ w1 = w) := by
  refine gw_of (by decide) (Nat.le_of_ble_eq_true rfl) ?_
  intro X w h C F
  refine g_iload_n C rfl dX7_in_0 ?_
  refine g_iload_n C rfl dX7_in_1 ?_
  refine g_cmp_lt (tgt := 14) C (by decide) dX7_in_2 (fun c_2 => ?_) (fun c_2 => ?_)
  · refine g_iconst (v := 0) C (by decide) dX7_in_14 ?_
    refine g_zret C F (rfl) dX7_in_15 ?_
    refine ⟨?_, rfl⟩
    first | exact cw_q1 ⟨Int32.not_lt.mp c_2, Int32.not_lt.mp c_7⟩ | exact cw_q0 (fun h => absurd c_2 (Int32.not_lt.mpr h.1)) | exact cw_q0 (fun h => absurd c_7 (Int32.not_lt.mpr h.2))
  · refine g_iload_n C rfl dX7_in_5 ?_
    refine g_iload_n C rfl dX7_in_6 ?_
    refine g_cmp_gt (tgt := 14) C (by decide) dX7_in_7 (fun c_7 => ?_) (fun c_7 => ?_)
    · refine g_iconst (v := 0) C (by decide) dX7_in_14 ?_
      refine g_zret C F (rfl) dX7_in_15 ?_
      refine ⟨?_, rfl⟩
      first | exact cw_q1 ⟨Int32.not_lt.mp c_2, Int32.not_lt.mp c_7⟩ | exact cw_q0 (fun h => absurd c_2 (Int32.not_lt.mpr h.1)) | exact cw_q0 (fun h => absurd c_7 (Int32.not_lt.mpr h.2))
    · refine g_iconst (v := 1) C (by decide) dX7_in_10 ?_
      refine g_goto (tgt := 15) C (by decide) dX7_in_11 ?_
      refine g_zret C F (rfl) dX7_in_15 ?_
      refine ⟨?_, rfl⟩
      first | exact cw_q1 ⟨Int32.not_lt.mp c_2, Int32.not_lt.mp c_7⟩ | exact cw_q0 (fun h => absurd c_2 (Int32.not_lt.mpr h.1)) | exact cw_q0 (fun h => absurd c_7 (Int32.not_lt.mpr h.2))

set_option maxHeartbeats 8000000 in
set_option maxRecDepth 100000 in
theorem ok_X7_holds (p : Int32) : gw_Ok yX7_holds cX7_holds 2 (some .boolean) sM 1 [.ref 0, .int p] (fun _ => True) (fun w vr w1 => vr = some (.int (cw_b (p = 0))) ∧ w1 = gw_set w 0 0 p) := by
  refine gw_of (by decide) (Nat.le_of_ble_eq_true rfl) ?_
  intro X w h C F
  refine g_aload_n C rfl dX7_holds_0 ?_
  refine g_iload_n C rfl dX7_holds_1 ?_
  refine g_putf C fl_X7_32 fp_5_0 rfl rfl (rfl) (rfl) dX7_holds_2 ?_
  refine g_iload_n C rfl dX7_holds_5 ?_
  refine g_if_ne (tgt := 13) C (by decide) dX7_holds_6 (fun c_6 => ?_) (fun c_6 => ?_)
  · refine g_iconst (v := 0) C (by decide) dX7_holds_13 ?_
    refine g_zret C F (rfl) dX7_holds_14 ?_
    refine ⟨?_, rfl⟩
    first | exact cw_q1 c_6 | exact cw_q0 c_6
  · refine g_iconst (v := 1) C (by decide) dX7_holds_9 ?_
    refine g_goto (tgt := 14) C (by decide) dX7_holds_10 ?_
    refine g_zret C F (rfl) dX7_holds_14 ?_
    refine ⟨?_, rfl⟩
    first | exact cw_q1 c_6 | exact cw_q0 c_6

set_option maxHeartbeats 8000000 in
set_option maxRecDepth 100000 in
theorem ok_X7_of (o b : Int32) (j i : Nat) (ho : o = nI j) (hi : b = nI i) : gw_Ok yX7_of cX7_of 2 (some .int) sM 1 [.int o, .int b] (fun _ => True) (fun w vr w1 => vr = some (.int (nI (1 + 4 * j + i))) ∧ w1 = w) := by
  refine gw_of (by decide) (Nat.le_of_ble_eq_true rfl) ?_
  intro X w h C F
  subst ho; subst hi
  refine g_iconst (v := 1) C (by decide) dX7_of_0 ?_
  refine g_iconst (v := 4) C (by decide) dX7_of_1 ?_
  refine g_iload_n C rfl dX7_of_2 ?_
  refine g_imul C dX7_of_3 ?_
  refine g_iadd C dX7_of_4 ?_
  refine g_iload_n C rfl dX7_of_5 ?_
  refine g_iadd C dX7_of_6 ?_
  refine g_iret C F dX7_of_7 ?_
  exact ⟨by simp only [← nI_add, ← pk_mul]; rfl, rfl⟩

set_option maxHeartbeats 8000000 in
set_option maxRecDepth 100000 in
theorem ok_X7_ofWeek (o b : Int32) (j i : Nat) (ho : o = nI j) (hi : b = nI i) : gw_Ok yX7_ofWeek cX7_ofWeek 2 (some .int) sM 1 [.int o, .int b] (fun _ => True) (fun w vr w1 => vr = some (.int (nI (25 + 3 * j + i))) ∧ w1 = w) := by
  refine gw_of (by decide) (Nat.le_of_ble_eq_true rfl) ?_
  intro X w h C F
  subst ho; subst hi
  refine g_bipush (v := 25) C (by decide) dX7_ofWeek_0 ?_
  refine g_iconst (v := 3) C (by decide) dX7_ofWeek_2 ?_
  refine g_iload_n C rfl dX7_ofWeek_3 ?_
  refine g_imul C dX7_ofWeek_4 ?_
  refine g_iadd C dX7_ofWeek_5 ?_
  refine g_iload_n C rfl dX7_ofWeek_6 ?_
  refine g_iadd C dX7_ofWeek_7 ?_
  refine g_iret C F dX7_ofWeek_8 ?_
  exact ⟨by simp only [← nI_add, ← pk_mul]; rfl, rfl⟩

set_option maxHeartbeats 8000000 in
set_option maxRecDepth 100000 in
theorem ok_X7_ofOffer (o b : Int32) (j i : Nat) (ho : o = nI j) (hi : b = nI i) : gw_Ok yX7_ofOffer cX7_ofOffer 2 (some .int) sM 1 [.int o, .int b] (fun _ => True) (fun w vr w1 => vr = some (.int (nI (206 + 3 * j + i))) ∧ w1 = w) := by
  refine gw_of (by decide) (Nat.le_of_ble_eq_true rfl) ?_
  intro X w h C F
  subst ho; subst hi
  refine g_sipush (v := 206) C (by decide) dX7_ofOffer_0 ?_
  refine g_iconst (v := 3) C (by decide) dX7_ofOffer_3 ?_
  refine g_iload_n C rfl dX7_ofOffer_4 ?_
  refine g_imul C dX7_ofOffer_5 ?_
  refine g_iadd C dX7_ofOffer_6 ?_
  refine g_iload_n C rfl dX7_ofOffer_7 ?_
  refine g_iadd C dX7_ofOffer_8 ?_
  refine g_iret C F dX7_ofOffer_9 ?_
  exact ⟨by simp only [← nI_add, ← pk_mul]; rfl, rfl⟩

set_option maxHeartbeats 8000000 in
set_option maxRecDepth 100000 in
theorem ok_X7_ofBid (o b : Int32) (j i : Nat) (ho : o = nI j) (hi : b = nI i) : gw_Ok yX7_ofBid cX7_ofBid 2 (some .int) sM 1 [.int o, .int b] (fun _ => True) (fun w vr w1 => vr = some (.int (nI (85 + 20 * j + i))) ∧ w1 = w) := by
  refine gw_of (by decide) (Nat.le_of_ble_eq_true rfl) ?_
  intro X w h C F
  subst ho; subst hi
  refine g_bipush (v := 85) C (by decide) dX7_ofBid_0 ?_
  refine g_bipush (v := 20) C (by decide) dX7_ofBid_2 ?_
  refine g_iload_n C rfl dX7_ofBid_4 ?_
  refine g_imul C dX7_ofBid_5 ?_
  refine g_iadd C dX7_ofBid_6 ?_
  refine g_iload_n C rfl dX7_ofBid_7 ?_
  refine g_iadd C dX7_ofBid_8 ?_
  refine g_iret C F dX7_ofBid_9 ?_
  exact ⟨by simp only [← nI_add, ← pk_mul]; rfl, rfl⟩

set_option maxHeartbeats 8000000 in
set_option maxRecDepth 100000 in
theorem ok_X7_isOwner {s : cw_s} (o : Int32) : gw_Ok yX7_isOwner cX7_isOwner 2 (some .boolean) sM 2 [.ref 0, .int o] (fun w => w 1 = s) (fun w vr w1 => vr = some (.int (cw_b (cw_isO s o))) ∧ w1 = w) := by
  refine gw_of (by decide) (Nat.le_of_ble_eq_true rfl) ?_
  intro X w h C F
  have h := hr_in h
  refine g_iload_n C rfl dX7_isOwner_0 ?_
  refine g_iconst (v := 0) C (by decide) dX7_isOwner_1 ?_
  refine g_aload_n C rfl dX7_isOwner_2 ?_
  refine g_getr C fl_X7_7 rfl rfl dX7_isOwner_3 ?_
  refine g_iconst (v := 0) C (by decide) dX7_isOwner_6 ?_
  refine g_iald (j := 0) C rfl (rfl) (by decide) (by decide) dX7_isOwner_7 ?_
  refine g_top (hr_rd h) ?_
  refine g_iconst (v := 1) C (by decide) dX7_isOwner_8 ?_
  refine g_isub C dX7_isOwner_9 ?_
  refine g_callS C (ok_X7_in _ _ _) my_X7_in si_X7_40 (by decide) ⟨Nat.le_refl _, Nat.le_refl _⟩ rfl (Nat.le_of_ble_eq_true rfl) dX7_isOwner_10 rfl (trivial) (fun v_10 w_10 hp_10 => ?_)
  obtain ⟨rfl, hw_10⟩ := hp_10
  have hw_10 := hw_10.symm; subst hw_10
  refine g_zret C F (cw_bz _) dX7_isOwner_13 ?_
  exact ⟨rfl, rfl⟩

set_option maxHeartbeats 8000000 in
set_option maxRecDepth 100000 in
theorem ok_X7_isWeek (k : Int32) : gw_Ok yX7_isWeek cX7_isWeek 1 (some .boolean) sM 2 [.int k] (fun _ => True) (fun w vr w1 => vr = some (.int (cw_b (cw_isW k))) ∧ w1 = w) := by
  refine gw_of (by decide) (Nat.le_of_ble_eq_true rfl) ?_
  intro X w h C F
  refine g_iload_n C rfl dX7_isWeek_0 ?_
  refine g_iconst (v := 0) C (by decide) dX7_isWeek_1 ?_
  refine g_bipush (v := 19) C (by decide) dX7_isWeek_2 ?_
  refine g_callS C (ok_X7_in _ _ _) my_X7_in si_X7_40 (by decide) ⟨Nat.le_refl _, Nat.le_refl _⟩ rfl (Nat.le_of_ble_eq_true rfl) dX7_isWeek_4 rfl (trivial) (fun v_4 w_4 hp_4 => ?_)
  obtain ⟨rfl, hw_4⟩ := hp_4
  have hw_4 := hw_4.symm; subst hw_4
  refine g_zret C F (cw_bz _) dX7_isWeek_7 ?_
  exact ⟨rfl, rfl⟩

set_option maxHeartbeats 8000000 in
set_option maxRecDepth 100000 in
theorem ok_X7_areThere {s : cw_s} (o k : Int32) : gw_Ok yX7_areThere cX7_areThere 3 (some .boolean) sM 3 [.ref 0, .int o, .int k] (fun w => w 1 = s) (fun w vr w1 => vr = some (.int (cw_b (cw_th s o k))) ∧ w1 = w) := by
  refine gw_of (by decide) (Nat.le_of_ble_eq_true rfl) ?_
  intro X w h C F
  have h := hr_in h
  refine g_aload_n C rfl dX7_areThere_0 ?_
  refine g_iload_n C rfl dX7_areThere_1 ?_
  refine g_call C (ok_X7_isOwner _) my_X7_isOwner vi_X7_44 (by decide) ⟨Nat.le_refl _, Nat.le_refl _⟩ rfl rfl rfl (Nat.le_of_ble_eq_true rfl) dX7_areThere_2 rfl (hr_1 h) (fun v_2 w_2 hp_2 => ?_)
  obtain ⟨rfl, hw_2⟩ := hp_2
  have hw_2 := hw_2.symm; subst hw_2
  refine g_if_eq (tgt := 19) C (by decide) dX7_areThere_5 (fun c_5 => ?_) (fun c_5 => ?_)
  · refine g_iconst (v := 0) C (by decide) dX7_areThere_19 ?_
    refine g_zret C F (rfl) dX7_areThere_20 ?_
    refine ⟨?_, rfl⟩
    first | exact cw_q1 ⟨cw_bn c_5, cw_bn c_12⟩ | exact cw_q0 (fun h => cw_b0.mp c_5 h.1) | exact cw_q0 (fun h => cw_b0.mp c_12 h.2)
  · refine g_iload_n C rfl dX7_areThere_8 ?_
    refine g_callS C (ok_X7_isWeek _) my_X7_isWeek si_X7_48 (by decide) ⟨Nat.le_refl _, Nat.le_refl _⟩ rfl (Nat.le_of_ble_eq_true rfl) dX7_areThere_9 rfl (trivial) (fun v_9 w_9 hp_9 => ?_)
    obtain ⟨rfl, hw_9⟩ := hp_9
    have hw_9 := hw_9.symm; subst hw_9
    refine g_if_eq (tgt := 19) C (by decide) dX7_areThere_12 (fun c_12 => ?_) (fun c_12 => ?_)
    · refine g_iconst (v := 0) C (by decide) dX7_areThere_19 ?_
      refine g_zret C F (rfl) dX7_areThere_20 ?_
      refine ⟨?_, rfl⟩
      first | exact cw_q1 ⟨cw_bn c_5, cw_bn c_12⟩ | exact cw_q0 (fun h => cw_b0.mp c_5 h.1) | exact cw_q0 (fun h => cw_b0.mp c_12 h.2)
    · refine g_iconst (v := 1) C (by decide) dX7_areThere_15 ?_
      refine g_goto (tgt := 20) C (by decide) dX7_areThere_16 ?_
      refine g_zret C F (rfl) dX7_areThere_20 ?_
      refine ⟨?_, rfl⟩
      first | exact cw_q1 ⟨cw_bn c_5, cw_bn c_12⟩ | exact cw_q0 (fun h => cw_b0.mp c_5 h.1) | exact cw_q0 (fun h => cw_b0.mp c_12 h.2)

set_option maxHeartbeats 8000000 in
set_option maxRecDepth 100000 in
theorem ok_X7_isOffer {s : cw_s} (o : Int32) : gw_Ok yX7_isOffer cX7_isOffer 2 (some .boolean) sM 2 [.ref 0, .int o] (fun w => w 1 = s) (fun w vr w1 => vr = some (.int (cw_b (cw_isK s o))) ∧ w1 = w) := by
  refine gw_of (by decide) (Nat.le_of_ble_eq_true rfl) ?_
  intro X w h C F
  have h := hr_in h
  refine g_iload_n C rfl dX7_isOffer_0 ?_
  refine g_iconst (v := 0) C (by decide) dX7_isOffer_1 ?_
  refine g_aload_n C rfl dX7_isOffer_2 ?_
  refine g_getr C fl_X7_7 rfl rfl dX7_isOffer_3 ?_
  refine g_sipush (v := 205) C (by decide) dX7_isOffer_6 ?_
  refine g_iald (j := 205) C rfl (rfl) (by decide) (by decide) dX7_isOffer_9 ?_
  refine g_top (hr_rd h) ?_
  refine g_iconst (v := 1) C (by decide) dX7_isOffer_10 ?_
  refine g_isub C dX7_isOffer_11 ?_
  refine g_callS C (ok_X7_in _ _ _) my_X7_in si_X7_40 (by decide) ⟨Nat.le_refl _, Nat.le_refl _⟩ rfl (Nat.le_of_ble_eq_true rfl) dX7_isOffer_12 rfl (trivial) (fun v_12 w_12 hp_12 => ?_)
  obtain ⟨rfl, hw_12⟩ := hp_12
  have hw_12 := hw_12.symm; subst hw_12
  refine g_zret C F (cw_bz _) dX7_isOffer_15 ?_
  exact ⟨rfl, rfl⟩

set_option maxHeartbeats 8000000 in
set_option maxRecDepth 100000 in
theorem ok_X7_held {s : cw_s} (o : Int32) : gw_Ok yX7_held cX7_held 4 (some .int) sM 2 [.ref 0, .int o] (fun w => w 1 = s) (fun w vr w1 => vr = some (.int (cw_held s o)) ∧ w1 = w) := by
  refine gw_of (by decide) (Nat.le_of_ble_eq_true rfl) ?_
  intro X w h C F
  have h := hr_in h
  refine g_iconst (v := 0) C (by decide) dX7_held_0 ?_
  refine g_istore_n C (by decide) dX7_held_1 ?_
  refine g_iconst (v := 0) C (by decide) dX7_held_2 ?_
  refine g_istore_n C (by decide) dX7_held_3 ?_
  refine g_sub rfl (g_for (α := Int32) 20 (fun i1 x => [(0, .ref 0), (1, .int o), (2, .int x), (3, .int (nI i1))]) (fun i1 x w1 => x = cw_fold (fun k x => if s (25 + 3 * k + 2) = o then x + 1 else x) 0 i1 0 ∧ w1 = w) 0 0 _ (Nat.zero_le _) (⟨rfl, rfl⟩) (fun i1 x w1 hi1 hR1 ih1 => ?_) (fun x w1 hR1 => ?_))
  · obtain ⟨hx1, rfl⟩ := hR1
    refine g_iload_n C rfl dX7_held_4 ?_
    refine g_bipush (v := 20) C (by decide) dX7_held_5 ?_
    refine g_cmp_ge (tgt := 38) C (by decide) dX7_held_7 (fun c_7 => absurd c_7 (nI_ge hi1 (by decide))) (fun c_7 => ?_)
    refine g_iload_n C rfl dX7_held_10 ?_
    refine g_aload_n C rfl dX7_held_11 ?_
    refine g_getr C fl_X7_7 rfl rfl dX7_held_12 ?_
    refine g_iload_n C rfl dX7_held_15 ?_
    refine g_iconst (v := 2) C (by decide) dX7_held_16 ?_
    refine g_callS C (ok_X7_ofWeek (i := 2) _ _ _ (by first | rfl | assumption) rfl) my_X7_ofWeek si_X7_36 (by decide) ⟨Nat.le_refl _, Nat.le_refl _⟩ rfl (Nat.le_of_ble_eq_true rfl) dX7_held_17 rfl (trivial) (fun v_17 w_17 hp_17 => ?_)
    obtain ⟨rfl, hw_17⟩ := hp_17
    have hw_17 := hw_17.symm; subst hw_17
    refine g_iald C rfl (by first | rfl | assumption | (simp only [nI_add, pk_mul, *]; done)) (by first | assumption | omega) (by decide) dX7_held_20 ?_
    refine g_top (hr_rd h) ?_
    refine g_iload_n C rfl dX7_held_21 ?_
    refine g_cmp_ne (tgt := 29) C (by decide) dX7_held_22 (fun c_22 => ?_) (fun c_22 => ?_)
    · refine g_iconst (v := 0) C (by decide) dX7_held_29 ?_
      refine g_iadd C dX7_held_30 ?_
      refine g_istore_n C (by decide) dX7_held_31 ?_
      refine g_iinc (v := nI (i1 + 1)) C rfl (nI_1 i1) (by decide) dX7_held_32 ?_
      refine g_goto (tgt := 4) C (by decide) dX7_held_35 ?_
      exact g_sub rfl (ih1 _ _ ⟨by rw [cw_fold0, ← hx1]; all_goals simp [c_22], rfl⟩)
    · refine g_iconst (v := 1) C (by decide) dX7_held_25 ?_
      refine g_goto (tgt := 30) C (by decide) dX7_held_26 ?_
      refine g_iadd C dX7_held_30 ?_
      refine g_istore_n C (by decide) dX7_held_31 ?_
      refine g_iinc (v := nI (i1 + 1)) C rfl (nI_1 i1) (by decide) dX7_held_32 ?_
      refine g_goto (tgt := 4) C (by decide) dX7_held_35 ?_
      exact g_sub rfl (ih1 _ _ ⟨by rw [cw_fold0, ← hx1]; all_goals simp [c_22], rfl⟩)
  obtain ⟨hx1, rfl⟩ := hR1
  refine g_iload_n C rfl dX7_held_4 ?_
  refine g_bipush (v := 20) C (by decide) dX7_held_5 ?_
  refine g_cmp_ge (tgt := 38) C (by decide) dX7_held_7 (fun c_7 => ?_) (fun c_7 => absurd (by decide) c_7)
  refine g_iload_n C rfl dX7_held_38 ?_
  refine g_iret C F dX7_held_39 ?_
  exact ⟨by rw [hx1]; rfl, rfl⟩

set_option maxHeartbeats 8000000 in
set_option maxRecDepth 100000 in
theorem ok_X7_schools {s : cw_s} : gw_Ok yX7_schools cX7_schools 3 (some .int) sM 2 [.ref 0] (fun w => w 1 = s) (fun w vr w1 => vr = some (.int (cw_schools s)) ∧ w1 = w) := by
  refine gw_of (by decide) (Nat.le_of_ble_eq_true rfl) ?_
  intro X w h C F
  have h := hr_in h
  refine g_iconst (v := 0) C (by decide) dX7_schools_0 ?_
  refine g_istore_n C (by decide) dX7_schools_1 ?_
  refine g_iconst (v := 0) C (by decide) dX7_schools_2 ?_
  refine g_istore_n C (by decide) dX7_schools_3 ?_
  refine g_sub rfl (g_for (α := Int32) 20 (fun i1 x => [(0, .ref 0), (1, .int x), (2, .int (nI i1))]) (fun i1 x w1 => x = cw_fold (fun k x => x + s (25 + 3 * k + 1)) 0 i1 0 ∧ w1 = w) 0 0 _ (Nat.zero_le _) (⟨rfl, rfl⟩) (fun i1 x w1 hi1 hR1 ih1 => ?_) (fun x w1 hR1 => ?_))
  · obtain ⟨hx1, rfl⟩ := hR1
    refine g_iload_n C rfl dX7_schools_4 ?_
    refine g_bipush (v := 20) C (by decide) dX7_schools_5 ?_
    refine g_cmp_ge (tgt := 29) C (by decide) dX7_schools_7 (fun c_7 => absurd c_7 (nI_ge hi1 (by decide))) (fun c_7 => ?_)
    refine g_iload_n C rfl dX7_schools_10 ?_
    refine g_aload_n C rfl dX7_schools_11 ?_
    refine g_getr C fl_X7_7 rfl rfl dX7_schools_12 ?_
    refine g_iload_n C rfl dX7_schools_15 ?_
    refine g_iconst (v := 1) C (by decide) dX7_schools_16 ?_
    refine g_callS C (ok_X7_ofWeek (i := 1) _ _ _ (by first | rfl | assumption) rfl) my_X7_ofWeek si_X7_36 (by decide) ⟨Nat.le_refl _, Nat.le_refl _⟩ rfl (Nat.le_of_ble_eq_true rfl) dX7_schools_17 rfl (trivial) (fun v_17 w_17 hp_17 => ?_)
    obtain ⟨rfl, hw_17⟩ := hp_17
    have hw_17 := hw_17.symm; subst hw_17
    refine g_iald C rfl (by first | rfl | assumption | (simp only [nI_add, pk_mul, *]; done)) (by first | assumption | omega) (by decide) dX7_schools_20 ?_
    refine g_top (hr_rd h) ?_
    refine g_iadd C dX7_schools_21 ?_
    refine g_istore_n C (by decide) dX7_schools_22 ?_
    refine g_iinc (v := nI (i1 + 1)) C rfl (nI_1 i1) (by decide) dX7_schools_23 ?_
    refine g_goto (tgt := 4) C (by decide) dX7_schools_26 ?_
    exact g_sub rfl (ih1 _ _ ⟨by rw [cw_fold0, ← hx1]; all_goals simp [], rfl⟩)
  obtain ⟨hx1, rfl⟩ := hR1
  refine g_iload_n C rfl dX7_schools_4 ?_
  refine g_bipush (v := 20) C (by decide) dX7_schools_5 ?_
  refine g_cmp_ge (tgt := 29) C (by decide) dX7_schools_7 (fun c_7 => ?_) (fun c_7 => absurd (by decide) c_7)
  refine g_iload_n C rfl dX7_schools_29 ?_
  refine g_iret C F dX7_schools_30 ?_
  exact ⟨by rw [hx1]; rfl, rfl⟩

set_option maxHeartbeats 8000000 in
set_option maxRecDepth 100000 in
theorem ok_X7_bidsFor {s : cw_s} (b : Int32) (k : Nat) (eb : b = nI k) (hk : k < 20) (hm : cw_m s) : gw_Ok yX7_bidsFor cX7_bidsFor 4 (some .int) sM 2 [.ref 0, .int b] (fun w => w 1 = s) (fun w vr w1 => vr = some (.int (cw_bidsFor s k)) ∧ w1 = w) := by
  refine gw_of (by decide) (Nat.le_of_ble_eq_true rfl) ?_
  intro X w h C F
  have h := hr_in h
  subst eb; have h6 := hm.2
  refine g_iconst (v := 0) C (by decide) dX7_bidsFor_0 ?_
  refine g_istore_n C (by decide) dX7_bidsFor_1 ?_
  refine g_iconst (v := 0) C (by decide) dX7_bidsFor_2 ?_
  refine g_istore_n C (by decide) dX7_bidsFor_3 ?_
  refine g_sub rfl (g_for (α := Int32) (cw_no s) (fun i1 x => [(0, .ref 0), (1, .int (nI k)), (2, .int x), (3, .int (nI i1))]) (fun i1 x w1 => x = cw_fold (fun o x => if s (85 + 20 * o + k) = -1 then x else x + 1) 0 i1 0 ∧ w1 = w) 0 0 _ (Nat.zero_le _) (⟨rfl, rfl⟩) (fun i1 x w1 hi1 hR1 ih1 => ?_) (fun x w1 hR1 => ?_))
  · obtain ⟨hx1, rfl⟩ := hR1
    refine g_iload_n C rfl dX7_bidsFor_4 ?_
    refine g_aload_n C rfl dX7_bidsFor_5 ?_
    refine g_getr C fl_X7_7 rfl rfl dX7_bidsFor_6 ?_
    refine g_iconst (v := 0) C (by decide) dX7_bidsFor_9 ?_
    refine g_iald (j := 0) C rfl (rfl) (by decide) (by decide) dX7_bidsFor_10 ?_
    refine g_top (hr_rd h) ?_
    refine g_cmp_ge (tgt := 42) C (by decide) dX7_bidsFor_11 (fun c_11 => absurd c_11 (cw_liml hm hi1)) (fun c_11 => ?_)
    refine g_iload_n C rfl dX7_bidsFor_14 ?_
    refine g_aload_n C rfl dX7_bidsFor_15 ?_
    refine g_getr C fl_X7_7 rfl rfl dX7_bidsFor_16 ?_
    refine g_iload_n C rfl dX7_bidsFor_19 ?_
    refine g_iload_n C rfl dX7_bidsFor_20 ?_
    refine g_callS C (ok_X7_ofBid _ _ _ _ (by first | rfl | assumption) (by first | rfl | assumption)) my_X7_ofBid si_X7_72 (by decide) ⟨Nat.le_refl _, Nat.le_refl _⟩ rfl (Nat.le_of_ble_eq_true rfl) dX7_bidsFor_21 rfl (trivial) (fun v_21 w_21 hp_21 => ?_)
    obtain ⟨rfl, hw_21⟩ := hp_21
    have hw_21 := hw_21.symm; subst hw_21
    refine g_iald C rfl (by first | rfl | assumption | (simp only [nI_add, pk_mul, *]; done)) (by first | assumption | omega) (by decide) dX7_bidsFor_24 ?_
    refine g_top (hr_rd h) ?_
    refine g_iconst (v := (-1)) C (by decide) dX7_bidsFor_25 ?_
    refine g_cmp_ne (tgt := 33) C (by decide) dX7_bidsFor_26 (fun c_26 => ?_) (fun c_26 => ?_)
    · refine g_iconst (v := 1) C (by decide) dX7_bidsFor_33 ?_
      refine g_iadd C dX7_bidsFor_34 ?_
      refine g_istore_n C (by decide) dX7_bidsFor_35 ?_
      refine g_iinc (v := nI (i1 + 1)) C rfl (nI_1 i1) (by decide) dX7_bidsFor_36 ?_
      refine g_goto (tgt := 4) C (by decide) dX7_bidsFor_39 ?_
      exact g_sub rfl (ih1 _ _ ⟨by rw [cw_fold0, ← hx1]; all_goals simp [c_26], rfl⟩)
    · refine g_iconst (v := 0) C (by decide) dX7_bidsFor_29 ?_
      refine g_goto (tgt := 34) C (by decide) dX7_bidsFor_30 ?_
      refine g_iadd C dX7_bidsFor_34 ?_
      refine g_istore_n C (by decide) dX7_bidsFor_35 ?_
      refine g_iinc (v := nI (i1 + 1)) C rfl (nI_1 i1) (by decide) dX7_bidsFor_36 ?_
      refine g_goto (tgt := 4) C (by decide) dX7_bidsFor_39 ?_
      exact g_sub rfl (ih1 _ _ ⟨by rw [cw_fold0, ← hx1]; all_goals simp [c_26], rfl⟩)
  obtain ⟨hx1, rfl⟩ := hR1
  refine g_iload_n C rfl dX7_bidsFor_4 ?_
  refine g_aload_n C rfl dX7_bidsFor_5 ?_
  refine g_getr C fl_X7_7 rfl rfl dX7_bidsFor_6 ?_
  refine g_iconst (v := 0) C (by decide) dX7_bidsFor_9 ?_
  refine g_iald (j := 0) C rfl (rfl) (by decide) (by decide) dX7_bidsFor_10 ?_
  refine g_top (hr_rd h) ?_
  refine g_cmp_ge (tgt := 42) C (by decide) dX7_bidsFor_11 (fun c_11 => ?_) (fun c_11 => absurd (cw_lim hm) c_11)
  refine g_iload_n C rfl dX7_bidsFor_42 ?_
  refine g_iret C F dX7_bidsFor_43 ?_
  exact ⟨by rw [hx1]; rfl, rfl⟩

set_option maxHeartbeats 8000000 in
set_option maxRecDepth 100000 in
theorem ok_X7_shares {s : cw_s} (hm : cw_m s) : gw_Ok yX7_shares cX7_shares 3 (some .int) sM 2 [.ref 0] (fun w => w 1 = s) (fun w vr w1 => vr = some (.int (cw_shares s)) ∧ w1 = w) := by
  refine gw_of (by decide) (Nat.le_of_ble_eq_true rfl) ?_
  intro X w h C F
  have h := hr_in h
  have h6 := hm.2
  refine g_iconst (v := 0) C (by decide) dX7_shares_0 ?_
  refine g_istore_n C (by decide) dX7_shares_1 ?_
  refine g_iconst (v := 0) C (by decide) dX7_shares_2 ?_
  refine g_istore_n C (by decide) dX7_shares_3 ?_
  refine g_sub rfl (g_for (α := Int32) (cw_no s) (fun i1 x => [(0, .ref 0), (1, .int x), (2, .int (nI i1))]) (fun i1 x w1 => x = cw_fold (fun o x => x + s (1 + 4 * o + 0)) 0 i1 0 ∧ w1 = w) 0 0 _ (Nat.zero_le _) (⟨rfl, rfl⟩) (fun i1 x w1 hi1 hR1 ih1 => ?_) (fun x w1 hR1 => ?_))
  · obtain ⟨hx1, rfl⟩ := hR1
    refine g_iload_n C rfl dX7_shares_4 ?_
    refine g_aload_n C rfl dX7_shares_5 ?_
    refine g_getr C fl_X7_7 rfl rfl dX7_shares_6 ?_
    refine g_iconst (v := 0) C (by decide) dX7_shares_9 ?_
    refine g_iald (j := 0) C rfl (rfl) (by decide) (by decide) dX7_shares_10 ?_
    refine g_top (hr_rd h) ?_
    refine g_cmp_ge (tgt := 33) C (by decide) dX7_shares_11 (fun c_11 => absurd c_11 (cw_liml hm hi1)) (fun c_11 => ?_)
    refine g_iload_n C rfl dX7_shares_14 ?_
    refine g_aload_n C rfl dX7_shares_15 ?_
    refine g_getr C fl_X7_7 rfl rfl dX7_shares_16 ?_
    refine g_iload_n C rfl dX7_shares_19 ?_
    refine g_iconst (v := 0) C (by decide) dX7_shares_20 ?_
    refine g_callS C (ok_X7_of (i := 0) _ _ _ (by first | rfl | assumption) rfl) my_X7_of si_X7_54 (by decide) ⟨Nat.le_refl _, Nat.le_refl _⟩ rfl (Nat.le_of_ble_eq_true rfl) dX7_shares_21 rfl (trivial) (fun v_21 w_21 hp_21 => ?_)
    obtain ⟨rfl, hw_21⟩ := hp_21
    have hw_21 := hw_21.symm; subst hw_21
    refine g_iald C rfl (by first | rfl | assumption | (simp only [nI_add, pk_mul, *]; done)) (by first | assumption | omega) (by decide) dX7_shares_24 ?_
    refine g_top (hr_rd h) ?_
    refine g_iadd C dX7_shares_25 ?_
    refine g_istore_n C (by decide) dX7_shares_26 ?_
    refine g_iinc (v := nI (i1 + 1)) C rfl (nI_1 i1) (by decide) dX7_shares_27 ?_
    refine g_goto (tgt := 4) C (by decide) dX7_shares_30 ?_
    exact g_sub rfl (ih1 _ _ ⟨by rw [cw_fold0, ← hx1]; all_goals simp [], rfl⟩)
  obtain ⟨hx1, rfl⟩ := hR1
  refine g_iload_n C rfl dX7_shares_4 ?_
  refine g_aload_n C rfl dX7_shares_5 ?_
  refine g_getr C fl_X7_7 rfl rfl dX7_shares_6 ?_
  refine g_iconst (v := 0) C (by decide) dX7_shares_9 ?_
  refine g_iald (j := 0) C rfl (rfl) (by decide) (by decide) dX7_shares_10 ?_
  refine g_top (hr_rd h) ?_
  refine g_cmp_ge (tgt := 33) C (by decide) dX7_shares_11 (fun c_11 => ?_) (fun c_11 => absurd (cw_lim hm) c_11)
  refine g_iload_n C rfl dX7_shares_33 ?_
  refine g_iret C F dX7_shares_34 ?_
  exact ⟨by rw [hx1]; rfl, rfl⟩

set_option maxHeartbeats 8000000 in
set_option maxRecDepth 100000 in
theorem ok_X7_gives {s : cw_s} (o : Int32) (j : Nat) (eo : o = nI j) (hj : j < 6) : gw_Ok yX7_gives cX7_gives 3 none sM 2 [.ref 0, .int o] (fun w => w 1 = s) (fun w vr w1 => vr = none ∧ w1 = cw_S w (cw_gives s j)) := by
  refine gw_of (by decide) (Nat.le_of_ble_eq_true rfl) ?_
  intro X w h C F
  have h := hr_in h
  subst eo
  refine g_aload_n C rfl dX7_gives_0 ?_
  refine g_getr C fl_X7_7 rfl rfl dX7_gives_1 ?_
  refine g_sipush (v := 231) C (by decide) dX7_gives_4 ?_
  refine g_iald (j := 231) C rfl (rfl) (by decide) (by decide) dX7_gives_7 ?_
  refine g_top (hr_rd h) ?_
  refine g_aload_n C rfl dX7_gives_8 ?_
  refine g_getr C fl_X7_7 rfl rfl dX7_gives_9 ?_
  refine g_iload_n C rfl dX7_gives_12 ?_
  refine g_iconst (v := 0) C (by decide) dX7_gives_13 ?_
  refine g_callS C (ok_X7_of (i := 0) _ _ _ (by first | rfl | assumption) rfl) my_X7_of si_X7_54 (by decide) ⟨Nat.le_refl _, Nat.le_refl _⟩ rfl (Nat.le_of_ble_eq_true rfl) dX7_gives_14 rfl (trivial) (fun v_14 w_14 hp_14 => ?_)
  obtain ⟨rfl, hw_14⟩ := hp_14
  have hw_14 := hw_14.symm; subst hw_14
  refine g_iald C rfl (by first | rfl | assumption | (simp only [nI_add, pk_mul, *]; done)) (by first | assumption | omega) (by decide) dX7_gives_17 ?_
  refine g_top (hr_rd h) ?_
  refine g_imul C dX7_gives_18 ?_
  refine g_istore_n C (by decide) dX7_gives_19 ?_
  refine g_aload_n C rfl dX7_gives_20 ?_
  refine g_getr C fl_X7_7 rfl rfl dX7_gives_21 ?_
  refine g_iload_n C rfl dX7_gives_24 ?_
  refine g_iconst (v := 1) C (by decide) dX7_gives_25 ?_
  refine g_callS C (ok_X7_of (i := 1) _ _ _ (by first | rfl | assumption) rfl) my_X7_of si_X7_54 (by decide) ⟨Nat.le_refl _, Nat.le_refl _⟩ rfl (Nat.le_of_ble_eq_true rfl) dX7_gives_26 rfl (trivial) (fun v_26 w_26 hp_26 => ?_)
  obtain ⟨rfl, hw_26⟩ := hp_26
  have hw_26 := hw_26.symm; subst hw_26
  refine g_dup2 C rfl rfl dX7_gives_29 ?_
  refine g_iald C rfl (by first | rfl | assumption | (simp only [nI_add, pk_mul, *]; done)) (by first | assumption | omega) (by decide) dX7_gives_30 ?_
  refine g_top (hr_rd h) ?_
  refine g_iload_n C rfl dX7_gives_31 ?_
  refine g_iadd C dX7_gives_32 ?_
  refine g_iast C rfl (by first | rfl | assumption | (simp only [nI_add, pk_mul, *]; done)) (by first | assumption | omega) (by decide) dX7_gives_33 ?_
  refine g_genR (hr_set h) (fun w1 h1 => ?_)
  refine g_aload_n C rfl dX7_gives_34 ?_
  refine g_getr C fl_X7_7 rfl rfl dX7_gives_35 ?_
  refine g_sipush (v := 234) C (by decide) dX7_gives_38 ?_
  refine g_dup2 C rfl rfl dX7_gives_41 ?_
  refine g_iald (j := 234) C rfl (rfl) (by decide) (by decide) dX7_gives_42 ?_
  refine g_top (hr_rd h1) ?_
  refine g_iload_n C rfl dX7_gives_43 ?_
  refine g_iadd C dX7_gives_44 ?_
  refine g_iast (j := 234) C rfl (rfl) (by decide) (by decide) dX7_gives_45 ?_
  refine g_genR (hr_set h1) (fun w2 h2 => ?_)
  refine g_vret C F dX7_gives_46 ?_
  exact ⟨rfl, h2⟩

set_option maxHeartbeats 8000000 in
set_option maxRecDepth 100000 in
theorem ok_X7_spends {s : cw_s} (o p : Int32) (j : Nat) (eo : o = nI j) (hj : j < 6) : gw_Ok yX7_spends cX7_spends 3 none sM 2 [.ref 0, .int o, .int p] (fun w => w 1 = s) (fun w vr w1 => vr = none ∧ w1 = cw_S w (cw_spends s j p)) := by
  refine gw_of (by decide) (Nat.le_of_ble_eq_true rfl) ?_
  intro X w h C F
  have h := hr_in h
  subst eo
  refine g_aload_n C rfl dX7_spends_0 ?_
  refine g_getr C fl_X7_7 rfl rfl dX7_spends_1 ?_
  refine g_iload_n C rfl dX7_spends_4 ?_
  refine g_iconst (v := 1) C (by decide) dX7_spends_5 ?_
  refine g_callS C (ok_X7_of (i := 1) _ _ _ (by first | rfl | assumption) rfl) my_X7_of si_X7_54 (by decide) ⟨Nat.le_refl _, Nat.le_refl _⟩ rfl (Nat.le_of_ble_eq_true rfl) dX7_spends_6 rfl (trivial) (fun v_6 w_6 hp_6 => ?_)
  obtain ⟨rfl, hw_6⟩ := hp_6
  have hw_6 := hw_6.symm; subst hw_6
  refine g_dup2 C rfl rfl dX7_spends_9 ?_
  refine g_iald C rfl (by first | rfl | assumption | (simp only [nI_add, pk_mul, *]; done)) (by first | assumption | omega) (by decide) dX7_spends_10 ?_
  refine g_top (hr_rd h) ?_
  refine g_iload_n C rfl dX7_spends_11 ?_
  refine g_isub C dX7_spends_12 ?_
  refine g_iast C rfl (by first | rfl | assumption | (simp only [nI_add, pk_mul, *]; done)) (by first | assumption | omega) (by decide) dX7_spends_13 ?_
  refine g_genR (hr_set h) (fun w1 h1 => ?_)
  refine g_aload_n C rfl dX7_spends_14 ?_
  refine g_getr C fl_X7_7 rfl rfl dX7_spends_15 ?_
  refine g_sipush (v := 235) C (by decide) dX7_spends_18 ?_
  refine g_dup2 C rfl rfl dX7_spends_21 ?_
  refine g_iald (j := 235) C rfl (rfl) (by decide) (by decide) dX7_spends_22 ?_
  refine g_top (hr_rd h1) ?_
  refine g_iload_n C rfl dX7_spends_23 ?_
  refine g_iadd C dX7_spends_24 ?_
  refine g_iast (j := 235) C rfl (rfl) (by decide) (by decide) dX7_spends_25 ?_
  refine g_genR (hr_set h1) (fun w2 h2 => ?_)
  refine g_vret C F dX7_spends_26 ?_
  exact ⟨rfl, h2⟩

set_option maxHeartbeats 8000000 in
set_option maxRecDepth 100000 in
theorem ok_X7_hindrance {s : cw_s} (o b : Int32) (j k : Nat) (eo : o = nI j) (eb : b = nI k) (hj : j < 6) (hk : k < 20) : gw_Ok yX7_hindrance cX7_hindrance 3 (some .int) sM 3 [.ref 0, .int o, .int b] (fun w => w 1 = s) (fun w vr w1 => vr = some (.int (cw_hind s j k)) ∧ w1 = w) := by
  refine gw_of (by decide) (Nat.le_of_ble_eq_true rfl) ?_
  intro X w h C F
  have h := hr_in h
  subst eo; subst eb
  refine g_aload_n C rfl dX7_hindrance_0 ?_
  refine g_getr C fl_X7_7 rfl rfl dX7_hindrance_1 ?_
  refine g_iload_n C rfl dX7_hindrance_4 ?_
  refine g_iconst (v := 1) C (by decide) dX7_hindrance_5 ?_
  refine g_callS C (ok_X7_ofWeek (i := 1) _ _ _ (by first | rfl | assumption) rfl) my_X7_ofWeek si_X7_36 (by decide) ⟨Nat.le_refl _, Nat.le_refl _⟩ rfl (Nat.le_of_ble_eq_true rfl) dX7_hindrance_6 rfl (trivial) (fun v_6 w_6 hp_6 => ?_)
  obtain ⟨rfl, hw_6⟩ := hp_6
  have hw_6 := hw_6.symm; subst hw_6
  refine g_iald C rfl (by first | rfl | assumption | (simp only [nI_add, pk_mul, *]; done)) (by first | assumption | omega) (by decide) dX7_hindrance_9 ?_
  refine g_top (hr_rd h) ?_
  refine g_iconst (v := 1) C (by decide) dX7_hindrance_10 ?_
  refine g_cmp_eq (tgt := 28) C (by decide) dX7_hindrance_11 (fun c_11 => ?_) (fun c_11 => ?_)
  · refine g_aload_n C rfl dX7_hindrance_28 ?_
    refine g_getr C fl_X7_7 rfl rfl dX7_hindrance_29 ?_
    refine g_iload_n C rfl dX7_hindrance_32 ?_
    refine g_iconst (v := 1) C (by decide) dX7_hindrance_33 ?_
    refine g_callS C (ok_X7_ofWeek (i := 1) _ _ _ (by first | rfl | assumption) rfl) my_X7_ofWeek si_X7_36 (by decide) ⟨Nat.le_refl _, Nat.le_refl _⟩ rfl (Nat.le_of_ble_eq_true rfl) dX7_hindrance_34 rfl (trivial) (fun v_34 w_34 hp_34 => ?_)
    obtain ⟨rfl, hw_34⟩ := hp_34
    have hw_34 := hw_34.symm; subst hw_34
    refine g_iald C rfl (by first | rfl | assumption | (simp only [nI_add, pk_mul, *]; done)) (by first | assumption | omega) (by decide) dX7_hindrance_37 ?_
    refine g_top (hr_rd h) ?_
    refine g_iconst (v := 1) C (by decide) dX7_hindrance_38 ?_
    refine g_cmp_ne (tgt := 46) C (by decide) dX7_hindrance_39 (fun c_39 => ?_) (fun c_39 => ?_)
    · refine g_iconst (v := 2) C (by decide) dX7_hindrance_46 ?_
      refine g_iret C F dX7_hindrance_47 ?_
      exact ⟨by clear C F h; simp_all [cw_hind, ← Int32.not_lt], rfl⟩
    · refine g_iconst (v := 1) C (by decide) dX7_hindrance_42 ?_
      refine g_goto (tgt := 47) C (by decide) dX7_hindrance_43 ?_
      refine g_iret C F dX7_hindrance_47 ?_
      exact ⟨by clear C F h; simp_all [cw_hind, ← Int32.not_lt], rfl⟩
  · refine g_aload_n C rfl dX7_hindrance_14 ?_
    refine g_getr C fl_X7_7 rfl rfl dX7_hindrance_15 ?_
    refine g_iload_n C rfl dX7_hindrance_18 ?_
    refine g_iconst (v := 2) C (by decide) dX7_hindrance_19 ?_
    refine g_callS C (ok_X7_ofWeek (i := 2) _ _ _ (by first | rfl | assumption) rfl) my_X7_ofWeek si_X7_36 (by decide) ⟨Nat.le_refl _, Nat.le_refl _⟩ rfl (Nat.le_of_ble_eq_true rfl) dX7_hindrance_20 rfl (trivial) (fun v_20 w_20 hp_20 => ?_)
    obtain ⟨rfl, hw_20⟩ := hp_20
    have hw_20 := hw_20.symm; subst hw_20
    refine g_iald C rfl (by first | rfl | assumption | (simp only [nI_add, pk_mul, *]; done)) (by first | assumption | omega) (by decide) dX7_hindrance_23 ?_
    refine g_top (hr_rd h) ?_
    refine g_iconst (v := (-1)) C (by decide) dX7_hindrance_24 ?_
    refine g_cmp_eq (tgt := 48) C (by decide) dX7_hindrance_25 (fun c_25 => ?_) (fun c_25 => ?_)
    · refine g_aload_n C rfl dX7_hindrance_48 ?_
      refine g_iload_n C rfl dX7_hindrance_49 ?_
      refine g_call C (ok_X7_held _) my_X7_held vi_X7_57 (by decide) ⟨Nat.le_refl _, Nat.le_refl _⟩ rfl rfl rfl (Nat.le_of_ble_eq_true rfl) dX7_hindrance_50 rfl (hr_1 h) (fun v_50 w_50 hp_50 => ?_)
      obtain ⟨rfl, hw_50⟩ := hp_50
      have hw_50 := hw_50.symm; subst hw_50
      refine g_aload_n C rfl dX7_hindrance_53 ?_
      refine g_getr C fl_X7_7 rfl rfl dX7_hindrance_54 ?_
      refine g_sipush (v := 233) C (by decide) dX7_hindrance_57 ?_
      refine g_iald (j := 233) C rfl (rfl) (by decide) (by decide) dX7_hindrance_60 ?_
      refine g_top (hr_rd h) ?_
      refine g_cmp_lt (tgt := 66) C (by decide) dX7_hindrance_61 (fun c_61 => ?_) (fun c_61 => ?_)
      · refine g_aload_n C rfl dX7_hindrance_66 ?_
        refine g_getr C fl_X7_7 rfl rfl dX7_hindrance_67 ?_
        refine g_iload_n C rfl dX7_hindrance_70 ?_
        refine g_iconst (v := 1) C (by decide) dX7_hindrance_71 ?_
        refine g_callS C (ok_X7_of (i := 1) _ _ _ (by first | rfl | assumption) rfl) my_X7_of si_X7_54 (by decide) ⟨Nat.le_refl _, Nat.le_refl _⟩ rfl (Nat.le_of_ble_eq_true rfl) dX7_hindrance_72 rfl (trivial) (fun v_72 w_72 hp_72 => ?_)
        obtain ⟨rfl, hw_72⟩ := hp_72
        have hw_72 := hw_72.symm; subst hw_72
        refine g_iald C rfl (by first | rfl | assumption | (simp only [nI_add, pk_mul, *]; done)) (by first | assumption | omega) (by decide) dX7_hindrance_75 ?_
        refine g_top (hr_rd h) ?_
        refine g_aload_n C rfl dX7_hindrance_76 ?_
        refine g_getr C fl_X7_7 rfl rfl dX7_hindrance_77 ?_
        refine g_iload_n C rfl dX7_hindrance_80 ?_
        refine g_iconst (v := 0) C (by decide) dX7_hindrance_81 ?_
        refine g_callS C (ok_X7_ofWeek (i := 0) _ _ _ (by first | rfl | assumption) rfl) my_X7_ofWeek si_X7_36 (by decide) ⟨Nat.le_refl _, Nat.le_refl _⟩ rfl (Nat.le_of_ble_eq_true rfl) dX7_hindrance_82 rfl (trivial) (fun v_82 w_82 hp_82 => ?_)
        obtain ⟨rfl, hw_82⟩ := hp_82
        have hw_82 := hw_82.symm; subst hw_82
        refine g_iald C rfl (by first | rfl | assumption | (simp only [nI_add, pk_mul, *]; done)) (by first | assumption | omega) (by decide) dX7_hindrance_85 ?_
        refine g_top (hr_rd h) ?_
        refine g_cmp_ge (tgt := 93) C (by decide) dX7_hindrance_86 (fun c_86 => ?_) (fun c_86 => ?_)
        · refine g_iconst (v := 0) C (by decide) dX7_hindrance_93 ?_
          refine g_iret C F dX7_hindrance_94 ?_
          exact ⟨by clear C F h; simp_all [cw_hind, ← Int32.not_lt], rfl⟩
        · refine g_iconst (v := 4) C (by decide) dX7_hindrance_89 ?_
          refine g_goto (tgt := 94) C (by decide) dX7_hindrance_90 ?_
          refine g_iret C F dX7_hindrance_94 ?_
          exact ⟨by clear C F h; simp_all [cw_hind, ← Int32.not_lt], rfl⟩
      · refine g_iconst (v := 3) C (by decide) dX7_hindrance_64 ?_
        refine g_iret C F dX7_hindrance_65 ?_
        exact ⟨by clear C F h; simp_all [cw_hind, ← Int32.not_lt], rfl⟩
    · refine g_aload_n C rfl dX7_hindrance_28 ?_
      refine g_getr C fl_X7_7 rfl rfl dX7_hindrance_29 ?_
      refine g_iload_n C rfl dX7_hindrance_32 ?_
      refine g_iconst (v := 1) C (by decide) dX7_hindrance_33 ?_
      refine g_callS C (ok_X7_ofWeek (i := 1) _ _ _ (by first | rfl | assumption) rfl) my_X7_ofWeek si_X7_36 (by decide) ⟨Nat.le_refl _, Nat.le_refl _⟩ rfl (Nat.le_of_ble_eq_true rfl) dX7_hindrance_34 rfl (trivial) (fun v_34 w_34 hp_34 => ?_)
      obtain ⟨rfl, hw_34⟩ := hp_34
      have hw_34 := hw_34.symm; subst hw_34
      refine g_iald C rfl (by first | rfl | assumption | (simp only [nI_add, pk_mul, *]; done)) (by first | assumption | omega) (by decide) dX7_hindrance_37 ?_
      refine g_top (hr_rd h) ?_
      refine g_iconst (v := 1) C (by decide) dX7_hindrance_38 ?_
      refine g_cmp_ne (tgt := 46) C (by decide) dX7_hindrance_39 (fun c_39 => ?_) (fun c_39 => ?_)
      · refine g_iconst (v := 2) C (by decide) dX7_hindrance_46 ?_
        refine g_iret C F dX7_hindrance_47 ?_
        exact ⟨by clear C F h; simp_all [cw_hind, ← Int32.not_lt], rfl⟩
      · refine g_iconst (v := 1) C (by decide) dX7_hindrance_42 ?_
        refine g_goto (tgt := 47) C (by decide) dX7_hindrance_43 ?_
        refine g_iret C F dX7_hindrance_47 ?_
        exact ⟨by clear C F h; simp_all [cw_hind, ← Int32.not_lt], rfl⟩

set_option maxHeartbeats 8000000 in
set_option maxRecDepth 100000 in
theorem ok_X7_comes {s : cw_s} (sh : Int32) (hm : cw_m s) (h6 : cw_no s < 6) : gw_Ok yX7_comes cX7_comes 3 (some .int) sM 3 [.ref 0, .int sh] (fun w => w 1 = s) (fun w vr w1 => vr = some (.int (s 0)) ∧ w1 = cw_S w (cw_comes s (cw_no s) sh)) := by
  refine gw_of (by decide) (Nat.le_of_ble_eq_true rfl) ?_
  intro X w h C F
  have h := hr_in h
  have h0 := hm.1
  refine g_aload_n C rfl dX7_comes_0 ?_
  refine g_getr C fl_X7_7 rfl rfl dX7_comes_1 ?_
  refine g_iconst (v := 0) C (by decide) dX7_comes_4 ?_
  refine g_iald (j := 0) C rfl (rfl) (by decide) (by decide) dX7_comes_5 ?_
  refine g_top (hr_rd h) ?_
  refine g_istore_n C (by decide) dX7_comes_6 ?_
  refine g_aload_n C rfl dX7_comes_7 ?_
  refine g_getr C fl_X7_7 rfl rfl dX7_comes_8 ?_
  refine g_iconst (v := 0) C (by decide) dX7_comes_11 ?_
  refine g_dup2 C rfl rfl dX7_comes_12 ?_
  refine g_iald (j := 0) C rfl (rfl) (by decide) (by decide) dX7_comes_13 ?_
  refine g_top (hr_rd h) ?_
  refine g_iconst (v := 1) C (by decide) dX7_comes_14 ?_
  refine g_iadd C dX7_comes_15 ?_
  refine g_iast (j := 0) C rfl (rfl) (by decide) (by decide) dX7_comes_16 ?_
  refine g_genR (hr_set h) (fun w1 h1 => ?_)
  refine g_aload_n C rfl dX7_comes_17 ?_
  refine g_getr C fl_X7_7 rfl rfl dX7_comes_18 ?_
  refine g_iload_n C rfl dX7_comes_21 ?_
  refine g_iconst (v := 0) C (by decide) dX7_comes_22 ?_
  refine g_callS C (ok_X7_of (i := 0) _ _ _ (by first | rfl | assumption) rfl) my_X7_of si_X7_54 (by decide) ⟨Nat.le_refl _, Nat.le_refl _⟩ rfl (Nat.le_of_ble_eq_true rfl) dX7_comes_23 rfl (trivial) (fun v_23 w_23 hp_23 => ?_)
  obtain ⟨rfl, hw_23⟩ := hp_23
  have hw_23 := hw_23.symm; subst hw_23
  refine g_iload_n C rfl dX7_comes_26 ?_
  refine g_iast C rfl (by first | rfl | assumption | (simp only [nI_add, pk_mul, *]; done)) (by first | assumption | omega) (by decide) dX7_comes_27 ?_
  refine g_genR (hr_set h1) (fun w2 h2 => ?_)
  refine g_aload_n C rfl dX7_comes_28 ?_
  refine g_getr C fl_X7_7 rfl rfl dX7_comes_29 ?_
  refine g_iload_n C rfl dX7_comes_32 ?_
  refine g_iconst (v := 1) C (by decide) dX7_comes_33 ?_
  refine g_callS C (ok_X7_of (i := 1) _ _ _ (by first | rfl | assumption) rfl) my_X7_of si_X7_54 (by decide) ⟨Nat.le_refl _, Nat.le_refl _⟩ rfl (Nat.le_of_ble_eq_true rfl) dX7_comes_34 rfl (trivial) (fun v_34 w_34 hp_34 => ?_)
  obtain ⟨rfl, hw_34⟩ := hp_34
  have hw_34 := hw_34.symm; subst hw_34
  refine g_iconst (v := 0) C (by decide) dX7_comes_37 ?_
  refine g_iast C rfl (by first | rfl | assumption | (simp only [nI_add, pk_mul, *]; done)) (by first | assumption | omega) (by decide) dX7_comes_38 ?_
  refine g_genR (hr_set h2) (fun w3 h3 => ?_)
  refine g_aload_n C rfl dX7_comes_39 ?_
  refine g_getr C fl_X7_7 rfl rfl dX7_comes_40 ?_
  refine g_iload_n C rfl dX7_comes_43 ?_
  refine g_iconst (v := 2) C (by decide) dX7_comes_44 ?_
  refine g_callS C (ok_X7_of (i := 2) _ _ _ (by first | rfl | assumption) rfl) my_X7_of si_X7_54 (by decide) ⟨Nat.le_refl _, Nat.le_refl _⟩ rfl (Nat.le_of_ble_eq_true rfl) dX7_comes_45 rfl (trivial) (fun v_45 w_45 hp_45 => ?_)
  obtain ⟨rfl, hw_45⟩ := hp_45
  have hw_45 := hw_45.symm; subst hw_45
  refine g_iconst (v := 0) C (by decide) dX7_comes_48 ?_
  refine g_iast C rfl (by first | rfl | assumption | (simp only [nI_add, pk_mul, *]; done)) (by first | assumption | omega) (by decide) dX7_comes_49 ?_
  refine g_genR (hr_set h3) (fun w4 h4 => ?_)
  refine g_aload_n C rfl dX7_comes_50 ?_
  refine g_getr C fl_X7_7 rfl rfl dX7_comes_51 ?_
  refine g_iload_n C rfl dX7_comes_54 ?_
  refine g_iconst (v := 3) C (by decide) dX7_comes_55 ?_
  refine g_callS C (ok_X7_of (i := 3) _ _ _ (by first | rfl | assumption) rfl) my_X7_of si_X7_54 (by decide) ⟨Nat.le_refl _, Nat.le_refl _⟩ rfl (Nat.le_of_ble_eq_true rfl) dX7_comes_56 rfl (trivial) (fun v_56 w_56 hp_56 => ?_)
  obtain ⟨rfl, hw_56⟩ := hp_56
  have hw_56 := hw_56.symm; subst hw_56
  refine g_iconst (v := 0) C (by decide) dX7_comes_59 ?_
  refine g_iast C rfl (by first | rfl | assumption | (simp only [nI_add, pk_mul, *]; done)) (by first | assumption | omega) (by decide) dX7_comes_60 ?_
  refine g_genR (hr_set h4) (fun w5 h5 => ?_)
  refine g_aload_n C rfl dX7_comes_61 ?_
  refine g_iload_n C rfl dX7_comes_62 ?_
  refine g_call C (ok_X7_gives _ _ (by first | rfl | assumption) (by first | assumption | omega)) my_X7_gives vi_X7_61 (by decide) ⟨Nat.le_refl _, Nat.le_refl _⟩ rfl rfl rfl (Nat.le_of_ble_eq_true rfl) dX7_comes_63 rfl (hr_1 h5) (fun v_63 w_63 hp_63 => ?_)
  obtain ⟨rfl, h_63⟩ := hp_63
  have h_63 := hr_call h5 h_63
  refine g_iload_n C rfl dX7_comes_66 ?_
  refine g_iret C F dX7_comes_67 ?_
  exact ⟨rfl, h_63⟩

set_option maxHeartbeats 8000000 in
set_option maxRecDepth 100000 in
theorem ok_X7_becomes {s : cw_s} (a b : Int32) (j : Nat) (ea : a = nI j) (hj : j < 242) : gw_Ok yX7_becomes cX7_becomes 4 (some .int) sM 1 [.ref 0, .int a, .int b] (fun w => w 1 = s) (fun w vr w1 => vr = some (.int (s j)) ∧ w1 = cw_S w (upd s j b)) := by
  refine gw_of (by decide) (Nat.le_of_ble_eq_true rfl) ?_
  intro X w h C F
  have h := hr_in h
  subst ea
  refine g_aload_n C rfl dX7_becomes_0 ?_
  refine g_getr C fl_X7_7 rfl rfl dX7_becomes_1 ?_
  refine g_iload_n C rfl dX7_becomes_4 ?_
  refine g_iald C rfl (by first | rfl | assumption | (simp only [nI_add, pk_mul, *]; done)) (by first | assumption | omega) (by decide) dX7_becomes_5 ?_
  refine g_top (hr_rd h) ?_
  refine g_istore_n C (by decide) dX7_becomes_6 ?_
  refine g_aload_n C rfl dX7_becomes_7 ?_
  refine g_getr C fl_X7_7 rfl rfl dX7_becomes_8 ?_
  refine g_iload_n C rfl dX7_becomes_11 ?_
  refine g_iload_n C rfl dX7_becomes_12 ?_
  refine g_iast C rfl (by first | rfl | assumption | (simp only [nI_add, pk_mul, *]; done)) (by first | assumption | omega) (by decide) dX7_becomes_13 ?_
  refine g_genR (hr_set h) (fun w1 h1 => ?_)
  refine g_iload_n C rfl dX7_becomes_14 ?_
  refine g_iret C F dX7_becomes_15 ?_
  exact ⟨rfl, h1⟩

set_option maxHeartbeats 8000000 in
set_option maxRecDepth 100000 in
theorem ok_X7_takes {s : cw_s} (o b : Int32) (j k : Nat) (eo : o = nI j) (eb : b = nI k) (hj : j < 6) (hk : k < 20) : gw_Ok yX7_takes cX7_takes 4 (some .int) sM 4 [.ref 0, .int o, .int b] (fun w => w 1 = s) (fun w vr w1 => vr = some (.int (cw_hind s j k)) ∧ w1 = cw_S w (cw_takes s j k)) := by
  refine gw_of (by decide) (Nat.le_of_ble_eq_true rfl) ?_
  intro X w h C F
  have h := hr_in h
  subst eo; subst eb
  refine g_aload_n C rfl dX7_takes_0 ?_
  refine g_iload_n C rfl dX7_takes_1 ?_
  refine g_iload_n C rfl dX7_takes_2 ?_
  refine g_call C (ok_X7_hindrance _ _ _ _ (by first | rfl | assumption) (by first | rfl | assumption) (by first | assumption | omega) (by first | assumption | omega)) my_X7_hindrance vi_X7_65 (by decide) ⟨Nat.le_refl _, Nat.le_refl _⟩ rfl rfl rfl (Nat.le_of_ble_eq_true rfl) dX7_takes_3 rfl (hr_1 h) (fun v_3 w_3 hp_3 => ?_)
  obtain ⟨rfl, hw_3⟩ := hp_3
  have hw_3 := hw_3.symm; subst hw_3
  refine g_istore_n C (by decide) dX7_takes_6 ?_
  refine g_iload_n C rfl dX7_takes_7 ?_
  refine g_if_ne (tgt := 37) C (by decide) dX7_takes_8 (fun c_8 => ?_) (fun c_8 => ?_)
  · refine g_iload_n C rfl dX7_takes_37 ?_
    refine g_iret C F dX7_takes_38 ?_
    exact ⟨rfl, by unfold cw_takes; first | rw [if_pos c_8]; exact h | rw [if_neg c_8]; exact h⟩
  · refine g_aload_n C rfl dX7_takes_11 ?_
    refine g_iload_n C rfl dX7_takes_12 ?_
    refine g_aload_n C rfl dX7_takes_13 ?_
    refine g_getr C fl_X7_7 rfl rfl dX7_takes_14 ?_
    refine g_iload_n C rfl dX7_takes_17 ?_
    refine g_iconst (v := 0) C (by decide) dX7_takes_18 ?_
    refine g_callS C (ok_X7_ofWeek (i := 0) _ _ _ (by first | rfl | assumption) rfl) my_X7_ofWeek si_X7_36 (by decide) ⟨Nat.le_refl _, Nat.le_refl _⟩ rfl (Nat.le_of_ble_eq_true rfl) dX7_takes_19 rfl (trivial) (fun v_19 w_19 hp_19 => ?_)
    obtain ⟨rfl, hw_19⟩ := hp_19
    have hw_19 := hw_19.symm; subst hw_19
    refine g_iald C rfl (by first | rfl | assumption | (simp only [nI_add, pk_mul, *]; done)) (by first | assumption | omega) (by decide) dX7_takes_22 ?_
    refine g_top (hr_rd h) ?_
    refine g_call C (ok_X7_spends _ _ _ (by first | rfl | assumption) (by first | assumption | omega)) my_X7_spends vi_X7_68 (by decide) ⟨Nat.le_refl _, Nat.le_refl _⟩ rfl rfl rfl (Nat.le_of_ble_eq_true rfl) dX7_takes_23 rfl (hr_1 h) (fun v_23 w_23 hp_23 => ?_)
    obtain ⟨rfl, h_23⟩ := hp_23
    have h_23 := hr_call h h_23
    refine g_aload_n C rfl dX7_takes_26 ?_
    refine g_getr C fl_X7_7 rfl rfl dX7_takes_27 ?_
    refine g_iload_n C rfl dX7_takes_30 ?_
    refine g_iconst (v := 2) C (by decide) dX7_takes_31 ?_
    refine g_callS C (ok_X7_ofWeek (i := 2) _ _ _ (by first | rfl | assumption) rfl) my_X7_ofWeek si_X7_36 (by decide) ⟨Nat.le_refl _, Nat.le_refl _⟩ rfl (Nat.le_of_ble_eq_true rfl) dX7_takes_32 rfl (trivial) (fun v_32 w_32 hp_32 => ?_)
    obtain ⟨rfl, hw_32⟩ := hp_32
    have hw_32 := hw_32.symm; subst hw_32
    refine g_iload_n C rfl dX7_takes_35 ?_
    refine g_iast C rfl (by first | rfl | assumption | (simp only [nI_add, pk_mul, *]; done)) (by first | assumption | omega) (by decide) dX7_takes_36 ?_
    refine g_genR (hr_set h_23) (fun w1 h1 => ?_)
    refine g_iload_n C rfl dX7_takes_37 ?_
    refine g_iret C F dX7_takes_38 ?_
    exact ⟨rfl, by unfold cw_takes; first | rw [if_pos c_8]; exact h1 | rw [if_neg c_8]; exact h1⟩

set_option maxHeartbeats 8000000 in
set_option maxRecDepth 100000 in
theorem ok_X7_releases {s : cw_s} (o b : Int32) (j k : Nat) (eo : o = nI j) (eb : b = nI k) (hj : j < 6) (hk : k < 20) : gw_Ok yX7_releases cX7_releases 4 (some .int) sM 2 [.ref 0, .int o, .int b] (fun w => w 1 = s) (fun w vr w1 => vr = some (.int (s (25 + 3 * k + 0) / 2)) ∧ w1 = cw_S w (cw_releases s j k)) := by
  refine gw_of (by decide) (Nat.le_of_ble_eq_true rfl) ?_
  intro X w h C F
  have h := hr_in h
  subst eo; subst eb
  refine g_aload_n C rfl dX7_releases_0 ?_
  refine g_getr C fl_X7_7 rfl rfl dX7_releases_1 ?_
  refine g_iload_n C rfl dX7_releases_4 ?_
  refine g_iconst (v := 0) C (by decide) dX7_releases_5 ?_
  refine g_callS C (ok_X7_ofWeek (i := 0) _ _ _ (by first | rfl | assumption) rfl) my_X7_ofWeek si_X7_36 (by decide) ⟨Nat.le_refl _, Nat.le_refl _⟩ rfl (Nat.le_of_ble_eq_true rfl) dX7_releases_6 rfl (trivial) (fun v_6 w_6 hp_6 => ?_)
  obtain ⟨rfl, hw_6⟩ := hp_6
  have hw_6 := hw_6.symm; subst hw_6
  refine g_iald C rfl (by first | rfl | assumption | (simp only [nI_add, pk_mul, *]; done)) (by first | assumption | omega) (by decide) dX7_releases_9 ?_
  refine g_top (hr_rd h) ?_
  refine g_iconst (v := 2) C (by decide) dX7_releases_10 ?_
  refine g_idiv C (by decide) dX7_releases_11 ?_
  refine g_istore_n C (by decide) dX7_releases_12 ?_
  refine g_aload_n C rfl dX7_releases_13 ?_
  refine g_getr C fl_X7_7 rfl rfl dX7_releases_14 ?_
  refine g_iload_n C rfl dX7_releases_17 ?_
  refine g_iconst (v := 1) C (by decide) dX7_releases_18 ?_
  refine g_callS C (ok_X7_of (i := 1) _ _ _ (by first | rfl | assumption) rfl) my_X7_of si_X7_54 (by decide) ⟨Nat.le_refl _, Nat.le_refl _⟩ rfl (Nat.le_of_ble_eq_true rfl) dX7_releases_19 rfl (trivial) (fun v_19 w_19 hp_19 => ?_)
  obtain ⟨rfl, hw_19⟩ := hp_19
  have hw_19 := hw_19.symm; subst hw_19
  refine g_dup2 C rfl rfl dX7_releases_22 ?_
  refine g_iald C rfl (by first | rfl | assumption | (simp only [nI_add, pk_mul, *]; done)) (by first | assumption | omega) (by decide) dX7_releases_23 ?_
  refine g_top (hr_rd h) ?_
  refine g_iload_n C rfl dX7_releases_24 ?_
  refine g_iadd C dX7_releases_25 ?_
  refine g_iast C rfl (by first | rfl | assumption | (simp only [nI_add, pk_mul, *]; done)) (by first | assumption | omega) (by decide) dX7_releases_26 ?_
  refine g_genR (hr_set h) (fun w1 h1 => ?_)
  refine g_aload_n C rfl dX7_releases_27 ?_
  refine g_getr C fl_X7_7 rfl rfl dX7_releases_28 ?_
  refine g_sipush (v := 236) C (by decide) dX7_releases_31 ?_
  refine g_dup2 C rfl rfl dX7_releases_34 ?_
  refine g_iald (j := 236) C rfl (rfl) (by decide) (by decide) dX7_releases_35 ?_
  refine g_top (hr_rd h1) ?_
  refine g_iload_n C rfl dX7_releases_36 ?_
  refine g_iadd C dX7_releases_37 ?_
  refine g_iast (j := 236) C rfl (rfl) (by decide) (by decide) dX7_releases_38 ?_
  refine g_genR (hr_set h1) (fun w2 h2 => ?_)
  refine g_aload_n C rfl dX7_releases_39 ?_
  refine g_getr C fl_X7_7 rfl rfl dX7_releases_40 ?_
  refine g_iload_n C rfl dX7_releases_43 ?_
  refine g_iconst (v := 2) C (by decide) dX7_releases_44 ?_
  refine g_callS C (ok_X7_ofWeek (i := 2) _ _ _ (by first | rfl | assumption) rfl) my_X7_ofWeek si_X7_36 (by decide) ⟨Nat.le_refl _, Nat.le_refl _⟩ rfl (Nat.le_of_ble_eq_true rfl) dX7_releases_45 rfl (trivial) (fun v_45 w_45 hp_45 => ?_)
  obtain ⟨rfl, hw_45⟩ := hp_45
  have hw_45 := hw_45.symm; subst hw_45
  refine g_iconst (v := (-1)) C (by decide) dX7_releases_48 ?_
  refine g_iast C rfl (by first | rfl | assumption | (simp only [nI_add, pk_mul, *]; done)) (by first | assumption | omega) (by decide) dX7_releases_49 ?_
  refine g_genR (hr_set h2) (fun w3 h3 => ?_)
  refine g_iload_n C rfl dX7_releases_50 ?_
  refine g_iret C F dX7_releases_51 ?_
  exact ⟨rfl, h3⟩

set_option maxHeartbeats 8000000 in
set_option maxRecDepth 100000 in
theorem ok_X7_bids {s : cw_s} (o b x : Int32) (j k : Nat) (eo : o = nI j) (eb : b = nI k) (hj : j < 6) (hk : k < 20) (hm : cw_m s) : gw_Ok yX7_bids cX7_bids 4 (some .int) sM 3 [.ref 0, .int o, .int b, .int x] (fun w => w 1 = s) (fun w vr w1 => vr = some (.int (cw_bidsFor (upd s (85 + 20 * j + k) x) k)) ∧ w1 = cw_S w (upd s (85 + 20 * j + k) x)) := by
  refine gw_of (by decide) (Nat.le_of_ble_eq_true rfl) ?_
  intro X w h C F
  have h := hr_in h
  subst eo; subst eb
  have hm2 : cw_m (upd s (85 + 20 * j + k) x) := ⟨by rw [cw_upn _ _ (by omega), cw_no_eq (cw_upn _ _ (by omega))]; exact hm.1, by rw [cw_no_eq (cw_upn _ _ (by omega))]; exact hm.2⟩
  refine g_aload_n C rfl dX7_bids_0 ?_
  refine g_getr C fl_X7_7 rfl rfl dX7_bids_1 ?_
  refine g_iload_n C rfl dX7_bids_4 ?_
  refine g_iload_n C rfl dX7_bids_5 ?_
  refine g_callS C (ok_X7_ofBid _ _ _ _ (by first | rfl | assumption) (by first | rfl | assumption)) my_X7_ofBid si_X7_72 (by decide) ⟨Nat.le_refl _, Nat.le_refl _⟩ rfl (Nat.le_of_ble_eq_true rfl) dX7_bids_6 rfl (trivial) (fun v_6 w_6 hp_6 => ?_)
  obtain ⟨rfl, hw_6⟩ := hp_6
  have hw_6 := hw_6.symm; subst hw_6
  refine g_iload_n C rfl dX7_bids_9 ?_
  refine g_iast C rfl (by first | rfl | assumption | (simp only [nI_add, pk_mul, *]; done)) (by first | assumption | omega) (by decide) dX7_bids_10 ?_
  refine g_genR (hr_set h) (fun w1 h1 => ?_)
  refine g_aload_n C rfl dX7_bids_11 ?_
  refine g_iload_n C rfl dX7_bids_12 ?_
  refine g_call C (ok_X7_bidsFor _ k rfl hk hm2) my_X7_bidsFor vi_X7_75 (by decide) ⟨Nat.le_refl _, Nat.le_refl _⟩ rfl rfl rfl (Nat.le_of_ble_eq_true rfl) dX7_bids_13 rfl (hr_1 h1) (fun v_13 w_13 hp_13 => ?_)
  obtain ⟨rfl, hw_13⟩ := hp_13
  have hw_13 := hw_13.symm; subst hw_13
  refine g_iret C F dX7_bids_16 ?_
  exact ⟨rfl, h1⟩

set_option maxHeartbeats 8000000 in
set_option maxRecDepth 100000 in
theorem ok_X7_canWin {s : cw_s} (o b : Int32) (j k : Nat) (eo : o = nI j) (eb : b = nI k) (hj : j < 6) (hk : k < 20) : gw_Ok yX7_canWin cX7_canWin 4 (some .boolean) sM 3 [.ref 0, .int o, .int b] (fun w => w 1 = s) (fun w vr w1 => vr = some (.int (cw_b (cw_canWin s j k))) ∧ w1 = w) := by
  refine gw_of (by decide) (Nat.le_of_ble_eq_true rfl) ?_
  intro X w h C F
  have h := hr_in h
  subst eo; subst eb
  refine g_aload_n C rfl dX7_canWin_0 ?_
  refine g_getr C fl_X7_7 rfl rfl dX7_canWin_1 ?_
  refine g_iload_n C rfl dX7_canWin_4 ?_
  refine g_iload_n C rfl dX7_canWin_5 ?_
  refine g_callS C (ok_X7_ofBid _ _ _ _ (by first | rfl | assumption) (by first | rfl | assumption)) my_X7_ofBid si_X7_72 (by decide) ⟨Nat.le_refl _, Nat.le_refl _⟩ rfl (Nat.le_of_ble_eq_true rfl) dX7_canWin_6 rfl (trivial) (fun v_6 w_6 hp_6 => ?_)
  obtain ⟨rfl, hw_6⟩ := hp_6
  have hw_6 := hw_6.symm; subst hw_6
  refine g_iald C rfl (by first | rfl | assumption | (simp only [nI_add, pk_mul, *]; done)) (by first | assumption | omega) (by decide) dX7_canWin_9 ?_
  refine g_top (hr_rd h) ?_
  refine g_istore_n C (by decide) dX7_canWin_10 ?_
  refine g_iload_n C rfl dX7_canWin_11 ?_
  refine g_iconst (v := (-1)) C (by decide) dX7_canWin_12 ?_
  refine g_cmp_eq (tgt := 61) C (by decide) dX7_canWin_13 (fun c_13 => ?_) (fun c_13 => ?_)
  · refine g_iconst (v := 0) C (by decide) dX7_canWin_61 ?_
    refine g_zret C F (rfl) dX7_canWin_62 ?_
    refine ⟨?_, rfl⟩
    first | exact cw_q1 ⟨c_13, Int32.not_le.mp c_29, c_54⟩ | exact cw_q0 (fun q => q.1 c_13) | exact cw_q0 (fun q => absurd c_29 (Int32.not_le.mpr q.2.1)) | exact cw_q0 (fun q => q.2.2 c_54)
  · refine g_aload_n C rfl dX7_canWin_16 ?_
    refine g_iload_n C rfl dX7_canWin_17 ?_
    refine g_call C (ok_X7_held _) my_X7_held vi_X7_57 (by decide) ⟨Nat.le_refl _, Nat.le_refl _⟩ rfl rfl rfl (Nat.le_of_ble_eq_true rfl) dX7_canWin_18 rfl (hr_1 h) (fun v_18 w_18 hp_18 => ?_)
    obtain ⟨rfl, hw_18⟩ := hp_18
    have hw_18 := hw_18.symm; subst hw_18
    refine g_aload_n C rfl dX7_canWin_21 ?_
    refine g_getr C fl_X7_7 rfl rfl dX7_canWin_22 ?_
    refine g_sipush (v := 233) C (by decide) dX7_canWin_25 ?_
    refine g_iald (j := 233) C rfl (rfl) (by decide) (by decide) dX7_canWin_28 ?_
    refine g_top (hr_rd h) ?_
    refine g_cmp_ge (tgt := 61) C (by decide) dX7_canWin_29 (fun c_29 => ?_) (fun c_29 => ?_)
    · refine g_iconst (v := 0) C (by decide) dX7_canWin_61 ?_
      refine g_zret C F (rfl) dX7_canWin_62 ?_
      refine ⟨?_, rfl⟩
      first | exact cw_q1 ⟨c_13, Int32.not_le.mp c_29, c_54⟩ | exact cw_q0 (fun q => q.1 c_13) | exact cw_q0 (fun q => absurd c_29 (Int32.not_le.mpr q.2.1)) | exact cw_q0 (fun q => q.2.2 c_54)
    · refine g_aload_n C rfl dX7_canWin_32 ?_
      refine g_getr C fl_X7_7 rfl rfl dX7_canWin_33 ?_
      refine g_iload_n C rfl dX7_canWin_36 ?_
      refine g_iconst (v := 1) C (by decide) dX7_canWin_37 ?_
      refine g_callS C (ok_X7_of (i := 1) _ _ _ (by first | rfl | assumption) rfl) my_X7_of si_X7_54 (by decide) ⟨Nat.le_refl _, Nat.le_refl _⟩ rfl (Nat.le_of_ble_eq_true rfl) dX7_canWin_38 rfl (trivial) (fun v_38 w_38 hp_38 => ?_)
      obtain ⟨rfl, hw_38⟩ := hp_38
      have hw_38 := hw_38.symm; subst hw_38
      refine g_iald C rfl (by first | rfl | assumption | (simp only [nI_add, pk_mul, *]; done)) (by first | assumption | omega) (by decide) dX7_canWin_41 ?_
      refine g_top (hr_rd h) ?_
      refine g_aload_n C rfl dX7_canWin_42 ?_
      refine g_getr C fl_X7_7 rfl rfl dX7_canWin_43 ?_
      refine g_iload_n C rfl dX7_canWin_46 ?_
      refine g_iconst (v := 0) C (by decide) dX7_canWin_47 ?_
      refine g_callS C (ok_X7_ofWeek (i := 0) _ _ _ (by first | rfl | assumption) rfl) my_X7_ofWeek si_X7_36 (by decide) ⟨Nat.le_refl _, Nat.le_refl _⟩ rfl (Nat.le_of_ble_eq_true rfl) dX7_canWin_48 rfl (trivial) (fun v_48 w_48 hp_48 => ?_)
      obtain ⟨rfl, hw_48⟩ := hp_48
      have hw_48 := hw_48.symm; subst hw_48
      refine g_iald C rfl (by first | rfl | assumption | (simp only [nI_add, pk_mul, *]; done)) (by first | assumption | omega) (by decide) dX7_canWin_51 ?_
      refine g_top (hr_rd h) ?_
      refine g_iload_n C rfl dX7_canWin_52 ?_
      refine g_iadd C dX7_canWin_53 ?_
      refine g_cmp_lt (tgt := 61) C (by decide) dX7_canWin_54 (fun c_54 => ?_) (fun c_54 => ?_)
      · refine g_iconst (v := 0) C (by decide) dX7_canWin_61 ?_
        refine g_zret C F (rfl) dX7_canWin_62 ?_
        refine ⟨?_, rfl⟩
        first | exact cw_q1 ⟨c_13, Int32.not_le.mp c_29, c_54⟩ | exact cw_q0 (fun q => q.1 c_13) | exact cw_q0 (fun q => absurd c_29 (Int32.not_le.mpr q.2.1)) | exact cw_q0 (fun q => q.2.2 c_54)
      · refine g_iconst (v := 1) C (by decide) dX7_canWin_57 ?_
        refine g_goto (tgt := 62) C (by decide) dX7_canWin_58 ?_
        refine g_zret C F (rfl) dX7_canWin_62 ?_
        refine ⟨?_, rfl⟩
        first | exact cw_q1 ⟨c_13, Int32.not_le.mp c_29, c_54⟩ | exact cw_q0 (fun q => q.1 c_13) | exact cw_q0 (fun q => absurd c_29 (Int32.not_le.mpr q.2.1)) | exact cw_q0 (fun q => q.2.2 c_54)

set_option maxHeartbeats 8000000 in
set_option maxRecDepth 100000 in
theorem ok_X7_isBetter {s : cw_s} (o q b : Int32) (j i k : Nat) (eo : o = nI j) (eq : q = nI i) (eb : b = nI k) (hj : j < 6) (hi : i < 6) (hk : k < 20) : gw_Ok yX7_isBetter cX7_isBetter 5 (some .boolean) sM 3 [.ref 0, .int o, .int q, .int b] (fun w => w 1 = s) (fun w vr w1 => vr = some (.int (cw_b (cw_better s j i k))) ∧ w1 = w) := by
  refine gw_of (by decide) (Nat.le_of_ble_eq_true rfl) ?_
  intro X w h C F
  have h := hr_in h
  subst eo; subst eq; subst eb
  refine g_aload_n C rfl dX7_isBetter_0 ?_
  refine g_getr C fl_X7_7 rfl rfl dX7_isBetter_1 ?_
  refine g_iload_n C rfl dX7_isBetter_4 ?_
  refine g_iload_n C rfl dX7_isBetter_5 ?_
  refine g_callS C (ok_X7_ofBid _ _ _ _ (by first | rfl | assumption) (by first | rfl | assumption)) my_X7_ofBid si_X7_72 (by decide) ⟨Nat.le_refl _, Nat.le_refl _⟩ rfl (Nat.le_of_ble_eq_true rfl) dX7_isBetter_6 rfl (trivial) (fun v_6 w_6 hp_6 => ?_)
  obtain ⟨rfl, hw_6⟩ := hp_6
  have hw_6 := hw_6.symm; subst hw_6
  refine g_iald C rfl (by first | rfl | assumption | (simp only [nI_add, pk_mul, *]; done)) (by first | assumption | omega) (by decide) dX7_isBetter_9 ?_
  refine g_top (hr_rd h) ?_
  refine g_aload_n C rfl dX7_isBetter_10 ?_
  refine g_getr C fl_X7_7 rfl rfl dX7_isBetter_11 ?_
  refine g_iload_n C rfl dX7_isBetter_14 ?_
  refine g_iload_n C rfl dX7_isBetter_15 ?_
  refine g_callS C (ok_X7_ofBid _ _ _ _ (by first | rfl | assumption) (by first | rfl | assumption)) my_X7_ofBid si_X7_72 (by decide) ⟨Nat.le_refl _, Nat.le_refl _⟩ rfl (Nat.le_of_ble_eq_true rfl) dX7_isBetter_16 rfl (trivial) (fun v_16 w_16 hp_16 => ?_)
  obtain ⟨rfl, hw_16⟩ := hp_16
  have hw_16 := hw_16.symm; subst hw_16
  refine g_iald C rfl (by first | rfl | assumption | (simp only [nI_add, pk_mul, *]; done)) (by first | assumption | omega) (by decide) dX7_isBetter_19 ?_
  refine g_top (hr_rd h) ?_
  refine g_isub C dX7_isBetter_20 ?_
  refine g_istore C (by decide) dX7_isBetter_21 ?_
  refine g_iload C rfl dX7_isBetter_23 ?_
  refine g_if_ne (tgt := 52) C (by decide) dX7_isBetter_25 (fun c_25 => ?_) (fun c_25 => ?_)
  · refine g_iload C rfl dX7_isBetter_52 ?_
    refine g_istore C (by decide) dX7_isBetter_54 ?_
    refine g_iload C rfl dX7_isBetter_56 ?_
    refine g_if_ne (tgt := 85) C (by decide) dX7_isBetter_58 (fun c_58 => ?_) (fun c_58 => ?_)
    · refine g_iload C rfl dX7_isBetter_85 ?_
      refine g_istore C (by decide) dX7_isBetter_87 ?_
      refine g_iload C rfl dX7_isBetter_89 ?_
      refine g_if_le (tgt := 98) C (by decide) dX7_isBetter_91 (fun c_91 => ?_) (fun c_91 => ?_)
      · refine g_iconst (v := 0) C (by decide) dX7_isBetter_98 ?_
        refine g_zret C F (rfl) dX7_isBetter_99 ?_
        refine ⟨?_, rfl⟩
        clear C F h
        first | exact cw_q1 (by unfold cw_better; simp_all) | exact cw_q0 (by unfold cw_better; simp_all)
      · refine g_iconst (v := 1) C (by decide) dX7_isBetter_94 ?_
        refine g_goto (tgt := 99) C (by decide) dX7_isBetter_95 ?_
        refine g_zret C F (rfl) dX7_isBetter_99 ?_
        refine ⟨?_, rfl⟩
        clear C F h
        first | exact cw_q1 (by unfold cw_better; simp_all) | exact cw_q0 (by unfold cw_better; simp_all)
    · refine g_aload_n C rfl dX7_isBetter_61 ?_
      refine g_getr C fl_X7_7 rfl rfl dX7_isBetter_62 ?_
      refine g_iload_n C rfl dX7_isBetter_65 ?_
      refine g_iconst (v := 0) C (by decide) dX7_isBetter_66 ?_
      refine g_callS C (ok_X7_of (i := 0) _ _ _ (by first | rfl | assumption) rfl) my_X7_of si_X7_54 (by decide) ⟨Nat.le_refl _, Nat.le_refl _⟩ rfl (Nat.le_of_ble_eq_true rfl) dX7_isBetter_67 rfl (trivial) (fun v_67 w_67 hp_67 => ?_)
      obtain ⟨rfl, hw_67⟩ := hp_67
      have hw_67 := hw_67.symm; subst hw_67
      refine g_iald C rfl (by first | rfl | assumption | (simp only [nI_add, pk_mul, *]; done)) (by first | assumption | omega) (by decide) dX7_isBetter_70 ?_
      refine g_top (hr_rd h) ?_
      refine g_aload_n C rfl dX7_isBetter_71 ?_
      refine g_getr C fl_X7_7 rfl rfl dX7_isBetter_72 ?_
      refine g_iload_n C rfl dX7_isBetter_75 ?_
      refine g_iconst (v := 0) C (by decide) dX7_isBetter_76 ?_
      refine g_callS C (ok_X7_of (i := 0) _ _ _ (by first | rfl | assumption) rfl) my_X7_of si_X7_54 (by decide) ⟨Nat.le_refl _, Nat.le_refl _⟩ rfl (Nat.le_of_ble_eq_true rfl) dX7_isBetter_77 rfl (trivial) (fun v_77 w_77 hp_77 => ?_)
      obtain ⟨rfl, hw_77⟩ := hp_77
      have hw_77 := hw_77.symm; subst hw_77
      refine g_iald C rfl (by first | rfl | assumption | (simp only [nI_add, pk_mul, *]; done)) (by first | assumption | omega) (by decide) dX7_isBetter_80 ?_
      refine g_top (hr_rd h) ?_
      refine g_isub C dX7_isBetter_81 ?_
      refine g_goto (tgt := 87) C (by decide) dX7_isBetter_82 ?_
      refine g_istore C (by decide) dX7_isBetter_87 ?_
      refine g_iload C rfl dX7_isBetter_89 ?_
      refine g_if_le (tgt := 98) C (by decide) dX7_isBetter_91 (fun c_91 => ?_) (fun c_91 => ?_)
      · refine g_iconst (v := 0) C (by decide) dX7_isBetter_98 ?_
        refine g_zret C F (rfl) dX7_isBetter_99 ?_
        refine ⟨?_, rfl⟩
        clear C F h
        first | exact cw_q1 (by unfold cw_better; simp_all) | exact cw_q0 (by unfold cw_better; simp_all)
      · refine g_iconst (v := 1) C (by decide) dX7_isBetter_94 ?_
        refine g_goto (tgt := 99) C (by decide) dX7_isBetter_95 ?_
        refine g_zret C F (rfl) dX7_isBetter_99 ?_
        refine ⟨?_, rfl⟩
        clear C F h
        first | exact cw_q1 (by unfold cw_better; simp_all) | exact cw_q0 (by unfold cw_better; simp_all)
  · refine g_aload_n C rfl dX7_isBetter_28 ?_
    refine g_getr C fl_X7_7 rfl rfl dX7_isBetter_29 ?_
    refine g_iload_n C rfl dX7_isBetter_32 ?_
    refine g_iconst (v := 2) C (by decide) dX7_isBetter_33 ?_
    refine g_callS C (ok_X7_of (i := 2) _ _ _ (by first | rfl | assumption) rfl) my_X7_of si_X7_54 (by decide) ⟨Nat.le_refl _, Nat.le_refl _⟩ rfl (Nat.le_of_ble_eq_true rfl) dX7_isBetter_34 rfl (trivial) (fun v_34 w_34 hp_34 => ?_)
    obtain ⟨rfl, hw_34⟩ := hp_34
    have hw_34 := hw_34.symm; subst hw_34
    refine g_iald C rfl (by first | rfl | assumption | (simp only [nI_add, pk_mul, *]; done)) (by first | assumption | omega) (by decide) dX7_isBetter_37 ?_
    refine g_top (hr_rd h) ?_
    refine g_aload_n C rfl dX7_isBetter_38 ?_
    refine g_getr C fl_X7_7 rfl rfl dX7_isBetter_39 ?_
    refine g_iload_n C rfl dX7_isBetter_42 ?_
    refine g_iconst (v := 2) C (by decide) dX7_isBetter_43 ?_
    refine g_callS C (ok_X7_of (i := 2) _ _ _ (by first | rfl | assumption) rfl) my_X7_of si_X7_54 (by decide) ⟨Nat.le_refl _, Nat.le_refl _⟩ rfl (Nat.le_of_ble_eq_true rfl) dX7_isBetter_44 rfl (trivial) (fun v_44 w_44 hp_44 => ?_)
    obtain ⟨rfl, hw_44⟩ := hp_44
    have hw_44 := hw_44.symm; subst hw_44
    refine g_iald C rfl (by first | rfl | assumption | (simp only [nI_add, pk_mul, *]; done)) (by first | assumption | omega) (by decide) dX7_isBetter_47 ?_
    refine g_top (hr_rd h) ?_
    refine g_isub C dX7_isBetter_48 ?_
    refine g_goto (tgt := 54) C (by decide) dX7_isBetter_49 ?_
    refine g_istore C (by decide) dX7_isBetter_54 ?_
    refine g_iload C rfl dX7_isBetter_56 ?_
    refine g_if_ne (tgt := 85) C (by decide) dX7_isBetter_58 (fun c_58 => ?_) (fun c_58 => ?_)
    · refine g_iload C rfl dX7_isBetter_85 ?_
      refine g_istore C (by decide) dX7_isBetter_87 ?_
      refine g_iload C rfl dX7_isBetter_89 ?_
      refine g_if_le (tgt := 98) C (by decide) dX7_isBetter_91 (fun c_91 => ?_) (fun c_91 => ?_)
      · refine g_iconst (v := 0) C (by decide) dX7_isBetter_98 ?_
        refine g_zret C F (rfl) dX7_isBetter_99 ?_
        refine ⟨?_, rfl⟩
        clear C F h
        first | exact cw_q1 (by unfold cw_better; simp_all) | exact cw_q0 (by unfold cw_better; simp_all)
      · refine g_iconst (v := 1) C (by decide) dX7_isBetter_94 ?_
        refine g_goto (tgt := 99) C (by decide) dX7_isBetter_95 ?_
        refine g_zret C F (rfl) dX7_isBetter_99 ?_
        refine ⟨?_, rfl⟩
        clear C F h
        first | exact cw_q1 (by unfold cw_better; simp_all) | exact cw_q0 (by unfold cw_better; simp_all)
    · refine g_aload_n C rfl dX7_isBetter_61 ?_
      refine g_getr C fl_X7_7 rfl rfl dX7_isBetter_62 ?_
      refine g_iload_n C rfl dX7_isBetter_65 ?_
      refine g_iconst (v := 0) C (by decide) dX7_isBetter_66 ?_
      refine g_callS C (ok_X7_of (i := 0) _ _ _ (by first | rfl | assumption) rfl) my_X7_of si_X7_54 (by decide) ⟨Nat.le_refl _, Nat.le_refl _⟩ rfl (Nat.le_of_ble_eq_true rfl) dX7_isBetter_67 rfl (trivial) (fun v_67 w_67 hp_67 => ?_)
      obtain ⟨rfl, hw_67⟩ := hp_67
      have hw_67 := hw_67.symm; subst hw_67
      refine g_iald C rfl (by first | rfl | assumption | (simp only [nI_add, pk_mul, *]; done)) (by first | assumption | omega) (by decide) dX7_isBetter_70 ?_
      refine g_top (hr_rd h) ?_
      refine g_aload_n C rfl dX7_isBetter_71 ?_
      refine g_getr C fl_X7_7 rfl rfl dX7_isBetter_72 ?_
      refine g_iload_n C rfl dX7_isBetter_75 ?_
      refine g_iconst (v := 0) C (by decide) dX7_isBetter_76 ?_
      refine g_callS C (ok_X7_of (i := 0) _ _ _ (by first | rfl | assumption) rfl) my_X7_of si_X7_54 (by decide) ⟨Nat.le_refl _, Nat.le_refl _⟩ rfl (Nat.le_of_ble_eq_true rfl) dX7_isBetter_77 rfl (trivial) (fun v_77 w_77 hp_77 => ?_)
      obtain ⟨rfl, hw_77⟩ := hp_77
      have hw_77 := hw_77.symm; subst hw_77
      refine g_iald C rfl (by first | rfl | assumption | (simp only [nI_add, pk_mul, *]; done)) (by first | assumption | omega) (by decide) dX7_isBetter_80 ?_
      refine g_top (hr_rd h) ?_
      refine g_isub C dX7_isBetter_81 ?_
      refine g_goto (tgt := 87) C (by decide) dX7_isBetter_82 ?_
      refine g_istore C (by decide) dX7_isBetter_87 ?_
      refine g_iload C rfl dX7_isBetter_89 ?_
      refine g_if_le (tgt := 98) C (by decide) dX7_isBetter_91 (fun c_91 => ?_) (fun c_91 => ?_)
      · refine g_iconst (v := 0) C (by decide) dX7_isBetter_98 ?_
        refine g_zret C F (rfl) dX7_isBetter_99 ?_
        refine ⟨?_, rfl⟩
        clear C F h
        first | exact cw_q1 (by unfold cw_better; simp_all) | exact cw_q0 (by unfold cw_better; simp_all)
      · refine g_iconst (v := 1) C (by decide) dX7_isBetter_94 ?_
        refine g_goto (tgt := 99) C (by decide) dX7_isBetter_95 ?_
        refine g_zret C F (rfl) dX7_isBetter_99 ?_
        refine ⟨?_, rfl⟩
        clear C F h
        first | exact cw_q1 (by unfold cw_better; simp_all) | exact cw_q0 (by unfold cw_better; simp_all)

set_option maxHeartbeats 8000000 in
set_option maxRecDepth 100000 in
theorem ok_X7_errorOfOwner {s : cw_s} (a : Int32) : gw_Ok yX7_errorOfOwner cX7_errorOfOwner 2 (some .int) sM 2 [.ref 0, .int a] (fun w => w 1 = s) (fun w vr w1 => vr = some (.int (cw_if (1 ≤ a ∧ a ≤ 9) (if s 0 = 6 then 2 else 0) 1)) ∧ w1 = w) := by
  refine gw_of (by decide) (Nat.le_of_ble_eq_true rfl) ?_
  intro X w h C F
  have h := hr_in h
  refine g_iload_n C rfl dX7_errorOfOwner_0 ?_
  refine g_iconst (v := 1) C (by decide) dX7_errorOfOwner_1 ?_
  refine g_bipush (v := 9) C (by decide) dX7_errorOfOwner_2 ?_
  refine g_callS C (ok_X7_in _ _ _) my_X7_in si_X7_40 (by decide) ⟨Nat.le_refl _, Nat.le_refl _⟩ rfl (Nat.le_of_ble_eq_true rfl) dX7_errorOfOwner_4 rfl (trivial) (fun v_4 w_4 hp_4 => ?_)
  obtain ⟨rfl, hw_4⟩ := hp_4
  have hw_4 := hw_4.symm; subst hw_4
  refine g_if_ne (tgt := 14) C (by decide) dX7_errorOfOwner_7 (fun c_7 => ?_) (fun c_7 => ?_)
  · refine g_aload_n C rfl dX7_errorOfOwner_14 ?_
    refine g_getr C fl_X7_7 rfl rfl dX7_errorOfOwner_15 ?_
    refine g_iconst (v := 0) C (by decide) dX7_errorOfOwner_18 ?_
    refine g_iald (j := 0) C rfl (rfl) (by decide) (by decide) dX7_errorOfOwner_19 ?_
    refine g_top (hr_rd h) ?_
    refine g_bipush (v := 6) C (by decide) dX7_errorOfOwner_20 ?_
    refine g_cmp_ne (tgt := 29) C (by decide) dX7_errorOfOwner_22 (fun c_22 => ?_) (fun c_22 => ?_)
    · refine g_iconst (v := 0) C (by decide) dX7_errorOfOwner_29 ?_
      refine g_iret C F dX7_errorOfOwner_30 ?_
      refine ⟨?_, rfl⟩
      first | rw [cw_ie (cw_b0.mp c_7)] | rw [cw_it (cw_bn c_7), if_pos c_22] | rw [cw_it (cw_bn c_7), if_neg c_22]
    · refine g_iconst (v := 2) C (by decide) dX7_errorOfOwner_25 ?_
      refine g_goto (tgt := 30) C (by decide) dX7_errorOfOwner_26 ?_
      refine g_iret C F dX7_errorOfOwner_30 ?_
      refine ⟨?_, rfl⟩
      first | rw [cw_ie (cw_b0.mp c_7)] | rw [cw_it (cw_bn c_7), if_pos c_22] | rw [cw_it (cw_bn c_7), if_neg c_22]
  · refine g_iconst (v := 1) C (by decide) dX7_errorOfOwner_10 ?_
    refine g_goto (tgt := 30) C (by decide) dX7_errorOfOwner_11 ?_
    refine g_iret C F dX7_errorOfOwner_30 ?_
    refine ⟨?_, rfl⟩
    first | rw [cw_ie (cw_b0.mp c_7)] | rw [cw_it (cw_bn c_7), if_pos c_22] | rw [cw_it (cw_bn c_7), if_neg c_22]

set_option maxHeartbeats 8000000 in
set_option maxRecDepth 100000 in
theorem ok_X7_errorOfCost {s : cw_s} (k a : Int32) : gw_Ok yX7_errorOfCost cX7_errorOfCost 3 (some .int) sM 3 [.ref 0, .int k, .int a] (fun w => w 1 = s) (fun w vr w1 => vr = some (.int (cw_if (cw_isW k) (cw_if (1 ≤ a ∧ a ≤ 9) 0 2) 1)) ∧ w1 = w) := by
  refine gw_of (by decide) (Nat.le_of_ble_eq_true rfl) ?_
  intro X w h C F
  have h := hr_in h
  refine g_iload_n C rfl dX7_errorOfCost_0 ?_
  refine g_callS C (ok_X7_isWeek _) my_X7_isWeek si_X7_48 (by decide) ⟨Nat.le_refl _, Nat.le_refl _⟩ rfl (Nat.le_of_ble_eq_true rfl) dX7_errorOfCost_1 rfl (trivial) (fun v_1 w_1 hp_1 => ?_)
  obtain ⟨rfl, hw_1⟩ := hp_1
  have hw_1 := hw_1.symm; subst hw_1
  refine g_if_ne (tgt := 11) C (by decide) dX7_errorOfCost_4 (fun c_4 => ?_) (fun c_4 => ?_)
  · refine g_iload_n C rfl dX7_errorOfCost_11 ?_
    refine g_iconst (v := 1) C (by decide) dX7_errorOfCost_12 ?_
    refine g_bipush (v := 9) C (by decide) dX7_errorOfCost_13 ?_
    refine g_callS C (ok_X7_in _ _ _) my_X7_in si_X7_40 (by decide) ⟨Nat.le_refl _, Nat.le_refl _⟩ rfl (Nat.le_of_ble_eq_true rfl) dX7_errorOfCost_15 rfl (trivial) (fun v_15 w_15 hp_15 => ?_)
    obtain ⟨rfl, hw_15⟩ := hp_15
    have hw_15 := hw_15.symm; subst hw_15
    refine g_if_eq (tgt := 25) C (by decide) dX7_errorOfCost_18 (fun c_18 => ?_) (fun c_18 => ?_)
    · refine g_iconst (v := 2) C (by decide) dX7_errorOfCost_25 ?_
      refine g_iret C F dX7_errorOfCost_26 ?_
      refine ⟨?_, rfl⟩
      first | rw [cw_ie (cw_b0.mp c_4)] | rw [cw_it (cw_bn c_4), cw_ie (cw_b0.mp c_18)] | rw [cw_it (cw_bn c_4), cw_it (cw_bn c_18)]
    · refine g_iconst (v := 0) C (by decide) dX7_errorOfCost_21 ?_
      refine g_goto (tgt := 26) C (by decide) dX7_errorOfCost_22 ?_
      refine g_iret C F dX7_errorOfCost_26 ?_
      refine ⟨?_, rfl⟩
      first | rw [cw_ie (cw_b0.mp c_4)] | rw [cw_it (cw_bn c_4), cw_ie (cw_b0.mp c_18)] | rw [cw_it (cw_bn c_4), cw_it (cw_bn c_18)]
  · refine g_iconst (v := 1) C (by decide) dX7_errorOfCost_7 ?_
    refine g_goto (tgt := 26) C (by decide) dX7_errorOfCost_8 ?_
    refine g_iret C F dX7_errorOfCost_26 ?_
    refine ⟨?_, rfl⟩
    first | rw [cw_ie (cw_b0.mp c_4)] | rw [cw_it (cw_bn c_4), cw_ie (cw_b0.mp c_18)] | rw [cw_it (cw_bn c_4), cw_it (cw_bn c_18)]

set_option maxHeartbeats 8000000 in
set_option maxRecDepth 100000 in
theorem ok_X7_errorOfRelease {s : cw_s} (o k : Int32) : gw_Ok yX7_errorOfRelease cX7_errorOfRelease 3 (some .int) sM 4 [.ref 0, .int o, .int k] (fun w => w 1 = s) (fun w vr w1 => vr = some (.int (cw_if (cw_th s o k) (if s (25 + 3 * cw_x k + 2) = o then 0 else 2) 1)) ∧ w1 = w) := by
  refine gw_of (by decide) (Nat.le_of_ble_eq_true rfl) ?_
  intro X w h C F
  have h := hr_in h
  refine g_aload_n C rfl dX7_errorOfRelease_0 ?_
  refine g_iload_n C rfl dX7_errorOfRelease_1 ?_
  refine g_iload_n C rfl dX7_errorOfRelease_2 ?_
  refine g_call C (ok_X7_areThere _ _) my_X7_areThere vi_X7_107 (by decide) ⟨Nat.le_refl _, Nat.le_refl _⟩ rfl rfl rfl (Nat.le_of_ble_eq_true rfl) dX7_errorOfRelease_3 rfl (hr_1 h) (fun v_3 w_3 hp_3 => ?_)
  obtain ⟨rfl, hw_3⟩ := hp_3
  have hw_3 := hw_3.symm; subst hw_3
  refine g_if_ne (tgt := 13) C (by decide) dX7_errorOfRelease_6 (fun c_6 => ?_) (fun c_6 => ?_)
  · obtain ⟨k, rfl, hk⟩ := cw_isW_ix (cw_bn c_6).2
    have ek : cw_x (nI k) = k := cw_xn (by omega)
    refine g_aload_n C rfl dX7_errorOfRelease_13 ?_
    refine g_getr C fl_X7_7 rfl rfl dX7_errorOfRelease_14 ?_
    refine g_iload_n C rfl dX7_errorOfRelease_17 ?_
    refine g_iconst (v := 2) C (by decide) dX7_errorOfRelease_18 ?_
    refine g_callS C (ok_X7_ofWeek (i := 2) _ _ _ (by first | rfl | assumption) rfl) my_X7_ofWeek si_X7_36 (by decide) ⟨Nat.le_refl _, Nat.le_refl _⟩ rfl (Nat.le_of_ble_eq_true rfl) dX7_errorOfRelease_19 rfl (trivial) (fun v_19 w_19 hp_19 => ?_)
    obtain ⟨rfl, hw_19⟩ := hp_19
    have hw_19 := hw_19.symm; subst hw_19
    refine g_iald C rfl (by first | rfl | assumption | (simp only [nI_add, pk_mul, *]; done)) (by first | assumption | omega) (by decide) dX7_errorOfRelease_22 ?_
    refine g_top (hr_rd h) ?_
    refine g_iload_n C rfl dX7_errorOfRelease_23 ?_
    refine g_cmp_ne (tgt := 31) C (by decide) dX7_errorOfRelease_24 (fun c_24 => ?_) (fun c_24 => ?_)
    · refine g_iconst (v := 2) C (by decide) dX7_errorOfRelease_31 ?_
      refine g_iret C F dX7_errorOfRelease_32 ?_
      refine ⟨?_, rfl⟩
      first | rw [cw_ie (cw_b0.mp c_6)] | rw [cw_it (cw_bn c_6), ek, if_pos c_24] | rw [cw_it (cw_bn c_6), ek, if_neg c_24]
    · refine g_iconst (v := 0) C (by decide) dX7_errorOfRelease_27 ?_
      refine g_goto (tgt := 32) C (by decide) dX7_errorOfRelease_28 ?_
      refine g_iret C F dX7_errorOfRelease_32 ?_
      refine ⟨?_, rfl⟩
      first | rw [cw_ie (cw_b0.mp c_6)] | rw [cw_it (cw_bn c_6), ek, if_pos c_24] | rw [cw_it (cw_bn c_6), ek, if_neg c_24]
  · refine g_iconst (v := 1) C (by decide) dX7_errorOfRelease_9 ?_
    refine g_goto (tgt := 32) C (by decide) dX7_errorOfRelease_10 ?_
    refine g_iret C F dX7_errorOfRelease_32 ?_
    refine ⟨?_, rfl⟩
    first | rw [cw_ie (cw_b0.mp c_6)] | rw [cw_it (cw_bn c_6), ek, if_pos c_24] | rw [cw_it (cw_bn c_6), ek, if_neg c_24]

set_option maxHeartbeats 8000000 in
set_option maxRecDepth 100000 in
theorem ok_X7_errorOfBid {s : cw_s} (o k a : Int32) : gw_Ok yX7_errorOfBid cX7_errorOfBid 4 (some .int) sM 4 [.ref 0, .int o, .int k, .int a] (fun w => w 1 = s) (fun w vr w1 => vr = some (.int (cw_if (cw_th s o k) (cw_if (0 ≤ a ∧ a ≤ 20) (cw_if (cw_open s (cw_x k)) 0 3) 2) 1)) ∧ w1 = w) := by
  refine gw_of (by decide) (Nat.le_of_ble_eq_true rfl) ?_
  intro X w h C F
  have h := hr_in h
  refine g_aload_n C rfl dX7_errorOfBid_0 ?_
  refine g_iload_n C rfl dX7_errorOfBid_1 ?_
  refine g_iload_n C rfl dX7_errorOfBid_2 ?_
  refine g_call C (ok_X7_areThere _ _) my_X7_areThere vi_X7_107 (by decide) ⟨Nat.le_refl _, Nat.le_refl _⟩ rfl rfl rfl (Nat.le_of_ble_eq_true rfl) dX7_errorOfBid_3 rfl (hr_1 h) (fun v_3 w_3 hp_3 => ?_)
  obtain ⟨rfl, hw_3⟩ := hp_3
  have hw_3 := hw_3.symm; subst hw_3
  refine g_if_eq (tgt := 19) C (by decide) dX7_errorOfBid_6 (fun c_6 => ?_) (fun c_6 => ?_)
  · refine g_aload_n C rfl dX7_errorOfBid_19 ?_
    refine g_iload_n C rfl dX7_errorOfBid_20 ?_
    refine g_iload_n C rfl dX7_errorOfBid_21 ?_
    refine g_call C (ok_X7_areThere _ _) my_X7_areThere vi_X7_107 (by decide) ⟨Nat.le_refl _, Nat.le_refl _⟩ rfl rfl rfl (Nat.le_of_ble_eq_true rfl) dX7_errorOfBid_22 rfl (hr_1 h) (fun v_22 w_22 hp_22 => ?_)
    obtain ⟨rfl, hw_22⟩ := hp_22
    have hw_22 := hw_22.symm; subst hw_22
    refine g_if_eq (tgt := 32) C (by decide) dX7_errorOfBid_25 (fun c_25 => ?_) (fun c_25 => ?_)
    · refine g_iconst (v := 1) C (by decide) dX7_errorOfBid_32 ?_
      refine g_iret C F dX7_errorOfBid_33 ?_
      exact ⟨by rw [cw_ie (cw_b0.mp c_6)], rfl⟩
    · refine g_iconst (v := 2) C (by decide) dX7_errorOfBid_28 ?_
      refine g_goto (tgt := 33) C (by decide) dX7_errorOfBid_29 ?_
      refine g_iret C F dX7_errorOfBid_33 ?_
      exact absurd (cw_bn c_25) (cw_b0.mp c_6)
  · refine g_iload_n C rfl dX7_errorOfBid_9 ?_
    refine g_iconst (v := 0) C (by decide) dX7_errorOfBid_10 ?_
    refine g_bipush (v := 20) C (by decide) dX7_errorOfBid_11 ?_
    refine g_callS C (ok_X7_in _ _ _) my_X7_in si_X7_40 (by decide) ⟨Nat.le_refl _, Nat.le_refl _⟩ rfl (Nat.le_of_ble_eq_true rfl) dX7_errorOfBid_13 rfl (trivial) (fun v_13 w_13 hp_13 => ?_)
    obtain ⟨rfl, hw_13⟩ := hp_13
    have hw_13 := hw_13.symm; subst hw_13
    refine g_if_ne (tgt := 34) C (by decide) dX7_errorOfBid_16 (fun c_16 => ?_) (fun c_16 => ?_)
    · obtain ⟨k, rfl, hk⟩ := cw_isW_ix (cw_bn c_6).2
      have ek : cw_x (nI k) = k := cw_xn (by omega)
      refine g_aload_n C rfl dX7_errorOfBid_34 ?_
      refine g_getr C fl_X7_7 rfl rfl dX7_errorOfBid_35 ?_
      refine g_iload_n C rfl dX7_errorOfBid_38 ?_
      refine g_iconst (v := 1) C (by decide) dX7_errorOfBid_39 ?_
      refine g_callS C (ok_X7_ofWeek (i := 1) _ _ _ (by first | rfl | assumption) rfl) my_X7_ofWeek si_X7_36 (by decide) ⟨Nat.le_refl _, Nat.le_refl _⟩ rfl (Nat.le_of_ble_eq_true rfl) dX7_errorOfBid_40 rfl (trivial) (fun v_40 w_40 hp_40 => ?_)
      obtain ⟨rfl, hw_40⟩ := hp_40
      have hw_40 := hw_40.symm; subst hw_40
      refine g_iald C rfl (by first | rfl | assumption | (simp only [nI_add, pk_mul, *]; done)) (by first | assumption | omega) (by decide) dX7_errorOfBid_43 ?_
      refine g_top (hr_rd h) ?_
      refine g_iconst (v := 1) C (by decide) dX7_errorOfBid_44 ?_
      refine g_cmp_ne (tgt := 66) C (by decide) dX7_errorOfBid_45 (fun c_45 => ?_) (fun c_45 => ?_)
      · refine g_iconst (v := 3) C (by decide) dX7_errorOfBid_66 ?_
        refine g_iret C F dX7_errorOfBid_67 ?_
        exact ⟨by rw [cw_it (cw_bn c_6), cw_it (cw_bn c_16), ek, cw_ie (fun q => c_45 q.1)], rfl⟩
      · refine g_aload_n C rfl dX7_errorOfBid_48 ?_
        refine g_getr C fl_X7_7 rfl rfl dX7_errorOfBid_49 ?_
        refine g_iload_n C rfl dX7_errorOfBid_52 ?_
        refine g_iconst (v := 2) C (by decide) dX7_errorOfBid_53 ?_
        refine g_callS C (ok_X7_ofWeek (i := 2) _ _ _ (by first | rfl | assumption) rfl) my_X7_ofWeek si_X7_36 (by decide) ⟨Nat.le_refl _, Nat.le_refl _⟩ rfl (Nat.le_of_ble_eq_true rfl) dX7_errorOfBid_54 rfl (trivial) (fun v_54 w_54 hp_54 => ?_)
        obtain ⟨rfl, hw_54⟩ := hp_54
        have hw_54 := hw_54.symm; subst hw_54
        refine g_iald C rfl (by first | rfl | assumption | (simp only [nI_add, pk_mul, *]; done)) (by first | assumption | omega) (by decide) dX7_errorOfBid_57 ?_
        refine g_top (hr_rd h) ?_
        refine g_iconst (v := (-1)) C (by decide) dX7_errorOfBid_58 ?_
        refine g_cmp_ne (tgt := 66) C (by decide) dX7_errorOfBid_59 (fun c_59 => ?_) (fun c_59 => ?_)
        · refine g_iconst (v := 3) C (by decide) dX7_errorOfBid_66 ?_
          refine g_iret C F dX7_errorOfBid_67 ?_
          exact ⟨by rw [cw_it (cw_bn c_6), cw_it (cw_bn c_16), ek, cw_ie (fun q => c_59 q.2)], rfl⟩
        · refine g_iconst (v := 0) C (by decide) dX7_errorOfBid_62 ?_
          refine g_goto (tgt := 67) C (by decide) dX7_errorOfBid_63 ?_
          refine g_iret C F dX7_errorOfBid_67 ?_
          exact ⟨by rw [cw_it (cw_bn c_6), cw_it (cw_bn c_16), ek, cw_it (P := cw_open s k) ⟨c_45, c_59⟩], rfl⟩
    · refine g_aload_n C rfl dX7_errorOfBid_19 ?_
      refine g_iload_n C rfl dX7_errorOfBid_20 ?_
      refine g_iload_n C rfl dX7_errorOfBid_21 ?_
      refine g_call C (ok_X7_areThere _ _) my_X7_areThere vi_X7_107 (by decide) ⟨Nat.le_refl _, Nat.le_refl _⟩ rfl rfl rfl (Nat.le_of_ble_eq_true rfl) dX7_errorOfBid_22 rfl (hr_1 h) (fun v_22 w_22 hp_22 => ?_)
      obtain ⟨rfl, hw_22⟩ := hp_22
      have hw_22 := hw_22.symm; subst hw_22
      refine g_if_eq (tgt := 32) C (by decide) dX7_errorOfBid_25 (fun c_25 => ?_) (fun c_25 => ?_)
      · refine g_iconst (v := 1) C (by decide) dX7_errorOfBid_32 ?_
        refine g_iret C F dX7_errorOfBid_33 ?_
        exact absurd (cw_bn c_6) (cw_b0.mp c_25)
      · refine g_iconst (v := 2) C (by decide) dX7_errorOfBid_28 ?_
        refine g_goto (tgt := 33) C (by decide) dX7_errorOfBid_29 ?_
        refine g_iret C F dX7_errorOfBid_33 ?_
        exact ⟨by rw [cw_it (cw_bn c_6), cw_ie (cw_b0.mp c_16)], rfl⟩

set_option maxHeartbeats 8000000 in
set_option maxRecDepth 100000 in
theorem ok_X7_errorOfOffer {s : cw_s} (o k x : Int32) : gw_Ok yX7_errorOfOffer cX7_errorOfOffer 5 (some .int) sM 4 [.ref 0, .int o, .int k, .int x] (fun w => w 1 = s) (fun w vr w1 => vr = some (.int (cw_if (cw_th s o k ∧ cw_isW x) (cw_if (cw_swap s o k x ∧ ¬ s 205 = 8) 0 2) 1)) ∧ w1 = w) := by
  refine gw_of (by decide) (Nat.le_of_ble_eq_true rfl) ?_
  intro X w h C F
  have h := hr_in h
  refine g_aload_n C rfl dX7_errorOfOffer_0 ?_
  refine g_iload_n C rfl dX7_errorOfOffer_1 ?_
  refine g_iload_n C rfl dX7_errorOfOffer_2 ?_
  refine g_call C (ok_X7_areThere _ _) my_X7_areThere vi_X7_107 (by decide) ⟨Nat.le_refl _, Nat.le_refl _⟩ rfl rfl rfl (Nat.le_of_ble_eq_true rfl) dX7_errorOfOffer_3 rfl (hr_1 h) (fun v_3 w_3 hp_3 => ?_)
  obtain ⟨rfl, hw_3⟩ := hp_3
  have hw_3 := hw_3.symm; subst hw_3
  refine g_if_eq (tgt := 16) C (by decide) dX7_errorOfOffer_6 (fun c_6 => ?_) (fun c_6 => ?_)
  · refine g_iconst (v := 1) C (by decide) dX7_errorOfOffer_16 ?_
    refine g_iret C F dX7_errorOfOffer_17 ?_
    exact ⟨by rw [cw_ie (fun q => cw_b0.mp c_6 q.1)], rfl⟩
  · refine g_iload_n C rfl dX7_errorOfOffer_9 ?_
    refine g_callS C (ok_X7_isWeek _) my_X7_isWeek si_X7_48 (by decide) ⟨Nat.le_refl _, Nat.le_refl _⟩ rfl (Nat.le_of_ble_eq_true rfl) dX7_errorOfOffer_10 rfl (trivial) (fun v_10 w_10 hp_10 => ?_)
    obtain ⟨rfl, hw_10⟩ := hp_10
    have hw_10 := hw_10.symm; subst hw_10
    refine g_if_ne (tgt := 18) C (by decide) dX7_errorOfOffer_13 (fun c_13 => ?_) (fun c_13 => ?_)
    · obtain ⟨k, rfl, hk⟩ := cw_isW_ix (cw_bn c_6).2
      have ek : cw_x (nI k) = k := cw_xn (by omega)
      obtain ⟨x, rfl, hx⟩ := cw_isW_ix (cw_bn c_13)
      have ex : cw_x (nI x) = x := cw_xn (by omega)
      refine g_aload_n C rfl dX7_errorOfOffer_18 ?_
      refine g_getr C fl_X7_7 rfl rfl dX7_errorOfOffer_19 ?_
      refine g_iload_n C rfl dX7_errorOfOffer_22 ?_
      refine g_iconst (v := 2) C (by decide) dX7_errorOfOffer_23 ?_
      refine g_callS C (ok_X7_ofWeek (i := 2) _ _ _ (by first | rfl | assumption) rfl) my_X7_ofWeek si_X7_36 (by decide) ⟨Nat.le_refl _, Nat.le_refl _⟩ rfl (Nat.le_of_ble_eq_true rfl) dX7_errorOfOffer_24 rfl (trivial) (fun v_24 w_24 hp_24 => ?_)
      obtain ⟨rfl, hw_24⟩ := hp_24
      have hw_24 := hw_24.symm; subst hw_24
      refine g_iald C rfl (by first | rfl | assumption | (simp only [nI_add, pk_mul, *]; done)) (by first | assumption | omega) (by decide) dX7_errorOfOffer_27 ?_
      refine g_top (hr_rd h) ?_
      refine g_istore C (by decide) dX7_errorOfOffer_28 ?_
      refine g_aload_n C rfl dX7_errorOfOffer_30 ?_
      refine g_getr C fl_X7_7 rfl rfl dX7_errorOfOffer_31 ?_
      refine g_iload_n C rfl dX7_errorOfOffer_34 ?_
      refine g_iconst (v := 2) C (by decide) dX7_errorOfOffer_35 ?_
      refine g_callS C (ok_X7_ofWeek (i := 2) _ _ _ (by first | rfl | assumption) rfl) my_X7_ofWeek si_X7_36 (by decide) ⟨Nat.le_refl _, Nat.le_refl _⟩ rfl (Nat.le_of_ble_eq_true rfl) dX7_errorOfOffer_36 rfl (trivial) (fun v_36 w_36 hp_36 => ?_)
      obtain ⟨rfl, hw_36⟩ := hp_36
      have hw_36 := hw_36.symm; subst hw_36
      refine g_iald C rfl (by first | rfl | assumption | (simp only [nI_add, pk_mul, *]; done)) (by first | assumption | omega) (by decide) dX7_errorOfOffer_39 ?_
      refine g_top (hr_rd h) ?_
      refine g_iload_n C rfl dX7_errorOfOffer_40 ?_
      refine g_cmp_ne (tgt := 69) C (by decide) dX7_errorOfOffer_41 (fun c_41 => ?_) (fun c_41 => ?_)
      · refine g_iconst (v := 2) C (by decide) dX7_errorOfOffer_69 ?_
        refine g_goto (tgt := 74) C (by decide) dX7_errorOfOffer_70 ?_
        refine g_iret C F dX7_errorOfOffer_74 ?_
        exact ⟨by rw [cw_it (P := cw_th s o (nI k) ∧ cw_isW (nI x)) ⟨cw_bn c_6, cw_bn c_13⟩]; unfold cw_swap; rw [ek, ex, cw_ie (fun q => c_41 q.1.1.2)], rfl⟩
      · refine g_iload C rfl dX7_errorOfOffer_44 ?_
        refine g_iconst (v := (-1)) C (by decide) dX7_errorOfOffer_46 ?_
        refine g_cmp_eq (tgt := 69) C (by decide) dX7_errorOfOffer_47 (fun c_47 => ?_) (fun c_47 => ?_)
        · refine g_iconst (v := 2) C (by decide) dX7_errorOfOffer_69 ?_
          refine g_goto (tgt := 74) C (by decide) dX7_errorOfOffer_70 ?_
          refine g_iret C F dX7_errorOfOffer_74 ?_
          exact ⟨by rw [cw_it (P := cw_th s o (nI k) ∧ cw_isW (nI x)) ⟨cw_bn c_6, cw_bn c_13⟩]; unfold cw_swap; rw [ek, ex, cw_ie (fun q => q.1.2.2.1 c_47)], rfl⟩
        · refine g_iload C rfl dX7_errorOfOffer_50 ?_
          refine g_iload_n C rfl dX7_errorOfOffer_52 ?_
          refine g_cmp_eq (tgt := 69) C (by decide) dX7_errorOfOffer_53 (fun c_53 => ?_) (fun c_53 => ?_)
          · refine g_iconst (v := 2) C (by decide) dX7_errorOfOffer_69 ?_
            refine g_goto (tgt := 74) C (by decide) dX7_errorOfOffer_70 ?_
            refine g_iret C F dX7_errorOfOffer_74 ?_
            exact ⟨by rw [cw_it (P := cw_th s o (nI k) ∧ cw_isW (nI x)) ⟨cw_bn c_6, cw_bn c_13⟩]; unfold cw_swap; rw [ek, ex, cw_ie (fun q => q.1.2.2.2 c_53)], rfl⟩
          · refine g_aload_n C rfl dX7_errorOfOffer_56 ?_
            refine g_getr C fl_X7_7 rfl rfl dX7_errorOfOffer_57 ?_
            refine g_sipush (v := 205) C (by decide) dX7_errorOfOffer_60 ?_
            refine g_iald (j := 205) C rfl (rfl) (by decide) (by decide) dX7_errorOfOffer_63 ?_
            refine g_top (hr_rd h) ?_
            refine g_bipush (v := 8) C (by decide) dX7_errorOfOffer_64 ?_
            refine g_cmp_ne (tgt := 73) C (by decide) dX7_errorOfOffer_66 (fun c_66 => ?_) (fun c_66 => ?_)
            · refine g_iconst (v := 0) C (by decide) dX7_errorOfOffer_73 ?_
              refine g_iret C F dX7_errorOfOffer_74 ?_
              exact ⟨by rw [cw_it (P := cw_th s o (nI k) ∧ cw_isW (nI x)) ⟨cw_bn c_6, cw_bn c_13⟩]; unfold cw_swap; rw [ek, ex, cw_it (P := ((cw_th s o (nI k) ∧ s (25 + 3 * k + 2) = o) ∧ cw_isW (nI x) ∧ ¬ s (25 + 3 * x + 2) = -1 ∧ ¬ s (25 + 3 * x + 2) = o) ∧ ¬ s 205 = 8) ⟨⟨⟨cw_bn c_6, c_41⟩, cw_bn c_13, c_47, c_53⟩, c_66⟩], rfl⟩
            · refine g_iconst (v := 2) C (by decide) dX7_errorOfOffer_69 ?_
              refine g_goto (tgt := 74) C (by decide) dX7_errorOfOffer_70 ?_
              refine g_iret C F dX7_errorOfOffer_74 ?_
              exact ⟨by rw [cw_it (P := cw_th s o (nI k) ∧ cw_isW (nI x)) ⟨cw_bn c_6, cw_bn c_13⟩]; unfold cw_swap; rw [ek, ex, cw_ie (fun q => q.2 c_66)], rfl⟩
    · refine g_iconst (v := 1) C (by decide) dX7_errorOfOffer_16 ?_
      refine g_iret C F dX7_errorOfOffer_17 ?_
      exact ⟨by rw [cw_ie (fun q => cw_b0.mp c_13 q.2)], rfl⟩

set_option maxHeartbeats 8000000 in
set_option maxRecDepth 100000 in
theorem ok_X7_errorOfUpkeep {s : cw_s} (a : Int32) : gw_Ok yX7_errorOfUpkeep cX7_errorOfUpkeep 2 (some .int) sM 2 [.ref 0, .int a] (fun w => w 1 = s) (fun w vr w1 => vr = some (.int (cw_if (1 ≤ a ∧ a ≤ 999) (if s 0 = 0 then 2 else 0) 1)) ∧ w1 = w) := by
  refine gw_of (by decide) (Nat.le_of_ble_eq_true rfl) ?_
  intro X w h C F
  have h := hr_in h
  refine g_iload_n C rfl dX7_errorOfUpkeep_0 ?_
  refine g_iconst (v := 1) C (by decide) dX7_errorOfUpkeep_1 ?_
  refine g_sipush (v := 999) C (by decide) dX7_errorOfUpkeep_2 ?_
  refine g_callS C (ok_X7_in _ _ _) my_X7_in si_X7_40 (by decide) ⟨Nat.le_refl _, Nat.le_refl _⟩ rfl (Nat.le_of_ble_eq_true rfl) dX7_errorOfUpkeep_5 rfl (trivial) (fun v_5 w_5 hp_5 => ?_)
  obtain ⟨rfl, hw_5⟩ := hp_5
  have hw_5 := hw_5.symm; subst hw_5
  refine g_if_ne (tgt := 15) C (by decide) dX7_errorOfUpkeep_8 (fun c_8 => ?_) (fun c_8 => ?_)
  · refine g_aload_n C rfl dX7_errorOfUpkeep_15 ?_
    refine g_getr C fl_X7_7 rfl rfl dX7_errorOfUpkeep_16 ?_
    refine g_iconst (v := 0) C (by decide) dX7_errorOfUpkeep_19 ?_
    refine g_iald (j := 0) C rfl (rfl) (by decide) (by decide) dX7_errorOfUpkeep_20 ?_
    refine g_top (hr_rd h) ?_
    refine g_if_ne (tgt := 28) C (by decide) dX7_errorOfUpkeep_21 (fun c_21 => ?_) (fun c_21 => ?_)
    · refine g_iconst (v := 0) C (by decide) dX7_errorOfUpkeep_28 ?_
      refine g_iret C F dX7_errorOfUpkeep_29 ?_
      refine ⟨?_, rfl⟩
      first | rw [cw_ie (cw_b0.mp c_8)] | rw [cw_it (cw_bn c_8), if_pos c_21] | rw [cw_it (cw_bn c_8), if_neg c_21]
    · refine g_iconst (v := 2) C (by decide) dX7_errorOfUpkeep_24 ?_
      refine g_goto (tgt := 29) C (by decide) dX7_errorOfUpkeep_25 ?_
      refine g_iret C F dX7_errorOfUpkeep_29 ?_
      refine ⟨?_, rfl⟩
      first | rw [cw_ie (cw_b0.mp c_8)] | rw [cw_it (cw_bn c_8), if_pos c_21] | rw [cw_it (cw_bn c_8), if_neg c_21]
  · refine g_iconst (v := 1) C (by decide) dX7_errorOfUpkeep_11 ?_
    refine g_goto (tgt := 29) C (by decide) dX7_errorOfUpkeep_12 ?_
    refine g_iret C F dX7_errorOfUpkeep_29 ?_
    refine ⟨?_, rfl⟩
    first | rw [cw_ie (cw_b0.mp c_8)] | rw [cw_it (cw_bn c_8), if_pos c_21] | rw [cw_it (cw_bn c_8), if_neg c_21]

