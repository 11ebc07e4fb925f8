/-- the reference's cells: itself, s, aside, history, slots, text, sets -/
def sM : gw_S := (7, fun i => match i with
  | 0 => .inr (5, [none, some 1, some 2, some 3, none, some 4, none, some 5, none, none, none, none, none, none, none, some 6])
  | 1 => .inl (0, 242, fun j => j)
  | 2 => .inl (0, 242, fun j => j)
  | 3 => .inl (0, 3388, fun j => j)
  | 4 => .inl (0, 484, fun j => j)
  | 5 => .inl (0, 120, fun j => j)
  | _ => .inl (1, 64, fun j => j))

set_option maxHeartbeats 4000000 in
set_option maxRecDepth 100000 in
theorem ok_X7_in (v a b : Int32) : gw_Ok yX7_in cX7_in 3 (some .boolean) sM 1 [.int v, .int a, .int b] (fun _ => True) (fun w vr w1 => vr = some (.int (cw_b (a ≤ v ∧ v ≤ b))) ∧ w1 = w) := by
  refine gw_of (by decide) (Nat.le_of_ble_eq_true rfl) ?_
  intro X w hpre C F
  refine g_iload_n C rfl dX7_in_0 ?_
  refine g_iload_n C rfl dX7_in_1 ?_
  refine g_cmp_lt (tgt := 14) C (by decide) dX7_in_2 (fun c_2 => ?_) (fun c_2 => ?_)
  · refine g_iconst (v := 0) C (by decide) dX7_in_14 ?_
    refine g_zret C F (rfl) dX7_in_15 ?_
    exact ⟨by first | rw [cw_bf (fun h => absurd c_2 (Int32.not_lt.mpr h.1))], rfl⟩
  · refine g_iload_n C rfl dX7_in_5 ?_
    refine g_iload_n C rfl dX7_in_6 ?_
    refine g_cmp_gt (tgt := 14) C (by decide) dX7_in_7 (fun c_7 => ?_) (fun c_7 => ?_)
    · refine g_iconst (v := 0) C (by decide) dX7_in_14 ?_
      refine g_zret C F (rfl) dX7_in_15 ?_
      exact ⟨by first | rw [cw_bf (fun h => absurd c_7 (Int32.not_lt.mpr h.2))] | rw [cw_b1 ⟨Int32.not_lt.mp c_2, Int32.not_lt.mp c_7⟩], rfl⟩
    · refine g_iconst (v := 1) C (by decide) dX7_in_10 ?_
      refine g_goto (tgt := 15) C (by decide) dX7_in_11 ?_
      refine g_zret C F (rfl) dX7_in_15 ?_
      exact ⟨by first | rw [cw_bf (fun h => absurd c_7 (Int32.not_lt.mpr h.2))] | rw [cw_b1 ⟨Int32.not_lt.mp c_2, Int32.not_lt.mp c_7⟩], rfl⟩

set_option maxHeartbeats 4000000 in
set_option maxRecDepth 100000 in
theorem ok_X7_holds (p : Int32) : gw_Ok yX7_holds cX7_holds 2 (some .boolean) sM 1 [.ref 0, .int p] (fun _ => True) (fun w vr w1 => vr = some (.int (cw_b (p = 0))) ∧ w1 = gw_set w 0 0 p) := by
  refine gw_of (by decide) (Nat.le_of_ble_eq_true rfl) ?_
  intro X w hpre C F
  refine g_aload_n C rfl dX7_holds_0 ?_
  refine g_iload_n C rfl dX7_holds_1 ?_
  refine g_putf C fl_X7_32 fp_5_0 rfl rfl (rfl) (rfl) dX7_holds_2 ?_
  refine g_iload_n C rfl dX7_holds_5 ?_
  refine g_if_ne (tgt := 13) C (by decide) dX7_holds_6 (fun c_6 => ?_) (fun c_6 => ?_)
  · refine g_iconst (v := 0) C (by decide) dX7_holds_13 ?_
    refine g_zret C F (rfl) dX7_holds_14 ?_
    exact ⟨by first | rw [cw_b1 (by simpa using c_6)] | rw [cw_bf (by simpa using c_6)], rfl⟩
  · refine g_iconst (v := 1) C (by decide) dX7_holds_9 ?_
    refine g_goto (tgt := 14) C (by decide) dX7_holds_10 ?_
    refine g_zret C F (rfl) dX7_holds_14 ?_
    exact ⟨by first | rw [cw_b1 (by simpa using c_6)] | rw [cw_bf (by simpa using c_6)], rfl⟩

set_option maxHeartbeats 4000000 in
set_option maxRecDepth 100000 in
theorem ok_X7_of (o b : Int32) (j i : Nat) (ho : o = nI j) (hi : b = nI i) : gw_Ok yX7_of cX7_of 2 (some .int) sM 1 [.int o, .int b] (fun _ => True) (fun w vr w1 => vr = some (.int (nI (1 + 4 * j + i))) ∧ w1 = w) := by
  refine gw_of (by decide) (Nat.le_of_ble_eq_true rfl) ?_
  intro X w hpre C F
  subst ho; subst hi
  refine g_iconst (v := 1) C (by decide) dX7_of_0 ?_
  refine g_iconst (v := 4) C (by decide) dX7_of_1 ?_
  refine g_iload_n C rfl dX7_of_2 ?_
  refine g_imul C dX7_of_3 ?_
  refine g_iadd C dX7_of_4 ?_
  refine g_iload_n C rfl dX7_of_5 ?_
  refine g_iadd C dX7_of_6 ?_
  refine g_iret C F dX7_of_7 ?_
  exact ⟨by simp only [← nI_add, ← pk_mul]; rfl, rfl⟩

set_option maxHeartbeats 4000000 in
set_option maxRecDepth 100000 in
theorem ok_X7_ofWeek (o b : Int32) (j i : Nat) (ho : o = nI j) (hi : b = nI i) : gw_Ok yX7_ofWeek cX7_ofWeek 2 (some .int) sM 1 [.int o, .int b] (fun _ => True) (fun w vr w1 => vr = some (.int (nI (25 + 3 * j + i))) ∧ w1 = w) := by
  refine gw_of (by decide) (Nat.le_of_ble_eq_true rfl) ?_
  intro X w hpre C F
  subst ho; subst hi
  refine g_bipush (v := 25) C (by decide) dX7_ofWeek_0 ?_
  refine g_iconst (v := 3) C (by decide) dX7_ofWeek_2 ?_
  refine g_iload_n C rfl dX7_ofWeek_3 ?_
  refine g_imul C dX7_ofWeek_4 ?_
  refine g_iadd C dX7_ofWeek_5 ?_
  refine g_iload_n C rfl dX7_ofWeek_6 ?_
  refine g_iadd C dX7_ofWeek_7 ?_
  refine g_iret C F dX7_ofWeek_8 ?_
  exact ⟨by simp only [← nI_add, ← pk_mul]; rfl, rfl⟩

set_option maxHeartbeats 4000000 in
set_option maxRecDepth 100000 in
theorem ok_X7_ofBid (o b : Int32) (j i : Nat) (ho : o = nI j) (hi : b = nI i) : gw_Ok yX7_ofBid cX7_ofBid 2 (some .int) sM 1 [.int o, .int b] (fun _ => True) (fun w vr w1 => vr = some (.int (nI (85 + 20 * j + i))) ∧ w1 = w) := by
  refine gw_of (by decide) (Nat.le_of_ble_eq_true rfl) ?_
  intro X w hpre C F
  subst ho; subst hi
  refine g_bipush (v := 85) C (by decide) dX7_ofBid_0 ?_
  refine g_bipush (v := 20) C (by decide) dX7_ofBid_2 ?_
  refine g_iload_n C rfl dX7_ofBid_4 ?_
  refine g_imul C dX7_ofBid_5 ?_
  refine g_iadd C dX7_ofBid_6 ?_
  refine g_iload_n C rfl dX7_ofBid_7 ?_
  refine g_iadd C dX7_ofBid_8 ?_
  refine g_iret C F dX7_ofBid_9 ?_
  exact ⟨by simp only [← nI_add, ← pk_mul]; rfl, rfl⟩

set_option maxHeartbeats 4000000 in
set_option maxRecDepth 100000 in
theorem ok_X7_ofOffer (o b : Int32) (j i : Nat) (ho : o = nI j) (hi : b = nI i) : gw_Ok yX7_ofOffer cX7_ofOffer 2 (some .int) sM 1 [.int o, .int b] (fun _ => True) (fun w vr w1 => vr = some (.int (nI (206 + 3 * j + i))) ∧ w1 = w) := by
  refine gw_of (by decide) (Nat.le_of_ble_eq_true rfl) ?_
  intro X w hpre C F
  subst ho; subst hi
  refine g_sipush (v := 206) C (by decide) dX7_ofOffer_0 ?_
  refine g_iconst (v := 3) C (by decide) dX7_ofOffer_3 ?_
  refine g_iload_n C rfl dX7_ofOffer_4 ?_
  refine g_imul C dX7_ofOffer_5 ?_
  refine g_iadd C dX7_ofOffer_6 ?_
  refine g_iload_n C rfl dX7_ofOffer_7 ?_
  refine g_iadd C dX7_ofOffer_8 ?_
  refine g_iret C F dX7_ofOffer_9 ?_
  exact ⟨by simp only [← nI_add, ← pk_mul]; rfl, rfl⟩

set_option maxHeartbeats 4000000 in
set_option maxRecDepth 100000 in
theorem ok_X7_isOwner (o : Int32) : gw_Ok yX7_isOwner cX7_isOwner 2 (some .boolean) sM 2 [.ref 0, .int o] (fun _ => True) (fun w vr w1 => vr = some (.int (cw_b (cw_isO (w 1) o))) ∧ w1 = w) := by
  refine gw_of (by decide) (Nat.le_of_ble_eq_true rfl) ?_
  intro X w hpre C F
  refine g_iload_n C rfl dX7_isOwner_0 ?_
  refine g_iconst (v := 0) C (by decide) dX7_isOwner_1 ?_
  refine g_aload_n C rfl dX7_isOwner_2 ?_
  refine g_getr C fl_X7_7 rfl rfl dX7_isOwner_3 ?_
  refine g_iconst (v := 0) C (by decide) dX7_isOwner_6 ?_
  refine g_iald (j := 0) C rfl (rfl) (by decide) (by decide) dX7_isOwner_7 ?_
  refine g_iconst (v := 1) C (by decide) dX7_isOwner_8 ?_
  refine g_isub C dX7_isOwner_9 ?_
  refine g_callS C (ok_X7_in _ _ _) my_X7_in si_X7_40 (by decide) ⟨Nat.le_refl _, Nat.le_refl _⟩ rfl (Nat.le_of_ble_eq_true rfl) dX7_isOwner_10 rfl (trivial) (fun v_10 w_10 hp_10 => ?_)
  obtain ⟨rfl, hw_10⟩ := hp_10
  have hw_10 := hw_10.symm; subst hw_10
  refine g_zret C F (cw_bz _) dX7_isOwner_13 ?_
  exact ⟨rfl, rfl⟩

set_option maxHeartbeats 4000000 in
set_option maxRecDepth 100000 in
theorem ok_X7_isWeek (k : Int32) : gw_Ok yX7_isWeek cX7_isWeek 1 (some .boolean) sM 2 [.int k] (fun _ => True) (fun w vr w1 => vr = some (.int (cw_b (cw_isW k))) ∧ w1 = w) := by
  refine gw_of (by decide) (Nat.le_of_ble_eq_true rfl) ?_
  intro X w hpre C F
  refine g_iload_n C rfl dX7_isWeek_0 ?_
  refine g_iconst (v := 0) C (by decide) dX7_isWeek_1 ?_
  refine g_bipush (v := 19) C (by decide) dX7_isWeek_2 ?_
  refine g_callS C (ok_X7_in _ _ _) my_X7_in si_X7_40 (by decide) ⟨Nat.le_refl _, Nat.le_refl _⟩ rfl (Nat.le_of_ble_eq_true rfl) dX7_isWeek_4 rfl (trivial) (fun v_4 w_4 hp_4 => ?_)
  obtain ⟨rfl, hw_4⟩ := hp_4
  have hw_4 := hw_4.symm; subst hw_4
  refine g_zret C F (cw_bz _) dX7_isWeek_7 ?_
  exact ⟨rfl, rfl⟩

set_option maxHeartbeats 4000000 in
set_option maxRecDepth 100000 in
theorem ok_X7_areThere (o k : Int32) : gw_Ok yX7_areThere cX7_areThere 3 (some .boolean) sM 3 [.ref 0, .int o, .int k] (fun _ => True) (fun w vr w1 => vr = some (.int (cw_b (cw_th (w 1) o k))) ∧ w1 = w) := by
  refine gw_of (by decide) (Nat.le_of_ble_eq_true rfl) ?_
  intro X w hpre C F
  refine g_aload_n C rfl dX7_areThere_0 ?_
  refine g_iload_n C rfl dX7_areThere_1 ?_
  refine g_call C (ok_X7_isOwner _) my_X7_isOwner vi_X7_44 (by decide) ⟨Nat.le_refl _, Nat.le_refl _⟩ rfl rfl rfl (Nat.le_of_ble_eq_true rfl) dX7_areThere_2 rfl (trivial) (fun v_2 w_2 hp_2 => ?_)
  obtain ⟨rfl, hw_2⟩ := hp_2
  have hw_2 := hw_2.symm; subst hw_2
  refine g_if_eq (tgt := 19) C (by decide) dX7_areThere_5 (fun c_5 => ?_) (fun c_5 => ?_)
  · refine g_iconst (v := 0) C (by decide) dX7_areThere_19 ?_
    refine g_zret C F (rfl) dX7_areThere_20 ?_
    exact ⟨by rw [cw_bf (fun h => cw_b0.mp c_5 h.1)], rfl⟩
  · refine g_iload_n C rfl dX7_areThere_8 ?_
    refine g_callS C (ok_X7_isWeek _) my_X7_isWeek si_X7_48 (by decide) ⟨Nat.le_refl _, Nat.le_refl _⟩ rfl (Nat.le_of_ble_eq_true rfl) dX7_areThere_9 rfl (trivial) (fun v_9 w_9 hp_9 => ?_)
    obtain ⟨rfl, hw_9⟩ := hp_9
    have hw_9 := hw_9.symm; subst hw_9
    refine g_if_eq (tgt := 19) C (by decide) dX7_areThere_12 (fun c_12 => ?_) (fun c_12 => ?_)
    · refine g_iconst (v := 0) C (by decide) dX7_areThere_19 ?_
      refine g_zret C F (rfl) dX7_areThere_20 ?_
      exact ⟨by first | rw [cw_bf (fun h => cw_b0.mp c_12 h.2)] | rw [cw_b1 ⟨cw_bn c_5, cw_bn c_12⟩], rfl⟩
    · refine g_iconst (v := 1) C (by decide) dX7_areThere_15 ?_
      refine g_goto (tgt := 20) C (by decide) dX7_areThere_16 ?_
      refine g_zret C F (rfl) dX7_areThere_20 ?_
      exact ⟨by first | rw [cw_bf (fun h => cw_b0.mp c_12 h.2)] | rw [cw_b1 ⟨cw_bn c_5, cw_bn c_12⟩], rfl⟩

set_option maxHeartbeats 4000000 in
set_option maxRecDepth 100000 in
theorem lp_X7_held {X : gw_X} {post : Option Value → gw_M → Prop} (C : gw_ok X RX7 cX7_held 4 2 0 0) {w : gw_M} (o : Int32) : ∀ (n i : Nat) (x : Int32), i + n = 20 → (gw_G X sM 4 0 0 38 [(2, .int (cw_fold (fun k x => if w 1 (25 + 3 * k + 2) = o then x + 1 else x) i n x))] [] w) → gw_G X sM 4 0 0 4 [(0, .ref 0), (1, .int o), (2, .int x), (3, .int (nI i))] [] w := by
  intro n
  induction n with
  | zero =>
    intro i x hi K
    obtain rfl : i = 20 := by omega
    refine g_iload_n C rfl dX7_held_4 ?_
    refine g_bipush (v := 20) C (by decide) dX7_held_5 ?_
    refine g_cmp_ge (tgt := 38) C (by decide) dX7_held_7 (fun c_7 => ?_) (fun c_7 => absurd (by decide) c_7)
    exact g_sub rfl K
  | succ n ih =>
    intro i x hi K
    have hlt : i < 20 := by omega
    refine g_iload_n C rfl dX7_held_4 ?_
    refine g_bipush (v := 20) C (by decide) dX7_held_5 ?_
    refine g_cmp_ge (tgt := 38) C (by decide) dX7_held_7 (fun c_7 => absurd c_7 (nI_ge hlt (by decide))) (fun c_7 => ?_)
    refine g_iload_n C rfl dX7_held_10 ?_
    refine g_aload_n C rfl dX7_held_11 ?_
    refine g_getr C fl_X7_7 rfl rfl dX7_held_12 ?_
    refine g_iload_n C rfl dX7_held_15 ?_
    refine g_iconst (v := 2) C (by decide) dX7_held_16 ?_
    refine g_callS C (ok_X7_ofWeek (i := 2) _ _ _ (by first | rfl | assumption) rfl) my_X7_ofWeek si_X7_36 (by decide) ⟨Nat.le_refl _, Nat.le_refl _⟩ rfl (Nat.le_of_ble_eq_true rfl) dX7_held_17 rfl (trivial) (fun v_17 w_17 hp_17 => ?_)
    obtain ⟨rfl, hw_17⟩ := hp_17
    have hw_17 := hw_17.symm; subst hw_17
    refine g_iald C rfl (by first | rfl | assumption | (simp only [nI_add, pk_mul, *]; done)) (by first | assumption | omega) (by decide) dX7_held_20 ?_
    refine g_iload_n C rfl dX7_held_21 ?_
    refine g_cmp_ne (tgt := 29) C (by decide) dX7_held_22 (fun c_22 => ?_) (fun c_22 => ?_)
    · refine g_iconst (v := 0) C (by decide) dX7_held_29 ?_
      refine g_iadd C dX7_held_30 ?_
      refine g_istore_n C (by decide) dX7_held_31 ?_
      refine g_iinc (v := nI (i + 1)) C rfl (nI_1 i) (by decide) dX7_held_32 ?_
      refine g_goto (tgt := 4) C (by decide) dX7_held_35 ?_
      exact g_sub rfl (ih (i + 1) _ (by omega) (by simpa [cw_fold, c_22] using K))
    · refine g_iconst (v := 1) C (by decide) dX7_held_25 ?_
      refine g_goto (tgt := 30) C (by decide) dX7_held_26 ?_
      refine g_iadd C dX7_held_30 ?_
      refine g_istore_n C (by decide) dX7_held_31 ?_
      refine g_iinc (v := nI (i + 1)) C rfl (nI_1 i) (by decide) dX7_held_32 ?_
      refine g_goto (tgt := 4) C (by decide) dX7_held_35 ?_
      exact g_sub rfl (ih (i + 1) _ (by omega) (by simpa [cw_fold, c_22] using K))

set_option maxHeartbeats 4000000 in
set_option maxRecDepth 100000 in
theorem ok_X7_held (o : Int32) : gw_Ok yX7_held cX7_held 4 (some .int) sM 2 [.ref 0, .int o] (fun _ => True) (fun w vr w1 => vr = some (.int (cw_held (w 1) o)) ∧ w1 = w) := by
  refine gw_of (by decide) (Nat.le_of_ble_eq_true rfl) ?_
  intro X w hpre C F
  refine g_iconst (v := 0) C (by decide) dX7_held_0 ?_
  refine g_istore_n C (by decide) dX7_held_1 ?_
  refine g_iconst (v := 0) C (by decide) dX7_held_2 ?_
  refine g_istore_n C (by decide) dX7_held_3 ?_
  refine g_sub rfl (lp_X7_held (post := fun _ _ => True) C o 20 0 0 rfl ?_)
  refine g_iload_n C rfl dX7_held_38 ?_
  refine g_iret C F dX7_held_39 ?_
  exact ⟨rfl, rfl⟩

set_option maxHeartbeats 4000000 in
set_option maxRecDepth 100000 in
theorem ok_X7_gives (o : Int32) (j : Nat) (ho : o = nI j) (hj : j < 6) : gw_Ok yX7_gives cX7_gives 3 none sM 2 [.ref 0, .int o] (fun _ => True) (fun w vr w1 => vr = none ∧ w1 = cw_S w (cw_gives (w 1) j)) := by
  refine gw_of (by decide) (Nat.le_of_ble_eq_true rfl) ?_
  intro X w hpre C F
  subst ho
  refine g_aload_n C rfl dX7_gives_0 ?_
  refine g_getr C fl_X7_7 rfl rfl dX7_gives_1 ?_
  refine g_sipush (v := 231) C (by decide) dX7_gives_4 ?_
  refine g_iald (j := 231) C rfl (rfl) (by decide) (by decide) dX7_gives_7 ?_
  refine g_aload_n C rfl dX7_gives_8 ?_
  refine g_getr C fl_X7_7 rfl rfl dX7_gives_9 ?_
  refine g_iload_n C rfl dX7_gives_12 ?_
  refine g_iconst (v := 0) C (by decide) dX7_gives_13 ?_
  refine g_callS C (ok_X7_of (i := 0) _ _ _ (by first | rfl | assumption) rfl) my_X7_of si_X7_54 (by decide) ⟨Nat.le_refl _, Nat.le_refl _⟩ rfl (Nat.le_of_ble_eq_true rfl) dX7_gives_14 rfl (trivial) (fun v_14 w_14 hp_14 => ?_)
  obtain ⟨rfl, hw_14⟩ := hp_14
  have hw_14 := hw_14.symm; subst hw_14
  refine g_iald C rfl (by first | rfl | assumption | (simp only [nI_add, pk_mul, *]; done)) (by first | assumption | omega) (by decide) dX7_gives_17 ?_
  refine g_imul C dX7_gives_18 ?_
  refine g_istore_n C (by decide) dX7_gives_19 ?_
  refine g_aload_n C rfl dX7_gives_20 ?_
  refine g_getr C fl_X7_7 rfl rfl dX7_gives_21 ?_
  refine g_iload_n C rfl dX7_gives_24 ?_
  refine g_iconst (v := 1) C (by decide) dX7_gives_25 ?_
  refine g_callS C (ok_X7_of (i := 1) _ _ _ (by first | rfl | assumption) rfl) my_X7_of si_X7_54 (by decide) ⟨Nat.le_refl _, Nat.le_refl _⟩ rfl (Nat.le_of_ble_eq_true rfl) dX7_gives_26 rfl (trivial) (fun v_26 w_26 hp_26 => ?_)
  obtain ⟨rfl, hw_26⟩ := hp_26
  have hw_26 := hw_26.symm; subst hw_26
  refine g_dup2 C rfl rfl dX7_gives_29 ?_
  refine g_iald C rfl (by first | rfl | assumption | (simp only [nI_add, pk_mul, *]; done)) (by first | assumption | omega) (by decide) dX7_gives_30 ?_
  refine g_iload_n C rfl dX7_gives_31 ?_
  refine g_iadd C dX7_gives_32 ?_
  refine g_iast C rfl (by first | rfl | assumption | (simp only [nI_add, pk_mul, *]; done)) (by first | assumption | omega) (by decide) dX7_gives_33 ?_
  refine g_aload_n C rfl dX7_gives_34 ?_
  refine g_getr C fl_X7_7 rfl rfl dX7_gives_35 ?_
  refine g_sipush (v := 234) C (by decide) dX7_gives_38 ?_
  refine g_dup2 C rfl rfl dX7_gives_41 ?_
  refine g_iald (j := 234) C rfl (rfl) (by decide) (by decide) dX7_gives_42 ?_
  refine g_iload_n C rfl dX7_gives_43 ?_
  refine g_iadd C dX7_gives_44 ?_
  refine g_iast (j := 234) C rfl (rfl) (by decide) (by decide) dX7_gives_45 ?_
  refine g_vret C F dX7_gives_46 ?_
  exact ⟨rfl, by simp only [cw_set1, cw_setS, cw_SS, cw_S1, cw_gives]⟩

set_option maxHeartbeats 4000000 in
set_option maxRecDepth 100000 in
theorem ok_X7_spends (o p : Int32) (j : Nat) (ho : o = nI j) (hj : j < 6) : gw_Ok yX7_spends cX7_spends 3 none sM 2 [.ref 0, .int o, .int p] (fun _ => True) (fun w vr w1 => vr = none ∧ w1 = cw_S w (cw_spends (w 1) j p)) := by
  refine gw_of (by decide) (Nat.le_of_ble_eq_true rfl) ?_
  intro X w hpre C F
  subst ho
  refine g_aload_n C rfl dX7_spends_0 ?_
  refine g_getr C fl_X7_7 rfl rfl dX7_spends_1 ?_
  refine g_iload_n C rfl dX7_spends_4 ?_
  refine g_iconst (v := 1) C (by decide) dX7_spends_5 ?_
  refine g_callS C (ok_X7_of (i := 1) _ _ _ (by first | rfl | assumption) rfl) my_X7_of si_X7_54 (by decide) ⟨Nat.le_refl _, Nat.le_refl _⟩ rfl (Nat.le_of_ble_eq_true rfl) dX7_spends_6 rfl (trivial) (fun v_6 w_6 hp_6 => ?_)
  obtain ⟨rfl, hw_6⟩ := hp_6
  have hw_6 := hw_6.symm; subst hw_6
  refine g_dup2 C rfl rfl dX7_spends_9 ?_
  refine g_iald C rfl (by first | rfl | assumption | (simp only [nI_add, pk_mul, *]; done)) (by first | assumption | omega) (by decide) dX7_spends_10 ?_
  refine g_iload_n C rfl dX7_spends_11 ?_
  refine g_isub C dX7_spends_12 ?_
  refine g_iast C rfl (by first | rfl | assumption | (simp only [nI_add, pk_mul, *]; done)) (by first | assumption | omega) (by decide) dX7_spends_13 ?_
  refine g_aload_n C rfl dX7_spends_14 ?_
  refine g_getr C fl_X7_7 rfl rfl dX7_spends_15 ?_
  refine g_sipush (v := 235) C (by decide) dX7_spends_18 ?_
  refine g_dup2 C rfl rfl dX7_spends_21 ?_
  refine g_iald (j := 235) C rfl (rfl) (by decide) (by decide) dX7_spends_22 ?_
  refine g_iload_n C rfl dX7_spends_23 ?_
  refine g_iadd C dX7_spends_24 ?_
  refine g_iast (j := 235) C rfl (rfl) (by decide) (by decide) dX7_spends_25 ?_
  refine g_vret C F dX7_spends_26 ?_
  exact ⟨rfl, by simp only [cw_set1, cw_setS, cw_SS, cw_S1, cw_spends]⟩

set_option maxHeartbeats 4000000 in
set_option maxRecDepth 100000 in
theorem ok_X7_hindrance (o b : Int32) (j k : Nat) (ho : o = nI j) (hb : b = nI k) (hj : j < 6) (hk : k < 20) : gw_Ok yX7_hindrance cX7_hindrance 3 (some .int) sM 3 [.ref 0, .int o, .int b] (fun _ => True) (fun w vr w1 => vr = some (.int (cw_hind (w 1) j k)) ∧ w1 = w) := by
  refine gw_of (by decide) (Nat.le_of_ble_eq_true rfl) ?_
  intro X w hpre C F
  subst ho; subst hb
  refine g_aload_n C rfl dX7_hindrance_0 ?_
  refine g_getr C fl_X7_7 rfl rfl dX7_hindrance_1 ?_
  refine g_iload_n C rfl dX7_hindrance_4 ?_
  refine g_iconst (v := 1) C (by decide) dX7_hindrance_5 ?_
  refine g_callS C (ok_X7_ofWeek (i := 1) _ _ _ (by first | rfl | assumption) rfl) my_X7_ofWeek si_X7_36 (by decide) ⟨Nat.le_refl _, Nat.le_refl _⟩ rfl (Nat.le_of_ble_eq_true rfl) dX7_hindrance_6 rfl (trivial) (fun v_6 w_6 hp_6 => ?_)
  obtain ⟨rfl, hw_6⟩ := hp_6
  have hw_6 := hw_6.symm; subst hw_6
  refine g_iald C rfl (by first | rfl | assumption | (simp only [nI_add, pk_mul, *]; done)) (by first | assumption | omega) (by decide) dX7_hindrance_9 ?_
  refine g_iconst (v := 1) C (by decide) dX7_hindrance_10 ?_
  refine g_cmp_eq (tgt := 28) C (by decide) dX7_hindrance_11 (fun c_11 => ?_) (fun c_11 => ?_)
  · refine g_aload_n C rfl dX7_hindrance_28 ?_
    refine g_getr C fl_X7_7 rfl rfl dX7_hindrance_29 ?_
    refine g_iload_n C rfl dX7_hindrance_32 ?_
    refine g_iconst (v := 1) C (by decide) dX7_hindrance_33 ?_
    refine g_callS C (ok_X7_ofWeek (i := 1) _ _ _ (by first | rfl | assumption) rfl) my_X7_ofWeek si_X7_36 (by decide) ⟨Nat.le_refl _, Nat.le_refl _⟩ rfl (Nat.le_of_ble_eq_true rfl) dX7_hindrance_34 rfl (trivial) (fun v_34 w_34 hp_34 => ?_)
    obtain ⟨rfl, hw_34⟩ := hp_34
    have hw_34 := hw_34.symm; subst hw_34
    refine g_iald C rfl (by first | rfl | assumption | (simp only [nI_add, pk_mul, *]; done)) (by first | assumption | omega) (by decide) dX7_hindrance_37 ?_
    refine g_iconst (v := 1) C (by decide) dX7_hindrance_38 ?_
    refine g_cmp_ne (tgt := 46) C (by decide) dX7_hindrance_39 (fun c_39 => ?_) (fun c_39 => ?_)
    · refine g_iconst (v := 2) C (by decide) dX7_hindrance_46 ?_
      refine g_iret C F dX7_hindrance_47 ?_
      exact ⟨by clear C F; simp_all [cw_hind, ← Int32.not_lt], rfl⟩
    · refine g_iconst (v := 1) C (by decide) dX7_hindrance_42 ?_
      refine g_goto (tgt := 47) C (by decide) dX7_hindrance_43 ?_
      refine g_iret C F dX7_hindrance_47 ?_
      exact ⟨by clear C F; simp_all [cw_hind, ← Int32.not_lt], rfl⟩
  · refine g_aload_n C rfl dX7_hindrance_14 ?_
    refine g_getr C fl_X7_7 rfl rfl dX7_hindrance_15 ?_
    refine g_iload_n C rfl dX7_hindrance_18 ?_
    refine g_iconst (v := 2) C (by decide) dX7_hindrance_19 ?_
    refine g_callS C (ok_X7_ofWeek (i := 2) _ _ _ (by first | rfl | assumption) rfl) my_X7_ofWeek si_X7_36 (by decide) ⟨Nat.le_refl _, Nat.le_refl _⟩ rfl (Nat.le_of_ble_eq_true rfl) dX7_hindrance_20 rfl (trivial) (fun v_20 w_20 hp_20 => ?_)
    obtain ⟨rfl, hw_20⟩ := hp_20
    have hw_20 := hw_20.symm; subst hw_20
    refine g_iald C rfl (by first | rfl | assumption | (simp only [nI_add, pk_mul, *]; done)) (by first | assumption | omega) (by decide) dX7_hindrance_23 ?_
    refine g_iconst (v := (-1)) C (by decide) dX7_hindrance_24 ?_
    refine g_cmp_eq (tgt := 48) C (by decide) dX7_hindrance_25 (fun c_25 => ?_) (fun c_25 => ?_)
    · refine g_aload_n C rfl dX7_hindrance_48 ?_
      refine g_iload_n C rfl dX7_hindrance_49 ?_
      refine g_call C (ok_X7_held _) my_X7_held vi_X7_57 (by decide) ⟨Nat.le_refl _, Nat.le_refl _⟩ rfl rfl rfl (Nat.le_of_ble_eq_true rfl) dX7_hindrance_50 rfl (trivial) (fun v_50 w_50 hp_50 => ?_)
      obtain ⟨rfl, hw_50⟩ := hp_50
      have hw_50 := hw_50.symm; subst hw_50
      refine g_aload_n C rfl dX7_hindrance_53 ?_
      refine g_getr C fl_X7_7 rfl rfl dX7_hindrance_54 ?_
      refine g_sipush (v := 233) C (by decide) dX7_hindrance_57 ?_
      refine g_iald (j := 233) C rfl (rfl) (by decide) (by decide) dX7_hindrance_60 ?_
      refine g_cmp_lt (tgt := 66) C (by decide) dX7_hindrance_61 (fun c_61 => ?_) (fun c_61 => ?_)
      · refine g_aload_n C rfl dX7_hindrance_66 ?_
        refine g_getr C fl_X7_7 rfl rfl dX7_hindrance_67 ?_
        refine g_iload_n C rfl dX7_hindrance_70 ?_
        refine g_iconst (v := 1) C (by decide) dX7_hindrance_71 ?_
        refine g_callS C (ok_X7_of (i := 1) _ _ _ (by first | rfl | assumption) rfl) my_X7_of si_X7_54 (by decide) ⟨Nat.le_refl _, Nat.le_refl _⟩ rfl (Nat.le_of_ble_eq_true rfl) dX7_hindrance_72 rfl (trivial) (fun v_72 w_72 hp_72 => ?_)
        obtain ⟨rfl, hw_72⟩ := hp_72
        have hw_72 := hw_72.symm; subst hw_72
        refine g_iald C rfl (by first | rfl | assumption | (simp only [nI_add, pk_mul, *]; done)) (by first | assumption | omega) (by decide) dX7_hindrance_75 ?_
        refine g_aload_n C rfl dX7_hindrance_76 ?_
        refine g_getr C fl_X7_7 rfl rfl dX7_hindrance_77 ?_
        refine g_iload_n C rfl dX7_hindrance_80 ?_
        refine g_iconst (v := 0) C (by decide) dX7_hindrance_81 ?_
        refine g_callS C (ok_X7_ofWeek (i := 0) _ _ _ (by first | rfl | assumption) rfl) my_X7_ofWeek si_X7_36 (by decide) ⟨Nat.le_refl _, Nat.le_refl _⟩ rfl (Nat.le_of_ble_eq_true rfl) dX7_hindrance_82 rfl (trivial) (fun v_82 w_82 hp_82 => ?_)
        obtain ⟨rfl, hw_82⟩ := hp_82
        have hw_82 := hw_82.symm; subst hw_82
        refine g_iald C rfl (by first | rfl | assumption | (simp only [nI_add, pk_mul, *]; done)) (by first | assumption | omega) (by decide) dX7_hindrance_85 ?_
        refine g_cmp_ge (tgt := 93) C (by decide) dX7_hindrance_86 (fun c_86 => ?_) (fun c_86 => ?_)
        · refine g_iconst (v := 0) C (by decide) dX7_hindrance_93 ?_
          refine g_iret C F dX7_hindrance_94 ?_
          exact ⟨by clear C F; simp_all [cw_hind, ← Int32.not_lt], rfl⟩
        · refine g_iconst (v := 4) C (by decide) dX7_hindrance_89 ?_
          refine g_goto (tgt := 94) C (by decide) dX7_hindrance_90 ?_
          refine g_iret C F dX7_hindrance_94 ?_
          exact ⟨by clear C F; simp_all [cw_hind, ← Int32.not_lt], rfl⟩
      · refine g_iconst (v := 3) C (by decide) dX7_hindrance_64 ?_
        refine g_iret C F dX7_hindrance_65 ?_
        exact ⟨by clear C F; simp_all [cw_hind, ← Int32.not_lt], rfl⟩
    · refine g_aload_n C rfl dX7_hindrance_28 ?_
      refine g_getr C fl_X7_7 rfl rfl dX7_hindrance_29 ?_
      refine g_iload_n C rfl dX7_hindrance_32 ?_
      refine g_iconst (v := 1) C (by decide) dX7_hindrance_33 ?_
      refine g_callS C (ok_X7_ofWeek (i := 1) _ _ _ (by first | rfl | assumption) rfl) my_X7_ofWeek si_X7_36 (by decide) ⟨Nat.le_refl _, Nat.le_refl _⟩ rfl (Nat.le_of_ble_eq_true rfl) dX7_hindrance_34 rfl (trivial) (fun v_34 w_34 hp_34 => ?_)
      obtain ⟨rfl, hw_34⟩ := hp_34
      have hw_34 := hw_34.symm; subst hw_34
      refine g_iald C rfl (by first | rfl | assumption | (simp only [nI_add, pk_mul, *]; done)) (by first | assumption | omega) (by decide) dX7_hindrance_37 ?_
      refine g_iconst (v := 1) C (by decide) dX7_hindrance_38 ?_
      refine g_cmp_ne (tgt := 46) C (by decide) dX7_hindrance_39 (fun c_39 => ?_) (fun c_39 => ?_)
      · refine g_iconst (v := 2) C (by decide) dX7_hindrance_46 ?_
        refine g_iret C F dX7_hindrance_47 ?_
        exact ⟨by clear C F; simp_all [cw_hind, ← Int32.not_lt], rfl⟩
      · refine g_iconst (v := 1) C (by decide) dX7_hindrance_42 ?_
        refine g_goto (tgt := 47) C (by decide) dX7_hindrance_43 ?_
        refine g_iret C F dX7_hindrance_47 ?_
        exact ⟨by clear C F; simp_all [cw_hind, ← Int32.not_lt], rfl⟩

set_option maxHeartbeats 4000000 in
set_option maxRecDepth 100000 in
theorem ok_X7_comes (sh : Int32) : gw_Ok yX7_comes cX7_comes 3 (some .int) sM 3 [.ref 0, .int sh] (fun w => w 1 0 = nI (cw_no (w 1)) ∧ cw_no (w 1) < 6) (fun w vr w1 => vr = some (.int (w 1 0)) ∧ w1 = cw_S w (cw_comes (w 1) (cw_no (w 1)) sh)) := by
  refine gw_of (by decide) (Nat.le_of_ble_eq_true rfl) ?_
  intro X w hpre C F
  obtain ⟨h0, hj⟩ := hpre
  refine g_aload_n C rfl dX7_comes_0 ?_
  refine g_getr C fl_X7_7 rfl rfl dX7_comes_1 ?_
  refine g_iconst (v := 0) C (by decide) dX7_comes_4 ?_
  refine g_iald (j := 0) C rfl (rfl) (by decide) (by decide) dX7_comes_5 ?_
  refine g_istore_n C (by decide) dX7_comes_6 ?_
  refine g_aload_n C rfl dX7_comes_7 ?_
  refine g_getr C fl_X7_7 rfl rfl dX7_comes_8 ?_
  refine g_iconst (v := 0) C (by decide) dX7_comes_11 ?_
  refine g_dup2 C rfl rfl dX7_comes_12 ?_
  refine g_iald (j := 0) C rfl (rfl) (by decide) (by decide) dX7_comes_13 ?_
  refine g_iconst (v := 1) C (by decide) dX7_comes_14 ?_
  refine g_iadd C dX7_comes_15 ?_
  refine g_iast (j := 0) C rfl (rfl) (by decide) (by decide) dX7_comes_16 ?_
  refine g_aload_n C rfl dX7_comes_17 ?_
  refine g_getr C fl_X7_7 rfl rfl dX7_comes_18 ?_
  refine g_iload_n C rfl dX7_comes_21 ?_
  refine g_iconst (v := 0) C (by decide) dX7_comes_22 ?_
  refine g_callS C (ok_X7_of (i := 0) _ _ _ (by first | rfl | assumption) rfl) my_X7_of si_X7_54 (by decide) ⟨Nat.le_refl _, Nat.le_refl _⟩ rfl (Nat.le_of_ble_eq_true rfl) dX7_comes_23 rfl (trivial) (fun v_23 w_23 hp_23 => ?_)
  obtain ⟨rfl, hw_23⟩ := hp_23
  have hw_23 := hw_23.symm; subst hw_23
  refine g_iload_n C rfl dX7_comes_26 ?_
  refine g_iast C rfl (by first | rfl | assumption | (simp only [nI_add, pk_mul, *]; done)) (by first | assumption | omega) (by decide) dX7_comes_27 ?_
  refine g_aload_n C rfl dX7_comes_28 ?_
  refine g_getr C fl_X7_7 rfl rfl dX7_comes_29 ?_
  refine g_iload_n C rfl dX7_comes_32 ?_
  refine g_iconst (v := 1) C (by decide) dX7_comes_33 ?_
  refine g_callS C (ok_X7_of (i := 1) _ _ _ (by first | rfl | assumption) rfl) my_X7_of si_X7_54 (by decide) ⟨Nat.le_refl _, Nat.le_refl _⟩ rfl (Nat.le_of_ble_eq_true rfl) dX7_comes_34 rfl (trivial) (fun v_34 w_34 hp_34 => ?_)
  obtain ⟨rfl, hw_34⟩ := hp_34
  have hw_34 := hw_34.symm; subst hw_34
  refine g_iconst (v := 0) C (by decide) dX7_comes_37 ?_
  refine g_iast C rfl (by first | rfl | assumption | (simp only [nI_add, pk_mul, *]; done)) (by first | assumption | omega) (by decide) dX7_comes_38 ?_
  refine g_aload_n C rfl dX7_comes_39 ?_
  refine g_getr C fl_X7_7 rfl rfl dX7_comes_40 ?_
  refine g_iload_n C rfl dX7_comes_43 ?_
  refine g_iconst (v := 2) C (by decide) dX7_comes_44 ?_
  refine g_callS C (ok_X7_of (i := 2) _ _ _ (by first | rfl | assumption) rfl) my_X7_of si_X7_54 (by decide) ⟨Nat.le_refl _, Nat.le_refl _⟩ rfl (Nat.le_of_ble_eq_true rfl) dX7_comes_45 rfl (trivial) (fun v_45 w_45 hp_45 => ?_)
  obtain ⟨rfl, hw_45⟩ := hp_45
  have hw_45 := hw_45.symm; subst hw_45
  refine g_iconst (v := 0) C (by decide) dX7_comes_48 ?_
  refine g_iast C rfl (by first | rfl | assumption | (simp only [nI_add, pk_mul, *]; done)) (by first | assumption | omega) (by decide) dX7_comes_49 ?_
  refine g_aload_n C rfl dX7_comes_50 ?_
  refine g_getr C fl_X7_7 rfl rfl dX7_comes_51 ?_
  refine g_iload_n C rfl dX7_comes_54 ?_
  refine g_iconst (v := 3) C (by decide) dX7_comes_55 ?_
  refine g_callS C (ok_X7_of (i := 3) _ _ _ (by first | rfl | assumption) rfl) my_X7_of si_X7_54 (by decide) ⟨Nat.le_refl _, Nat.le_refl _⟩ rfl (Nat.le_of_ble_eq_true rfl) dX7_comes_56 rfl (trivial) (fun v_56 w_56 hp_56 => ?_)
  obtain ⟨rfl, hw_56⟩ := hp_56
  have hw_56 := hw_56.symm; subst hw_56
  refine g_iconst (v := 0) C (by decide) dX7_comes_59 ?_
  refine g_iast C rfl (by first | rfl | assumption | (simp only [nI_add, pk_mul, *]; done)) (by first | assumption | omega) (by decide) dX7_comes_60 ?_
  refine g_aload_n C rfl dX7_comes_61 ?_
  refine g_iload_n C rfl dX7_comes_62 ?_
  refine g_call C (ok_X7_gives _ _ (by first | rfl | assumption) (by first | assumption | omega)) my_X7_gives vi_X7_61 (by decide) ⟨Nat.le_refl _, Nat.le_refl _⟩ rfl rfl rfl (Nat.le_of_ble_eq_true rfl) dX7_comes_63 rfl (trivial) (fun v_63 w_63 hp_63 => ?_)
  obtain ⟨rfl, hw_63⟩ := hp_63
  have hw_63 := hw_63.symm; subst hw_63
  refine g_iload_n C rfl dX7_comes_66 ?_
  refine g_iret C F dX7_comes_67 ?_
  exact ⟨rfl, by simp only [cw_set1, cw_setS, cw_SS, cw_S1, cw_comes]⟩

set_option maxHeartbeats 4000000 in
set_option maxRecDepth 100000 in
theorem ok_X7_becomes (a b : Int32) (j : Nat) (ha : a = nI j) (hj : j < 242) : gw_Ok yX7_becomes cX7_becomes 4 (some .int) sM 1 [.ref 0, .int a, .int b] (fun _ => True) (fun w vr w1 => vr = some (.int (w 1 j)) ∧ w1 = cw_S w (upd (w 1) j b)) := by
  refine gw_of (by decide) (Nat.le_of_ble_eq_true rfl) ?_
  intro X w hpre C F
  subst ha
  refine g_aload_n C rfl dX7_becomes_0 ?_
  refine g_getr C fl_X7_7 rfl rfl dX7_becomes_1 ?_
  refine g_iload_n C rfl dX7_becomes_4 ?_
  refine g_iald C rfl (by first | rfl | assumption | (simp only [nI_add, pk_mul, *]; done)) (by first | assumption | omega) (by decide) dX7_becomes_5 ?_
  refine g_istore_n C (by decide) dX7_becomes_6 ?_
  refine g_aload_n C rfl dX7_becomes_7 ?_
  refine g_getr C fl_X7_7 rfl rfl dX7_becomes_8 ?_
  refine g_iload_n C rfl dX7_becomes_11 ?_
  refine g_iload_n C rfl dX7_becomes_12 ?_
  refine g_iast C rfl (by first | rfl | assumption | (simp only [nI_add, pk_mul, *]; done)) (by first | assumption | omega) (by decide) dX7_becomes_13 ?_
  refine g_iload_n C rfl dX7_becomes_14 ?_
  refine g_iret C F dX7_becomes_15 ?_
  exact ⟨rfl, by simp only [cw_set1, cw_setS, cw_SS, cw_S1, cw_Sw]⟩

set_option maxHeartbeats 4000000 in
set_option maxRecDepth 100000 in
theorem lp_X7_schools {X : gw_X} {post : Option Value → gw_M → Prop} (C : gw_ok X RX7 cX7_schools 3 2 0 0) {w : gw_M} : ∀ (n i : Nat) (x : Int32), i + n = 20 → (gw_G X sM 3 0 0 29 [(1, .int (cw_fold (fun k x => x + w 1 (25 + 3 * k + 1)) i n x))] [] w) → gw_G X sM 3 0 0 4 [(0, .ref 0), (1, .int x), (2, .int (nI i))] [] w := by
  intro n
  induction n with
  | zero =>
    intro i x hi K
    obtain rfl : i = 20 := by omega
    refine g_iload_n C rfl dX7_schools_4 ?_
    refine g_bipush (v := 20) C (by decide) dX7_schools_5 ?_
    refine g_cmp_ge (tgt := 29) C (by decide) dX7_schools_7 (fun c_7 => ?_) (fun c_7 => absurd (by decide) c_7)
    exact g_sub rfl K
  | succ n ih =>
    intro i x hi K
    have hlt : i < 20 := by omega
    refine g_iload_n C rfl dX7_schools_4 ?_
    refine g_bipush (v := 20) C (by decide) dX7_schools_5 ?_
    refine g_cmp_ge (tgt := 29) C (by decide) dX7_schools_7 (fun c_7 => absurd c_7 (nI_ge hlt (by decide))) (fun c_7 => ?_)
    refine g_iload_n C rfl dX7_schools_10 ?_
    refine g_aload_n C rfl dX7_schools_11 ?_
    refine g_getr C fl_X7_7 rfl rfl dX7_schools_12 ?_
    refine g_iload_n C rfl dX7_schools_15 ?_
    refine g_iconst (v := 1) C (by decide) dX7_schools_16 ?_
    refine g_callS C (ok_X7_ofWeek (i := 1) _ _ _ (by first | rfl | assumption) rfl) my_X7_ofWeek si_X7_36 (by decide) ⟨Nat.le_refl _, Nat.le_refl _⟩ rfl (Nat.le_of_ble_eq_true rfl) dX7_schools_17 rfl (trivial) (fun v_17 w_17 hp_17 => ?_)
    obtain ⟨rfl, hw_17⟩ := hp_17
    have hw_17 := hw_17.symm; subst hw_17
    refine g_iald C rfl (by first | rfl | assumption | (simp only [nI_add, pk_mul, *]; done)) (by first | assumption | omega) (by decide) dX7_schools_20 ?_
    refine g_iadd C dX7_schools_21 ?_
    refine g_istore_n C (by decide) dX7_schools_22 ?_
    refine g_iinc (v := nI (i + 1)) C rfl (nI_1 i) (by decide) dX7_schools_23 ?_
    refine g_goto (tgt := 4) C (by decide) dX7_schools_26 ?_
    exact g_sub rfl (ih (i + 1) _ (by omega) (by simpa [cw_fold] using K))

set_option maxHeartbeats 4000000 in
set_option maxRecDepth 100000 in
theorem ok_X7_schools : gw_Ok yX7_schools cX7_schools 3 (some .int) sM 2 [.ref 0] (fun _ => True) (fun w vr w1 => vr = some (.int (cw_schools (w 1))) ∧ w1 = w) := by
  refine gw_of (by decide) (Nat.le_of_ble_eq_true rfl) ?_
  intro X w hpre C F
  refine g_iconst (v := 0) C (by decide) dX7_schools_0 ?_
  refine g_istore_n C (by decide) dX7_schools_1 ?_
  refine g_iconst (v := 0) C (by decide) dX7_schools_2 ?_
  refine g_istore_n C (by decide) dX7_schools_3 ?_
  refine g_sub rfl (lp_X7_schools (post := fun _ _ => True) C 20 0 0 rfl ?_)
  refine g_iload_n C rfl dX7_schools_29 ?_
  refine g_iret C F dX7_schools_30 ?_
  exact ⟨rfl, rfl⟩

set_option maxHeartbeats 4000000 in
set_option maxRecDepth 100000 in
theorem ok_X7_takes (o b : Int32) (j k : Nat) (ho : o = nI j) (hb : b = nI k) (hj : j < 6) (hk : k < 20) : gw_Ok yX7_takes cX7_takes 4 (some .int) sM 4 [.ref 0, .int o, .int b] (fun _ => True) (fun w vr w1 => vr = some (.int (cw_hind (w 1) j k)) ∧ w1 = cw_S w (cw_takes (w 1) j k)) := by
  refine gw_of (by decide) (Nat.le_of_ble_eq_true rfl) ?_
  intro X w hpre C F
  subst ho; subst hb
  refine g_aload_n C rfl dX7_takes_0 ?_
  refine g_iload_n C rfl dX7_takes_1 ?_
  refine g_iload_n C rfl dX7_takes_2 ?_
  refine g_call C (ok_X7_hindrance _ _ _ _ (by first | rfl | assumption) (by first | rfl | assumption) (by first | assumption | omega) (by first | assumption | omega)) my_X7_hindrance vi_X7_65 (by decide) ⟨Nat.le_refl _, Nat.le_refl _⟩ rfl rfl rfl (Nat.le_of_ble_eq_true rfl) dX7_takes_3 rfl (trivial) (fun v_3 w_3 hp_3 => ?_)
  obtain ⟨rfl, hw_3⟩ := hp_3
  have hw_3 := hw_3.symm; subst hw_3
  refine g_istore_n C (by decide) dX7_takes_6 ?_
  refine g_iload_n C rfl dX7_takes_7 ?_
  refine g_if_ne (tgt := 37) C (by decide) dX7_takes_8 (fun c_8 => ?_) (fun c_8 => ?_)
  · refine g_iload_n C rfl dX7_takes_37 ?_
    refine g_iret C F dX7_takes_38 ?_
    exact ⟨rfl, by simp only [cw_setS, cw_takes, c_8, cw_Sw, if_true, if_false]⟩
  · refine g_aload_n C rfl dX7_takes_11 ?_
    refine g_iload_n C rfl dX7_takes_12 ?_
    refine g_aload_n C rfl dX7_takes_13 ?_
    refine g_getr C fl_X7_7 rfl rfl dX7_takes_14 ?_
    refine g_iload_n C rfl dX7_takes_17 ?_
    refine g_iconst (v := 0) C (by decide) dX7_takes_18 ?_
    refine g_callS C (ok_X7_ofWeek (i := 0) _ _ _ (by first | rfl | assumption) rfl) my_X7_ofWeek si_X7_36 (by decide) ⟨Nat.le_refl _, Nat.le_refl _⟩ rfl (Nat.le_of_ble_eq_true rfl) dX7_takes_19 rfl (trivial) (fun v_19 w_19 hp_19 => ?_)
    obtain ⟨rfl, hw_19⟩ := hp_19
    have hw_19 := hw_19.symm; subst hw_19
    refine g_iald C rfl (by first | rfl | assumption | (simp only [nI_add, pk_mul, *]; done)) (by first | assumption | omega) (by decide) dX7_takes_22 ?_
    refine g_call C (ok_X7_spends _ _ _ (by first | rfl | assumption) (by first | assumption | omega)) my_X7_spends vi_X7_68 (by decide) ⟨Nat.le_refl _, Nat.le_refl _⟩ rfl rfl rfl (Nat.le_of_ble_eq_true rfl) dX7_takes_23 rfl (trivial) (fun v_23 w_23 hp_23 => ?_)
    obtain ⟨rfl, hw_23⟩ := hp_23
    have hw_23 := hw_23.symm; subst hw_23
    refine g_aload_n C rfl dX7_takes_26 ?_
    refine g_getr C fl_X7_7 rfl rfl dX7_takes_27 ?_
    refine g_iload_n C rfl dX7_takes_30 ?_
    refine g_iconst (v := 2) C (by decide) dX7_takes_31 ?_
    refine g_callS C (ok_X7_ofWeek (i := 2) _ _ _ (by first | rfl | assumption) rfl) my_X7_ofWeek si_X7_36 (by decide) ⟨Nat.le_refl _, Nat.le_refl _⟩ rfl (Nat.le_of_ble_eq_true rfl) dX7_takes_32 rfl (trivial) (fun v_32 w_32 hp_32 => ?_)
    obtain ⟨rfl, hw_32⟩ := hp_32
    have hw_32 := hw_32.symm; subst hw_32
    refine g_iload_n C rfl dX7_takes_35 ?_
    refine g_iast C rfl (by first | rfl | assumption | (simp only [nI_add, pk_mul, *]; done)) (by first | assumption | omega) (by decide) dX7_takes_36 ?_
    refine g_iload_n C rfl dX7_takes_37 ?_
    refine g_iret C F dX7_takes_38 ?_
    exact ⟨rfl, by simp only [cw_setS, cw_takes, c_8, cw_Sw, if_true, if_false]⟩

set_option maxHeartbeats 4000000 in
set_option maxRecDepth 100000 in
theorem ok_X7_releases (o b : Int32) (j k : Nat) (ho : o = nI j) (hb : b = nI k) (hj : j < 6) (hk : k < 20) : gw_Ok yX7_releases cX7_releases 4 (some .int) sM 2 [.ref 0, .int o, .int b] (fun _ => True) (fun w vr w1 => vr = some (.int (w 1 (25 + 3 * k + 0) / 2)) ∧ w1 = cw_S w (cw_releases (w 1) j k)) := by
  refine gw_of (by decide) (Nat.le_of_ble_eq_true rfl) ?_
  intro X w hpre C F
  subst ho; subst hb
  refine g_aload_n C rfl dX7_releases_0 ?_
  refine g_getr C fl_X7_7 rfl rfl dX7_releases_1 ?_
  refine g_iload_n C rfl dX7_releases_4 ?_
  refine g_iconst (v := 0) C (by decide) dX7_releases_5 ?_
  refine g_callS C (ok_X7_ofWeek (i := 0) _ _ _ (by first | rfl | assumption) rfl) my_X7_ofWeek si_X7_36 (by decide) ⟨Nat.le_refl _, Nat.le_refl _⟩ rfl (Nat.le_of_ble_eq_true rfl) dX7_releases_6 rfl (trivial) (fun v_6 w_6 hp_6 => ?_)
  obtain ⟨rfl, hw_6⟩ := hp_6
  have hw_6 := hw_6.symm; subst hw_6
  refine g_iald C rfl (by first | rfl | assumption | (simp only [nI_add, pk_mul, *]; done)) (by first | assumption | omega) (by decide) dX7_releases_9 ?_
  refine g_iconst (v := 2) C (by decide) dX7_releases_10 ?_
  refine g_idiv C (by decide) dX7_releases_11 ?_
  refine g_istore_n C (by decide) dX7_releases_12 ?_
  refine g_aload_n C rfl dX7_releases_13 ?_
  refine g_getr C fl_X7_7 rfl rfl dX7_releases_14 ?_
  refine g_iload_n C rfl dX7_releases_17 ?_
  refine g_iconst (v := 1) C (by decide) dX7_releases_18 ?_
  refine g_callS C (ok_X7_of (i := 1) _ _ _ (by first | rfl | assumption) rfl) my_X7_of si_X7_54 (by decide) ⟨Nat.le_refl _, Nat.le_refl _⟩ rfl (Nat.le_of_ble_eq_true rfl) dX7_releases_19 rfl (trivial) (fun v_19 w_19 hp_19 => ?_)
  obtain ⟨rfl, hw_19⟩ := hp_19
  have hw_19 := hw_19.symm; subst hw_19
  refine g_dup2 C rfl rfl dX7_releases_22 ?_
  refine g_iald C rfl (by first | rfl | assumption | (simp only [nI_add, pk_mul, *]; done)) (by first | assumption | omega) (by decide) dX7_releases_23 ?_
  refine g_iload_n C rfl dX7_releases_24 ?_
  refine g_iadd C dX7_releases_25 ?_
  refine g_iast C rfl (by first | rfl | assumption | (simp only [nI_add, pk_mul, *]; done)) (by first | assumption | omega) (by decide) dX7_releases_26 ?_
  refine g_aload_n C rfl dX7_releases_27 ?_
  refine g_getr C fl_X7_7 rfl rfl dX7_releases_28 ?_
  refine g_sipush (v := 236) C (by decide) dX7_releases_31 ?_
  refine g_dup2 C rfl rfl dX7_releases_34 ?_
  refine g_iald (j := 236) C rfl (rfl) (by decide) (by decide) dX7_releases_35 ?_
  refine g_iload_n C rfl dX7_releases_36 ?_
  refine g_iadd C dX7_releases_37 ?_
  refine g_iast (j := 236) C rfl (rfl) (by decide) (by decide) dX7_releases_38 ?_
  refine g_aload_n C rfl dX7_releases_39 ?_
  refine g_getr C fl_X7_7 rfl rfl dX7_releases_40 ?_
  refine g_iload_n C rfl dX7_releases_43 ?_
  refine g_iconst (v := 2) C (by decide) dX7_releases_44 ?_
  refine g_callS C (ok_X7_ofWeek (i := 2) _ _ _ (by first | rfl | assumption) rfl) my_X7_ofWeek si_X7_36 (by decide) ⟨Nat.le_refl _, Nat.le_refl _⟩ rfl (Nat.le_of_ble_eq_true rfl) dX7_releases_45 rfl (trivial) (fun v_45 w_45 hp_45 => ?_)
  obtain ⟨rfl, hw_45⟩ := hp_45
  have hw_45 := hw_45.symm; subst hw_45
  refine g_iconst (v := (-1)) C (by decide) dX7_releases_48 ?_
  refine g_iast C rfl (by first | rfl | assumption | (simp only [nI_add, pk_mul, *]; done)) (by first | assumption | omega) (by decide) dX7_releases_49 ?_
  refine g_iload_n C rfl dX7_releases_50 ?_
  refine g_iret C F dX7_releases_51 ?_
  exact ⟨rfl, by simp only [cw_set1, cw_setS, cw_SS, cw_S1, cw_releases]⟩

set_option maxHeartbeats 4000000 in
set_option maxRecDepth 100000 in
theorem lp_X7_bidsFor {X : gw_X} {post : Option Value → gw_M → Prop} (C : gw_ok X RX7 cX7_bidsFor 4 2 0 0) {w : gw_M} (k : Nat) (hk : k < 20) (hm : cw_m (w 1)) : ∀ (n i : Nat) (x : Int32), i + n = cw_no (w 1) → (gw_G X sM 4 0 0 42 [(2, .int (cw_fold (fun o x => if w 1 (85 + 20 * o + k) = -1 then x else x + 1) i n x))] [] w) → gw_G X sM 4 0 0 4 [(0, .ref 0), (1, .int (nI k)), (2, .int x), (3, .int (nI i))] [] w := by
  intro n
  induction n with
  | zero =>
    intro i x hi K
    obtain rfl : i = cw_no (w 1) := by omega
    refine g_iload_n C rfl dX7_bidsFor_4 ?_
    refine g_aload_n C rfl dX7_bidsFor_5 ?_
    refine g_getr C fl_X7_7 rfl rfl dX7_bidsFor_6 ?_
    refine g_iconst (v := 0) C (by decide) dX7_bidsFor_9 ?_
    refine g_iald (j := 0) C rfl (rfl) (by decide) (by decide) dX7_bidsFor_10 ?_
    refine g_cmp_ge (tgt := 42) C (by decide) dX7_bidsFor_11 (fun c_11 => ?_) (fun c_11 => absurd (by rw [hm.1]; exact nI_le (Nat.le_refl _) (Nat.lt_of_le_of_lt hm.2 (by decide))) c_11)
    exact g_sub rfl K
  | succ n ih =>
    intro i x hi K
    have hlt : i < cw_no (w 1) := by omega
    have h6 : i < 6 := Nat.lt_of_lt_of_le hlt hm.2
    refine g_iload_n C rfl dX7_bidsFor_4 ?_
    refine g_aload_n C rfl dX7_bidsFor_5 ?_
    refine g_getr C fl_X7_7 rfl rfl dX7_bidsFor_6 ?_
    refine g_iconst (v := 0) C (by decide) dX7_bidsFor_9 ?_
    refine g_iald (j := 0) C rfl (rfl) (by decide) (by decide) dX7_bidsFor_10 ?_
    refine g_cmp_ge (tgt := 42) C (by decide) dX7_bidsFor_11 (fun c_11 => absurd c_11 (by rw [hm.1]; exact nI_ge hlt (Nat.lt_of_le_of_lt hm.2 (by decide)))) (fun c_11 => ?_)
    refine g_iload_n C rfl dX7_bidsFor_14 ?_
    refine g_aload_n C rfl dX7_bidsFor_15 ?_
    refine g_getr C fl_X7_7 rfl rfl dX7_bidsFor_16 ?_
    refine g_iload_n C rfl dX7_bidsFor_19 ?_
    refine g_iload_n C rfl dX7_bidsFor_20 ?_
    refine g_callS C (ok_X7_ofBid _ _ _ _ (by first | rfl | assumption) (by first | rfl | assumption)) my_X7_ofBid si_X7_72 (by decide) ⟨Nat.le_refl _, Nat.le_refl _⟩ rfl (Nat.le_of_ble_eq_true rfl) dX7_bidsFor_21 rfl (trivial) (fun v_21 w_21 hp_21 => ?_)
    obtain ⟨rfl, hw_21⟩ := hp_21
    have hw_21 := hw_21.symm; subst hw_21
    refine g_iald C rfl (by first | rfl | assumption | (simp only [nI_add, pk_mul, *]; done)) (by first | assumption | omega) (by decide) dX7_bidsFor_24 ?_
    refine g_iconst (v := (-1)) C (by decide) dX7_bidsFor_25 ?_
    refine g_cmp_ne (tgt := 33) C (by decide) dX7_bidsFor_26 (fun c_26 => ?_) (fun c_26 => ?_)
    · refine g_iconst (v := 1) C (by decide) dX7_bidsFor_33 ?_
      refine g_iadd C dX7_bidsFor_34 ?_
      refine g_istore_n C (by decide) dX7_bidsFor_35 ?_
      refine g_iinc (v := nI (i + 1)) C rfl (nI_1 i) (by decide) dX7_bidsFor_36 ?_
      refine g_goto (tgt := 4) C (by decide) dX7_bidsFor_39 ?_
      exact g_sub rfl (ih (i + 1) _ (by omega) (by simpa [cw_fold, c_26] using K))
    · refine g_iconst (v := 0) C (by decide) dX7_bidsFor_29 ?_
      refine g_goto (tgt := 34) C (by decide) dX7_bidsFor_30 ?_
      refine g_iadd C dX7_bidsFor_34 ?_
      refine g_istore_n C (by decide) dX7_bidsFor_35 ?_
      refine g_iinc (v := nI (i + 1)) C rfl (nI_1 i) (by decide) dX7_bidsFor_36 ?_
      refine g_goto (tgt := 4) C (by decide) dX7_bidsFor_39 ?_
      exact g_sub rfl (ih (i + 1) _ (by omega) (by simpa [cw_fold, c_26] using K))

set_option maxHeartbeats 4000000 in
set_option maxRecDepth 100000 in
theorem ok_X7_bidsFor (b : Int32) (k : Nat) (hb : b = nI k) (hk : k < 20) : gw_Ok yX7_bidsFor cX7_bidsFor 4 (some .int) sM 2 [.ref 0, .int b] (fun w => cw_m (w 1)) (fun w vr w1 => vr = some (.int (cw_bidsFor (w 1) k)) ∧ w1 = w) := by
  refine gw_of (by decide) (Nat.le_of_ble_eq_true rfl) ?_
  intro X w hpre C F
  subst hb
  refine g_iconst (v := 0) C (by decide) dX7_bidsFor_0 ?_
  refine g_istore_n C (by decide) dX7_bidsFor_1 ?_
  refine g_iconst (v := 0) C (by decide) dX7_bidsFor_2 ?_
  refine g_istore_n C (by decide) dX7_bidsFor_3 ?_
  refine g_sub rfl (lp_X7_bidsFor (post := fun _ _ => True) C k hk hpre (cw_no (w 1)) 0 0 (Nat.zero_add _) ?_)
  refine g_iload_n C rfl dX7_bidsFor_42 ?_
  refine g_iret C F dX7_bidsFor_43 ?_
  exact ⟨rfl, rfl⟩

