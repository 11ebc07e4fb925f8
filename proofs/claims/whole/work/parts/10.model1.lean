/-- the reference's cells: itself, s, aside, history, slots, text, sets -/
def sM : gw_S := (7, fun i => match i with
  | 0 => .inr (5, [none, some 1, some 2, some 3, none, some 4, none, some 5, none, none, none, none, none, none, none, some 6])
  | 1 => .inl (0, 242, fun j => j)
  | 2 => .inl (0, 242, fun j => j)
  | 3 => .inl (0, 3388, fun j => j)
  | 4 => .inl (0, 484, fun j => j)
  | 5 => .inl (0, 120, fun j => j)
  | _ => .inl (1, 64, fun j => j))

set_option maxHeartbeats 4000000 in
set_option maxRecDepth 100000 in
theorem ok_X7_in (v a b : Int32) : gw_Ok yX7_in cX7_in 3 (some .boolean) sM 1 [.int v, .int a, .int b] (fun _ => True) (fun w v w1 => v = some (.int (cw_in v a b)) ∧ w1 = w) := by
  refine gw_of (by decide) (Nat.le_of_ble_eq_true rfl) ?_
  intro X w hpre C F
  refine g_iload_n C rfl dX7_in_0 ?_
  refine g_iload_n C rfl dX7_in_1 ?_
  refine g_cmp_.lt (tgt := 14) C (by decide) dX7_in_2 (fun c_2 => ?_) (fun c_2 => ?_)
  · refine g_iconst (v := 0) C (by decide) dX7_in_14 ?_
    refine g_zret C F (rfl) dX7_in_15 ?_
    exact ⟨by simp_all [cw_in, Int32.not_lt], rfl⟩
  · refine g_iload_n C rfl dX7_in_5 ?_
    refine g_iload_n C rfl dX7_in_6 ?_
    refine g_cmp_.gt (tgt := 14) C (by decide) dX7_in_7 (fun c_7 => ?_) (fun c_7 => ?_)
    · refine g_iconst (v := 0) C (by decide) dX7_in_14 ?_
      refine g_zret C F (rfl) dX7_in_15 ?_
      exact ⟨by simp_all [cw_in, Int32.not_lt], rfl⟩
    · refine g_iconst (v := 1) C (by decide) dX7_in_10 ?_
      refine g_goto (tgt := 15) C (by decide) dX7_in_11 ?_
      refine g_zret C F (rfl) dX7_in_15 ?_
      exact ⟨by simp_all [cw_in, Int32.not_lt], rfl⟩

set_option maxHeartbeats 4000000 in
set_option maxRecDepth 100000 in
theorem ok_X7_holds (p : Int32) : gw_Ok yX7_holds cX7_holds 2 (some .boolean) sM 1 [.ref 0, .int p] (fun _ => True) (fun w v w1 => v = some (.int (if p = 0 then 1 else 0)) ∧ w1 = gw_set w 0 0 p) := by
  refine gw_of (by decide) (Nat.le_of_ble_eq_true rfl) ?_
  intro X w hpre C F
  refine g_aload_n C rfl dX7_holds_0 ?_
  refine g_iload_n C rfl dX7_holds_1 ?_
  refine g_putf C fl_X7_32 fp_5_0 rfl rfl (rfl) (rfl) dX7_holds_2 ?_
  refine g_iload_n C rfl dX7_holds_5 ?_
  refine g_if_.ne (tgt := 13) C (by decide) dX7_holds_6 (fun c_6 => ?_) (fun c_6 => ?_)
  · refine g_iconst (v := 0) C (by decide) dX7_holds_13 ?_
    refine g_zret C F (rfl) dX7_holds_14 ?_
    exact ⟨by simp_all, rfl⟩
  · refine g_iconst (v := 1) C (by decide) dX7_holds_9 ?_
    refine g_goto (tgt := 14) C (by decide) dX7_holds_10 ?_
    refine g_zret C F (rfl) dX7_holds_14 ?_
    exact ⟨by simp_all, rfl⟩

set_option maxHeartbeats 4000000 in
set_option maxRecDepth 100000 in
theorem ok_X7_of (o b : Int32) (j i : Nat) (ho : o = nI j) (hi : b = nI i) : gw_Ok yX7_of cX7_of 2 (some .int) sM 1 [.int o, .int b] (fun _ => True) (fun w v w1 => v = some (.int (nI (1 + 4 * j + i))) ∧ w1 = w) := by
  refine gw_of (by decide) (Nat.le_of_ble_eq_true rfl) ?_
  intro X w hpre C F
  subst ho; subst hi
  refine g_iconst (v := 1) C (by decide) dX7_of_0 ?_
  refine g_iconst (v := 4) C (by decide) dX7_of_1 ?_
  refine g_iload_n C rfl dX7_of_2 ?_
  refine g_imul C dX7_of_3 ?_
  refine g_iadd C dX7_of_4 ?_
  refine g_iload_n C rfl dX7_of_5 ?_
  refine g_iadd C dX7_of_6 ?_
  refine g_iret C F dX7_of_7 ?_
  exact ⟨by simp only [← nI_add, ← pk_mul]; rfl, rfl⟩

set_option maxHeartbeats 4000000 in
set_option maxRecDepth 100000 in
theorem ok_X7_ofWeek (o b : Int32) (j i : Nat) (ho : o = nI j) (hi : b = nI i) : gw_Ok yX7_ofWeek cX7_ofWeek 2 (some .int) sM 1 [.int o, .int b] (fun _ => True) (fun w v w1 => v = some (.int (nI (25 + 3 * j + i))) ∧ w1 = w) := by
  refine gw_of (by decide) (Nat.le_of_ble_eq_true rfl) ?_
  intro X w hpre C F
  subst ho; subst hi
  refine g_bipush (v := 25) C (by decide) dX7_ofWeek_0 ?_
  refine g_iconst (v := 3) C (by decide) dX7_ofWeek_2 ?_
  refine g_iload_n C rfl dX7_ofWeek_3 ?_
  refine g_imul C dX7_ofWeek_4 ?_
  refine g_iadd C dX7_ofWeek_5 ?_
  refine g_iload_n C rfl dX7_ofWeek_6 ?_
  refine g_iadd C dX7_ofWeek_7 ?_
  refine g_iret C F dX7_ofWeek_8 ?_
  exact ⟨by simp only [← nI_add, ← pk_mul]; rfl, rfl⟩

set_option maxHeartbeats 4000000 in
set_option maxRecDepth 100000 in
theorem ok_X7_ofBid (o b : Int32) (j i : Nat) (ho : o = nI j) (hi : b = nI i) : gw_Ok yX7_ofBid cX7_ofBid 2 (some .int) sM 1 [.int o, .int b] (fun _ => True) (fun w v w1 => v = some (.int (nI (85 + 20 * j + i))) ∧ w1 = w) := by
  refine gw_of (by decide) (Nat.le_of_ble_eq_true rfl) ?_
  intro X w hpre C F
  subst ho; subst hi
  refine g_bipush (v := 85) C (by decide) dX7_ofBid_0 ?_
  refine g_bipush (v := 20) C (by decide) dX7_ofBid_2 ?_
  refine g_iload_n C rfl dX7_ofBid_4 ?_
  refine g_imul C dX7_ofBid_5 ?_
  refine g_iadd C dX7_ofBid_6 ?_
  refine g_iload_n C rfl dX7_ofBid_7 ?_
  refine g_iadd C dX7_ofBid_8 ?_
  refine g_iret C F dX7_ofBid_9 ?_
  exact ⟨by simp only [← nI_add, ← pk_mul]; rfl, rfl⟩

set_option maxHeartbeats 4000000 in
set_option maxRecDepth 100000 in
theorem ok_X7_ofOffer (o b : Int32) (j i : Nat) (ho : o = nI j) (hi : b = nI i) : gw_Ok yX7_ofOffer cX7_ofOffer 2 (some .int) sM 1 [.int o, .int b] (fun _ => True) (fun w v w1 => v = some (.int (nI (206 + 3 * j + i))) ∧ w1 = w) := by
  refine gw_of (by decide) (Nat.le_of_ble_eq_true rfl) ?_
  intro X w hpre C F
  subst ho; subst hi
  refine g_sipush (v := 206) C (by decide) dX7_ofOffer_0 ?_
  refine g_iconst (v := 3) C (by decide) dX7_ofOffer_3 ?_
  refine g_iload_n C rfl dX7_ofOffer_4 ?_
  refine g_imul C dX7_ofOffer_5 ?_
  refine g_iadd C dX7_ofOffer_6 ?_
  refine g_iload_n C rfl dX7_ofOffer_7 ?_
  refine g_iadd C dX7_ofOffer_8 ?_
  refine g_iret C F dX7_ofOffer_9 ?_
  exact ⟨by simp only [← nI_add, ← pk_mul]; rfl, rfl⟩

set_option maxHeartbeats 4000000 in
set_option maxRecDepth 100000 in
theorem ok_X7_isOwner (o : Int32) : gw_Ok yX7_isOwner cX7_isOwner 2 (some .boolean) sM 2 [.ref 0, .int o] (fun _ => True) (fun w v w1 => v = some (.int (cw_in o 0 (w 1 0 - 1))) ∧ w1 = w) := by
  refine gw_of (by decide) (Nat.le_of_ble_eq_true rfl) ?_
  intro X w hpre C F
  refine g_iload_n C rfl dX7_isOwner_0 ?_
  refine g_iconst (v := 0) C (by decide) dX7_isOwner_1 ?_
  refine g_aload_n C rfl dX7_isOwner_2 ?_
  refine g_getr C fl_X7_7 rfl rfl dX7_isOwner_3 ?_
  refine g_iconst (v := 0) C (by decide) dX7_isOwner_6 ?_
  refine g_iald (j := 0) C rfl (rfl) (by decide) (by decide) dX7_isOwner_7 ?_
  refine g_iconst (v := 1) C (by decide) dX7_isOwner_8 ?_
  refine g_isub C dX7_isOwner_9 ?_
  refine g_callS C (ok_X7_in _ _ _) my_X7_in si_X7_40 (by decide) ⟨Nat.le_refl _, Nat.le_refl _⟩ rfl (by decide) dX7_isOwner_10 rfl (trivial) (fun v_10 w_10 hp_10 => ?_)
  obtain ⟨rfl, rfl⟩ := hp_10
  refine g_zret C F (by unfold cw_in; split <;> rfl) dX7_isOwner_13 ?_
  exact ⟨rfl, rfl⟩

set_option maxHeartbeats 4000000 in
set_option maxRecDepth 100000 in
theorem ok_X7_isWeek (k : Int32) : gw_Ok yX7_isWeek cX7_isWeek 1 (some .boolean) sM 2 [.int k] (fun _ => True) (fun w v w1 => v = some (.int (cw_in k 0 19)) ∧ w1 = w) := by
  refine gw_of (by decide) (Nat.le_of_ble_eq_true rfl) ?_
  intro X w hpre C F
  refine g_iload_n C rfl dX7_isWeek_0 ?_
  refine g_iconst (v := 0) C (by decide) dX7_isWeek_1 ?_
  refine g_bipush (v := 19) C (by decide) dX7_isWeek_2 ?_
  refine g_callS C (ok_X7_in _ _ _) my_X7_in si_X7_40 (by decide) ⟨Nat.le_refl _, Nat.le_refl _⟩ rfl (by decide) dX7_isWeek_4 rfl (trivial) (fun v_4 w_4 hp_4 => ?_)
  obtain ⟨rfl, rfl⟩ := hp_4
  refine g_zret C F (by unfold cw_in; split <;> rfl) dX7_isWeek_7 ?_
  exact ⟨rfl, rfl⟩

set_option maxHeartbeats 4000000 in
set_option maxRecDepth 100000 in
theorem ok_X7_areThere (o k : Int32) : gw_Ok yX7_areThere cX7_areThere 3 (some .boolean) sM 3 [.ref 0, .int o, .int k] (fun _ => True) (fun w v w1 => v = some (.int (if cw_in o 0 (w 1 0 - 1) = 0 ∨ cw_in k 0 19 = 0 then 0 else 1)) ∧ w1 = w) := by
  refine gw_of (by decide) (Nat.le_of_ble_eq_true rfl) ?_
  intro X w hpre C F
  refine g_aload_n C rfl dX7_areThere_0 ?_
  refine g_iload_n C rfl dX7_areThere_1 ?_
  refine g_call C (ok_X7_isOwner _) my_X7_isOwner vi_X7_44 (by decide) ⟨Nat.le_refl _, Nat.le_refl _⟩ rfl rfl rfl (by decide) dX7_areThere_2 rfl (trivial) (fun v_2 w_2 hp_2 => ?_)
  obtain ⟨rfl, rfl⟩ := hp_2
  refine g_if_.eq (tgt := 19) C (by decide) dX7_areThere_5 (fun c_5 => ?_) (fun c_5 => ?_)
  · refine g_iconst (v := 0) C (by decide) dX7_areThere_19 ?_
    refine g_zret C F (rfl) dX7_areThere_20 ?_
    exact ⟨by simp_all, rfl⟩
  · refine g_iload_n C rfl dX7_areThere_8 ?_
    refine g_callS C (ok_X7_isWeek _) my_X7_isWeek si_X7_48 (by decide) ⟨Nat.le_refl _, Nat.le_refl _⟩ rfl (by decide) dX7_areThere_9 rfl (trivial) (fun v_9 w_9 hp_9 => ?_)
    obtain ⟨rfl, rfl⟩ := hp_9
    refine g_if_.eq (tgt := 19) C (by decide) dX7_areThere_12 (fun c_12 => ?_) (fun c_12 => ?_)
    · refine g_iconst (v := 0) C (by decide) dX7_areThere_19 ?_
      refine g_zret C F (rfl) dX7_areThere_20 ?_
      exact ⟨by simp_all, rfl⟩
    · refine g_iconst (v := 1) C (by decide) dX7_areThere_15 ?_
      refine g_goto (tgt := 20) C (by decide) dX7_areThere_16 ?_
      refine g_zret C F (rfl) dX7_areThere_20 ?_
      exact ⟨by simp_all, rfl⟩

set_option maxHeartbeats 4000000 in
set_option maxRecDepth 100000 in
theorem lp_X7_held {X : gw_X} (C : gw_ok X RX7 cX7_held 4 2 0 0) {w : gw_M} (o : Int32) : ∀ (n i : Nat) (x : Int32), i + n = 20 → (gw_G X sM 4 0 0 38 [(2, .int (cw_fold (fun k x => if w 1 (25 + 3 * k + 2) = o then x + 1 else x) i n x))] [] w) → gw_G X sM 4 0 0 4 [(0, .ref 0), (1, .int o), (2, .int x), (3, .int (nI i))] [] w := by
  intro n
  induction n with
  | zero =>
    intro i x hi K
    obtain rfl : i = 20 := by omega
    refine g_iload_n C rfl dX7_held_4 ?_
    refine g_bipush (v := 20) C (by decide) dX7_held_5 ?_
    refine g_cmp_.ge (tgt := 38) C (by decide) dX7_held_7 (fun c_7 => ?_) (fun c_7 => absurd (by decide) c_7)
    exact g_sub rfl K
  | succ n ih =>
    intro i x hi K
    have hi20 : i < 20 := by omega
    refine g_iload_n C rfl dX7_held_4 ?_
    refine g_bipush (v := 20) C (by decide) dX7_held_5 ?_
    refine g_cmp_.ge (tgt := 38) C (by decide) dX7_held_7 (fun c_7 => absurd c_7 (nI_ge hi20 (by decide))) (fun c_7 => ?_)
    refine g_iload_n C rfl dX7_held_10 ?_
    refine g_aload_n C rfl dX7_held_11 ?_
    refine g_getr C fl_X7_7 rfl rfl dX7_held_12 ?_
    refine g_iload_n C rfl dX7_held_15 ?_
    refine g_iconst (v := 2) C (by decide) dX7_held_16 ?_
    refine g_callS C (ok_X7_ofWeek (i := 2) _ _ _ _ (by first | rfl | assumption) rfl) my_X7_ofWeek si_X7_36 (by decide) ⟨Nat.le_refl _, Nat.le_refl _⟩ rfl (by decide) dX7_held_17 rfl (trivial) (fun v_17 w_17 hp_17 => ?_)
    obtain ⟨rfl, rfl⟩ := hp_17
    refine g_iald C rfl (by first | rfl | assumption | (simp only [nI_add, pk_mul, *]; done)) (by first | assumption | omega) (by decide) dX7_held_20 ?_
    refine g_iload_n C rfl dX7_held_21 ?_
    refine g_cmp_.ne (tgt := 29) C (by decide) dX7_held_22 (fun c_22 => ?_) (fun c_22 => ?_)
    · refine g_iconst (v := 0) C (by decide) dX7_held_29 ?_
      refine g_iadd C dX7_held_30 ?_
      refine g_istore_n C (by decide) dX7_held_31 ?_
      refine g_iinc (v := nI (i + 1)) C rfl (nI_1 i) (by decide) dX7_held_32 ?_
      refine g_goto (tgt := 4) C (by decide) dX7_held_35 ?_
      exact g_sub rfl (ih (i + 1) _ (by omega) (by simpa [cw_fold, c_22] using K))
    · refine g_iconst (v := 1) C (by decide) dX7_held_25 ?_
      refine g_goto (tgt := 30) C (by decide) dX7_held_26 ?_
      refine g_iadd C dX7_held_30 ?_
      refine g_istore_n C (by decide) dX7_held_31 ?_
      refine g_iinc (v := nI (i + 1)) C rfl (nI_1 i) (by decide) dX7_held_32 ?_
      refine g_goto (tgt := 4) C (by decide) dX7_held_35 ?_
      exact g_sub rfl (ih (i + 1) _ (by omega) (by simpa [cw_fold, c_22] using K))

set_option maxHeartbeats 4000000 in
set_option maxRecDepth 100000 in
theorem ok_X7_held (o : Int32) : gw_Ok yX7_held cX7_held 4 (some .int) sM 2 [.ref 0, .int o] (fun _ => True) (fun w v w1 => v = some (.int (cw_held (w 1) o)) ∧ w1 = w) := by
  refine gw_of (by decide) (Nat.le_of_ble_eq_true rfl) ?_
  intro X w hpre C F
  refine g_iconst (v := 0) C (by decide) dX7_held_0 ?_
  refine g_istore_n C (by decide) dX7_held_1 ?_
  refine g_iconst (v := 0) C (by decide) dX7_held_2 ?_
  refine g_istore_n C (by decide) dX7_held_3 ?_
  refine g_sub rfl (lp_X7_held C o 20 0 0 rfl ?_)
  refine g_iload_n C rfl dX7_held_38 ?_
  refine g_iret C F dX7_held_39 ?_
  exact ⟨rfl, rfl⟩

