/-! THE TEXT OF THE CLASS: its cells: itself, signs, values -/
def sT : gw_S := (3, fun i => match i with
  | 0 => .inr (3, [some 1, none, none, none, some 2, none])
  | 1 => .inl (2, 120, fun j => j)
  | _ => .inl (0, 3, fun j => j))

def cw_TX (tx : Nat → Int32) (len : Nat) (w : gw_M) : Prop := w 0 1 = nI len ∧ len ≤ 120 ∧ ∀ i, i < len → w 1 i = tx i
def cw_TS (tx : Nat → Int32) (len : Nat) (g : cw_sg) (w : gw_M) : Prop := cw_TX tx len w ∧ w 0 2 = nI g.2 ∧ w 0 3 = cw_bi g.1 ∧ g.2 ≤ 120
noncomputable def cw_sgn (tx : Nat → Int32) (len p : Nat) : Int32 := cw_if (p < len) (tx p) (-1)
theorem cw_TX.set {tx : Nat → Int32} {len : Nat} {w : gw_M} (h : cw_TX tx len w) {k : Nat} {x : Int32} (hk : k ≠ 1) : cw_TX tx len (gw_set w 0 k x) :=
  ⟨by rw [gw_set_self, cw_upn _ _ (Ne.symm hk)]; exact h.1, h.2.1, fun i hi => by rw [gw_set_ne _ _ _ _ (by decide)]; exact h.2.2 i hi⟩
theorem cw_TX.cg {tx : Nat → Int32} {len : Nat} {w w1 : gw_M} (h : cw_TX tx len w) (h1 : w1 1 = w 1) (h2 : w1 0 1 = w 0 1) : cw_TX tx len w1 := ⟨h2.trans h.1, h.2.1, fun i hi => by rw [h1]; exact h.2.2 i hi⟩
theorem cw_nle {a b : Nat} (ha : a < 1000) (hb : b < 1000) : nI a ≤ nI b ↔ a ≤ b := by rw [cw_le, cw_ni ha, cw_ni hb]; omega
theorem cw_nlt {a b : Nat} (ha : a < 1000) (hb : b < 1000) : nI a < nI b ↔ a < b := by rw [cw_lt, cw_ni ha, cw_ni hb]; omega

theorem cw_bi0 {b : Bool} (h : cw_bi b = 0) : b = false := by
  cases b
  · rfl
  · exact absurd h (by decide)

set_option maxHeartbeats 8000000 in
set_option maxRecDepth 100000 in
theorem ok_X5_isFull {len : Nat} : gw_Ok yX5_isFull cX5_isFull 1 (some .boolean) sT 1 [.ref 0] (fun w => w 0 1 = nI len ∧ len ≤ 120) (fun w vr w1 => vr = some (.int (cw_b (120 ≤ len))) ∧ w1 = w) := by
  refine gw_of (by decide) (Nat.le_of_ble_eq_true rfl) ?_
  intro X w h C F
  refine g_aload_n C rfl dX5_isFull_0 ?_
  refine g_getf C fl_X5_19 rfl rfl dX5_isFull_1 ?_
  refine g_top h.1 ?_
  refine g_bipush (v := 120) C (by decide) dX5_isFull_4 ?_
  refine g_cmp_lt (tgt := 13) C (by decide) dX5_isFull_6 (fun c_6 => ?_) (fun c_6 => ?_)
  · refine g_iconst (v := 0) C (by decide) dX5_isFull_13 ?_
    refine g_zret C F (rfl) dX5_isFull_14 ?_
    exact ⟨cw_q0 (fun q => absurd c_6 (Int32.not_lt.mpr (show nI 120 ≤ nI len from (cw_nle (by omega) (by omega)).mpr q))), rfl⟩
  · refine g_iconst (v := 1) C (by decide) dX5_isFull_9 ?_
    refine g_goto (tgt := 14) C (by decide) dX5_isFull_10 ?_
    refine g_zret C F (rfl) dX5_isFull_14 ?_
    exact ⟨cw_q1 ((cw_nle (a := 120) (by omega) (by omega)).mp (Int32.not_lt.mp c_6)), rfl⟩

set_option maxHeartbeats 8000000 in
set_option maxRecDepth 100000 in
theorem ok_X5_empty {tx : Nat → Int32} {len : Nat} : gw_Ok yX5_empty cX5_empty 2 (some .int) sT 1 [.ref 0] (fun w => cw_TX tx len w) (fun w vr w1 => vr = some (.int (nI len)) ∧ cw_TX tx 0 w1) := by
  refine gw_of (by decide) (Nat.le_of_ble_eq_true rfl) ?_
  intro X w h C F
  refine g_aload_n C rfl dX5_empty_0 ?_
  refine g_getf C fl_X5_19 rfl rfl dX5_empty_1 ?_
  refine g_top h.1 ?_
  refine g_istore_n C (by decide) dX5_empty_4 ?_
  refine g_aload_n C rfl dX5_empty_5 ?_
  refine g_iconst (v := 0) C (by decide) dX5_empty_6 ?_
  refine g_putf C fl_X5_19 fp_3_1 rfl rfl (rfl) (rfl) dX5_empty_7 ?_
  refine g_iload_n C rfl dX5_empty_10 ?_
  refine g_iret C F dX5_empty_11 ?_
  exact ⟨rfl, by rw [gw_set_self, cw_ups]; rfl, Nat.zero_le _, fun i hi => absurd hi (Nat.not_lt_zero _)⟩

set_option maxHeartbeats 8000000 in
set_option maxRecDepth 100000 in
theorem ok_X5_add {tx : Nat → Int32} {len : Nat} (c : Int32) (hc : vp_nar .char c = c) (hl : len < 120) : gw_Ok yX5_add cX5_add 2 (some .int) sT 2 [.ref 0, .int c] (fun w => cw_TX tx len w) (fun w vr w1 => vr = some (.int (nI (len + 1))) ∧ cw_TX (upd tx len c) (len + 1) w1) := by
  refine gw_of (by decide) (Nat.le_of_ble_eq_true rfl) ?_
  intro X w h C F
  refine g_aload_n C rfl dX5_add_0 ?_
  refine g_call C (ok_X5_isFull (len := len)) my_X5_isFull vi_X5_23 (by decide) ⟨Nat.le_refl _, Nat.le_refl _⟩ rfl rfl rfl (Nat.le_of_ble_eq_true rfl) dX5_add_1 rfl (⟨h.1, h.2.1⟩) (fun v_1 w_1 hp_1 => ?_)
  obtain ⟨rfl, hw_1⟩ := hp_1
  have hw_1 := hw_1.symm; subst hw_1
  refine g_if_ne (tgt := 27) C (by decide) dX5_add_4 (fun c_4 => absurd c_4 (fun q => q (cw_bf (by omega)))) (fun c_4 => ?_)
  refine g_aload_n C rfl dX5_add_7 ?_
  refine g_getr C fl_X5_9 rfl rfl dX5_add_8 ?_
  refine g_aload_n C rfl dX5_add_11 ?_
  refine g_getf C fl_X5_19 rfl rfl dX5_add_12 ?_
  refine g_top h.1 ?_
  refine g_iload_n C rfl dX5_add_15 ?_
  refine g_cast (j := len) C rfl (rfl) (hl) (by decide) (hc) dX5_add_16 ?_
  refine g_aload_n C rfl dX5_add_17 ?_
  refine g_dup C rfl dX5_add_18 ?_
  refine g_getf C fl_X5_19 rfl rfl dX5_add_19 ?_
  refine g_top (show _ = nI len by rw [gw_set_ne _ _ _ _ (by decide)]; exact h.1) ?_
  refine g_iconst (v := 1) C (by decide) dX5_add_22 ?_
  refine g_iadd C dX5_add_23 ?_
  refine g_top (nI_1 len) ?_
  refine g_putf C fl_X5_19 fp_3_1 rfl rfl (rfl) (rfl) dX5_add_24 ?_
  refine g_aload_n C rfl dX5_add_27 ?_
  refine g_getf C fl_X5_19 rfl rfl dX5_add_28 ?_
  refine g_top (show _ = nI (len + 1) by rw [gw_set_self, cw_ups]) ?_
  refine g_iret C F dX5_add_31 ?_
  refine ⟨rfl, by rw [gw_set_self, cw_ups], by omega, fun i hi => ?_⟩
  rw [gw_set_ne _ _ _ _ (by decide), gw_set_self]
  by_cases q : i = len
  · rw [q, cw_ups, cw_ups]
  · rw [cw_upn _ _ q, cw_upn _ _ q]; exact h.2.2 i (by omega)

set_option maxHeartbeats 8000000 in
set_option maxRecDepth 100000 in
theorem ok_X5_nextSign {tx : Nat → Int32} {len : Nat} (p : Nat) : gw_Ok yX5_nextSign cX5_nextSign 1 (some .int) sT 1 [.ref 0] (fun w => cw_TX tx len w ∧ w 0 2 = nI p ∧ p ≤ 120) (fun w vr w1 => vr = some (.int (cw_sgn tx len p)) ∧ w1 = w) := by
  refine gw_of (by decide) (Nat.le_of_ble_eq_true rfl) ?_
  intro X w h C F
  obtain ⟨h, hp, hp2⟩ := h
  have h12 := h.2.1
  refine g_aload_n C rfl dX5_nextSign_0 ?_
  refine g_getf C fl_X5_41 rfl rfl dX5_nextSign_1 ?_
  refine g_top hp ?_
  refine g_aload_n C rfl dX5_nextSign_4 ?_
  refine g_getf C fl_X5_19 rfl rfl dX5_nextSign_5 ?_
  refine g_top h.1 ?_
  refine g_cmp_ge (tgt := 32) C (by decide) dX5_nextSign_8 (fun c_8 => ?_) (fun c_8 => ?_)
  · refine g_iconst (v := (-1)) C (by decide) dX5_nextSign_32 ?_
    refine g_iret C F dX5_nextSign_33 ?_
    exact ⟨by rw [cw_sgn, cw_ie (by have z := (cw_nle (a := len) (b := p) (by omega) (by omega)).mp c_8; omega)], rfl⟩
  · refine g_aload_n C rfl dX5_nextSign_11 ?_
    refine g_getf C fl_X5_41 rfl rfl dX5_nextSign_12 ?_
    refine g_top hp ?_
    refine g_bipush (v := 120) C (by decide) dX5_nextSign_15 ?_
    refine g_cmp_ge (tgt := 32) C (by decide) dX5_nextSign_17 (fun c_17 => absurd c_17 (fun q => by have z := (cw_nle (a := 120) (b := p) (by omega) (by omega)).mp q; have y : p < len := Nat.lt_of_not_le (fun q => c_8 ((cw_nle (a := len) (b := p) (by omega) (by omega)).mpr q)); omega)) (fun c_17 => ?_)
    refine g_aload_n C rfl dX5_nextSign_20 ?_
    refine g_getr C fl_X5_9 rfl rfl dX5_nextSign_21 ?_
    refine g_aload_n C rfl dX5_nextSign_24 ?_
    refine g_getf C fl_X5_41 rfl rfl dX5_nextSign_25 ?_
    refine g_top hp ?_
    refine g_cald (j := p) C rfl (rfl) (by have y : p < len := Nat.lt_of_not_le (fun q => c_8 ((cw_nle (a := len) (b := p) (by omega) (by omega)).mpr q)); omega) (by decide) dX5_nextSign_28 ?_
    refine g_goto (tgt := 33) C (by decide) dX5_nextSign_29 ?_
    refine g_iret C F dX5_nextSign_33 ?_
    have hpl : p < len := by have y : p < len := Nat.lt_of_not_le (fun q => c_8 ((cw_nle (a := len) (b := p) (by omega) (by omega)).mpr q)); omega
    exact ⟨by rw [cw_sgn, cw_it hpl, h.2.2 p hpl], rfl⟩

set_option maxHeartbeats 8000000 in
set_option maxRecDepth 100000 in
theorem ok_X5_hasMore {tx : Nat → Int32} {len : Nat} (g : cw_sg) : gw_Ok yX5_hasMore cX5_hasMore 1 (some .boolean) sT 1 [.ref 0] (fun w => cw_TS tx len g w) (fun w vr w1 => vr = some (.int (cw_b (g.1 = false ∧ g.2 < len))) ∧ w1 = w) := by
  refine gw_of (by decide) (Nat.le_of_ble_eq_true rfl) ?_
  intro X w h C F
  obtain ⟨h, hp, hg, hp2⟩ := h
  have h12 := h.2.1
  refine g_aload_n C rfl dX5_hasMore_0 ?_
  refine g_getf C fl_X5_37 rfl rfl dX5_hasMore_1 ?_
  refine g_top hg ?_
  refine g_if_ne (tgt := 22) C (by decide) dX5_hasMore_4 (fun c_4 => ?_) (fun c_4 => ?_)
  · refine g_iconst (v := 0) C (by decide) dX5_hasMore_22 ?_
    refine g_zret C F (rfl) dX5_hasMore_23 ?_
    exact ⟨cw_q0 (fun q => c_4 (by rw [q.1]; rfl)), rfl⟩
  · refine g_aload_n C rfl dX5_hasMore_7 ?_
    refine g_getf C fl_X5_41 rfl rfl dX5_hasMore_8 ?_
    refine g_top hp ?_
    refine g_aload_n C rfl dX5_hasMore_11 ?_
    refine g_getf C fl_X5_19 rfl rfl dX5_hasMore_12 ?_
    refine g_top h.1 ?_
    refine g_cmp_ge (tgt := 22) C (by decide) dX5_hasMore_15 (fun c_15 => ?_) (fun c_15 => ?_)
    · refine g_iconst (v := 0) C (by decide) dX5_hasMore_22 ?_
      refine g_zret C F (rfl) dX5_hasMore_23 ?_
      exact ⟨cw_q0 (fun q => by have z := (cw_nle (a := len) (b := g.2) (by omega) (by omega)).mp c_15; omega), rfl⟩
    · refine g_iconst (v := 1) C (by decide) dX5_hasMore_18 ?_
      refine g_goto (tgt := 23) C (by decide) dX5_hasMore_19 ?_
      refine g_zret C F (rfl) dX5_hasMore_23 ?_
      have hpl : g.2 < len := by have y : g.2 < len := Nat.lt_of_not_le (fun q => c_15 ((cw_nle (a := len) (b := g.2) (by omega) (by omega)).mpr q)); omega
      exact ⟨cw_q1 ⟨cw_bi0 c_4, hpl⟩, rfl⟩

set_option maxHeartbeats 8000000 in
set_option maxRecDepth 100000 in
theorem ok_X5_keepValue {tx : Nat → Int32} {len : Nat} (v : Int32) (c : Nat) (hc : c < 3) : gw_Ok yX5_keepValue cX5_keepValue 2 none sT 1 [.ref 0, .int v] (fun w => w 0 5 = nI c) (fun w vr w1 => vr = none ∧ w1 = gw_set (gw_set w 2 c v) 0 5 (nI (c + 1))) := by
  refine gw_of (by decide) (Nat.le_of_ble_eq_true rfl) ?_
  intro X w h C F
  refine g_aload_n C rfl dX5_keepValue_0 ?_
  refine g_getf C fl_X5_51 rfl rfl dX5_keepValue_1 ?_
  refine g_top h ?_
  refine g_aload_n C rfl dX5_keepValue_4 ?_
  refine g_getr C fl_X5_15 rfl rfl dX5_keepValue_5 ?_
  refine g_alen (v := 3) C rfl (by decide) rfl dX5_keepValue_8 ?_
  refine g_cmp_ge (tgt := 32) C (by decide) dX5_keepValue_9 (fun c_9 => absurd c_9 (fun q => by have z := (cw_nle (a := 3) (b := c) (by omega) (by omega)).mp q; omega)) (fun c_9 => ?_)
  refine g_aload_n C rfl dX5_keepValue_12 ?_
  refine g_getr C fl_X5_15 rfl rfl dX5_keepValue_13 ?_
  refine g_aload_n C rfl dX5_keepValue_16 ?_
  refine g_getf C fl_X5_51 rfl rfl dX5_keepValue_17 ?_
  refine g_top h ?_
  refine g_iload_n C rfl dX5_keepValue_20 ?_
  refine g_iast (j := c) C rfl (rfl) (hc) (by decide) dX5_keepValue_21 ?_
  refine g_aload_n C rfl dX5_keepValue_22 ?_
  refine g_dup C rfl dX5_keepValue_23 ?_
  refine g_getf C fl_X5_51 rfl rfl dX5_keepValue_24 ?_
  refine g_top (show _ = nI c by rw [gw_set_ne _ _ _ _ (by decide)]; exact h) ?_
  refine g_iconst (v := 1) C (by decide) dX5_keepValue_27 ?_
  refine g_iadd C dX5_keepValue_28 ?_
  refine g_top (nI_1 c) ?_
  refine g_putf C fl_X5_51 fp_3_5 rfl rfl (rfl) (rfl) dX5_keepValue_29 ?_
  refine g_vret C F dX5_keepValue_32 ?_
  exact ⟨rfl, rfl⟩

