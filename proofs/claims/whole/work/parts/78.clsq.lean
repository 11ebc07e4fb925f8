/-! THE FACE OF THE CLASS: text, settings, what is remembered and saved -/
theorem cw_c16 {c : Int32} (h : 0 ≤ c ∧ c ≤ 255) : (c.toUInt32 % 65536).toInt32 = c ∧ vp_nar .char c = c ∧ cw_r 0 255 c := by
  obtain ⟨j, hj, rfl⟩ : ∃ j, j < 256 ∧ c = nI j := by
    have a := cw_le.mp h.1
    have b := cw_le.mp h.2
    have z0 : (0 : Int32).toInt = 0 := rfl
    have z1 : (255 : Int32).toInt = 255 := rfl
    refine ⟨c.toInt.toNat, by omega, ?_⟩
    apply Int32.toInt_inj.mp
    rw [cw_ni (by omega)]; omega
  have k1 : ∀ j : Fin 256, ((nI j.val).toUInt32 % 65536).toInt32 = nI j.val := by decide +kernel
  have k2 : ∀ j : Fin 256, vp_nar .char (nI j.val) = nI j.val := by decide +kernel
  exact ⟨k1 ⟨j, hj⟩, k2 ⟨j, hj⟩, j, Nat.zero_le _, by omega, rfl⟩
theorem cw_b120 {len : Nat} (h : len ≤ 120) (hf : ¬ nI len = 120) : len < 120 := Nat.lt_of_le_of_ne h (fun q => hf (by rw [q]; rfl))
/-- text and present house written back -/
def cw_wpTH (w w1 : gw_M) : gw_M := fun j => if 257 ≤ j ∧ j < 260 then w1 (j - 257) else if j < 14 then w1 (j + 3) else w j
def cw_w0TH (w : gw_M) : gw_M := fun i => w (if i < 3 then 257 + i else 14 * 0 + (i - 3))
theorem cw_wpTH_i {w : gw_M} : ∀ (w1 : gw_M) (i : Nat), i < 17 → cw_wpTH w w1 (if i < 3 then 257 + i else 14 * 0 + (i - 3)) = w1 i := fun w1 i hi => by
  unfold cw_wpTH
  by_cases c : i < 3
  · rw [if_pos c, if_pos (by omega), Nat.add_sub_cancel_left]
  · rw [if_neg c, if_neg (by omega), if_pos (by omega), show 14 * 0 + (i - 3) + 3 = i by omega]
theorem cw_wpTH_o {w : gw_M} {N : Nat} : ∀ (w1 : gw_M) (j : Nat), j < N → (∀ i, i < 17 → (if i < 3 then 257 + i else 14 * 0 + (i - 3)) ≠ j) → cw_wpTH w w1 j = w j := fun w1 j _ h => by
  unfold cw_wpTH
  rw [if_neg, if_neg]
  · intro q
    have := h (j + 3) (by omega)
    rw [if_neg (by omega)] at this; omega
  · intro q
    have := h (j - 257) (by omega)
    rw [if_pos (by omega)] at this; omega

set_option maxHeartbeats 8000000 in
set_option maxRecDepth 100000 in
theorem ok_X6_append (A : cw_A) {n m : Nat} (hA : cw_IA n m A) (c : Int32) (hc : 0 ≤ c ∧ c ≤ 255) (hf : ¬ nI A.2.2.2.1 = 120) : gw_Ok yX6_append cX6_append 2 (some .int) sC 5 [.ref 252, .int c] (fun w => cw_RC A w) (fun _ vr w1 => vr = some (.int (nI (A.2.2.2.1 + 1))) ∧ cw_RC ((A.1, A.2.1, A.2.2.1, (A.2.2.2.1 + 1, upd A.2.2.2.2 A.2.2.2.1 c))) w1) := by
  refine gw_of (by decide) (Nat.le_of_ble_eq_true rfl) ?_
  intro X w h C F
  have hw := h
  have e := hw.eq
  have hI := hA.1
  have hIt := cw_I_cg hI e
  have h6 := hI.m.2
  have hlen := cw_b120 hw.2.2.2.2.1 hf
  refine g_aload_n C rfl dX6_append_0 ?_
  refine g_iload_n C rfl dX6_append_1 ?_
  refine g_iconst (v := 0) C (by decide) dX6_append_2 ?_
  refine g_sipush (v := 255) C (by decide) dX6_append_3 ?_
  refine g_call C (ok_X6_needRange c 0 255 hc) my_X6_needRange vi_X6_48 (by decide) ⟨Nat.le_refl _, Nat.le_refl _⟩ rfl rfl rfl (Nat.le_of_ble_eq_true rfl) dX6_append_6 rfl (trivial) (fun v_6 w_6 hp_6 => ?_)
  obtain ⟨rfl, hw_6⟩ := hp_6
  have hw_6 := hw_6.symm; subst hw_6
  refine g_aload_n C rfl dX6_append_9 ?_
  refine g_getr C fl_X6_37 rfl rfl dX6_append_10 ?_
  refine g_callW C cw_emb_CT (ok_X5_isFull (len := A.2.2.2.1)) my_X5_isFull vi_X6_52 (by decide) ⟨Nat.le_refl _, Nat.le_refl _⟩ rfl ((cw_emb_CT.1 0 (by decide))) rfl (cw_wp 257 3 w) (cw_wp_i) (cw_wp_o) (cw_ws 257 w) (fun i _ => rfl) (Nat.le_of_ble_eq_true rfl) dX6_append_13 rfl (⟨hw.tx.1, hw.tx.2.1⟩) (fun v_13 w_13 hp_13 => ?_)
  obtain ⟨rfl, hw_13⟩ := hp_13
  have hw_13 := hw_13.symm; subst hw_13
  rw [cw_wp_ws]
  refine g_if_eq (tgt := 29) C (by decide) dX6_append_16 (fun c_16 => ?_) (fun c_16 => absurd (cw_bf (by omega)) c_16)
  refine g_aload_n C rfl dX6_append_29 ?_
  refine g_getr C fl_X6_37 rfl rfl dX6_append_30 ?_
  refine g_iload_n C rfl dX6_append_33 ?_
  refine g_i2c C ((cw_c16 hc).1) dX6_append_34 ?_
  refine g_callW C cw_emb_CT (ok_X5_add (tx := A.2.2.2.2) (len := A.2.2.2.1) c (cw_c16 hc).2.1 hlen) my_X5_add vi_X6_63 (by decide) ⟨Nat.le_refl _, Nat.le_refl _⟩ rfl ((cw_emb_CT.1 0 (by decide))) rfl (cw_wp 257 3 w) (cw_wp_i) (cw_wp_o) (cw_ws 257 w) (fun i _ => rfl) (Nat.le_of_ble_eq_true rfl) dX6_append_35 rfl (hw.tx) (fun v_35 w_35 hp_35 => ?_)
  obtain ⟨rfl, hx35⟩ := hp_35
  refine g_iret C F dX6_append_38 ?_
  exact ⟨rfl, hw.text hx35⟩

set_option maxHeartbeats 8000000 in
set_option maxRecDepth 100000 in
theorem thr_X6_append_1 (A : cw_A) {n m : Nat} (hA : cw_IA n m A) (c : Int32) (hc : ¬ (0 ≤ c ∧ c ≤ 255)) : gw_Thr yX6_append cX6_append 2 (some .int) sC 8 [.ref 252, .int c] (fun w => cw_RC A w) "java/lang/IllegalArgumentException" (fun w w1 => w1 = w) := by
  refine gw_ofT (by decide) (Nat.le_of_ble_eq_true rfl) ?_
  intro X w h C F
  have hw := h
  have e := hw.eq
  have hI := hA.1
  have hIt := cw_I_cg hI e
  have h6 := hI.m.2
  refine g_aload_n C rfl dX6_append_0 ?_
  refine g_iload_n C rfl dX6_append_1 ?_
  refine g_iconst (v := 0) C (by decide) dX6_append_2 ?_
  refine g_sipush (v := 255) C (by decide) dX6_append_3 ?_
  exact g_callT C F (gw_emb_id sC) (thr_X6_needRange c 0 255 hc) my_X6_needRange vi_X6_48 (by decide) rfl (rfl) rfl ((fun w1 => w1)) (fun _ _ _ => rfl) (fun w1 j hj h => absurd rfl (h j hj)) (w) (fun _ _ => rfl) (Nat.le_of_ble_eq_true rfl) dX6_append_6 rfl (trivial) (fun w1 hw => hw)

set_option maxHeartbeats 8000000 in
set_option maxRecDepth 100000 in
theorem thr_X6_append_2 (A : cw_A) {n m : Nat} (hA : cw_IA n m A) (c : Int32) (hc : 0 ≤ c ∧ c ≤ 255) (hf : nI A.2.2.2.1 = 120) : gw_Thr yX6_append cX6_append 2 (some .int) sC 8 [.ref 252, .int c] (fun w => cw_RC A w) "java/lang/IllegalStateException" (fun w w1 => w1 = w) := by
  refine gw_ofT (by decide) (Nat.le_of_ble_eq_true rfl) ?_
  intro X w h C F
  have hw := h
  have e := hw.eq
  have hI := hA.1
  have hIt := cw_I_cg hI e
  have h6 := hI.m.2
  have hl120 : A.2.2.2.1 = 120 := (nI_eq (by have := hw.2.2.2.2.1; omega) (by decide)).mp hf
  refine g_aload_n C rfl dX6_append_0 ?_
  refine g_iload_n C rfl dX6_append_1 ?_
  refine g_iconst (v := 0) C (by decide) dX6_append_2 ?_
  refine g_sipush (v := 255) C (by decide) dX6_append_3 ?_
  refine g_call C (ok_X6_needRange c 0 255 hc) my_X6_needRange vi_X6_48 (by decide) ⟨Nat.zero_le _, Nat.zero_le _⟩ rfl rfl rfl (Nat.le_of_ble_eq_true rfl) dX6_append_6 rfl (trivial) (fun v_6 w_6 hp_6 => ?_)
  obtain ⟨rfl, hw_6⟩ := hp_6
  have hw_6 := hw_6.symm; subst hw_6
  refine g_aload_n C rfl dX6_append_9 ?_
  refine g_getr C fl_X6_37 rfl rfl dX6_append_10 ?_
  refine g_callW C cw_emb_CT (ok_X5_isFull (len := A.2.2.2.1)) my_X5_isFull vi_X6_52 (by decide) ⟨Nat.zero_le _, Nat.zero_le _⟩ rfl ((cw_emb_CT.1 0 (by decide))) rfl (cw_wp 257 3 w) (cw_wp_i) (cw_wp_o) (cw_ws 257 w) (fun i _ => rfl) (Nat.le_of_ble_eq_true rfl) dX6_append_13 rfl (⟨hw.tx.1, hw.tx.2.1⟩) (fun v_13 w_13 hp_13 => ?_)
  obtain ⟨rfl, hw_13⟩ := hp_13
  have hw_13 := hw_13.symm; subst hw_13
  rw [cw_wp_ws]
  refine g_if_eq (tgt := 29) C (by decide) dX6_append_16 (fun c_16 => absurd c_16 (fun z => absurd z (by rw [cw_b1 (by rw [hl120]; exact Nat.le_refl _)]; decide))) (fun c_16 => ?_)
  exact g_throw C F tw_ISE (List.mem_of_getElem? (i := 19) rfl) (by decide) (Nat.le_of_ble_eq_true rfl) dX6_append_19 dX6_append_22 dX6_append_23 dX6_append_25 dX6_append_28 (rfl)

set_option maxHeartbeats 8000000 in
set_option maxRecDepth 100000 in
theorem ok_X6_clearText (A : cw_A) {n m : Nat} (hA : cw_IA n m A) : gw_Ok yX6_clearText cX6_clearText 1 (some .int) sC 3 [.ref 252] (fun w => cw_RC A w) (fun _ vr w1 => vr = some (.int (nI A.2.2.2.1)) ∧ cw_RC ((A.1, A.2.1, A.2.2.1, (0, A.2.2.2.2))) w1) := by
  refine gw_of (by decide) (Nat.le_of_ble_eq_true rfl) ?_
  intro X w h C F
  have hw := h
  have e := hw.eq
  have hI := hA.1
  have hIt := cw_I_cg hI e
  have h6 := hI.m.2
  refine g_aload_n C rfl dX6_clearText_0 ?_
  refine g_getr C fl_X6_37 rfl rfl dX6_clearText_1 ?_
  refine g_callW C cw_emb_CT (ok_X5_empty (tx := A.2.2.2.2) (len := A.2.2.2.1)) my_X5_empty vi_X6_67 (by decide) ⟨Nat.le_refl _, Nat.le_refl _⟩ rfl ((cw_emb_CT.1 0 (by decide))) rfl (cw_wp 257 3 w) (cw_wp_i) (cw_wp_o) (cw_ws 257 w) (fun i _ => rfl) (Nat.le_of_ble_eq_true rfl) dX6_clearText_4 rfl (hw.tx) (fun v_4 w_4 hp_4 => ?_)
  obtain ⟨rfl, hx4⟩ := hp_4
  refine g_iret C F dX6_clearText_7 ?_
  exact ⟨rfl, hw.text hx4⟩

set_option maxHeartbeats 8000000 in
set_option maxRecDepth 100000 in
theorem ok_X6_errorPosition (A : cw_A) {n m : Nat} (hA : cw_IA n m A) : gw_Ok yX6_errorPosition cX6_errorPosition 1 (some .int) sC 8 [.ref 252] (fun w => cw_RC A w) (fun _ vr w1 => vr = some (.int (if (cw_parse A.2.2.2.2 A.2.2.2.1 120).1 = true then nI (cw_parse A.2.2.2.2 A.2.2.2.1 120).2 else -1)) ∧ cw_RC (A) w1) := by
  refine gw_of (by decide) (Nat.le_of_ble_eq_true rfl) ?_
  intro X w h C F
  have hw := h
  have e := hw.eq
  have hI := hA.1
  have hIt := cw_I_cg hI e
  have h6 := hI.m.2
  have hch : cw_ch A.2.2.2.2 A.2.2.2.1 := hA.2.2.2.2.2
  refine g_aload_n C rfl dX6_errorPosition_0 ?_
  refine g_getr C fl_X6_37 rfl rfl dX6_errorPosition_1 ?_
  refine g_callW C cw_emb_CT (ok_X5_findError (tx := A.2.2.2.2) (len := A.2.2.2.1) hch) my_X5_findError vi_X6_71 (by decide) ⟨Nat.le_refl _, Nat.le_refl _⟩ rfl ((cw_emb_CT.1 0 (by decide))) rfl (cw_wp 257 3 w) (cw_wp_i) (cw_wp_o) (cw_ws 257 w) (fun i _ => rfl) (Nat.le_of_ble_eq_true rfl) dX6_errorPosition_4 rfl (hw.tx) (fun v_4 w_4 hp_4 => ?_)
  obtain ⟨rfl, hx4, h14⟩ := hp_4
  refine g_iret C F dX6_errorPosition_7 ?_
  exact ⟨rfl, hw.text hx4⟩

set_option maxHeartbeats 8000000 in
set_option maxRecDepth 100000 in
theorem thr_X6_load_1 (A : cw_A) {n m : Nat} (hA : cw_IA n m A) (hc : (cw_parse A.2.2.2.2 A.2.2.2.1 120).1 = true) : gw_Thr yX6_load cX6_load 2 (some .int) sC 8 [.ref 252] (fun w => cw_RC A w) "java/lang/IllegalStateException" (fun _ w1 => cw_RC A w1) := by
  refine gw_ofT (by decide) (Nat.le_of_ble_eq_true rfl) ?_
  intro X w h C F
  have hw := h
  have e := hw.eq
  have hI := hA.1
  have hIt := cw_I_cg hI e
  have h6 := hI.m.2
  have hch : cw_ch A.2.2.2.2 A.2.2.2.1 := hA.2.2.2.2.2
  refine g_aload_n C rfl dX6_load_0 ?_
  refine g_getr C fl_X6_37 rfl rfl dX6_load_1 ?_
  refine g_callW C cw_emb_CT (ok_X5_findError (tx := A.2.2.2.2) (len := A.2.2.2.1) hch) my_X5_findError vi_X6_71 (by decide) ⟨Nat.zero_le _, Nat.zero_le _⟩ rfl ((cw_emb_CT.1 0 (by decide))) rfl (cw_wp 257 3 w) (cw_wp_i) (cw_wp_o) (cw_ws 257 w) (fun i _ => rfl) (Nat.le_of_ble_eq_true rfl) dX6_load_4 rfl (hw.tx) (fun v_4 w_4 hp_4 => ?_)
  obtain ⟨rfl, hx4, h14⟩ := hp_4
  rw [if_pos hc]
  refine g_iconst (v := (-1)) C (by decide) dX6_load_7 ?_
  refine g_cmp_eq (tgt := 21) C (by decide) dX6_load_8 (fun c_8 => absurd c_8 (fun z => nI_pos (n := (cw_parse A.2.2.2.2 A.2.2.2.1 120).2) (by have := (cw_parse_b A.2.2.2.2 A.2.2.2.1 hw.2.2.2.2.1 120).1; omega) (by rw [z]; decide))) (fun c_8 => ?_)
  exact g_throw C F tw_ISE (List.mem_of_getElem? (i := 20) rfl) (by decide) (Nat.le_of_ble_eq_true rfl) dX6_load_11 dX6_load_14 dX6_load_15 dX6_load_17 dX6_load_20 (hw.text hx4)

set_option maxHeartbeats 8000000 in
set_option maxRecDepth 100000 in
theorem ok_X6_load (A : cw_A) {n m : Nat} (hA : cw_IA n m A) (hc : (cw_parse A.2.2.2.2 A.2.2.2.1 120).1 = false) : gw_Ok yX6_load cX6_load 2 (some .int) sC 8 [.ref 252] (fun w => cw_RC A w) (fun _ vr w1 => vr = some (.int (cw_run A.2.2.2.2 A.2.2.2.1 120).2.2) ∧ cw_RC (cw_nf (cw_run A.2.2.2.2 A.2.2.2.1 120).2.1, (0, A.2.1.2), (fun _ => none), A.2.2.2) w1) := by
  refine gw_of (by decide) (Nat.le_of_ble_eq_true rfl) ?_
  intro X w h C F
  have hw := h
  obtain ⟨-, ⟨o9, h9o, b2, b3, h9c, b5⟩, -, -⟩ := h
  have h := hw
  have e := hw.eq
  have hI := hA.1
  have hIt := cw_I_cg hI e
  have h6 := hI.m.2
  have hch : cw_ch A.2.2.2.2 A.2.2.2.1 := hA.2.2.2.2.2
  refine g_aload_n C rfl dX6_load_0 ?_
  refine g_getr C fl_X6_37 rfl rfl dX6_load_1 ?_
  refine g_callW C cw_emb_CT (ok_X5_findError (tx := A.2.2.2.2) (len := A.2.2.2.1) hch) my_X5_findError vi_X6_71 (by decide) ⟨Nat.le_refl _, Nat.le_refl _⟩ rfl ((cw_emb_CT.1 0 (by decide))) rfl (cw_wp 257 3 w) (cw_wp_i) (cw_wp_o) (cw_ws 257 w) (fun i _ => rfl) (Nat.le_of_ble_eq_true rfl) dX6_load_4 rfl (hw.tx) (fun v_4 w_4 hp_4 => ?_)
  obtain ⟨rfl, hx4, h14⟩ := hp_4
  rw [if_neg (by rw [hc]; decide)]
  have hw4 := hw.text hx4
  obtain ⟨w4, ew4⟩ : ∃ z, z = cw_wp 257 3 w w_4 := ⟨_, rfl⟩
  have b24 : w4 253 1 = nI o9 := by rw [ew4, cw_wp_out _ _ (by omega)]; exact b2
  rw [← ew4] at hw4 ⊢
  refine g_iconst (v := (-1)) C (by decide) dX6_load_7 ?_
  refine g_cmp_eq (tgt := 21) C (by decide) dX6_load_8 (fun c_8 => ?_) (fun c_8 => absurd (rfl) c_8)
  refine g_aload_n C rfl dX6_load_21 ?_
  refine g_getr C fl_X6_10 rfl rfl dX6_load_22 ?_
  refine g_callW C (cw_emb_h 0 (by decide)) (ok_X1_clear) my_X1_clear vi_X6_76 (by decide) ⟨Nat.le_refl _, Nat.le_refl _⟩ rfl (((cw_emb_h 0 (by decide)).1 0 (by decide))) rfl (cw_wp (14 * 0) 14 w4) (cw_wp_i) (cw_wp_o) (cw_hs 0 w4) (fun _ _ => rfl) (Nat.le_of_ble_eq_true rfl) dX6_load_25 rfl (trivial) (fun v_25 w_25 hp_25 => ?_)
  obtain ⟨rfl, hcl25⟩ := hp_25
  have hc25 : cw_nf (ho (cw_hs 0 (cw_wp (14 * 0) 14 w4 w_25))) = cw_new := by rw [cw_hs_wp]; exact hcl25
  have ho25 : ∀ q, 14 ≤ q → cw_wp (14 * 0) 14 w4 w_25 q = w4 q := fun q hq => cw_wp_out _ _ (by omega)
  obtain ⟨w5, ew5⟩ : ∃ z, z = cw_wp (14 * 0) 14 w4 w_25 := ⟨_, rfl⟩
  rw [← ew5] at hc25 ho25 ⊢
  refine g_aload_n C rfl dX6_load_28 ?_
  refine g_getr C fl_X6_22 rfl rfl dX6_load_29 ?_
  refine g_call C (ok_X0_forget) my_X0_forget vi_X6_79 (by decide) ⟨Nat.le_refl _, Nat.le_refl _⟩ rfl rfl rfl (Nat.le_of_ble_eq_true rfl) dX6_load_32 rfl (trivial) (fun v_32 w_32 hp_32 => ?_)
  obtain ⟨rfl, hw32⟩ := hp_32
  subst hw32
  refine g_iconst (v := 0) C (by decide) dX6_load_35 ?_
  refine g_istore_n C (by decide) dX6_load_36 ?_
  refine g_sub rfl (g_for (α := Unit) 2 (fun i9 x => [(0, .ref 252), (1, .int (nI i9))]) (fun i9 x w1 => (∀ q, q ≠ 256 → w1 q = gw_set w5 253 2 0 q) ∧ ∀ j, j < i9 → w1 256 j = 0) 0 () _ (Nat.zero_le _) (⟨fun _ _ => rfl, fun j hj => absurd hj (Nat.not_lt_zero _)⟩) (fun i9 x w1 hi1 hR1 ih1 => ?_) (fun x w1 hR1 => ?_))
  · obtain ⟨g1, g2⟩ := hR1
    obtain ⟨w9, ew9⟩ : ∃ z, z = w1 := ⟨_, rfl⟩
    rw [← ew9] at g1 g2 ⊢
    refine g_iload_n C rfl dX6_load_37 ?_
    refine g_iconst (v := 2) C (by decide) dX6_load_38 ?_
    refine g_cmp_ge (tgt := 55) C (by decide) dX6_load_39 (fun c_39 => absurd c_39 (nI_ge hi1 (by decide))) (fun c_39 => ?_)
    refine g_aload_n C rfl dX6_load_42 ?_
    refine g_getr C fl_X6_30 rfl rfl dX6_load_43 ?_
    refine g_iload_n C rfl dX6_load_46 ?_
    refine g_iconst (v := 0) C (by decide) dX6_load_47 ?_
    refine g_zast (j := i9) C rfl (rfl) (hi1) (by decide) (rfl) dX6_load_48 ?_
    refine g_iinc (v := nI (i9 + 1)) C rfl (nI_1 i9) (by decide) dX6_load_49 ?_
    refine g_goto (tgt := 37) C (by decide) dX6_load_52 ?_
    exact g_sub rfl (ih1 () _ ⟨fun q hq => by rw [gw_set_ne _ _ _ _ hq]; exact g1 q hq, fun j hj => by
      rw [gw_set_self]
      by_cases z : j = i9
      · rw [z, cw_ups]
      · rw [cw_upn _ _ z]; exact g2 j (by omega)⟩)
  obtain ⟨g1, g2⟩ := hR1
  obtain ⟨w9, ew9⟩ : ∃ z, z = w1 := ⟨_, rfl⟩
  rw [← ew9] at g1 g2 ⊢
  refine g_iload_n C rfl dX6_load_37 ?_
  refine g_iconst (v := 2) C (by decide) dX6_load_38 ?_
  refine g_cmp_ge (tgt := 55) C (by decide) dX6_load_39 (fun c_39 => ?_) (fun c_39 => absurd (by decide) c_39)
  refine g_aload_n C rfl dX6_load_55 ?_
  refine g_getr C fl_X6_37 rfl rfl dX6_load_56 ?_
  refine g_aload_n C rfl dX6_load_59 ?_
  refine g_getr C fl_X6_10 rfl rfl dX6_load_60 ?_
  refine g_callW C (cw_emb_CTH 0 (by decide)) (ok_X5_build (tx := A.2.2.2.2) (len := A.2.2.2.1) hch hc) my_X5_build vi_X6_82 (by decide) ⟨Nat.le_refl _, Nat.le_refl _⟩ rfl (((cw_emb_CTH 0 (by decide)).1 0 (by decide))) rfl (cw_wpTH w9) (cw_wpTH_i) (cw_wpTH_o) (cw_w0TH w9) (fun _ _ => rfl) (Nat.le_of_ble_eq_true rfl) dX6_load_63 rfl (⟨⟨by show w9 257 1 = _; rw [g1 257 (by omega), gw_set_ne _ _ _ _ (by decide), ho25 257 (by omega)]; exact hw4.2.2.2.1, hw.2.2.2.2.1, fun i hi => by show w9 258 i = _; rw [g1 258 (by omega), gw_set_ne _ _ _ _ (by decide), ho25 258 (by omega)]; exact hw4.2.2.2.2.2 i hi⟩, by
    rw [← hc25]
    exact congrArg cw_nf (cw_ho_cg (fun q hq => by
      show w9 (if 3 + q < 3 then _ else 14 * 0 + (3 + q - 3)) = w5 (14 * 0 + q)
      rw [if_neg (by omega), Nat.add_sub_cancel_left, g1 _ (by omega), gw_set_ne _ _ _ _ (by omega)]))⟩) (fun v_63 w_63 hp_63 => ?_)
  obtain ⟨rfl, hn63, hx63, h163⟩ := hp_63
  refine g_iret C F dX6_load_66 ?_
  refine ⟨rfl, ?_⟩
  have hout : ∀ q, 14 ≤ q → q < 257 → cw_wpTH w9 w_63 q = w9 q := fun q h1 h2 => by unfold cw_wpTH; rw [if_neg (by omega), if_neg (by omega)]
  have hnew : cw_nf (ho (cw_hs 0 (cw_wpTH w9 w_63))) = cw_nf (cw_run A.2.2.2.2 A.2.2.2.1 120).2.1 := by
    rw [← hn63]
    exact congrArg cw_nf (cw_ho_cg (fun q hq => by
      show cw_wpTH w9 w_63 (14 * 0 + q) = w_63 (3 + q)
      unfold cw_wpTH
      rw [if_neg (by omega), if_pos (by omega), show 14 * 0 + q + 3 = 3 + q by omega]))
  refine ⟨hnew, ⟨o9, h9o, ?_, ?_, Nat.zero_le _, fun i hi => absurd hi (Nat.not_lt_zero _)⟩, fun i hi => ⟨?_, fun v hv => nomatch hv⟩, ?_⟩
  · rw [hout 253 (by omega) (by omega), g1 253 (by omega), gw_set_self, cw_upn _ _ (by decide), ho25 253 (by omega)]; exact b24
  · rw [hout 253 (by omega) (by omega), g1 253 (by omega), gw_set_self, cw_ups]; rfl
  · rw [hout 256 (by omega) (by omega), g2 i hi]; exact (cw_bf (fun z => nomatch z)).symm
  · have e257 : cw_wpTH w9 w_63 257 = w_63 0 := by unfold cw_wpTH; rw [if_pos (by omega)]
    have e258 : cw_wpTH w9 w_63 258 = w_63 1 := by unfold cw_wpTH; rw [if_pos (by omega)]
    rw [e257, e258]
    exact hx63

set_option maxHeartbeats 8000000 in
set_option maxRecDepth 100000 in
theorem ok_X6_undo (A : cw_A) {n m : Nat} (hA : cw_IA n m A) (hc : ¬ A.2.1.1 = 0) : gw_Ok yX6_undo cX6_undo 1 (some .int) sC 5 [.ref 252] (fun w => cw_RC A w) (fun _ vr w1 => vr = some (.int (nI (A.2.1.1 - 1))) ∧ cw_RC (A.2.1.2 (A.2.1.1 - 1), (A.2.1.1 - 1, A.2.1.2), A.2.2) w1) := by
  refine gw_of (by decide) (Nat.le_of_ble_eq_true rfl) ?_
  intro X w h C F
  have hw := h
  obtain ⟨-, ⟨o9, h9o, b2, b3, h9c, b5⟩, -, -⟩ := h
  have h := hw
  have e := hw.eq
  have hI := hA.1
  have hIt := cw_I_cg hI e
  have h6 := hI.m.2
  refine g_aload_n C rfl dX6_undo_0 ?_
  refine g_getr C fl_X6_22 rfl rfl dX6_undo_1 ?_
  refine g_call C (ok_X0_isEmpty A.2.1.1 h9c) my_X0_isEmpty vi_X6_252 (by decide) ⟨Nat.le_refl _, Nat.le_refl _⟩ rfl rfl rfl (Nat.le_of_ble_eq_true rfl) dX6_undo_4 rfl (b3) (fun v_4 w_4 hp_4 => ?_)
  obtain ⟨rfl, hw_4⟩ := hp_4
  have hw_4 := hw_4.symm; subst hw_4
  refine g_if_eq (tgt := 20) C (by decide) dX6_undo_7 (fun c_7 => ?_) (fun c_7 => absurd (cw_bf hc) c_7)
  refine g_aload_n C rfl dX6_undo_20 ?_
  refine g_getr C fl_X6_22 rfl rfl dX6_undo_21 ?_
  refine g_aload_n C rfl dX6_undo_24 ?_
  refine g_getr C fl_X6_10 rfl rfl dX6_undo_25 ?_
  refine g_call C (ok_X0_takeBack o9 A.2.1.1 h9o h9c) my_X0_takeBack vi_X6_257 (by decide) ⟨Nat.le_refl _, Nat.le_refl _⟩ rfl rfl rfl (Nat.le_of_ble_eq_true rfl) dX6_undo_28 rfl (⟨b2, b3, fun hpos k hk => by
    have eu : cw_nf (ho (cw_hs ((o9 + (A.2.1.1 - 1)) % 14 + 2) w)) = A.2.1.2 (A.2.1.1 - 1) := b5 _ (by omega)
    have hIu := hA.2.1 (A.2.1.1 - 1) (by omega)
    rw [← eu] at hIu
    have hs := (cw_I_nf hIu).sch k hk
    rw [← ho_r8 (w := cw_hs ((o9 + (A.2.1.1 - 1)) % 14 + 2) w) rfl hk rfl] at hs
    exact hs⟩) (fun v_28 w_28 hp_28 => ?_)
  obtain ⟨rfl, hn28, ho28, hh28, hf28, hz28⟩ := hp_28
  refine g_iret C F dX6_undo_31 ?_
  obtain ⟨-, -, hsl, htx⟩ := hw
  have hs : ∀ g, 2 ≤ g → g < 18 → ho (cw_hs g w_28) = ho (cw_hs g w) := fun g h1 h2 => cw_hs_cg (fun q q1 q2 => hf28 q (by omega) (by omega))
  refine ⟨rfl, by rw [hh28 (by omega)]; exact b5 _ (by omega), ⟨o9, h9o, ho28, hn28, by show A.2.1.1 - 1 ≤ 14; omega, fun i hi => ?_⟩, fun i hi => ⟨by rw [hf28 256 (by omega) (by omega)]; exact (hsl i hi).1, fun v hv => by rw [hs _ (by omega) (by omega)]; exact (hsl i hi).2 v hv⟩, by rw [hf28 257 (by omega) (by omega)]; exact htx.1, htx.2.1, fun i hi => by rw [hf28 258 (by omega) (by omega)]; exact htx.2.2 i hi⟩
  have hi : i < A.2.1.1 - 1 := hi
  rw [hs _ (by omega) (by have := Nat.mod_lt (o9 + i) (show 0 < 14 by decide); omega)]
  exact b5 i (by omega)

set_option maxHeartbeats 8000000 in
set_option maxRecDepth 100000 in
theorem thr_X6_undo_1 (A : cw_A) {n m : Nat} (hA : cw_IA n m A) (hc : A.2.1.1 = 0) : gw_Thr yX6_undo cX6_undo 1 (some .int) sC 8 [.ref 252] (fun w => cw_RC A w) "java/lang/IllegalStateException" (fun w w1 => w1 = w) := by
  refine gw_ofT (by decide) (Nat.le_of_ble_eq_true rfl) ?_
  intro X w h C F
  have hw := h
  obtain ⟨-, ⟨o9, h9o, b2, b3, h9c, b5⟩, -, -⟩ := h
  have h := hw
  have e := hw.eq
  have hI := hA.1
  have hIt := cw_I_cg hI e
  have h6 := hI.m.2
  refine g_aload_n C rfl dX6_undo_0 ?_
  refine g_getr C fl_X6_22 rfl rfl dX6_undo_1 ?_
  refine g_call C (ok_X0_isEmpty A.2.1.1 h9c) my_X0_isEmpty vi_X6_252 (by decide) ⟨Nat.zero_le _, Nat.zero_le _⟩ rfl rfl rfl (Nat.le_of_ble_eq_true rfl) dX6_undo_4 rfl (b3) (fun v_4 w_4 hp_4 => ?_)
  obtain ⟨rfl, hw_4⟩ := hp_4
  have hw_4 := hw_4.symm; subst hw_4
  refine g_if_eq (tgt := 20) C (by decide) dX6_undo_7 (fun c_7 => absurd c_7 (fun z => absurd z (by rw [cw_b1 hc]; decide))) (fun c_7 => ?_)
  exact g_throw C F tw_ISE (List.mem_of_getElem? (i := 10) rfl) (by decide) (Nat.le_of_ble_eq_true rfl) dX6_undo_10 dX6_undo_13 dX6_undo_14 dX6_undo_16 dX6_undo_19 (rfl)

set_option maxHeartbeats 8000000 in
set_option maxRecDepth 100000 in
theorem ok_X6_save (A : cw_A) {n m : Nat} (hA : cw_IA n m A) (k : Int32) (hc : 0 ≤ k ∧ k ≤ 1) : gw_Ok yX6_save cX6_save 2 (some .int) sC 5 [.ref 252, .int k] (fun w => cw_RC A w) (fun _ vr w1 => vr = some (.int (A.1 230)) ∧ cw_RC ((A.1, A.2.1, (fun i => if i = cw_x k then some A.1 else A.2.2.1 i), A.2.2.2)) w1) := by
  refine gw_of (by decide) (Nat.le_of_ble_eq_true rfl) ?_
  intro X w h C F
  have hw := h
  have e := hw.eq
  have hI := hA.1
  have hIt := cw_I_cg hI e
  have h6 := hI.m.2
  obtain ⟨j, rfl, hj⟩ : ∃ j, k = nI j ∧ j < 2 := by
    have a := cw_le.mp hc.1
    have b := cw_le.mp hc.2
    have z0 : (0 : Int32).toInt = 0 := rfl
    have z1 : (1 : Int32).toInt = 1 := rfl
    refine ⟨k.toInt.toNat, ?_, by omega⟩
    apply Int32.toInt_inj.mp
    rw [cw_ni (by omega)]; omega
  have ej : cw_x (nI j) = j := cw_xn (by omega)
  refine g_aload_n C rfl dX6_save_0 ?_
  refine g_iload_n C rfl dX6_save_1 ?_
  refine g_call C (ok_X6_needSlot (nI j) hc) my_X6_needSlot vi_X6_303 (by decide) ⟨Nat.le_refl _, Nat.le_refl _⟩ rfl rfl rfl (Nat.le_of_ble_eq_true rfl) dX6_save_2 rfl (trivial) (fun v_2 w_2 hp_2 => ?_)
  obtain ⟨rfl, hw_2⟩ := hp_2
  have hw_2 := hw_2.symm; subst hw_2
  refine g_aload_n C rfl dX6_save_5 ?_
  refine g_getr C fl_X6_26 rfl rfl dX6_save_6 ?_
  refine g_iload_n C rfl dX6_save_9 ?_
  refine g_aald (j := j) C rfl (rfl) (hj) (by decide) dX6_save_10 ?_
  refine g_aload_n C rfl dX6_save_11 ?_
  refine g_getr C fl_X6_10 rfl rfl dX6_save_12 ?_
  refine g_callW C (cw_emb_2 (j + 16) (0) (by omega) (by omega) (by omega)) (ok_X1_copyFrom (cw_w0 (j + 16) 0 w) (hw.sch hI)) my_X1_copyFrom vi_X6_284 (by decide) ⟨Nat.le_refl _, Nat.le_refl _⟩ rfl (((cw_emb_2 (j + 16) (0) (by omega) (by omega) (by omega)).1 0 (by decide))) rfl (cw_wp2 (j + 16) (0) w) (cw_wp2_i (by omega)) (cw_wp2_o) (cw_w0 (j + 16) (0) w) (fun _ _ => rfl) (Nat.le_of_ble_eq_true rfl) dX6_save_15 rfl (rfl) (fun v_15 w_15 hp_15 => ?_)
  obtain ⟨rfl, hq15, hc15⟩ := hp_15
  refine g_aload_n C rfl dX6_save_18 ?_
  refine g_getr C fl_X6_30 rfl rfl dX6_save_19 ?_
  refine g_iload_n C rfl dX6_save_22 ?_
  refine g_iconst (v := 1) C (by decide) dX6_save_23 ?_
  refine g_zast (j := j) C rfl (rfl) (hj) (by decide) (rfl) dX6_save_24 ?_
  refine g_aload_n C rfl dX6_save_25 ?_
  refine g_getr C fl_X6_10 rfl rfl dX6_save_26 ?_
  refine g_getf C fl_X6_90 rfl rfl dX6_save_29 ?_
  obtain ⟨k1, k2⟩ := cw_copied (h := j + 16) (g := 0) (by omega) hq15 hc15
  refine g_top (show _ = A.1 230 by rw [gw_set_ne _ _ _ _ (by decide), k2 0 (by omega)]; exact cw_pF2 hw) ?_
  refine g_iret C F dX6_save_32 ?_
  obtain ⟨hp, ⟨o9, h9o, b2, b3, h9c, b5⟩, hsl, htx⟩ := hw
  have kq : ∀ q, q ≠ 256 → ¬ (14 * (j + 16) ≤ q ∧ q < 14 * (j + 16) + 14) → gw_set (cw_wp2 (j + 16) 0 w w_15) 256 j 1 q = w q := fun q q1 q2 => by rw [gw_set_ne _ _ _ _ q1]; exact k2 q q2
  have hs : ∀ g, g < 18 → ¬ g = j + 16 → ho (cw_hs g (gw_set (cw_wp2 (j + 16) 0 w w_15) 256 j 1)) = ho (cw_hs g w) := fun g h1 h2 => cw_hs_cg (fun q q1 q2 => kq q (by omega) (by omega))
  rw [ej]
  refine ⟨rfl, by rw [hs 0 (by omega) (by omega)]; exact hp, ⟨o9, h9o, by rw [kq 253 (by omega) (by omega)]; exact b2, by rw [kq 253 (by omega) (by omega)]; exact b3, h9c, fun i hi => by rw [hs _ (by omega) (by omega)]; exact b5 i hi⟩, fun i hi => ?_, by rw [kq 257 (by omega) (by omega)]; exact htx.1, htx.2.1, fun i hi => by rw [kq 258 (by omega) (by omega)]; exact htx.2.2 i hi⟩
  show _ = cw_b ((if i = j then some A.1 else A.2.2.1 i).isSome = true) ∧ ∀ v, (if i = j then some A.1 else A.2.2.1 i) = some v → _
  by_cases z : i = j
  · rw [if_pos z, z, gw_set_self, cw_ups]
    refine ⟨(cw_b1 rfl).symm, fun v hv => ?_⟩
    obtain rfl : A.1 = v := Option.some.inj hv
    rw [show 16 + j = j + 16 by omega]
    have e9 : ho (cw_hs (j + 16) (gw_set (cw_wp2 (j + 16) 0 w w_15) 256 j 1)) = ho (cw_hs (j + 16) (cw_wp2 (j + 16) 0 w w_15)) := cw_hs_cg (fun q q1 q2 => gw_set_ne _ _ _ _ (by omega))
    rw [e9, k1]; exact hp
  · rw [if_neg z]
    refine ⟨?_, fun v hv => ?_⟩
    · rw [gw_set_self, cw_upn _ _ z, k2 256 (by omega)]; exact (hsl i hi).1
    · rw [hs _ (by omega) (by omega)]; exact (hsl i hi).2 v hv

set_option maxHeartbeats 8000000 in
set_option maxRecDepth 100000 in
theorem thr_X6_save_1 (A : cw_A) {n m : Nat} (hA : cw_IA n m A) (k : Int32) (hc : ¬ (0 ≤ k ∧ k ≤ 1)) : gw_Thr yX6_save cX6_save 2 (some .int) sC 8 [.ref 252, .int k] (fun w => cw_RC A w) "java/lang/IndexOutOfBoundsException" (fun w w1 => w1 = w) := by
  refine gw_ofT (by decide) (Nat.le_of_ble_eq_true rfl) ?_
  intro X w h C F
  have hw := h
  have e := hw.eq
  have hI := hA.1
  have hIt := cw_I_cg hI e
  have h6 := hI.m.2
  refine g_aload_n C rfl dX6_save_0 ?_
  refine g_iload_n C rfl dX6_save_1 ?_
  exact g_callT C F (gw_emb_id sC) (thr_X6_needSlot k hc) my_X6_needSlot vi_X6_303 (by decide) rfl (rfl) rfl ((fun w1 => w1)) (fun _ _ _ => rfl) (fun w1 j hj h => absurd rfl (h j hj)) (w) (fun _ _ => rfl) (Nat.le_of_ble_eq_true rfl) dX6_save_2 rfl (trivial) (fun w1 hw => hw)

set_option maxHeartbeats 8000000 in
set_option maxRecDepth 100000 in
theorem ok_X6_restore (A : cw_A) {n m : Nat} (hA : cw_IA n m A) (k : Int32) (hc : 0 ≤ k ∧ k ≤ 1) (hf : (A.2.2.1 (cw_x k)).isSome = true) : gw_Ok yX6_restore cX6_restore 2 (some .int) sC 5 [.ref 252, .int k] (fun w => cw_RC A w) (fun _ vr w1 => vr = some (.int (((A.2.2.1 (cw_x k)).getD A.1) 230)) ∧ cw_RC (((A.2.2.1 (cw_x k)).getD A.1, (0, A.2.1.2), A.2.2)) w1) := by
  refine gw_of (by decide) (Nat.le_of_ble_eq_true rfl) ?_
  intro X w h C F
  have hw := h
  have e := hw.eq
  have hI := hA.1
  have hIt := cw_I_cg hI e
  have h6 := hI.m.2
  obtain ⟨j, rfl, hj⟩ : ∃ j, k = nI j ∧ j < 2 := by
    have a := cw_le.mp hc.1
    have b := cw_le.mp hc.2
    have z0 : (0 : Int32).toInt = 0 := rfl
    have z1 : (1 : Int32).toInt = 1 := rfl
    refine ⟨k.toInt.toNat, ?_, by omega⟩
    apply Int32.toInt_inj.mp
    rw [cw_ni (by omega)]; omega
  have ej : cw_x (nI j) = j := cw_xn (by omega)
  obtain ⟨v, hv⟩ : ∃ v, A.2.2.1 j = some v := Option.isSome_iff_exists.mp (by rw [ej] at hf; exact hf)
  have hsv := hw.2.2.1 j hj
  have hIv := hA.2.2.1 j v hj hv
  have evv := hsv.2 v hv
  refine g_aload_n C rfl dX6_restore_0 ?_
  refine g_iload_n C rfl dX6_restore_1 ?_
  refine g_call C (ok_X6_needSlot (nI j) hc) my_X6_needSlot vi_X6_303 (by decide) ⟨Nat.le_refl _, Nat.le_refl _⟩ rfl rfl rfl (Nat.le_of_ble_eq_true rfl) dX6_restore_2 rfl (trivial) (fun v_2 w_2 hp_2 => ?_)
  obtain ⟨rfl, hw_2⟩ := hp_2
  have hw_2 := hw_2.symm; subst hw_2
  refine g_aload_n C rfl dX6_restore_5 ?_
  refine g_getr C fl_X6_30 rfl rfl dX6_restore_6 ?_
  refine g_iload_n C rfl dX6_restore_9 ?_
  refine g_zald (j := j) C rfl (rfl) (hj) (by decide) dX6_restore_10 ?_
  refine g_top hsv.1 ?_
  refine g_if_ne (tgt := 25) C (by decide) dX6_restore_11 (fun c_11 => ?_) (fun c_11 => absurd c_11 (by rw [cw_b1 (by rw [hv]; rfl)]; decide))
  refine g_aload_n C rfl dX6_restore_25 ?_
  refine g_getr C fl_X6_10 rfl rfl dX6_restore_26 ?_
  refine g_aload_n C rfl dX6_restore_29 ?_
  refine g_getr C fl_X6_26 rfl rfl dX6_restore_30 ?_
  refine g_iload_n C rfl dX6_restore_33 ?_
  refine g_aald (j := j) C rfl (rfl) (hj) (by decide) dX6_restore_34 ?_
  refine g_callW C (cw_emb_2 (0) (j + 16) (by omega) (by omega) (by omega)) (ok_X1_copyFrom (cw_w0 0 (j + 16) w) (fun q hq => by
    rw [← evv] at hIv
    have hs := (cw_I_nf hIv).sch q hq
    rw [← ho_r8 (w := cw_hs (16 + j) w) rfl hq rfl, show 16 + j = j + 16 by omega] at hs
    exact hs)) my_X1_copyFrom vi_X6_284 (by decide) ⟨Nat.le_refl _, Nat.le_refl _⟩ rfl (((cw_emb_2 (0) (j + 16) (by omega) (by omega) (by omega)).1 0 (by decide))) rfl (cw_wp2 (0) (j + 16) w) (cw_wp2_i (by omega)) (cw_wp2_o) (cw_w0 (0) (j + 16) w) (fun _ _ => rfl) (Nat.le_of_ble_eq_true rfl) dX6_restore_35 rfl (rfl) (fun v_35 w_35 hp_35 => ?_)
  obtain ⟨rfl, hq35, hc35⟩ := hp_35
  obtain ⟨k1, k2⟩ := cw_copied (h := 0) (g := j + 16) (by omega) hq35 hc35
  refine g_aload_n C rfl dX6_restore_38 ?_
  refine g_getr C fl_X6_22 rfl rfl dX6_restore_39 ?_
  refine g_call C (ok_X0_forget) my_X0_forget vi_X6_79 (by decide) ⟨Nat.le_refl _, Nat.le_refl _⟩ rfl rfl rfl (Nat.le_of_ble_eq_true rfl) dX6_restore_42 rfl (trivial) (fun v_42 w_42 hp_42 => ?_)
  obtain ⟨rfl, hw42⟩ := hp_42
  subst hw42
  refine g_aload_n C rfl dX6_restore_45 ?_
  refine g_getr C fl_X6_10 rfl rfl dX6_restore_46 ?_
  refine g_getf C fl_X6_90 rfl rfl dX6_restore_49 ?_
  have ev : cw_nf (ho (cw_hs 0 (gw_set (cw_wp2 0 (j + 16) w w_35) 253 2 0))) = v := by
    rw [cw_hs_cg (w := cw_wp2 0 (j + 16) w w_35) (fun q q1 q2 => gw_set_ne _ _ _ _ (by omega)), k1, show j + 16 = 16 + j by omega]
    exact evv
  refine g_top (show _ = v 230 by rw [← ev, cw_nf_rd _ (by omega) (by omega)]; exact ho_f2 (w := cw_hs 0 (gw_set (cw_wp2 0 (j + 16) w w_35) 253 2 0)) rfl) ?_
  refine g_iret C F dX6_restore_52 ?_
  obtain ⟨hp, ⟨o9, h9o, b2, b3, h9c, b5⟩, hsl, htx⟩ := hw
  have kq : ∀ q, q ≠ 253 → 14 ≤ q → gw_set (cw_wp2 0 (j + 16) w w_35) 253 2 0 q = w q := fun q q1 q2 => by rw [gw_set_ne _ _ _ _ q1]; exact k2 q (by omega)
  rw [ej, hv]
  refine ⟨rfl, ev, ⟨o9, h9o, by rw [gw_set_self, cw_upn _ _ (by decide), k2 253 (by omega)]; exact b2, by rw [gw_set_self, cw_ups]; rfl, Nat.zero_le _, fun i hi => absurd hi (Nat.not_lt_zero _)⟩, fun i hi => ⟨by rw [kq 256 (by omega) (by omega)]; exact (hsl i hi).1, fun v hv => ?_⟩, by rw [kq 257 (by omega) (by omega)]; exact htx.1, htx.2.1, fun i hi => by rw [kq 258 (by omega) (by omega)]; exact htx.2.2 i hi⟩
  rw [cw_hs_cg (w := w) (fun q q1 q2 => kq q (by omega) (by omega))]
  exact (hsl i hi).2 v hv

set_option maxHeartbeats 8000000 in
set_option maxRecDepth 100000 in
theorem thr_X6_restore_1 (A : cw_A) {n m : Nat} (hA : cw_IA n m A) (k : Int32) (hc : ¬ (0 ≤ k ∧ k ≤ 1)) : gw_Thr yX6_restore cX6_restore 2 (some .int) sC 8 [.ref 252, .int k] (fun w => cw_RC A w) "java/lang/IndexOutOfBoundsException" (fun w w1 => w1 = w) := by
  refine gw_ofT (by decide) (Nat.le_of_ble_eq_true rfl) ?_
  intro X w h C F
  have hw := h
  have e := hw.eq
  have hI := hA.1
  have hIt := cw_I_cg hI e
  have h6 := hI.m.2
  refine g_aload_n C rfl dX6_restore_0 ?_
  refine g_iload_n C rfl dX6_restore_1 ?_
  exact g_callT C F (gw_emb_id sC) (thr_X6_needSlot k hc) my_X6_needSlot vi_X6_303 (by decide) rfl (rfl) rfl ((fun w1 => w1)) (fun _ _ _ => rfl) (fun w1 j hj h => absurd rfl (h j hj)) (w) (fun _ _ => rfl) (Nat.le_of_ble_eq_true rfl) dX6_restore_2 rfl (trivial) (fun w1 hw => hw)

set_option maxHeartbeats 8000000 in
set_option maxRecDepth 100000 in
theorem thr_X6_restore_2 (A : cw_A) {n m : Nat} (hA : cw_IA n m A) (k : Int32) (hc : 0 ≤ k ∧ k ≤ 1) (hf : ¬ (A.2.2.1 (cw_x k)).isSome = true) : gw_Thr yX6_restore cX6_restore 2 (some .int) sC 8 [.ref 252, .int k] (fun w => cw_RC A w) "java/lang/IllegalStateException" (fun w w1 => w1 = w) := by
  refine gw_ofT (by decide) (Nat.le_of_ble_eq_true rfl) ?_
  intro X w h C F
  have hw := h
  have e := hw.eq
  have hI := hA.1
  have hIt := cw_I_cg hI e
  have h6 := hI.m.2
  obtain ⟨j, rfl, hj⟩ : ∃ j, k = nI j ∧ j < 2 := by
    have a := cw_le.mp hc.1
    have b := cw_le.mp hc.2
    have z0 : (0 : Int32).toInt = 0 := rfl
    have z1 : (1 : Int32).toInt = 1 := rfl
    refine ⟨k.toInt.toNat, ?_, by omega⟩
    apply Int32.toInt_inj.mp
    rw [cw_ni (by omega)]; omega
  have ej : cw_x (nI j) = j := cw_xn (by omega)
  refine g_aload_n C rfl dX6_restore_0 ?_
  refine g_iload_n C rfl dX6_restore_1 ?_
  refine g_call C (ok_X6_needSlot (nI j) hc) my_X6_needSlot vi_X6_303 (by decide) ⟨Nat.zero_le _, Nat.zero_le _⟩ rfl rfl rfl (Nat.le_of_ble_eq_true rfl) dX6_restore_2 rfl (trivial) (fun v_2 w_2 hp_2 => ?_)
  obtain ⟨rfl, hw_2⟩ := hp_2
  have hw_2 := hw_2.symm; subst hw_2
  refine g_aload_n C rfl dX6_restore_5 ?_
  refine g_getr C fl_X6_30 rfl rfl dX6_restore_6 ?_
  refine g_iload_n C rfl dX6_restore_9 ?_
  refine g_zald (j := j) C rfl (rfl) (hj) (by decide) dX6_restore_10 ?_
  refine g_top (hw.2.2.1 j hj).1 ?_
  refine g_if_ne (tgt := 25) C (by decide) dX6_restore_11 (fun c_11 => absurd c_11 (fun z => z (cw_bf (by rw [ej] at hf; exact hf)))) (fun c_11 => ?_)
  exact g_throwW C F tw_ISE (List.mem_of_getElem? (i := 13) rfl) (by decide) (Nat.le_of_ble_eq_true rfl) dX6_restore_14 dX6_restore_17 dX6_restore_18 dX6_restore_21 dX6_restore_24 (rfl)

def cw_sL (j : Nat) : Int32 := if j = 0 then 1 else if j = 1 then 0 else 1
def cw_sM (j : Nat) : Int32 := if j = 0 then 20 else if j = 1 then 20 else 10
theorem cw_setOk_ix {k v : Int32} (h : cw_setOk k v) : ∃ j, j < 3 ∧ k = nI j ∧ cw_sL j ≤ v ∧ v ≤ cw_sM j := by
  rcases h with ⟨rfl, a, b⟩ | ⟨rfl, a, b⟩ | ⟨rfl, a, b⟩
  · exact ⟨0, by decide, rfl, a, b⟩
  · exact ⟨1, by decide, rfl, a, b⟩
  · exact ⟨2, by decide, rfl, a, b⟩
theorem cw_setOk_of {v : Int32} {j : Nat} (hj : j < 3) (h : cw_sL j ≤ v ∧ v ≤ cw_sM j) : cw_setOk (nI j) v := by
  have : j = 0 ∨ j = 1 ∨ j = 2 := by omega
  rcases this with rfl | rfl | rfl
  · exact Or.inl ⟨rfl, h⟩
  · exact Or.inr (Or.inl ⟨rfl, h⟩)
  · exact Or.inr (Or.inr ⟨rfl, h⟩)

set_option maxHeartbeats 8000000 in
set_option maxRecDepth 100000 in
theorem g_setL {X : gw_X} {cc : ByteArray} {nL d mc ms : Nat} (C : gw_ok X RX6 cc nL d mc ms) {S : gw_S} {k n pc j : Nat} {lv : gw_LV} {st : List Value} {w : gw_M} (hj : j < 3) (hv : gw_lk lv 1 = some (.int (nI j))) (hd0 : decode cc pc = .ok (.getstatic 243, 3)) (hd3 : decode cc (pc + 3) = .ok (.iload_n 1, 1)) (hd4 : decode cc (pc + 4) = .ok (.iaload, 1))
    (K : gw_G X S nL k n (pc + 5) lv (.int (cw_sL j) :: st) w) : gw_G X S nL k n pc lv st w := by
  obtain ⟨p, l, e, R, s, m, args, below, meth, c, D, cA, ρ, A, Q⟩ := X
  obtain ⟨hx, hb, hml, hown, hts, hK, hA, hE, hRf, hRl, hRc, hRs⟩ := C
  intro H locs ls hP hD hS hl
  obtain ⟨-, ⟨t, hZ, hT⟩, -⟩ := hE
  refine va_gets hx hb hZ hS hown (hts _ (gw_T_at 796 (by decide +kernel) rfl)) (fun _ h => h) hd0 ?_
  refine lv_iload_n hx hb hd3 rfl (hl.2.2 (1, .int (nI j)) (List.mem_map.mpr ⟨(1, .int (nI j)), gw_lk_mem hv, rfl⟩)) ?_
  refine va_ti hx hb hT hS (vp_in_nI hj (by decide)) (v := .int (cw_sL j)) ?_ hd4 (K H locs ls hP hD hS hl)
  rw [nI_clamp (by omega)]
  rfl

set_option maxHeartbeats 8000000 in
set_option maxRecDepth 100000 in
theorem g_setM {X : gw_X} {cc : ByteArray} {nL d mc ms : Nat} (C : gw_ok X RX6 cc nL d mc ms) {S : gw_S} {k n pc j : Nat} {lv : gw_LV} {st : List Value} {w : gw_M} (hj : j < 3) (hv : gw_lk lv 1 = some (.int (nI j))) (hd0 : decode cc pc = .ok (.getstatic 246, 3)) (hd3 : decode cc (pc + 3) = .ok (.iload_n 1, 1)) (hd4 : decode cc (pc + 4) = .ok (.iaload, 1))
    (K : gw_G X S nL k n (pc + 5) lv (.int (cw_sM j) :: st) w) : gw_G X S nL k n pc lv st w := by
  obtain ⟨p, l, e, R, s, m, args, below, meth, c, D, cA, ρ, A, Q⟩ := X
  obtain ⟨hx, hb, hml, hown, hts, hK, hA, hE, hRf, hRl, hRc, hRs⟩ := C
  intro H locs ls hP hD hS hl
  obtain ⟨-, -, ⟨t, hZ, hT⟩, -⟩ := hE
  refine va_gets hx hb hZ hS hown (hts _ (gw_T_at 798 (by decide +kernel) rfl)) (fun _ h => h) hd0 ?_
  refine lv_iload_n hx hb hd3 rfl (hl.2.2 (1, .int (nI j)) (List.mem_map.mpr ⟨(1, .int (nI j)), gw_lk_mem hv, rfl⟩)) ?_
  refine va_ti hx hb hT hS (vp_in_nI hj (by decide)) (v := .int (cw_sM j)) ?_ hd4 (K H locs ls hP hD hS hl)
  rw [nI_clamp (by omega)]
  rfl

set_option maxHeartbeats 8000000 in
set_option maxRecDepth 100000 in
theorem ok_X6_set (A : cw_A) {n m : Nat} (hA : cw_IA n m A) (k v : Int32) (hc : cw_setOk k v) : gw_Ok yX6_set cX6_set 4 (some .int) sC 5 [.ref 252, .int k, .int v] (fun w => cw_RC A w) (fun _ vr w1 => vr = some (.int (A.1 (231 + cw_x k))) ∧ cw_RC (upd A.1 (231 + cw_x k) v, (cw_rem A).2) w1) := by
  refine gw_of (by decide) (Nat.le_of_ble_eq_true rfl) ?_
  intro X w h C F
  have hw := h
  obtain ⟨-, ⟨o9, h9o, b2, b3, h9c, b5⟩, -, -⟩ := h
  have h := hw
  have e := hw.eq
  have hI := hA.1
  have hIt := cw_I_cg hI e
  have h6 := hI.m.2
  obtain ⟨j, hj, rfl, hlo, hhi⟩ := cw_setOk_ix hc
  have ej : cw_x (nI j) = j := cw_xn (by omega)
  refine g_iload_n C rfl dX6_set_0 ?_
  refine g_if_lt (tgt := 9) C (by decide) dX6_set_1 (fun c_1 => absurd c_1 (fun z => nI_pos (n := j) (by omega) z)) (fun c_1 => ?_)
  refine g_iload_n C rfl dX6_set_4 ?_
  refine g_iconst (v := 3) C (by decide) dX6_set_5 ?_
  refine g_cmp_lt (tgt := 19) C (by decide) dX6_set_6 (fun c_6 => ?_) (fun c_6 => absurd (nI_lt (b := 3) hj (by decide)) c_6)
  refine g_aload_n C rfl dX6_set_19 ?_
  refine g_iload_n C rfl dX6_set_20 ?_
  refine g_setL (j := j) C hj rfl dX6_set_21 dX6_set_24 dX6_set_25 ?_
  refine g_setM (j := j) C hj rfl dX6_set_26 dX6_set_29 dX6_set_30 ?_
  refine g_call C (ok_X6_needRange v (cw_sL j) (cw_sM j) ⟨hlo, hhi⟩) my_X6_needRange vi_X6_48 (by decide) ⟨Nat.le_refl _, Nat.le_refl _⟩ rfl rfl rfl (Nat.le_of_ble_eq_true rfl) dX6_set_31 rfl (trivial) (fun v_31 w_31 hp_31 => ?_)
  obtain ⟨rfl, hw_31⟩ := hp_31
  have hw_31 := hw_31.symm; subst hw_31
  refine g_aload_n C rfl dX6_set_34 ?_
  refine g_getr C fl_X6_22 rfl rfl dX6_set_35 ?_
  refine g_aload_n C rfl dX6_set_38 ?_
  refine g_getr C fl_X6_10 rfl rfl dX6_set_39 ?_
  refine g_call C (ok_X0_remember o9 A.2.1.1 h9o h9c) my_X0_remember vi_X6_183 (by decide) ⟨Nat.le_refl _, Nat.le_refl _⟩ rfl rfl rfl (Nat.le_of_ble_eq_true rfl) dX6_set_42 rfl (⟨b2, b3, hw.sch hI⟩) (fun v_42 w_42 hp_42 => ?_)
  obtain ⟨rfl, ho42, hn42, hh42, hf42⟩ := hp_42
  have hr := hw.rem h9o b2 b5 ho42 hn42 hh42 hf42
  have e2 : cw_eq (ho (cw_hs 0 w_42)) A.1 := hr.eq
  have hI2 := cw_I_cg hI e2
  refine g_aload_n C rfl dX6_set_45 ?_
  refine g_getr C fl_X6_10 rfl rfl dX6_set_46 ?_
  refine g_getr C fl_X6_249 rfl rfl dX6_set_49 ?_
  refine g_iload_n C rfl dX6_set_52 ?_
  refine g_iald (j := j) C rfl (rfl) (hj) (by decide) dX6_set_53 ?_
  refine g_top (cw_pA1 hr hj) ?_
  refine g_istore_n C (by decide) dX6_set_54 ?_
  refine g_aload_n C rfl dX6_set_55 ?_
  refine g_getr C fl_X6_10 rfl rfl dX6_set_56 ?_
  refine g_getr C fl_X6_249 rfl rfl dX6_set_59 ?_
  refine g_iload_n C rfl dX6_set_62 ?_
  refine g_iload_n C rfl dX6_set_63 ?_
  refine g_iast (j := j) C rfl (rfl) (hj) (by decide) dX6_set_64 ?_
  refine g_iload_n C rfl dX6_set_65 ?_
  refine g_iret C F dX6_set_66 ?_
  rw [ej]
  show _ = _ ∧ cw_RC _ (gw_set w_42 1 j v)
  refine ⟨rfl, hr.pres (fun q hq => gw_set_ne _ _ _ _ (by omega)) ?_⟩
  have e9 : cw_hs 0 (gw_set w_42 1 j v) = gw_set (cw_hs 0 w_42) 1 j v := by
    funext q
    show gw_set w_42 1 j v (14 * 0 + q) = _
    rw [show 14 * 0 + q = q by omega]
    by_cases z : q = 1
    · rw [z, gw_set_self, gw_set_self]; rfl
    · rw [gw_set_ne _ _ _ _ z, gw_set_ne _ _ _ _ z]
      show w_42 q = w_42 (14 * 0 + q)
      rw [show 14 * 0 + q = q by omega]
  rw [e9, ho_s1 (w := cw_hs 0 w_42) rfl hj rfl, cw_nf_upd _ _ (by omega) (by omega)]
  exact congrArg (fun f => upd f (231 + j) v) hr.1

set_option maxHeartbeats 8000000 in
set_option maxRecDepth 100000 in
theorem thr_X6_set_2 (A : cw_A) (k v : Int32) (j : Nat) (hj : j < 3) (ek : k = nI j) (hr : ¬ (cw_sL j ≤ v ∧ v ≤ cw_sM j)) : gw_Thr yX6_set cX6_set 4 (some .int) sC 8 [.ref 252, .int k, .int v] (fun w => cw_RC A w) "java/lang/IllegalArgumentException" (fun w w1 => w1 = w) := by
  refine gw_ofT (by decide) (Nat.le_of_ble_eq_true rfl) ?_
  intro X w h C F
  subst ek
  refine g_iload_n C rfl dX6_set_0 ?_
  refine g_if_lt (tgt := 9) C (by decide) dX6_set_1 (fun c_1 => absurd c_1 (fun z => nI_pos (n := j) (by omega) z)) (fun c_1 => ?_)
  refine g_iload_n C rfl dX6_set_4 ?_
  refine g_iconst (v := 3) C (by decide) dX6_set_5 ?_
  refine g_cmp_lt (tgt := 19) C (by decide) dX6_set_6 (fun c_6 => ?_) (fun c_6 => absurd (nI_lt (b := 3) hj (by decide)) c_6)
  refine g_aload_n C rfl dX6_set_19 ?_
  refine g_iload_n C rfl dX6_set_20 ?_
  refine g_setL (j := j) C hj rfl dX6_set_21 dX6_set_24 dX6_set_25 ?_
  refine g_setM (j := j) C hj rfl dX6_set_26 dX6_set_29 dX6_set_30 ?_
  exact g_callT C F (gw_emb_id sC) (thr_X6_needRange v (cw_sL j) (cw_sM j) hr) my_X6_needRange vi_X6_48 (by decide) rfl (rfl) rfl ((fun w1 => w1)) (fun _ _ _ => rfl) (fun w1 j hj h => absurd rfl (h j hj)) (w) (fun _ _ => rfl) (Nat.le_of_ble_eq_true rfl) dX6_set_31 rfl (trivial) (fun w1 hw => hw)

set_option maxHeartbeats 8000000 in
set_option maxRecDepth 100000 in
theorem thr_X6_set_3 (A : cw_A) (k v : Int32) (hr : ¬ (0 ≤ k ∧ k < 3)) : gw_Thr yX6_set cX6_set 4 (some .int) sC 8 [.ref 252, .int k, .int v] (fun w => cw_RC A w) "java/lang/IllegalArgumentException" (fun w w1 => w1 = w) := by
  refine gw_ofT (by decide) (Nat.le_of_ble_eq_true rfl) ?_
  intro X w h C F
  refine g_iload_n C rfl dX6_set_0 ?_
  refine g_if_lt (tgt := 9) C (by decide) dX6_set_1 (fun c_1 => ?_) (fun c_1 => ?_)
  · exact g_throw C F tw_IAE (List.mem_of_getElem? (i := 9) rfl) (by decide) (Nat.le_of_ble_eq_true rfl) dX6_set_9 dX6_set_12 dX6_set_13 dX6_set_15 dX6_set_18 (rfl)
  · refine g_iload_n C rfl dX6_set_4 ?_
    refine g_iconst (v := 3) C (by decide) dX6_set_5 ?_
    refine g_cmp_lt (tgt := 19) C (by decide) dX6_set_6 (fun c_6 => absurd c_6 (fun z => hr ⟨Int32.not_lt.mp c_1, z⟩)) (fun c_6 => ?_)
    exact g_throw C F tw_IAE (List.mem_of_getElem? (i := 9) rfl) (by decide) (Nat.le_of_ble_eq_true rfl) dX6_set_9 dX6_set_12 dX6_set_13 dX6_set_15 dX6_set_18 (rfl)

theorem thr_X6_set_1 (A : cw_A) (k v : Int32) (hc : ¬ cw_setOk k v) : gw_Thr yX6_set cX6_set 4 (some .int) sC 8 [.ref 252, .int k, .int v] (fun w => cw_RC A w) "java/lang/IllegalArgumentException" (fun w w1 => w1 = w) := by
  by_cases h : 0 ≤ k ∧ k < 3
  · obtain ⟨j, hj, ek⟩ : ∃ j, j < 3 ∧ k = nI j := by
      have a := cw_le.mp h.1
      have b := cw_lt.mp h.2
      have z0 : (0 : Int32).toInt = 0 := rfl
      have z1 : (3 : Int32).toInt = 3 := rfl
      refine ⟨k.toInt.toNat, by omega, ?_⟩
      apply Int32.toInt_inj.mp
      rw [cw_ni (by omega)]; omega
    exact thr_X6_set_2 A k v j hj ek (fun z => hc (by rw [ek]; exact cw_setOk_of hj z))
  · exact thr_X6_set_3 A k v h

