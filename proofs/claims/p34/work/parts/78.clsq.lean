/-! THE FACE OF THE CLASS: text, settings, what is remembered and saved -/
theorem cw_c16 {c : Int32} (h : 0 ≤ c ∧ c ≤ 255) : (c.toUInt32 % 65536).toInt32 = c ∧ vp_nar .char c = c ∧ cw_r 0 255 c := by
  obtain ⟨j, hj, rfl⟩ : ∃ j, j < 256 ∧ c = nI j := by
    have a := cw_le.mp h.1
    have b := cw_le.mp h.2
    have z0 : (0 : Int32).toInt = 0 := rfl
    have z1 : (255 : Int32).toInt = 255 := rfl
    refine ⟨c.toInt.toNat, by omega, ?_⟩
    apply Int32.toInt_inj.mp
    rw [cw_ni (by omega)]; omega
  have k1 : ∀ j : Fin 256, ((nI j.val).toUInt32 % 65536).toInt32 = nI j.val := by decide +kernel
  have k2 : ∀ j : Fin 256, vp_nar .char (nI j.val) = nI j.val := by decide +kernel
  exact ⟨k1 ⟨j, hj⟩, k2 ⟨j, hj⟩, j, Nat.zero_le _, by omega, rfl⟩
theorem cw_b120 {len : Nat} (h : len ≤ 120) (hf : ¬ nI len = 120) : len < 120 := Nat.lt_of_le_of_ne h (fun q => hf (by rw [q]; rfl))
/-- text and present house written back -/
def cw_wpTH (w w1 : gw_M) : gw_M := fun j => if 257 ≤ j ∧ j < 260 then w1 (j - 257) else if j < 14 then w1 (j + 3) else w j
def cw_w0TH (w : gw_M) : gw_M := fun i => w (if i < 3 then 257 + i else 14 * 0 + (i - 3))
theorem cw_wpTH_i {w : gw_M} : ∀ (w1 : gw_M) (i : Nat), i < 17 → cw_wpTH w w1 (if i < 3 then 257 + i else 14 * 0 + (i - 3)) = w1 i := fun w1 i hi => by
  unfold cw_wpTH
  by_cases c : i < 3
  · rw [if_pos c, if_pos (by omega), Nat.add_sub_cancel_left]
  · rw [if_neg c, if_neg (by omega), if_pos (by omega), show 14 * 0 + (i - 3) + 3 = i by omega]
theorem cw_wpTH_o {w : gw_M} {N : Nat} : ∀ (w1 : gw_M) (j : Nat), j < N → (∀ i, i < 17 → (if i < 3 then 257 + i else 14 * 0 + (i - 3)) ≠ j) → cw_wpTH w w1 j = w j := fun w1 j _ h => by
  unfold cw_wpTH
  rw [if_neg, if_neg]
  · intro q
    have := h (j + 3) (by omega)
    rw [if_neg (by omega)] at this; omega
  · intro q
    have := h (j - 257) (by omega)
    rw [if_pos (by omega)] at this; omega

set_option maxHeartbeats 8000000 in
set_option maxRecDepth 100000 in
theorem ok_X6_undo (A : cw_A) {n m : Nat} (hA : cw_IA n m A) (hc : ¬ A.2.1.1 = 0) : gw_Ok yX6_undo cX6_undo 1 (some .int) sC 5 [.ref 252] (fun w => cw_RC A w) (fun _ vr w1 => vr = some (.int (nI (A.2.1.1 - 1))) ∧ cw_RC (A.2.1.2 (A.2.1.1 - 1), (A.2.1.1 - 1, A.2.1.2), A.2.2) w1) := by
  refine gw_of (by decide) (Nat.le_of_ble_eq_true rfl) ?_
  intro X w h C F
  have hw := h
  obtain ⟨-, ⟨o9, h9o, b2, b3, h9c, b5⟩, -, -⟩ := h
  have h := hw
  have e := hw.eq
  have hI := hA.1
  have hIt := cw_I_cg hI e
  have h6 := hI.m.2
  refine g_aload_n C rfl dX6_undo_0 ?_
  refine g_getr C fl_X6_22 rfl rfl dX6_undo_1 ?_
  refine g_call C (ok_X0_isEmpty A.2.1.1 h9c) my_X0_isEmpty vi_X6_252 (by decide) ⟨Nat.le_refl _, Nat.le_refl _⟩ rfl rfl rfl (Nat.le_of_ble_eq_true rfl) dX6_undo_4 rfl (b3) (fun v_4 w_4 hp_4 => ?_)
  obtain ⟨rfl, hw_4⟩ := hp_4
  have hw_4 := hw_4.symm; subst hw_4
  refine g_if_eq (tgt := 20) C (by decide) dX6_undo_7 (fun c_7 => ?_) (fun c_7 => absurd (cw_bf hc) c_7)
  refine g_aload_n C rfl dX6_undo_20 ?_
  refine g_getr C fl_X6_22 rfl rfl dX6_undo_21 ?_
  refine g_aload_n C rfl dX6_undo_24 ?_
  refine g_getr C fl_X6_10 rfl rfl dX6_undo_25 ?_
  refine g_call C (ok_X0_takeBack o9 A.2.1.1 h9o h9c) my_X0_takeBack vi_X6_257 (by decide) ⟨Nat.le_refl _, Nat.le_refl _⟩ rfl rfl rfl (Nat.le_of_ble_eq_true rfl) dX6_undo_28 rfl (⟨b2, b3, fun hpos k hk => by
    have eu : cw_nf (ho (cw_hs ((o9 + (A.2.1.1 - 1)) % 14 + 2) w)) = A.2.1.2 (A.2.1.1 - 1) := b5 _ (by omega)
    have hIu := hA.2.1 (A.2.1.1 - 1) (by omega)
    rw [← eu] at hIu
    have hs := (cw_I_nf hIu).sch k hk
    rw [← ho_r8 (w := cw_hs ((o9 + (A.2.1.1 - 1)) % 14 + 2) w) rfl hk rfl] at hs
    exact hs⟩) (fun v_28 w_28 hp_28 => ?_)
  obtain ⟨rfl, hn28, ho28, hh28, hf28, hz28⟩ := hp_28
  refine g_iret C F dX6_undo_31 ?_
  obtain ⟨-, -, hsl, htx⟩ := hw
  have hs : ∀ g, 2 ≤ g → g < 18 → ho (cw_hs g w_28) = ho (cw_hs g w) := fun g h1 h2 => cw_hs_cg (fun q q1 q2 => hf28 q (by omega) (by omega))
  refine ⟨rfl, by rw [hh28 (by omega)]; exact b5 _ (by omega), ⟨o9, h9o, ho28, hn28, by show A.2.1.1 - 1 ≤ 14; omega, fun i hi => ?_⟩, fun i hi => ⟨by rw [hf28 256 (by omega) (by omega)]; exact (hsl i hi).1, fun v hv => by rw [hs _ (by omega) (by omega)]; exact (hsl i hi).2 v hv⟩, by rw [hf28 257 (by omega) (by omega)]; exact htx.1, htx.2.1, fun i hi => by rw [hf28 258 (by omega) (by omega)]; exact htx.2.2 i hi⟩
  have hi : i < A.2.1.1 - 1 := hi
  rw [hs _ (by omega) (by have := Nat.mod_lt (o9 + i) (show 0 < 14 by decide); omega)]
  exact b5 i (by omega)

set_option maxHeartbeats 8000000 in
set_option maxRecDepth 100000 in
theorem thr_X6_undo_1 (A : cw_A) {n m : Nat} (hA : cw_IA n m A) (hc : A.2.1.1 = 0) : gw_Thr yX6_undo cX6_undo 1 (some .int) sC 8 [.ref 252] (fun w => cw_RC A w) "java/lang/IllegalStateException" (fun w w1 => w1 = w) := by
  refine gw_ofT (by decide) (Nat.le_of_ble_eq_true rfl) ?_
  intro X w h C F
  have hw := h
  obtain ⟨-, ⟨o9, h9o, b2, b3, h9c, b5⟩, -, -⟩ := h
  have h := hw
  have e := hw.eq
  have hI := hA.1
  have hIt := cw_I_cg hI e
  have h6 := hI.m.2
  refine g_aload_n C rfl dX6_undo_0 ?_
  refine g_getr C fl_X6_22 rfl rfl dX6_undo_1 ?_
  refine g_call C (ok_X0_isEmpty A.2.1.1 h9c) my_X0_isEmpty vi_X6_252 (by decide) ⟨Nat.zero_le _, Nat.zero_le _⟩ rfl rfl rfl (Nat.le_of_ble_eq_true rfl) dX6_undo_4 rfl (b3) (fun v_4 w_4 hp_4 => ?_)
  obtain ⟨rfl, hw_4⟩ := hp_4
  have hw_4 := hw_4.symm; subst hw_4
  refine g_if_eq (tgt := 20) C (by decide) dX6_undo_7 (fun c_7 => absurd c_7 (fun z => absurd z (by rw [cw_b1 hc]; decide))) (fun c_7 => ?_)
  exact g_throw C F tw_ISE (List.mem_of_getElem? (i := 10) rfl) (by decide) (Nat.le_of_ble_eq_true rfl) dX6_undo_10 dX6_undo_13 dX6_undo_14 dX6_undo_16 dX6_undo_19 (rfl)

def cw_sL (j : Nat) : Int32 := if j = 0 then 1 else if j = 1 then 0 else 1
def cw_sM (j : Nat) : Int32 := if j = 0 then 20 else if j = 1 then 20 else 10
theorem cw_setOk_ix {k v : Int32} (h : cw_setOk k v) : ∃ j, j < 3 ∧ k = nI j ∧ cw_sL j ≤ v ∧ v ≤ cw_sM j := by
  rcases h with ⟨rfl, a, b⟩ | ⟨rfl, a, b⟩ | ⟨rfl, a, b⟩
  · exact ⟨0, by decide, rfl, a, b⟩
  · exact ⟨1, by decide, rfl, a, b⟩
  · exact ⟨2, by decide, rfl, a, b⟩
theorem cw_setOk_of {v : Int32} {j : Nat} (hj : j < 3) (h : cw_sL j ≤ v ∧ v ≤ cw_sM j) : cw_setOk (nI j) v := by
  have : j = 0 ∨ j = 1 ∨ j = 2 := by omega
  rcases this with rfl | rfl | rfl
  · exact Or.inl ⟨rfl, h⟩
  · exact Or.inr (Or.inl ⟨rfl, h⟩)
  · exact Or.inr (Or.inr ⟨rfl, h⟩)

set_option maxHeartbeats 8000000 in
set_option maxRecDepth 100000 in
theorem g_setL {X : gw_X} {cc : ByteArray} {nL d mc ms : Nat} (C : gw_ok X RX6 cc nL d mc ms) {S : gw_S} {k n pc j : Nat} {lv : gw_LV} {st : List Value} {w : gw_M} (hj : j < 3) (hv : gw_lk lv 1 = some (.int (nI j))) (hd0 : decode cc pc = .ok (.getstatic 243, 3)) (hd3 : decode cc (pc + 3) = .ok (.iload_n 1, 1)) (hd4 : decode cc (pc + 4) = .ok (.iaload, 1))
    (K : gw_G X S nL k n (pc + 5) lv (.int (cw_sL j) :: st) w) : gw_G X S nL k n pc lv st w := by
  obtain ⟨p, l, e, R, s, m, args, below, meth, c, D, cA, ρ, A, Q⟩ := X
  obtain ⟨hx, hb, hml, hown, hts, hK, hA, hE, hRf, hRl, hRc, hRs⟩ := C
  intro H locs ls hP hD hS hl
  obtain ⟨-, ⟨t, hZ, hT⟩, -⟩ := hE
  refine va_gets hx hb hZ hS hown (hts _ (gw_T_at 466 (by decide +kernel) rfl)) (fun _ h => h) hd0 ?_
  refine lv_iload_n hx hb hd3 rfl (hl.2.2 (1, .int (nI j)) (List.mem_map.mpr ⟨(1, .int (nI j)), gw_lk_mem hv, rfl⟩)) ?_
  refine va_ti hx hb hT hS (vp_in_nI hj (by decide)) (v := .int (cw_sL j)) ?_ hd4 (K H locs ls hP hD hS hl)
  rw [nI_clamp (by omega)]
  rfl

set_option maxHeartbeats 8000000 in
set_option maxRecDepth 100000 in
theorem g_setM {X : gw_X} {cc : ByteArray} {nL d mc ms : Nat} (C : gw_ok X RX6 cc nL d mc ms) {S : gw_S} {k n pc j : Nat} {lv : gw_LV} {st : List Value} {w : gw_M} (hj : j < 3) (hv : gw_lk lv 1 = some (.int (nI j))) (hd0 : decode cc pc = .ok (.getstatic 246, 3)) (hd3 : decode cc (pc + 3) = .ok (.iload_n 1, 1)) (hd4 : decode cc (pc + 4) = .ok (.iaload, 1))
    (K : gw_G X S nL k n (pc + 5) lv (.int (cw_sM j) :: st) w) : gw_G X S nL k n pc lv st w := by
  obtain ⟨p, l, e, R, s, m, args, below, meth, c, D, cA, ρ, A, Q⟩ := X
  obtain ⟨hx, hb, hml, hown, hts, hK, hA, hE, hRf, hRl, hRc, hRs⟩ := C
  intro H locs ls hP hD hS hl
  obtain ⟨-, -, ⟨t, hZ, hT⟩, -⟩ := hE
  refine va_gets hx hb hZ hS hown (hts _ (gw_T_at 468 (by decide +kernel) rfl)) (fun _ h => h) hd0 ?_
  refine lv_iload_n hx hb hd3 rfl (hl.2.2 (1, .int (nI j)) (List.mem_map.mpr ⟨(1, .int (nI j)), gw_lk_mem hv, rfl⟩)) ?_
  refine va_ti hx hb hT hS (vp_in_nI hj (by decide)) (v := .int (cw_sM j)) ?_ hd4 (K H locs ls hP hD hS hl)
  rw [nI_clamp (by omega)]
  rfl

set_option maxHeartbeats 8000000 in
set_option maxRecDepth 100000 in
theorem ok_X6_set (A : cw_A) {n m : Nat} (hA : cw_IA n m A) (k v : Int32) (hc : cw_setOk k v) : gw_Ok yX6_set cX6_set 4 (some .int) sC 5 [.ref 252, .int k, .int v] (fun w => cw_RC A w) (fun _ vr w1 => vr = some (.int (A.1 (231 + cw_x k))) ∧ cw_RC (upd A.1 (231 + cw_x k) v, (cw_rem A).2) w1) := by
  refine gw_of (by decide) (Nat.le_of_ble_eq_true rfl) ?_
  intro X w h C F
  have hw := h
  obtain ⟨-, ⟨o9, h9o, b2, b3, h9c, b5⟩, -, -⟩ := h
  have h := hw
  have e := hw.eq
  have hI := hA.1
  have hIt := cw_I_cg hI e
  have h6 := hI.m.2
  obtain ⟨j, hj, rfl, hlo, hhi⟩ := cw_setOk_ix hc
  have ej : cw_x (nI j) = j := cw_xn (by omega)
  refine g_iload_n C rfl dX6_set_0 ?_
  refine g_if_lt (tgt := 9) C (by decide) dX6_set_1 (fun c_1 => absurd c_1 (fun z => nI_pos (n := j) (by omega) z)) (fun c_1 => ?_)
  refine g_iload_n C rfl dX6_set_4 ?_
  refine g_iconst (v := 3) C (by decide) dX6_set_5 ?_
  refine g_cmp_lt (tgt := 19) C (by decide) dX6_set_6 (fun c_6 => ?_) (fun c_6 => absurd (nI_lt (b := 3) hj (by decide)) c_6)
  refine g_aload_n C rfl dX6_set_19 ?_
  refine g_iload_n C rfl dX6_set_20 ?_
  refine g_setL (j := j) C hj rfl dX6_set_21 dX6_set_24 dX6_set_25 ?_
  refine g_setM (j := j) C hj rfl dX6_set_26 dX6_set_29 dX6_set_30 ?_
  refine g_call C (ok_X6_needRange v (cw_sL j) (cw_sM j) ⟨hlo, hhi⟩) my_X6_needRange vi_X6_48 (by decide) ⟨Nat.le_refl _, Nat.le_refl _⟩ rfl rfl rfl (Nat.le_of_ble_eq_true rfl) dX6_set_31 rfl (trivial) (fun v_31 w_31 hp_31 => ?_)
  obtain ⟨rfl, hw_31⟩ := hp_31
  have hw_31 := hw_31.symm; subst hw_31
  refine g_aload_n C rfl dX6_set_34 ?_
  refine g_getr C fl_X6_22 rfl rfl dX6_set_35 ?_
  refine g_aload_n C rfl dX6_set_38 ?_
  refine g_getr C fl_X6_10 rfl rfl dX6_set_39 ?_
  refine g_call C (ok_X0_remember o9 A.2.1.1 h9o h9c) my_X0_remember vi_X6_183 (by decide) ⟨Nat.le_refl _, Nat.le_refl _⟩ rfl rfl rfl (Nat.le_of_ble_eq_true rfl) dX6_set_42 rfl (⟨b2, b3, hw.sch hI⟩) (fun v_42 w_42 hp_42 => ?_)
  obtain ⟨rfl, ho42, hn42, hh42, hf42⟩ := hp_42
  have hr := hw.rem h9o b2 b5 ho42 hn42 hh42 hf42
  have e2 : cw_eq (ho (cw_hs 0 w_42)) A.1 := hr.eq
  have hI2 := cw_I_cg hI e2
  refine g_aload_n C rfl dX6_set_45 ?_
  refine g_getr C fl_X6_10 rfl rfl dX6_set_46 ?_
  refine g_getr C fl_X6_249 rfl rfl dX6_set_49 ?_
  refine g_iload_n C rfl dX6_set_52 ?_
  refine g_iald (j := j) C rfl (rfl) (hj) (by decide) dX6_set_53 ?_
  refine g_top (cw_pA1 hr hj) ?_
  refine g_istore_n C (by decide) dX6_set_54 ?_
  refine g_aload_n C rfl dX6_set_55 ?_
  refine g_getr C fl_X6_10 rfl rfl dX6_set_56 ?_
  refine g_getr C fl_X6_249 rfl rfl dX6_set_59 ?_
  refine g_iload_n C rfl dX6_set_62 ?_
  refine g_iload_n C rfl dX6_set_63 ?_
  refine g_iast (j := j) C rfl (rfl) (hj) (by decide) dX6_set_64 ?_
  refine g_iload_n C rfl dX6_set_65 ?_
  refine g_iret C F dX6_set_66 ?_
  rw [ej]
  show _ = _ ∧ cw_RC _ (gw_set w_42 1 j v)
  refine ⟨rfl, hr.pres (fun q hq => gw_set_ne _ _ _ _ (by omega)) ?_⟩
  have e9 : cw_hs 0 (gw_set w_42 1 j v) = gw_set (cw_hs 0 w_42) 1 j v := by
    funext q
    show gw_set w_42 1 j v (14 * 0 + q) = _
    rw [show 14 * 0 + q = q by omega]
    by_cases z : q = 1
    · rw [z, gw_set_self, gw_set_self]; rfl
    · rw [gw_set_ne _ _ _ _ z, gw_set_ne _ _ _ _ z]
      show w_42 q = w_42 (14 * 0 + q)
      rw [show 14 * 0 + q = q by omega]
  rw [e9, ho_s1 (w := cw_hs 0 w_42) rfl hj rfl, cw_nf_upd _ _ (by omega) (by omega)]
  exact congrArg (fun f => upd f (231 + j) v) hr.1

set_option maxHeartbeats 8000000 in
set_option maxRecDepth 100000 in
theorem thr_X6_set_2 (A : cw_A) (k v : Int32) (j : Nat) (hj : j < 3) (ek : k = nI j) (hr : ¬ (cw_sL j ≤ v ∧ v ≤ cw_sM j)) : gw_Thr yX6_set cX6_set 4 (some .int) sC 8 [.ref 252, .int k, .int v] (fun w => cw_RC A w) "java/lang/IllegalArgumentException" (fun w w1 => w1 = w) := by
  refine gw_ofT (by decide) (Nat.le_of_ble_eq_true rfl) ?_
  intro X w h C F
  subst ek
  refine g_iload_n C rfl dX6_set_0 ?_
  refine g_if_lt (tgt := 9) C (by decide) dX6_set_1 (fun c_1 => absurd c_1 (fun z => nI_pos (n := j) (by omega) z)) (fun c_1 => ?_)
  refine g_iload_n C rfl dX6_set_4 ?_
  refine g_iconst (v := 3) C (by decide) dX6_set_5 ?_
  refine g_cmp_lt (tgt := 19) C (by decide) dX6_set_6 (fun c_6 => ?_) (fun c_6 => absurd (nI_lt (b := 3) hj (by decide)) c_6)
  refine g_aload_n C rfl dX6_set_19 ?_
  refine g_iload_n C rfl dX6_set_20 ?_
  refine g_setL (j := j) C hj rfl dX6_set_21 dX6_set_24 dX6_set_25 ?_
  refine g_setM (j := j) C hj rfl dX6_set_26 dX6_set_29 dX6_set_30 ?_
  exact g_callT C F (gw_emb_id sC) (thr_X6_needRange v (cw_sL j) (cw_sM j) hr) my_X6_needRange vi_X6_48 (by decide) rfl (rfl) rfl ((fun w1 => w1)) (fun _ _ _ => rfl) (fun w1 j hj h => absurd rfl (h j hj)) (w) (fun _ _ => rfl) (Nat.le_of_ble_eq_true rfl) dX6_set_31 rfl (trivial) (fun w1 hw => hw)

set_option maxHeartbeats 8000000 in
set_option maxRecDepth 100000 in
theorem thr_X6_set_3 (A : cw_A) (k v : Int32) (hr : ¬ (0 ≤ k ∧ k < 3)) : gw_Thr yX6_set cX6_set 4 (some .int) sC 8 [.ref 252, .int k, .int v] (fun w => cw_RC A w) "java/lang/IllegalArgumentException" (fun w w1 => w1 = w) := by
  refine gw_ofT (by decide) (Nat.le_of_ble_eq_true rfl) ?_
  intro X w h C F
  refine g_iload_n C rfl dX6_set_0 ?_
  refine g_if_lt (tgt := 9) C (by decide) dX6_set_1 (fun c_1 => ?_) (fun c_1 => ?_)
  · exact g_throw C F tw_IAE (List.mem_of_getElem? (i := 9) rfl) (by decide) (Nat.le_of_ble_eq_true rfl) dX6_set_9 dX6_set_12 dX6_set_13 dX6_set_15 dX6_set_18 (rfl)
  · refine g_iload_n C rfl dX6_set_4 ?_
    refine g_iconst (v := 3) C (by decide) dX6_set_5 ?_
    refine g_cmp_lt (tgt := 19) C (by decide) dX6_set_6 (fun c_6 => absurd c_6 (fun z => hr ⟨Int32.not_lt.mp c_1, z⟩)) (fun c_6 => ?_)
    exact g_throw C F tw_IAE (List.mem_of_getElem? (i := 9) rfl) (by decide) (Nat.le_of_ble_eq_true rfl) dX6_set_9 dX6_set_12 dX6_set_13 dX6_set_15 dX6_set_18 (rfl)

theorem thr_X6_set_1 (A : cw_A) (k v : Int32) (hc : ¬ cw_setOk k v) : gw_Thr yX6_set cX6_set 4 (some .int) sC 8 [.ref 252, .int k, .int v] (fun w => cw_RC A w) "java/lang/IllegalArgumentException" (fun w w1 => w1 = w) := by
  by_cases h : 0 ≤ k ∧ k < 3
  · obtain ⟨j, hj, ek⟩ : ∃ j, j < 3 ∧ k = nI j := by
      have a := cw_le.mp h.1
      have b := cw_lt.mp h.2
      have z0 : (0 : Int32).toInt = 0 := rfl
      have z1 : (3 : Int32).toInt = 3 := rfl
      refine ⟨k.toInt.toNat, by omega, ?_⟩
      apply Int32.toInt_inj.mp
      rw [cw_ni (by omega)]; omega
    exact thr_X6_set_2 A k v j hj ek (fun z => hc (by rw [ek]; exact cw_setOk_of hj z))
  · exact thr_X6_set_3 A k v h
