theorem cw_ho_cg {w w' : gw_M} (key : ∀ q, q < 14 → w' q = w q) : ho w' = ho w :=
  ho_eq (by rw [key 0 (by decide)]) (by rw [key 0 (by decide)]) (by rw [key 0 (by decide)]) (fun j _ => by rw [key 1 (by decide)]) (fun j _ => by rw [key 2 (by decide)]) (fun j _ => by rw [key 3 (by decide)]) (fun j _ => by rw [key 4 (by decide)]) (fun j _ => by rw [key 5 (by decide)]) (fun j _ => by rw [key 6 (by decide)]) (fun j _ => by rw [key 7 (by decide)]) (fun j _ => by rw [key 8 (by decide)]) (fun j _ => by rw [key 9 (by decide)]) (fun j _ => by rw [key 10 (by decide)]) (fun j _ => by rw [key 11 (by decide)]) (fun j _ => by rw [key 12 (by decide)]) (fun j _ => by rw [key 13 (by decide)])
/-- the house h of the class's world -/
def cw_hs (h : Nat) (w : gw_M) : gw_M := fun i => w (14 * h + i)
def cw_w0 (h g : Nat) (w : gw_M) : gw_M := fun i => w (if i < 14 then 14 * h + i else 14 * g + (i - 14))
def cw_wp2 (h g : Nat) (w w1 : gw_M) : gw_M := fun j => if 14 * h ≤ j ∧ j < 14 * h + 14 then w1 (j - 14 * h) else if 14 * g ≤ j ∧ j < 14 * g + 14 then w1 (j - 14 * g + 14) else w j
theorem cw_wp2_i {h g : Nat} (hn : h ≠ g) {w : gw_M} : ∀ (w1 : gw_M) (i : Nat), i < 28 → cw_wp2 h g w w1 (if i < 14 then 14 * h + i else 14 * g + (i - 14)) = w1 i := fun w1 i hi => by
  unfold cw_wp2
  by_cases c : i < 14
  · rw [if_pos c, if_pos (by omega), show 14 * h + i - 14 * h = i by omega]
  · rw [if_neg c, if_neg (by omega), if_pos (by omega), show 14 * g + (i - 14) - 14 * g + 14 = i by omega]
theorem cw_wp2_o {h g N : Nat} {w : gw_M} : ∀ (w1 : gw_M) (j : Nat), j < N → (∀ i, i < 28 → (if i < 14 then 14 * h + i else 14 * g + (i - 14)) ≠ j) → cw_wp2 h g w w1 j = w j := fun w1 j _ hj => by
  unfold cw_wp2
  rw [if_neg, if_neg]
  · intro q
    have := hj (j - 14 * g + 14) (by omega)
    rw [if_neg (by omega)] at this
    omega
  · intro q
    have := hj (j - 14 * h) (by omega)
    rw [if_pos (by omega)] at this
    omega
theorem cw_copied {h g : Nat} (hn : h ≠ g) {w w1 : gw_M} (hq : ∀ q, 14 ≤ q → w1 q = cw_w0 h g w q) (hc : ho w1 = ho (cw_w2 (cw_w0 h g w))) : ho (cw_hs h (cw_wp2 h g w w1)) = ho (cw_hs g w) ∧ ∀ q, ¬ (14 * h ≤ q ∧ q < 14 * h + 14) → cw_wp2 h g w w1 q = w q := by
  refine ⟨?_, fun q n => ?_⟩
  · have e1 : ho (cw_hs h (cw_wp2 h g w w1)) = ho w1 := cw_ho_cg (fun q hq => by
      show cw_wp2 h g w w1 (14 * h + q) = _
      unfold cw_wp2
      rw [if_pos (by omega), show 14 * h + q - 14 * h = q by omega])
    rw [e1, hc]
    exact cw_ho_cg (fun q hq => by
      show w (if q + 14 < 14 then _ else 14 * g + (q + 14 - 14)) = w (14 * g + q)
      rw [if_neg (by omega), Nat.add_sub_cancel])
  · unfold cw_wp2
    rw [if_neg n]
    by_cases c : 14 * g ≤ q ∧ q < 14 * g + 14
    · rw [if_pos c, hq _ (by omega)]
      show w (if q - 14 * g + 14 < 14 then _ else 14 * g + (q - 14 * g + 14 - 14)) = w q
      rw [if_neg (by omega), show 14 * g + (q - 14 * g + 14 - 14) = q by omega]
    · rw [if_neg c]
theorem cw_mn14 {a b : Nat} (ha : a < 1000) (hb : b < 1000) (h : 0 < b) : cw_md (nI a) (nI b) = nI (a % b) := by
  have z0 : (0 : Int32).toInt = 0 := rfl
  have e := (cw_mdg (x := nI a) (y := nI b) (by rw [cw_ni ha]; omega) (by rw [cw_ni hb]; omega)).1
  rw [cw_ni ha, cw_ni hb] at e
  apply Int32.toInt_inj.mp
  have := Nat.mod_lt a h
  rw [e, cw_ni (by omega)]
  omega

set_option maxHeartbeats 8000000 in
set_option maxRecDepth 100000 in
theorem ok_X0_isEmpty (c : Nat) (hc : c ≤ 14) : gw_Ok yX0_isEmpty cX0_isEmpty 1 (some .boolean) sC 1 [.ref 253] (fun w => w 253 2 = nI c) (fun w vr w1 => vr = some (.int (cw_b (c = 0))) ∧ w1 = w) := by
  refine gw_of (by decide) (Nat.le_of_ble_eq_true rfl) ?_
  intro X w h C F
  refine g_aload_n C rfl dX0_isEmpty_0 ?_
  refine g_getf C fl_X0_18 rfl rfl dX0_isEmpty_1 ?_
  refine g_top h ?_
  refine g_if_ne (tgt := 11) C (by decide) dX0_isEmpty_4 (fun c_4 => ?_) (fun c_4 => ?_)
  · refine g_iconst (v := 0) C (by decide) dX0_isEmpty_11 ?_
    refine g_zret C F (rfl) dX0_isEmpty_12 ?_
    exact ⟨cw_q0 (fun q => c_4 (by rw [q]; rfl)), rfl⟩
  · refine g_iconst (v := 1) C (by decide) dX0_isEmpty_7 ?_
    refine g_goto (tgt := 12) C (by decide) dX0_isEmpty_8 ?_
    refine g_zret C F (rfl) dX0_isEmpty_12 ?_
    exact ⟨cw_q1 (cw_nI0 (by omega) c_4), rfl⟩

set_option maxHeartbeats 8000000 in
set_option maxRecDepth 100000 in
theorem ok_X0_remember (o c : Nat) (ho2 : o < 14) (hc : c ≤ 14) : gw_Ok yX0_remember cX0_remember 2 none sC 2 [.ref 253, .ref 0] (fun w => w 253 1 = nI o ∧ w 253 2 = nI c ∧ ∀ k, k < 20 → cw_r 0 1 (w 8 k)) (fun w vr w1 => vr = none ∧ w1 253 1 = nI (if c = 14 then (o + 1) % 14 else o) ∧ w1 253 2 = nI ((if c = 14 then 13 else c) + 1) ∧ ho (cw_hs (((if c = 14 then (o + 1) % 14 else o) + (if c = 14 then 13 else c)) % 14 + 2) w1) = ho (cw_hs 0 w) ∧ ∀ q, q ≠ 253 → ¬ (14 * (((if c = 14 then (o + 1) % 14 else o) + (if c = 14 then 13 else c)) % 14 + 2) ≤ q ∧ q < 14 * (((if c = 14 then (o + 1) % 14 else o) + (if c = 14 then 13 else c)) % 14 + 2) + 14) → w1 q = w q) := by
  refine gw_of (by decide) (Nat.le_of_ble_eq_true rfl) ?_
  intro X w h C F
  obtain ⟨ho1, hc1, hs⟩ := h
  refine g_aload_n C rfl dX0_remember_0 ?_
  refine g_getf C fl_X0_18 rfl rfl dX0_remember_1 ?_
  refine g_top hc1 ?_
  refine g_bipush (v := 14) C (by decide) dX0_remember_4 ?_
  refine g_cmp_lt (tgt := 32) C (by decide) dX0_remember_6 (fun c_6 => ?_) (fun c_6 => ?_)
  · have hcl : c < 14 := (cw_nlt (b := 14) (by omega) (by omega)).mp c_6
    refine g_aload_n C rfl dX0_remember_32 ?_
    refine g_getr C fl_X0_11 rfl rfl dX0_remember_33 ?_
    refine g_aload_n C rfl dX0_remember_36 ?_
    refine g_getf C fl_X0_22 rfl rfl dX0_remember_37 ?_
    refine g_top ho1 ?_
    refine g_aload_n C rfl dX0_remember_40 ?_
    refine g_getf C fl_X0_18 rfl rfl dX0_remember_41 ?_
    refine g_top hc1 ?_
    refine g_iadd C dX0_remember_44 ?_
    refine g_bipush (v := 14) C (by decide) dX0_remember_45 ?_
    refine g_irem C (by decide) dX0_remember_47 ?_
    refine g_top (show cw_md (nI o + nI c) (nI 14) = nI ((o + c) % 14) by rw [nI_add]; exact cw_mn14 (by omega) (by omega) (by omega)) ?_
    refine g_aald (j := (o + c) % 14) C rfl (rfl) (by omega) (by decide) dX0_remember_48 ?_
    refine g_aload_n C rfl dX0_remember_49 ?_
    refine g_callW C (cw_emb_2 ((o + c) % 14 + 2) (0) (by omega) (by omega) (by omega)) (ok_X1_copyFrom (cw_w0 ((o + c) % 14 + 2) 0 w) hs) my_X1_copyFrom vi_X0_25 (by decide) ⟨Nat.le_refl _, Nat.le_refl _⟩ rfl (((cw_emb_2 ((o + c) % 14 + 2) (0) (by omega) (by omega) (by omega)).1 0 (by decide))) rfl (cw_wp2 ((o + c) % 14 + 2) (0) w) (cw_wp2_i (by omega)) (cw_wp2_o) (cw_w0 ((o + c) % 14 + 2) (0) w) (fun _ _ => rfl) (Nat.le_of_ble_eq_true rfl) dX0_remember_50 rfl (rfl) (fun v_50 w_50 hp_50 => ?_)
    obtain ⟨rfl, hq50, hc50⟩ := hp_50
    refine g_aload_n C rfl dX0_remember_53 ?_
    refine g_dup C rfl dX0_remember_54 ?_
    refine g_getf C fl_X0_18 rfl rfl dX0_remember_55 ?_
    refine g_top (show _ = nI c by rw [(cw_copied (h := (o + c) % 14 + 2) (g := 0) (by omega) hq50 hc50).2 253 (by omega)]; exact hc1) ?_
    refine g_iconst (v := 1) C (by decide) dX0_remember_58 ?_
    refine g_iadd C dX0_remember_59 ?_
    refine g_top (nI_1 c) ?_
    refine g_putf C fl_X0_18 fp_0_2 rfl rfl (rfl) (rfl) dX0_remember_60 ?_
    refine g_vret C F dX0_remember_63 ?_
    obtain ⟨k1, k2⟩ := cw_copied (h := (o + c) % 14 + 2) (g := 0) (by omega) hq50 hc50
    have i1 : (if c = 14 then (o + 1) % 14 else o) = o := if_neg (by omega)
    have i2 : (if c = 14 then 13 else c) = c := if_neg (by omega)
    rw [i1, i2]
    refine ⟨rfl, ?_, ?_, ?_, fun q n1 n2 => ?_⟩
    · rw [gw_set_self, cw_upn _ _ (by decide), k2 253 (by omega)]; exact ho1
    · rw [gw_set_self, cw_ups]
    · refine (cw_ho_cg (fun q hq => ?_)).trans (k1.trans (rfl))
      show gw_set _ 253 2 _ (14 * ((o + c) % 14 + 2) + q) = _
      rw [gw_set_ne _ _ _ _ (by omega)]; rfl
    · rw [gw_set_ne _ _ _ _ n1, k2 q n2]
  · have hcc : c = 14 := by have z : ¬ c < 14 := fun q => c_6 ((cw_nlt (b := 14) (by omega) (by omega)).mpr q); omega
    refine g_aload_n C rfl dX0_remember_9 ?_
    refine g_aload_n C rfl dX0_remember_10 ?_
    refine g_getf C fl_X0_22 rfl rfl dX0_remember_11 ?_
    refine g_top ho1 ?_
    refine g_iconst (v := 1) C (by decide) dX0_remember_14 ?_
    refine g_iadd C dX0_remember_15 ?_
    refine g_bipush (v := 14) C (by decide) dX0_remember_16 ?_
    refine g_irem C (by decide) dX0_remember_18 ?_
    refine g_top (show _ = nI ((o + 1) % 14) by rw [← cw_mn14 (b := 14) (by omega) (by omega) (by omega), ← nI_1]; rfl) ?_
    refine g_putf C fl_X0_22 fp_0_1 rfl rfl (rfl) (rfl) dX0_remember_19 ?_
    refine g_aload_n C rfl dX0_remember_22 ?_
    refine g_dup C rfl dX0_remember_23 ?_
    refine g_getf C fl_X0_18 rfl rfl dX0_remember_24 ?_
    refine g_top (show _ = nI 14 by rw [gw_set_self, cw_upn _ _ (by decide), hc1, hcc]) ?_
    refine g_iconst (v := 1) C (by decide) dX0_remember_27 ?_
    refine g_isub C dX0_remember_28 ?_
    refine g_top (show _ = nI 13 by decide) ?_
    refine g_putf C fl_X0_18 fp_0_2 rfl rfl (rfl) (rfl) dX0_remember_29 ?_
    refine g_genP (P := fun v => (∀ q, q ≠ 253 → v q = w q) ∧ v 253 1 = nI ((o + 1) % 14) ∧ v 253 2 = nI 13) ⟨fun q hq => by rw [gw_set_ne _ _ _ _ hq, gw_set_ne _ _ _ _ hq], by rw [gw_set_self, cw_upn _ _ (by decide), gw_set_self, cw_ups], by rw [gw_set_self, cw_ups]⟩ (fun w5 h5 => ?_)
    obtain ⟨b0, b1, b2⟩ := h5
    refine g_aload_n C rfl dX0_remember_32 ?_
    refine g_getr C fl_X0_11 rfl rfl dX0_remember_33 ?_
    refine g_aload_n C rfl dX0_remember_36 ?_
    refine g_getf C fl_X0_22 rfl rfl dX0_remember_37 ?_
    refine g_top b1 ?_
    refine g_aload_n C rfl dX0_remember_40 ?_
    refine g_getf C fl_X0_18 rfl rfl dX0_remember_41 ?_
    refine g_top b2 ?_
    refine g_iadd C dX0_remember_44 ?_
    refine g_bipush (v := 14) C (by decide) dX0_remember_45 ?_
    refine g_irem C (by decide) dX0_remember_47 ?_
    refine g_top (show cw_md (nI ((o + 1) % 14) + nI 13) (nI 14) = nI (((o + 1) % 14 + 13) % 14) by rw [nI_add]; exact cw_mn14 (by omega) (by omega) (by omega)) ?_
    refine g_aald (j := ((o + 1) % 14 + 13) % 14) C rfl (rfl) (by omega) (by decide) dX0_remember_48 ?_
    refine g_aload_n C rfl dX0_remember_49 ?_
    refine g_callW C (cw_emb_2 (((o + 1) % 14 + 13) % 14 + 2) (0) (by omega) (by omega) (by omega)) (ok_X1_copyFrom (cw_w0 (((o + 1) % 14 + 13) % 14 + 2) 0 w5) (fun k hk => by show cw_r 0 1 (w5 8 k); rw [b0 8 (by decide)]; exact hs k hk)) my_X1_copyFrom vi_X0_25 (by decide) ⟨Nat.le_refl _, Nat.le_refl _⟩ rfl (((cw_emb_2 (((o + 1) % 14 + 13) % 14 + 2) (0) (by omega) (by omega) (by omega)).1 0 (by decide))) rfl (cw_wp2 (((o + 1) % 14 + 13) % 14 + 2) (0) w5) (cw_wp2_i (by omega)) (cw_wp2_o) (cw_w0 (((o + 1) % 14 + 13) % 14 + 2) (0) w5) (fun _ _ => rfl) (Nat.le_of_ble_eq_true rfl) dX0_remember_50 rfl (rfl) (fun v_50 w_50 hp_50 => ?_)
    obtain ⟨rfl, hq50, hc50⟩ := hp_50
    refine g_aload_n C rfl dX0_remember_53 ?_
    refine g_dup C rfl dX0_remember_54 ?_
    refine g_getf C fl_X0_18 rfl rfl dX0_remember_55 ?_
    refine g_top (show _ = nI 13 by rw [(cw_copied (h := ((o + 1) % 14 + 13) % 14 + 2) (g := 0) (by omega) hq50 hc50).2 253 (by omega)]; exact b2) ?_
    refine g_iconst (v := 1) C (by decide) dX0_remember_58 ?_
    refine g_iadd C dX0_remember_59 ?_
    refine g_top (nI_1 13) ?_
    refine g_putf C fl_X0_18 fp_0_2 rfl rfl (rfl) (rfl) dX0_remember_60 ?_
    refine g_vret C F dX0_remember_63 ?_
    obtain ⟨k1, k2⟩ := cw_copied (h := ((o + 1) % 14 + 13) % 14 + 2) (g := 0) (by omega) hq50 hc50
    have i1 : (if c = 14 then (o + 1) % 14 else o) = (o + 1) % 14 := if_pos hcc
    have i2 : (if c = 14 then 13 else c) = 13 := if_pos hcc
    rw [i1, i2]
    refine ⟨rfl, ?_, ?_, ?_, fun q n1 n2 => ?_⟩
    · rw [gw_set_self, cw_upn _ _ (by decide), k2 253 (by omega)]; exact b1
    · rw [gw_set_self, cw_ups]
    · refine (cw_ho_cg (fun q hq => ?_)).trans (k1.trans (cw_ho_cg (fun q hq => b0 _ (by omega))))
      show gw_set _ 253 2 _ (14 * (((o + 1) % 14 + 13) % 14 + 2) + q) = _
      rw [gw_set_ne _ _ _ _ (by omega)]; rfl
    · rw [gw_set_ne _ _ _ _ n1, k2 q n2]; exact b0 q n1
