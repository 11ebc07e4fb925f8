/-! THE LAW'S SMALL METHODS -/
theorem cw_or1 (P : Prop) : P ∨ ¬ P := Classical.em P
theorem cw_or2 (P Q : Prop) : (P ∧ Q) ∨ ¬ P ∨ (P ∧ ¬ Q) := by
  by_cases p : P
  · by_cases q : Q
    · exact Or.inl ⟨p, q⟩
    · exact Or.inr (Or.inr ⟨p, q⟩)
  · exact Or.inr (Or.inl p)
theorem cw_or3 (P Q R : Prop) : (P ∧ Q ∧ R) ∨ ¬ P ∨ (P ∧ ¬ Q) ∨ (P ∧ Q ∧ ¬ R) := by
  by_cases p : P
  · by_cases q : Q
    · by_cases r : R
      · exact Or.inl ⟨p, q, r⟩
      · exact Or.inr (Or.inr (Or.inr ⟨p, q, r⟩))
    · exact Or.inr (Or.inr (Or.inl ⟨p, q⟩))
  · exact Or.inr (Or.inl p)
theorem cw_nn {P : Prop} (h : ¬ ¬ P) : P := Classical.byContradiction h
theorem thr_X6_offer_12 (A : cw_A) {n m : Nat} (hA : cw_IA n m A) (o k a : Int32) (hc : ¬ (cw_th A.1 o k ∧ cw_isW a)) : gw_Thr yX6_offer cX6_offer 4 (some .int) sC 8 [.ref 252, .int o, .int k, .int a] (fun w => cw_RC A w) "java/lang/IndexOutOfBoundsException" (fun w w1 => w1 = w) := by
  by_cases h1 : cw_th A.1 o k
  · exact thr_X6_offer_x A hA o k a h1 (fun h2 => hc ⟨h1, h2⟩)
  · exact thr_X6_offer_1 A hA o k a h1
theorem cw_205 {n m : Nat} {u : cw_s} (hI : cw_I n m u) : u 205 < 8 ↔ ¬ u 205 = 8 := by
  obtain ⟨q, hq8, hq, -⟩ := hI.off
  rw [hq]
  have e : ¬ nI q = 8 ↔ q < 8 := ⟨fun z => Nat.lt_of_le_of_ne hq8 (fun y => z (by rw [y]; rfl)), fun z y => by have := (nI_eq (a := q) (b := 8) (by omega) (by decide)).mp y; omega⟩
  rw [e]
  exact cw_nlt (b := 8) (by omega) (by omega)
/-- what the law tells of an exception, out of the place of the exception -/
def pw_rc (f : Int32 → Int32) (r : cw_R) : cw_R := (f r.1, r.2)
def pw_fA (x : Int32) : Int32 := if x = 0 then 0 else if x = 1 then 2 else 3
def pw_fB (x : Int32) : Int32 := if x = 0 then 0 else if x = 1 then 1 else 2
def pw_fC (x : Int32) : Int32 := if x = 0 then 0 else if x = 1 then 1 else 3
def pw_fD (x : Int32) : Int32 := x
theorem pw_rc1 {f : Int32 → Int32} {r : cw_R} {a c x : Int32} {B : cw_A} (h : r = (c, a, B)) (hf : f c = x) : pw_rc f r = (x, a, B) := by
  rw [h, ← hf]; rfl
def pw_low (v n : Int32) : Int32 := cw_md (v &&& 2147483647) n
def pw_cell (L : Nat) (xs : Nat → Int32) (e : Nat) : Int32 := if e < L then xs e else 7919 * (nI e + 7) * (nI e + 271)
theorem pw_lt {e L : Nat} (he : e < 1000) (hL : L < 1000) : (nI L ≤ nI e) ↔ ¬ e < L := by
  rw [cw_le, cw_ni hL, cw_ni he]; omega

set_option maxHeartbeats 8000000 in
set_option maxRecDepth 100000 in
theorem ok_L_low (v n : Int32) (hn : ¬ n = 0) : gw_Ok yL_low cL_low 2 (some .int) sZ 1 [.int v, .int n] (fun _ => True) (fun w vr w1 => vr = some (.int (pw_low v n)) ∧ w1 = w) := by
  refine gw_of (by decide) (Nat.le_of_ble_eq_true rfl) ?_
  intro X w h C F
  refine g_iload_n C rfl dL_low_0 ?_
  refine g_ldc C kc_L_7 dL_low_1 ?_
  refine g_iand C dL_low_3 ?_
  refine g_iload_n C rfl dL_low_4 ?_
  refine g_irem C (hn) dL_low_5 ?_
  refine g_iret C F dL_low_6 ?_
  exact ⟨rfl, rfl⟩

set_option maxHeartbeats 8000000 in
set_option maxRecDepth 100000 in
theorem ok_L_cell {L : Nat} (xs : Nat → Int32) (hL : L < 1000) (e : Nat) (he : e < 1000) : gw_OkX yL_cell cL_cell 2 (some .int) 1 [.ref 527, .int (nI e)] L xs (fun vr => vr = some (.int (pw_cell L xs e))) := by
  refine gw_ofX (by decide) (Nat.le_of_ble_eq_true rfl) ?_
  intro X w hX C F
  refine g_iload_n C rfl dL_cell_0 ?_
  refine g_aload_n C rfl dL_cell_1 ?_
  refine g_slen2 C hX dL_cell_2 ?_
  refine g_cmp_ge (tgt := 12) C (by decide) dL_cell_3 (fun c_3 => ?_) (fun c_3 => ?_)
  · refine g_sipush (v := 7919) C (by decide) dL_cell_12 ?_
    refine g_iload_n C rfl dL_cell_15 ?_
    refine g_bipush (v := 7) C (by decide) dL_cell_16 ?_
    refine g_iadd C dL_cell_18 ?_
    refine g_imul C dL_cell_19 ?_
    refine g_iload_n C rfl dL_cell_20 ?_
    refine g_sipush (v := 271) C (by decide) dL_cell_21 ?_
    refine g_iadd C dL_cell_24 ?_
    refine g_imul C dL_cell_25 ?_
    refine g_iret C F dL_cell_26 ?_
    exact congrArg (fun z => some (Value.int z)) (if_neg ((pw_lt he hL).mp c_3)).symm
  · refine g_aload_n C rfl dL_cell_6 ?_
    refine g_iload_n C rfl dL_cell_7 ?_
    refine g_scr C hX (j := e) rfl ((Classical.not_not.mp (fun z => c_3 ((pw_lt he hL).mpr z)))) (by omega) dL_cell_8 ?_
    refine g_goto (tgt := 26) C (by decide) dL_cell_9 ?_
    refine g_iret C F dL_cell_26 ?_
    exact congrArg (fun z => some (Value.int z)) (if_pos (Classical.not_not.mp (fun z => c_3 ((pw_lt he hL).mpr z)))).symm

set_option maxHeartbeats 8000000 in
set_option maxRecDepth 100000 in
theorem ok_L_changes_0 (A : cw_A) {n m : Nat} (hA : cw_IA n m A) (hB : cw_B (n + 21600) (m + 2400)) (a : Int32) (b : Int32) : gw_OkH yL_changes cL_changes 6 (some .int) [(0, 114, 117, 37), (0, 114, 121, 39), (0, 114, 125, 41)] sCO 13 [.ref 252, .int 0, .int a, .int b, .ref 263] (fun w => cw_RC A w) (fun _ vr w1 => cw_LW (pw_rc pw_fA (sp_owner A a)) vr w1) := by
  refine gw_ofH (by decide) (Nat.le_of_ble_eq_true rfl) ?_
  intro X w h C F
  have hI := hA.1
  have hB2 : cw_B n (m + 20) := cw_B_le2 hB (by omega) (by omega)
  rcases cw_or2 (1 ≤ a ∧ a ≤ 9) (¬ A.1 0 = 6) with ⟨h1, h2⟩ | h1 | ⟨h1, h2⟩
  · refine g_aload C rfl dL_changes_0 ?_
    refine g_iconst (v := 0) C (by decide) dL_changes_2 ?_
    refine g_iload_n C rfl dL_changes_3 ?_
    refine g_if_ne (tgt := 15) C (by decide) dL_changes_4 (fun c_4 => absurd (by decide) c_4) (fun c_4 => ?_)
    refine g_aload_n C rfl dL_changes_7 ?_
    refine g_iload_n C rfl dL_changes_8 ?_
    refine g_callW C cw_emb_CO (ok_X6_owner A hA hB2 a h1 h2) my_X6_owner vi_L_8 (by decide) ⟨Nat.zero_le _, Nat.zero_le _⟩ rfl ((cw_emb_CO.1 252 (by decide))) rfl (cw_wpc w) (cw_wpc_i) (cw_wpc_o) (w) (fun _ _ => rfl) (Nat.le_of_ble_eq_true rfl) dL_changes_9 rfl (h) (fun v_9 w_9 hp_9 => ?_)
    obtain ⟨rfl, hr9⟩ := hp_9
    refine g_goto (tgt := 113) C (by decide) dL_changes_12 ?_
    refine g_iast (j := 0) C rfl (rfl) (by decide) (by decide) dL_changes_113 ?_
    refine g_goto (tgt := 129) C (by decide) dL_changes_114 ?_
    refine g_iconst (v := 0) C (by decide) dL_changes_129 ?_
    refine g_iretH C F dL_changes_130 ?_
    exact cw_LW0 (pw_rc1 (by unfold sp_owner; rw [cw_it h1, if_neg h2]; exact cw_stp0 rfl) (by decide)) (by rw [gw_set_self, cw_ups]) (hr9.low (fun q hq => by rw [gw_set_ne _ _ _ _ (by omega)]; exact if_pos hq))
  · refine g_aload C rfl dL_changes_0 ?_
    refine g_iconst (v := 0) C (by decide) dL_changes_2 ?_
    refine g_iload_n C rfl dL_changes_3 ?_
    refine g_if_ne (tgt := 15) C (by decide) dL_changes_4 (fun c_4 => absurd (by decide) c_4) (fun c_4 => ?_)
    refine g_aload_n C rfl dL_changes_7 ?_
    refine g_iload_n C rfl dL_changes_8 ?_
    have hpass : ∀ z ∈ ([(0, 114, 117, 37)] : List (Nat × Nat × Nat × Nat)), z.2.2.2 ≠ 0 ∧ ∃ nm : String, Cond.classLink RL z.2.2.2 nm ∈ gw_T ∧ ("java/lang/IllegalArgumentException", nm) ∈ gw_nc := fun z hz => by
      simp only [List.mem_cons, List.not_mem_nil, or_false] at hz
      rcases hz with rfl
      · exact ⟨by decide, "java/lang/IndexOutOfBoundsException", gw_T_at 325 (by decide +kernel) rfl, List.mem_of_getElem? (i := 1) rfl⟩
    exact g_callC C F cw_emb_CO (thr_X6_owner_1 A hA a h1) my_X6_owner vi_L_8 (by decide) rfl (cw_emb_CO.1 252 (by decide)) rfl (cw_wpc w) cw_wpc_i cw_wpc_o w (fun _ _ => rfl) (Nat.le_of_ble_eq_true rfl) dL_changes_9 rfl h [(0, 114, 117, 37)] (0, 114, 121, 39) [(0, 114, 125, 41)] rfl hpass (by decide) (by decide) (gw_T_at 326 (by decide +kernel) rfl) (gw_N_at 210 (by decide +kernel) rfl) (Or.inr ⟨5, by decide, dL_changes_121, rfl⟩) (ic := 2) (cv := 2) (by decide) dL_changes_123 dL_changes_124 (fun w1 hw1 => cw_LW1 (pw_rc1 (by unfold sp_owner; rw [cw_ie h1]; exact cw_stp1 (by decide)) (by decide)) (by decide) (cw_RC.low (w := w1) (hw1 ▸ h) (fun q hq => if_pos hq)))
  · refine g_aload C rfl dL_changes_0 ?_
    refine g_iconst (v := 0) C (by decide) dL_changes_2 ?_
    refine g_iload_n C rfl dL_changes_3 ?_
    refine g_if_ne (tgt := 15) C (by decide) dL_changes_4 (fun c_4 => absurd (by decide) c_4) (fun c_4 => ?_)
    refine g_aload_n C rfl dL_changes_7 ?_
    refine g_iload_n C rfl dL_changes_8 ?_
    have hpass : ∀ z ∈ ([(0, 114, 117, 37), (0, 114, 121, 39)] : List (Nat × Nat × Nat × Nat)), z.2.2.2 ≠ 0 ∧ ∃ nm : String, Cond.classLink RL z.2.2.2 nm ∈ gw_T ∧ ("java/lang/IllegalStateException", nm) ∈ gw_nc := fun z hz => by
      simp only [List.mem_cons, List.not_mem_nil, or_false] at hz
      rcases hz with rfl | rfl
      · exact ⟨by decide, "java/lang/IndexOutOfBoundsException", gw_T_at 325 (by decide +kernel) rfl, List.mem_of_getElem? (i := 2) rfl⟩
      · exact ⟨by decide, "java/lang/IllegalArgumentException", gw_T_at 326 (by decide +kernel) rfl, List.mem_of_getElem? (i := 0) rfl⟩
    exact g_callC C F cw_emb_CO (thr_X6_owner_2 A hA a h1 (cw_nn h2)) my_X6_owner vi_L_8 (by decide) rfl (cw_emb_CO.1 252 (by decide)) rfl (cw_wpc w) cw_wpc_i cw_wpc_o w (fun _ _ => rfl) (Nat.le_of_ble_eq_true rfl) dL_changes_9 rfl h [(0, 114, 117, 37), (0, 114, 121, 39)] (0, 114, 125, 41) [] rfl hpass (by decide) (by decide) (gw_T_at 286 (by decide +kernel) rfl) (gw_N_at 297 (by decide +kernel) rfl) (Or.inr ⟨5, by decide, dL_changes_125, rfl⟩) (ic := 3) (cv := 3) (by decide) dL_changes_127 dL_changes_128 (fun w1 hw1 => cw_LW1 (pw_rc1 (by unfold sp_owner; rw [cw_it h1, if_pos (cw_nn h2)]; exact cw_stp1 (by decide)) (by decide)) (by decide) (cw_RC.low (w := w1) (hw1 ▸ h) (fun q hq => if_pos hq)))

set_option maxHeartbeats 8000000 in
set_option maxRecDepth 100000 in
theorem ok_L_changes_1 (A : cw_A) {n m : Nat} (hA : cw_IA n m A) (hB : cw_B (n + 21600) (m + 2400)) (a : Int32) (b : Int32) : gw_OkH yL_changes cL_changes 6 (some .int) [(0, 114, 117, 37), (0, 114, 121, 39), (0, 114, 125, 41)] sCO 13 [.ref 252, .int 1, .int a, .int b, .ref 263] (fun w => cw_RC A w) (fun _ vr w1 => cw_LW (pw_rc pw_fD (sp_take A a b)) vr w1) := by
  refine gw_ofH (by decide) (Nat.le_of_ble_eq_true rfl) ?_
  intro X w h C F
  have hI := hA.1
  have hB2 : cw_B n (m + 20) := cw_B_le2 hB (by omega) (by omega)
  rcases cw_or1 (cw_th A.1 a b) with h1 | h1
  · refine g_aload C rfl dL_changes_0 ?_
    refine g_iconst (v := 0) C (by decide) dL_changes_2 ?_
    refine g_iload_n C rfl dL_changes_3 ?_
    refine g_if_ne (tgt := 15) C (by decide) dL_changes_4 (fun c_4 => ?_) (fun c_4 => absurd c_4 (by decide))
    refine g_iload_n C rfl dL_changes_15 ?_
    refine g_iconst (v := 1) C (by decide) dL_changes_16 ?_
    refine g_cmp_ne (tgt := 29) C (by decide) dL_changes_17 (fun c_17 => absurd (by decide) c_17) (fun c_17 => ?_)
    refine g_aload_n C rfl dL_changes_20 ?_
    refine g_iload_n C rfl dL_changes_21 ?_
    refine g_iload_n C rfl dL_changes_22 ?_
    refine g_callW C cw_emb_CO (ok_X6_take A hA hB2 a b h1) my_X6_take vi_L_14 (by decide) ⟨Nat.zero_le _, Nat.zero_le _⟩ rfl ((cw_emb_CO.1 252 (by decide))) rfl (cw_wpc w) (cw_wpc_i) (cw_wpc_o) (w) (fun _ _ => rfl) (Nat.le_of_ble_eq_true rfl) dL_changes_23 rfl (h) (fun v_23 w_23 hp_23 => ?_)
    obtain ⟨rfl, hr23⟩ := hp_23
    refine g_goto (tgt := 113) C (by decide) dL_changes_26 ?_
    refine g_iast (j := 0) C rfl (rfl) (by decide) (by decide) dL_changes_113 ?_
    refine g_goto (tgt := 129) C (by decide) dL_changes_114 ?_
    refine g_iconst (v := 0) C (by decide) dL_changes_129 ?_
    refine g_iretH C F dL_changes_130 ?_
    exact cw_LW0 (pw_rc1 (by unfold sp_take; rw [cw_it h1]; exact cw_stp0 rfl) (by decide)) (by rw [gw_set_self, cw_ups]) (hr23.low (fun q hq => by rw [gw_set_ne _ _ _ _ (by omega)]; exact if_pos hq))
  · refine g_aload C rfl dL_changes_0 ?_
    refine g_iconst (v := 0) C (by decide) dL_changes_2 ?_
    refine g_iload_n C rfl dL_changes_3 ?_
    refine g_if_ne (tgt := 15) C (by decide) dL_changes_4 (fun c_4 => ?_) (fun c_4 => absurd c_4 (by decide))
    refine g_iload_n C rfl dL_changes_15 ?_
    refine g_iconst (v := 1) C (by decide) dL_changes_16 ?_
    refine g_cmp_ne (tgt := 29) C (by decide) dL_changes_17 (fun c_17 => absurd (by decide) c_17) (fun c_17 => ?_)
    refine g_aload_n C rfl dL_changes_20 ?_
    refine g_iload_n C rfl dL_changes_21 ?_
    refine g_iload_n C rfl dL_changes_22 ?_
    have hpass : ∀ z ∈ ([] : List (Nat × Nat × Nat × Nat)), z.2.2.2 ≠ 0 ∧ ∃ nm : String, Cond.classLink RL z.2.2.2 nm ∈ gw_T ∧ ("java/lang/IndexOutOfBoundsException", nm) ∈ gw_nc := fun z hz => absurd hz List.not_mem_nil
    exact g_callC C F cw_emb_CO (thr_X6_take_1 A hA a b h1) my_X6_take vi_L_14 (by decide) rfl (cw_emb_CO.1 252 (by decide)) rfl (cw_wpc w) cw_wpc_i cw_wpc_o w (fun _ _ => rfl) (Nat.le_of_ble_eq_true rfl) dL_changes_23 rfl h [] (0, 114, 117, 37) [(0, 114, 121, 39), (0, 114, 125, 41)] rfl hpass (by decide) (by decide) (gw_T_at 325 (by decide +kernel) rfl) (gw_N_at 363 (by decide +kernel) rfl) (Or.inr ⟨5, by decide, dL_changes_117, rfl⟩) (ic := 1) (cv := 1) (by decide) dL_changes_119 dL_changes_120 (fun w1 hw1 => cw_LW1 (pw_rc1 (by unfold sp_take; rw [cw_ie h1]; exact cw_stp1 (by decide)) (by decide)) (by decide) (cw_RC.low (w := w1) (hw1 ▸ h) (fun q hq => if_pos hq)))

set_option maxHeartbeats 8000000 in
set_option maxRecDepth 100000 in
theorem ok_L_changes_2 (A : cw_A) {n m : Nat} (hA : cw_IA n m A) (hB : cw_B (n + 21600) (m + 2400)) (a : Int32) (b : Int32) : gw_OkH yL_changes cL_changes 6 (some .int) [(0, 114, 117, 37), (0, 114, 121, 39), (0, 114, 125, 41)] sCO 13 [.ref 252, .int 2, .int a, .int b, .ref 263] (fun w => cw_RC A w) (fun _ vr w1 => cw_LW (pw_rc pw_fC (sp_release A a b)) vr w1) := by
  refine gw_ofH (by decide) (Nat.le_of_ble_eq_true rfl) ?_
  intro X w h C F
  have hI := hA.1
  have hB2 : cw_B n (m + 20) := cw_B_le2 hB (by omega) (by omega)
  rcases cw_or2 (cw_th A.1 a b) (A.1 (25 + 3 * cw_x b + 2) = a) with ⟨h1, h2⟩ | h1 | ⟨h1, h2⟩
  · refine g_aload C rfl dL_changes_0 ?_
    refine g_iconst (v := 0) C (by decide) dL_changes_2 ?_
    refine g_iload_n C rfl dL_changes_3 ?_
    refine g_if_ne (tgt := 15) C (by decide) dL_changes_4 (fun c_4 => ?_) (fun c_4 => absurd c_4 (by decide))
    refine g_iload_n C rfl dL_changes_15 ?_
    refine g_iconst (v := 1) C (by decide) dL_changes_16 ?_
    refine g_cmp_ne (tgt := 29) C (by decide) dL_changes_17 (fun c_17 => ?_) (fun c_17 => absurd c_17 (by decide))
    refine g_iload_n C rfl dL_changes_29 ?_
    refine g_iconst (v := 2) C (by decide) dL_changes_30 ?_
    refine g_cmp_ne (tgt := 43) C (by decide) dL_changes_31 (fun c_31 => absurd (by decide) c_31) (fun c_31 => ?_)
    refine g_aload_n C rfl dL_changes_34 ?_
    refine g_iload_n C rfl dL_changes_35 ?_
    refine g_iload_n C rfl dL_changes_36 ?_
    refine g_callW C cw_emb_CO (ok_X6_release A hA hB2 a b h1 h2) my_X6_release vi_L_18 (by decide) ⟨Nat.zero_le _, Nat.zero_le _⟩ rfl ((cw_emb_CO.1 252 (by decide))) rfl (cw_wpc w) (cw_wpc_i) (cw_wpc_o) (w) (fun _ _ => rfl) (Nat.le_of_ble_eq_true rfl) dL_changes_37 rfl (h) (fun v_37 w_37 hp_37 => ?_)
    obtain ⟨rfl, hr37⟩ := hp_37
    refine g_goto (tgt := 113) C (by decide) dL_changes_40 ?_
    refine g_iast (j := 0) C rfl (rfl) (by decide) (by decide) dL_changes_113 ?_
    refine g_goto (tgt := 129) C (by decide) dL_changes_114 ?_
    refine g_iconst (v := 0) C (by decide) dL_changes_129 ?_
    refine g_iretH C F dL_changes_130 ?_
    exact cw_LW0 (pw_rc1 (by unfold sp_release; rw [cw_it h1, if_pos h2]; exact cw_stp0 rfl) (by decide)) (by rw [gw_set_self, cw_ups]) (hr37.low (fun q hq => by rw [gw_set_ne _ _ _ _ (by omega)]; exact if_pos hq))
  · refine g_aload C rfl dL_changes_0 ?_
    refine g_iconst (v := 0) C (by decide) dL_changes_2 ?_
    refine g_iload_n C rfl dL_changes_3 ?_
    refine g_if_ne (tgt := 15) C (by decide) dL_changes_4 (fun c_4 => ?_) (fun c_4 => absurd c_4 (by decide))
    refine g_iload_n C rfl dL_changes_15 ?_
    refine g_iconst (v := 1) C (by decide) dL_changes_16 ?_
    refine g_cmp_ne (tgt := 29) C (by decide) dL_changes_17 (fun c_17 => ?_) (fun c_17 => absurd c_17 (by decide))
    refine g_iload_n C rfl dL_changes_29 ?_
    refine g_iconst (v := 2) C (by decide) dL_changes_30 ?_
    refine g_cmp_ne (tgt := 43) C (by decide) dL_changes_31 (fun c_31 => absurd (by decide) c_31) (fun c_31 => ?_)
    refine g_aload_n C rfl dL_changes_34 ?_
    refine g_iload_n C rfl dL_changes_35 ?_
    refine g_iload_n C rfl dL_changes_36 ?_
    have hpass : ∀ z ∈ ([] : List (Nat × Nat × Nat × Nat)), z.2.2.2 ≠ 0 ∧ ∃ nm : String, Cond.classLink RL z.2.2.2 nm ∈ gw_T ∧ ("java/lang/IndexOutOfBoundsException", nm) ∈ gw_nc := fun z hz => absurd hz List.not_mem_nil
    exact g_callC C F cw_emb_CO (thr_X6_release_1 A hA a b h1) my_X6_release vi_L_18 (by decide) rfl (cw_emb_CO.1 252 (by decide)) rfl (cw_wpc w) cw_wpc_i cw_wpc_o w (fun _ _ => rfl) (Nat.le_of_ble_eq_true rfl) dL_changes_37 rfl h [] (0, 114, 117, 37) [(0, 114, 121, 39), (0, 114, 125, 41)] rfl hpass (by decide) (by decide) (gw_T_at 325 (by decide +kernel) rfl) (gw_N_at 363 (by decide +kernel) rfl) (Or.inr ⟨5, by decide, dL_changes_117, rfl⟩) (ic := 1) (cv := 1) (by decide) dL_changes_119 dL_changes_120 (fun w1 hw1 => cw_LW1 (pw_rc1 (by unfold sp_release; rw [cw_ie h1]; exact cw_stp1 (by decide)) (by decide)) (by decide) (cw_RC.low (w := w1) (hw1 ▸ h) (fun q hq => if_pos hq)))
  · refine g_aload C rfl dL_changes_0 ?_
    refine g_iconst (v := 0) C (by decide) dL_changes_2 ?_
    refine g_iload_n C rfl dL_changes_3 ?_
    refine g_if_ne (tgt := 15) C (by decide) dL_changes_4 (fun c_4 => ?_) (fun c_4 => absurd c_4 (by decide))
    refine g_iload_n C rfl dL_changes_15 ?_
    refine g_iconst (v := 1) C (by decide) dL_changes_16 ?_
    refine g_cmp_ne (tgt := 29) C (by decide) dL_changes_17 (fun c_17 => ?_) (fun c_17 => absurd c_17 (by decide))
    refine g_iload_n C rfl dL_changes_29 ?_
    refine g_iconst (v := 2) C (by decide) dL_changes_30 ?_
    refine g_cmp_ne (tgt := 43) C (by decide) dL_changes_31 (fun c_31 => absurd (by decide) c_31) (fun c_31 => ?_)
    refine g_aload_n C rfl dL_changes_34 ?_
    refine g_iload_n C rfl dL_changes_35 ?_
    refine g_iload_n C rfl dL_changes_36 ?_
    have hpass : ∀ z ∈ ([(0, 114, 117, 37), (0, 114, 121, 39)] : List (Nat × Nat × Nat × Nat)), z.2.2.2 ≠ 0 ∧ ∃ nm : String, Cond.classLink RL z.2.2.2 nm ∈ gw_T ∧ ("java/lang/IllegalStateException", nm) ∈ gw_nc := fun z hz => by
      simp only [List.mem_cons, List.not_mem_nil, or_false] at hz
      rcases hz with rfl | rfl
      · exact ⟨by decide, "java/lang/IndexOutOfBoundsException", gw_T_at 325 (by decide +kernel) rfl, List.mem_of_getElem? (i := 2) rfl⟩
      · exact ⟨by decide, "java/lang/IllegalArgumentException", gw_T_at 326 (by decide +kernel) rfl, List.mem_of_getElem? (i := 0) rfl⟩
    exact g_callC C F cw_emb_CO (thr_X6_release_2 A hA a b h1 h2) my_X6_release vi_L_18 (by decide) rfl (cw_emb_CO.1 252 (by decide)) rfl (cw_wpc w) cw_wpc_i cw_wpc_o w (fun _ _ => rfl) (Nat.le_of_ble_eq_true rfl) dL_changes_37 rfl h [(0, 114, 117, 37), (0, 114, 121, 39)] (0, 114, 125, 41) [] rfl hpass (by decide) (by decide) (gw_T_at 286 (by decide +kernel) rfl) (gw_N_at 297 (by decide +kernel) rfl) (Or.inr ⟨5, by decide, dL_changes_125, rfl⟩) (ic := 3) (cv := 3) (by decide) dL_changes_127 dL_changes_128 (fun w1 hw1 => cw_LW1 (pw_rc1 (by unfold sp_release; rw [cw_it h1, if_neg h2]; exact cw_stp1 (by decide)) (by decide)) (by decide) (cw_RC.low (w := w1) (hw1 ▸ h) (fun q hq => if_pos hq)))

set_option maxHeartbeats 8000000 in
set_option maxRecDepth 100000 in
theorem ok_L_changes_3 (A : cw_A) {n m : Nat} (hA : cw_IA n m A) (hB : cw_B (n + 21600) (m + 2400)) (a : Int32) (b : Int32) : gw_OkH yL_changes cL_changes 6 (some .int) [(0, 114, 117, 37), (0, 114, 121, 39), (0, 114, 125, 41)] sCO 13 [.ref 252, .int 3, .int a, .int b, .ref 263] (fun w => cw_RC A w) (fun _ vr w1 => cw_LW (pw_rc pw_fD (sp_accept A a)) vr w1) := by
  refine gw_ofH (by decide) (Nat.le_of_ble_eq_true rfl) ?_
  intro X w h C F
  have hI := hA.1
  have hB2 : cw_B n (m + 20) := cw_B_le2 hB (by omega) (by omega)
  rcases cw_or1 (cw_isK A.1 a) with h1 | h1
  · refine g_aload C rfl dL_changes_0 ?_
    refine g_iconst (v := 0) C (by decide) dL_changes_2 ?_
    refine g_iload_n C rfl dL_changes_3 ?_
    refine g_if_ne (tgt := 15) C (by decide) dL_changes_4 (fun c_4 => ?_) (fun c_4 => absurd c_4 (by decide))
    refine g_iload_n C rfl dL_changes_15 ?_
    refine g_iconst (v := 1) C (by decide) dL_changes_16 ?_
    refine g_cmp_ne (tgt := 29) C (by decide) dL_changes_17 (fun c_17 => ?_) (fun c_17 => absurd c_17 (by decide))
    refine g_iload_n C rfl dL_changes_29 ?_
    refine g_iconst (v := 2) C (by decide) dL_changes_30 ?_
    refine g_cmp_ne (tgt := 43) C (by decide) dL_changes_31 (fun c_31 => ?_) (fun c_31 => absurd c_31 (by decide))
    refine g_iload_n C rfl dL_changes_43 ?_
    refine g_iconst (v := 3) C (by decide) dL_changes_44 ?_
    refine g_cmp_ne (tgt := 56) C (by decide) dL_changes_45 (fun c_45 => absurd (by decide) c_45) (fun c_45 => ?_)
    refine g_aload_n C rfl dL_changes_48 ?_
    refine g_iload_n C rfl dL_changes_49 ?_
    refine g_callW C cw_emb_CO (ok_X6_accept A hA hB2 a h1) my_X6_accept vi_L_21 (by decide) ⟨Nat.zero_le _, Nat.zero_le _⟩ rfl ((cw_emb_CO.1 252 (by decide))) rfl (cw_wpc w) (cw_wpc_i) (cw_wpc_o) (w) (fun _ _ => rfl) (Nat.le_of_ble_eq_true rfl) dL_changes_50 rfl (h) (fun v_50 w_50 hp_50 => ?_)
    obtain ⟨rfl, hr50⟩ := hp_50
    refine g_goto (tgt := 113) C (by decide) dL_changes_53 ?_
    refine g_iast (j := 0) C rfl (rfl) (by decide) (by decide) dL_changes_113 ?_
    refine g_goto (tgt := 129) C (by decide) dL_changes_114 ?_
    refine g_iconst (v := 0) C (by decide) dL_changes_129 ?_
    refine g_iretH C F dL_changes_130 ?_
    exact cw_LW0 (pw_rc1 (by unfold sp_accept; rw [cw_it h1]; exact cw_stp0 rfl) (by decide)) (by rw [gw_set_self, cw_ups]) (hr50.low (fun q hq => by rw [gw_set_ne _ _ _ _ (by omega)]; exact if_pos hq))
  · refine g_aload C rfl dL_changes_0 ?_
    refine g_iconst (v := 0) C (by decide) dL_changes_2 ?_
    refine g_iload_n C rfl dL_changes_3 ?_
    refine g_if_ne (tgt := 15) C (by decide) dL_changes_4 (fun c_4 => ?_) (fun c_4 => absurd c_4 (by decide))
    refine g_iload_n C rfl dL_changes_15 ?_
    refine g_iconst (v := 1) C (by decide) dL_changes_16 ?_
    refine g_cmp_ne (tgt := 29) C (by decide) dL_changes_17 (fun c_17 => ?_) (fun c_17 => absurd c_17 (by decide))
    refine g_iload_n C rfl dL_changes_29 ?_
    refine g_iconst (v := 2) C (by decide) dL_changes_30 ?_
    refine g_cmp_ne (tgt := 43) C (by decide) dL_changes_31 (fun c_31 => ?_) (fun c_31 => absurd c_31 (by decide))
    refine g_iload_n C rfl dL_changes_43 ?_
    refine g_iconst (v := 3) C (by decide) dL_changes_44 ?_
    refine g_cmp_ne (tgt := 56) C (by decide) dL_changes_45 (fun c_45 => absurd (by decide) c_45) (fun c_45 => ?_)
    refine g_aload_n C rfl dL_changes_48 ?_
    refine g_iload_n C rfl dL_changes_49 ?_
    have hpass : ∀ z ∈ ([] : List (Nat × Nat × Nat × Nat)), z.2.2.2 ≠ 0 ∧ ∃ nm : String, Cond.classLink RL z.2.2.2 nm ∈ gw_T ∧ ("java/lang/IndexOutOfBoundsException", nm) ∈ gw_nc := fun z hz => absurd hz List.not_mem_nil
    exact g_callC C F cw_emb_CO (thr_X6_accept_1 A hA a h1) my_X6_accept vi_L_21 (by decide) rfl (cw_emb_CO.1 252 (by decide)) rfl (cw_wpc w) cw_wpc_i cw_wpc_o w (fun _ _ => rfl) (Nat.le_of_ble_eq_true rfl) dL_changes_50 rfl h [] (0, 114, 117, 37) [(0, 114, 121, 39), (0, 114, 125, 41)] rfl hpass (by decide) (by decide) (gw_T_at 325 (by decide +kernel) rfl) (gw_N_at 363 (by decide +kernel) rfl) (Or.inr ⟨5, by decide, dL_changes_117, rfl⟩) (ic := 1) (cv := 1) (by decide) dL_changes_119 dL_changes_120 (fun w1 hw1 => cw_LW1 (pw_rc1 (by unfold sp_accept; rw [cw_ie h1]; exact cw_stp1 (by decide)) (by decide)) (by decide) (cw_RC.low (w := w1) (hw1 ▸ h) (fun q hq => if_pos hq)))

set_option maxHeartbeats 8000000 in
set_option maxRecDepth 100000 in
theorem ok_L_changes_4 (A : cw_A) {n m : Nat} (hA : cw_IA n m A) (hB : cw_B (n + 21600) (m + 2400)) (a : Int32) (b : Int32) : gw_OkH yL_changes cL_changes 6 (some .int) [(0, 114, 117, 37), (0, 114, 121, 39), (0, 114, 125, 41)] sCO 13 [.ref 252, .int 4, .int a, .int b, .ref 263] (fun w => cw_RC A w) (fun _ vr w1 => cw_LW (pw_rc pw_fA (sp_upkeep A a)) vr w1) := by
  refine gw_ofH (by decide) (Nat.le_of_ble_eq_true rfl) ?_
  intro X w h C F
  have hI := hA.1
  have hB2 : cw_B n (m + 20) := cw_B_le2 hB (by omega) (by omega)
  rcases cw_or2 (1 ≤ a ∧ a ≤ 999) (¬ A.1 0 = 0) with ⟨h1, h2⟩ | h1 | ⟨h1, h2⟩
  · refine g_aload C rfl dL_changes_0 ?_
    refine g_iconst (v := 0) C (by decide) dL_changes_2 ?_
    refine g_iload_n C rfl dL_changes_3 ?_
    refine g_if_ne (tgt := 15) C (by decide) dL_changes_4 (fun c_4 => ?_) (fun c_4 => absurd c_4 (by decide))
    refine g_iload_n C rfl dL_changes_15 ?_
    refine g_iconst (v := 1) C (by decide) dL_changes_16 ?_
    refine g_cmp_ne (tgt := 29) C (by decide) dL_changes_17 (fun c_17 => ?_) (fun c_17 => absurd c_17 (by decide))
    refine g_iload_n C rfl dL_changes_29 ?_
    refine g_iconst (v := 2) C (by decide) dL_changes_30 ?_
    refine g_cmp_ne (tgt := 43) C (by decide) dL_changes_31 (fun c_31 => ?_) (fun c_31 => absurd c_31 (by decide))
    refine g_iload_n C rfl dL_changes_43 ?_
    refine g_iconst (v := 3) C (by decide) dL_changes_44 ?_
    refine g_cmp_ne (tgt := 56) C (by decide) dL_changes_45 (fun c_45 => ?_) (fun c_45 => absurd c_45 (by decide))
    refine g_iload_n C rfl dL_changes_56 ?_
    refine g_iconst (v := 4) C (by decide) dL_changes_57 ?_
    refine g_cmp_ne (tgt := 69) C (by decide) dL_changes_58 (fun c_58 => absurd (by decide) c_58) (fun c_58 => ?_)
    refine g_aload_n C rfl dL_changes_61 ?_
    refine g_iload_n C rfl dL_changes_62 ?_
    refine g_callW C cw_emb_CO (ok_X6_upkeep A hA hB2 a h1 h2) my_X6_upkeep vi_L_24 (by decide) ⟨Nat.zero_le _, Nat.zero_le _⟩ rfl ((cw_emb_CO.1 252 (by decide))) rfl (cw_wpc w) (cw_wpc_i) (cw_wpc_o) (w) (fun _ _ => rfl) (Nat.le_of_ble_eq_true rfl) dL_changes_63 rfl (h) (fun v_63 w_63 hp_63 => ?_)
    obtain ⟨rfl, hr63⟩ := hp_63
    refine g_goto (tgt := 113) C (by decide) dL_changes_66 ?_
    refine g_iast (j := 0) C rfl (rfl) (by decide) (by decide) dL_changes_113 ?_
    refine g_goto (tgt := 129) C (by decide) dL_changes_114 ?_
    refine g_iconst (v := 0) C (by decide) dL_changes_129 ?_
    refine g_iretH C F dL_changes_130 ?_
    exact cw_LW0 (pw_rc1 (by unfold sp_upkeep; rw [cw_it h1, if_neg h2]; exact cw_stp0 rfl) (by decide)) (by rw [gw_set_self, cw_ups]) (hr63.low (fun q hq => by rw [gw_set_ne _ _ _ _ (by omega)]; exact if_pos hq))
  · refine g_aload C rfl dL_changes_0 ?_
    refine g_iconst (v := 0) C (by decide) dL_changes_2 ?_
    refine g_iload_n C rfl dL_changes_3 ?_
    refine g_if_ne (tgt := 15) C (by decide) dL_changes_4 (fun c_4 => ?_) (fun c_4 => absurd c_4 (by decide))
    refine g_iload_n C rfl dL_changes_15 ?_
    refine g_iconst (v := 1) C (by decide) dL_changes_16 ?_
    refine g_cmp_ne (tgt := 29) C (by decide) dL_changes_17 (fun c_17 => ?_) (fun c_17 => absurd c_17 (by decide))
    refine g_iload_n C rfl dL_changes_29 ?_
    refine g_iconst (v := 2) C (by decide) dL_changes_30 ?_
    refine g_cmp_ne (tgt := 43) C (by decide) dL_changes_31 (fun c_31 => ?_) (fun c_31 => absurd c_31 (by decide))
    refine g_iload_n C rfl dL_changes_43 ?_
    refine g_iconst (v := 3) C (by decide) dL_changes_44 ?_
    refine g_cmp_ne (tgt := 56) C (by decide) dL_changes_45 (fun c_45 => ?_) (fun c_45 => absurd c_45 (by decide))
    refine g_iload_n C rfl dL_changes_56 ?_
    refine g_iconst (v := 4) C (by decide) dL_changes_57 ?_
    refine g_cmp_ne (tgt := 69) C (by decide) dL_changes_58 (fun c_58 => absurd (by decide) c_58) (fun c_58 => ?_)
    refine g_aload_n C rfl dL_changes_61 ?_
    refine g_iload_n C rfl dL_changes_62 ?_
    have hpass : ∀ z ∈ ([(0, 114, 117, 37)] : List (Nat × Nat × Nat × Nat)), z.2.2.2 ≠ 0 ∧ ∃ nm : String, Cond.classLink RL z.2.2.2 nm ∈ gw_T ∧ ("java/lang/IllegalArgumentException", nm) ∈ gw_nc := fun z hz => by
      simp only [List.mem_cons, List.not_mem_nil, or_false] at hz
      rcases hz with rfl
      · exact ⟨by decide, "java/lang/IndexOutOfBoundsException", gw_T_at 325 (by decide +kernel) rfl, List.mem_of_getElem? (i := 1) rfl⟩
    exact g_callC C F cw_emb_CO (thr_X6_upkeep_1 A hA a h1) my_X6_upkeep vi_L_24 (by decide) rfl (cw_emb_CO.1 252 (by decide)) rfl (cw_wpc w) cw_wpc_i cw_wpc_o w (fun _ _ => rfl) (Nat.le_of_ble_eq_true rfl) dL_changes_63 rfl h [(0, 114, 117, 37)] (0, 114, 121, 39) [(0, 114, 125, 41)] rfl hpass (by decide) (by decide) (gw_T_at 326 (by decide +kernel) rfl) (gw_N_at 210 (by decide +kernel) rfl) (Or.inr ⟨5, by decide, dL_changes_121, rfl⟩) (ic := 2) (cv := 2) (by decide) dL_changes_123 dL_changes_124 (fun w1 hw1 => cw_LW1 (pw_rc1 (by unfold sp_upkeep; rw [cw_ie h1]; exact cw_stp1 (by decide)) (by decide)) (by decide) (cw_RC.low (w := w1) (hw1 ▸ h) (fun q hq => if_pos hq)))
  · refine g_aload C rfl dL_changes_0 ?_
    refine g_iconst (v := 0) C (by decide) dL_changes_2 ?_
    refine g_iload_n C rfl dL_changes_3 ?_
    refine g_if_ne (tgt := 15) C (by decide) dL_changes_4 (fun c_4 => ?_) (fun c_4 => absurd c_4 (by decide))
    refine g_iload_n C rfl dL_changes_15 ?_
    refine g_iconst (v := 1) C (by decide) dL_changes_16 ?_
    refine g_cmp_ne (tgt := 29) C (by decide) dL_changes_17 (fun c_17 => ?_) (fun c_17 => absurd c_17 (by decide))
    refine g_iload_n C rfl dL_changes_29 ?_
    refine g_iconst (v := 2) C (by decide) dL_changes_30 ?_
    refine g_cmp_ne (tgt := 43) C (by decide) dL_changes_31 (fun c_31 => ?_) (fun c_31 => absurd c_31 (by decide))
    refine g_iload_n C rfl dL_changes_43 ?_
    refine g_iconst (v := 3) C (by decide) dL_changes_44 ?_
    refine g_cmp_ne (tgt := 56) C (by decide) dL_changes_45 (fun c_45 => ?_) (fun c_45 => absurd c_45 (by decide))
    refine g_iload_n C rfl dL_changes_56 ?_
    refine g_iconst (v := 4) C (by decide) dL_changes_57 ?_
    refine g_cmp_ne (tgt := 69) C (by decide) dL_changes_58 (fun c_58 => absurd (by decide) c_58) (fun c_58 => ?_)
    refine g_aload_n C rfl dL_changes_61 ?_
    refine g_iload_n C rfl dL_changes_62 ?_
    have hpass : ∀ z ∈ ([(0, 114, 117, 37), (0, 114, 121, 39)] : List (Nat × Nat × Nat × Nat)), z.2.2.2 ≠ 0 ∧ ∃ nm : String, Cond.classLink RL z.2.2.2 nm ∈ gw_T ∧ ("java/lang/IllegalStateException", nm) ∈ gw_nc := fun z hz => by
      simp only [List.mem_cons, List.not_mem_nil, or_false] at hz
      rcases hz with rfl | rfl
      · exact ⟨by decide, "java/lang/IndexOutOfBoundsException", gw_T_at 325 (by decide +kernel) rfl, List.mem_of_getElem? (i := 2) rfl⟩
      · exact ⟨by decide, "java/lang/IllegalArgumentException", gw_T_at 326 (by decide +kernel) rfl, List.mem_of_getElem? (i := 0) rfl⟩
    exact g_callC C F cw_emb_CO (thr_X6_upkeep_2 A hA a h1 (cw_nn h2)) my_X6_upkeep vi_L_24 (by decide) rfl (cw_emb_CO.1 252 (by decide)) rfl (cw_wpc w) cw_wpc_i cw_wpc_o w (fun _ _ => rfl) (Nat.le_of_ble_eq_true rfl) dL_changes_63 rfl h [(0, 114, 117, 37), (0, 114, 121, 39)] (0, 114, 125, 41) [] rfl hpass (by decide) (by decide) (gw_T_at 286 (by decide +kernel) rfl) (gw_N_at 297 (by decide +kernel) rfl) (Or.inr ⟨5, by decide, dL_changes_125, rfl⟩) (ic := 3) (cv := 3) (by decide) dL_changes_127 dL_changes_128 (fun w1 hw1 => cw_LW1 (pw_rc1 (by unfold sp_upkeep; rw [cw_it h1, if_pos (cw_nn h2)]; exact cw_stp1 (by decide)) (by decide)) (by decide) (cw_RC.low (w := w1) (hw1 ▸ h) (fun q hq => if_pos hq)))

set_option maxHeartbeats 8000000 in
set_option maxRecDepth 100000 in
theorem ok_L_changes_5 (A : cw_A) {n m : Nat} (hA : cw_IA n m A) (hB : cw_B (n + 21600) (m + 2400)) (a : Int32) (b : Int32) : gw_OkH yL_changes cL_changes 6 (some .int) [(0, 114, 117, 37), (0, 114, 121, 39), (0, 114, 125, 41)] sCO 13 [.ref 252, .int 5, .int a, .int b, .ref 263] (fun w => cw_RC A w) (fun _ vr w1 => cw_LW (pw_rc pw_fA (sp_set A a b)) vr w1) := by
  refine gw_ofH (by decide) (Nat.le_of_ble_eq_true rfl) ?_
  intro X w h C F
  have hI := hA.1
  have hB2 : cw_B n (m + 20) := cw_B_le2 hB (by omega) (by omega)
  rcases cw_or1 (cw_setOk a b) with h1 | h1
  · refine g_aload C rfl dL_changes_0 ?_
    refine g_iconst (v := 0) C (by decide) dL_changes_2 ?_
    refine g_iload_n C rfl dL_changes_3 ?_
    refine g_if_ne (tgt := 15) C (by decide) dL_changes_4 (fun c_4 => ?_) (fun c_4 => absurd c_4 (by decide))
    refine g_iload_n C rfl dL_changes_15 ?_
    refine g_iconst (v := 1) C (by decide) dL_changes_16 ?_
    refine g_cmp_ne (tgt := 29) C (by decide) dL_changes_17 (fun c_17 => ?_) (fun c_17 => absurd c_17 (by decide))
    refine g_iload_n C rfl dL_changes_29 ?_
    refine g_iconst (v := 2) C (by decide) dL_changes_30 ?_
    refine g_cmp_ne (tgt := 43) C (by decide) dL_changes_31 (fun c_31 => ?_) (fun c_31 => absurd c_31 (by decide))
    refine g_iload_n C rfl dL_changes_43 ?_
    refine g_iconst (v := 3) C (by decide) dL_changes_44 ?_
    refine g_cmp_ne (tgt := 56) C (by decide) dL_changes_45 (fun c_45 => ?_) (fun c_45 => absurd c_45 (by decide))
    refine g_iload_n C rfl dL_changes_56 ?_
    refine g_iconst (v := 4) C (by decide) dL_changes_57 ?_
    refine g_cmp_ne (tgt := 69) C (by decide) dL_changes_58 (fun c_58 => ?_) (fun c_58 => absurd c_58 (by decide))
    refine g_iload_n C rfl dL_changes_69 ?_
    refine g_iconst (v := 5) C (by decide) dL_changes_70 ?_
    refine g_cmp_ne (tgt := 83) C (by decide) dL_changes_71 (fun c_71 => absurd (by decide) c_71) (fun c_71 => ?_)
    refine g_aload_n C rfl dL_changes_74 ?_
    refine g_iload_n C rfl dL_changes_75 ?_
    refine g_iload_n C rfl dL_changes_76 ?_
    refine g_callW C cw_emb_CO (ok_X6_set A hA a b h1) my_X6_set vi_L_27 (by decide) ⟨Nat.zero_le _, Nat.zero_le _⟩ rfl ((cw_emb_CO.1 252 (by decide))) rfl (cw_wpc w) (cw_wpc_i) (cw_wpc_o) (w) (fun _ _ => rfl) (Nat.le_of_ble_eq_true rfl) dL_changes_77 rfl (h) (fun v_77 w_77 hp_77 => ?_)
    obtain ⟨rfl, hr77⟩ := hp_77
    refine g_goto (tgt := 113) C (by decide) dL_changes_80 ?_
    refine g_iast (j := 0) C rfl (rfl) (by decide) (by decide) dL_changes_113 ?_
    refine g_goto (tgt := 129) C (by decide) dL_changes_114 ?_
    refine g_iconst (v := 0) C (by decide) dL_changes_129 ?_
    refine g_iretH C F dL_changes_130 ?_
    exact cw_LW0 (pw_rc1 (by unfold sp_set; rw [cw_it h1]; exact cw_stp0 rfl) (by decide)) (by rw [gw_set_self, cw_ups]) (hr77.low (fun q hq => by rw [gw_set_ne _ _ _ _ (by omega)]; exact if_pos hq))
  · refine g_aload C rfl dL_changes_0 ?_
    refine g_iconst (v := 0) C (by decide) dL_changes_2 ?_
    refine g_iload_n C rfl dL_changes_3 ?_
    refine g_if_ne (tgt := 15) C (by decide) dL_changes_4 (fun c_4 => ?_) (fun c_4 => absurd c_4 (by decide))
    refine g_iload_n C rfl dL_changes_15 ?_
    refine g_iconst (v := 1) C (by decide) dL_changes_16 ?_
    refine g_cmp_ne (tgt := 29) C (by decide) dL_changes_17 (fun c_17 => ?_) (fun c_17 => absurd c_17 (by decide))
    refine g_iload_n C rfl dL_changes_29 ?_
    refine g_iconst (v := 2) C (by decide) dL_changes_30 ?_
    refine g_cmp_ne (tgt := 43) C (by decide) dL_changes_31 (fun c_31 => ?_) (fun c_31 => absurd c_31 (by decide))
    refine g_iload_n C rfl dL_changes_43 ?_
    refine g_iconst (v := 3) C (by decide) dL_changes_44 ?_
    refine g_cmp_ne (tgt := 56) C (by decide) dL_changes_45 (fun c_45 => ?_) (fun c_45 => absurd c_45 (by decide))
    refine g_iload_n C rfl dL_changes_56 ?_
    refine g_iconst (v := 4) C (by decide) dL_changes_57 ?_
    refine g_cmp_ne (tgt := 69) C (by decide) dL_changes_58 (fun c_58 => ?_) (fun c_58 => absurd c_58 (by decide))
    refine g_iload_n C rfl dL_changes_69 ?_
    refine g_iconst (v := 5) C (by decide) dL_changes_70 ?_
    refine g_cmp_ne (tgt := 83) C (by decide) dL_changes_71 (fun c_71 => absurd (by decide) c_71) (fun c_71 => ?_)
    refine g_aload_n C rfl dL_changes_74 ?_
    refine g_iload_n C rfl dL_changes_75 ?_
    refine g_iload_n C rfl dL_changes_76 ?_
    have hpass : ∀ z ∈ ([(0, 114, 117, 37)] : List (Nat × Nat × Nat × Nat)), z.2.2.2 ≠ 0 ∧ ∃ nm : String, Cond.classLink RL z.2.2.2 nm ∈ gw_T ∧ ("java/lang/IllegalArgumentException", nm) ∈ gw_nc := fun z hz => by
      simp only [List.mem_cons, List.not_mem_nil, or_false] at hz
      rcases hz with rfl
      · exact ⟨by decide, "java/lang/IndexOutOfBoundsException", gw_T_at 325 (by decide +kernel) rfl, List.mem_of_getElem? (i := 1) rfl⟩
    exact g_callC C F cw_emb_CO (thr_X6_set_1 A a b h1) my_X6_set vi_L_27 (by decide) rfl (cw_emb_CO.1 252 (by decide)) rfl (cw_wpc w) cw_wpc_i cw_wpc_o w (fun _ _ => rfl) (Nat.le_of_ble_eq_true rfl) dL_changes_77 rfl h [(0, 114, 117, 37)] (0, 114, 121, 39) [(0, 114, 125, 41)] rfl hpass (by decide) (by decide) (gw_T_at 326 (by decide +kernel) rfl) (gw_N_at 210 (by decide +kernel) rfl) (Or.inr ⟨5, by decide, dL_changes_121, rfl⟩) (ic := 2) (cv := 2) (by decide) dL_changes_123 dL_changes_124 (fun w1 hw1 => cw_LW1 (pw_rc1 (by unfold sp_set; rw [cw_ie h1]; exact cw_stp1 (by decide)) (by decide)) (by decide) (cw_RC.low (w := w1) (hw1 ▸ h) (fun q hq => if_pos hq)))

set_option maxHeartbeats 8000000 in
set_option maxRecDepth 100000 in
theorem ok_L_changes_6 (A : cw_A) {n m : Nat} (hA : cw_IA n m A) (hB : cw_B (n + 21600) (m + 2400)) (a : Int32) (b : Int32) : gw_OkH yL_changes cL_changes 6 (some .int) [(0, 114, 117, 37), (0, 114, 121, 39), (0, 114, 125, 41)] sCO 13 [.ref 252, .int 6, .int a, .int b, .ref 263] (fun w => cw_RC A w) (fun _ vr w1 => cw_LW (pw_rc pw_fB (sp_cost A a b)) vr w1) := by
  refine gw_ofH (by decide) (Nat.le_of_ble_eq_true rfl) ?_
  intro X w h C F
  have hI := hA.1
  have hB2 : cw_B n (m + 20) := cw_B_le2 hB (by omega) (by omega)
  rcases cw_or2 (cw_isW a) (1 ≤ b ∧ b ≤ 9) with ⟨h1, h2⟩ | h1 | ⟨h1, h2⟩
  · refine g_aload C rfl dL_changes_0 ?_
    refine g_iconst (v := 0) C (by decide) dL_changes_2 ?_
    refine g_iload_n C rfl dL_changes_3 ?_
    refine g_if_ne (tgt := 15) C (by decide) dL_changes_4 (fun c_4 => ?_) (fun c_4 => absurd c_4 (by decide))
    refine g_iload_n C rfl dL_changes_15 ?_
    refine g_iconst (v := 1) C (by decide) dL_changes_16 ?_
    refine g_cmp_ne (tgt := 29) C (by decide) dL_changes_17 (fun c_17 => ?_) (fun c_17 => absurd c_17 (by decide))
    refine g_iload_n C rfl dL_changes_29 ?_
    refine g_iconst (v := 2) C (by decide) dL_changes_30 ?_
    refine g_cmp_ne (tgt := 43) C (by decide) dL_changes_31 (fun c_31 => ?_) (fun c_31 => absurd c_31 (by decide))
    refine g_iload_n C rfl dL_changes_43 ?_
    refine g_iconst (v := 3) C (by decide) dL_changes_44 ?_
    refine g_cmp_ne (tgt := 56) C (by decide) dL_changes_45 (fun c_45 => ?_) (fun c_45 => absurd c_45 (by decide))
    refine g_iload_n C rfl dL_changes_56 ?_
    refine g_iconst (v := 4) C (by decide) dL_changes_57 ?_
    refine g_cmp_ne (tgt := 69) C (by decide) dL_changes_58 (fun c_58 => ?_) (fun c_58 => absurd c_58 (by decide))
    refine g_iload_n C rfl dL_changes_69 ?_
    refine g_iconst (v := 5) C (by decide) dL_changes_70 ?_
    refine g_cmp_ne (tgt := 83) C (by decide) dL_changes_71 (fun c_71 => ?_) (fun c_71 => absurd c_71 (by decide))
    refine g_iload_n C rfl dL_changes_83 ?_
    refine g_bipush (v := 6) C (by decide) dL_changes_84 ?_
    refine g_cmp_ne (tgt := 98) C (by decide) dL_changes_86 (fun c_86 => absurd (by decide) c_86) (fun c_86 => ?_)
    refine g_aload_n C rfl dL_changes_89 ?_
    refine g_iload_n C rfl dL_changes_90 ?_
    refine g_iload_n C rfl dL_changes_91 ?_
    refine g_callW C cw_emb_CO (ok_X6_cost A hA hB2 a b h1 h2) my_X6_cost vi_L_30 (by decide) ⟨Nat.zero_le _, Nat.zero_le _⟩ rfl ((cw_emb_CO.1 252 (by decide))) rfl (cw_wpc w) (cw_wpc_i) (cw_wpc_o) (w) (fun _ _ => rfl) (Nat.le_of_ble_eq_true rfl) dL_changes_92 rfl (h) (fun v_92 w_92 hp_92 => ?_)
    obtain ⟨rfl, hr92⟩ := hp_92
    refine g_goto (tgt := 113) C (by decide) dL_changes_95 ?_
    refine g_iast (j := 0) C rfl (rfl) (by decide) (by decide) dL_changes_113 ?_
    refine g_goto (tgt := 129) C (by decide) dL_changes_114 ?_
    refine g_iconst (v := 0) C (by decide) dL_changes_129 ?_
    refine g_iretH C F dL_changes_130 ?_
    exact cw_LW0 (pw_rc1 (by unfold sp_cost; rw [cw_it h1, cw_it h2]; exact cw_stp0 rfl) (by decide)) (by rw [gw_set_self, cw_ups]) (hr92.low (fun q hq => by rw [gw_set_ne _ _ _ _ (by omega)]; exact if_pos hq))
  · refine g_aload C rfl dL_changes_0 ?_
    refine g_iconst (v := 0) C (by decide) dL_changes_2 ?_
    refine g_iload_n C rfl dL_changes_3 ?_
    refine g_if_ne (tgt := 15) C (by decide) dL_changes_4 (fun c_4 => ?_) (fun c_4 => absurd c_4 (by decide))
    refine g_iload_n C rfl dL_changes_15 ?_
    refine g_iconst (v := 1) C (by decide) dL_changes_16 ?_
    refine g_cmp_ne (tgt := 29) C (by decide) dL_changes_17 (fun c_17 => ?_) (fun c_17 => absurd c_17 (by decide))
    refine g_iload_n C rfl dL_changes_29 ?_
    refine g_iconst (v := 2) C (by decide) dL_changes_30 ?_
    refine g_cmp_ne (tgt := 43) C (by decide) dL_changes_31 (fun c_31 => ?_) (fun c_31 => absurd c_31 (by decide))
    refine g_iload_n C rfl dL_changes_43 ?_
    refine g_iconst (v := 3) C (by decide) dL_changes_44 ?_
    refine g_cmp_ne (tgt := 56) C (by decide) dL_changes_45 (fun c_45 => ?_) (fun c_45 => absurd c_45 (by decide))
    refine g_iload_n C rfl dL_changes_56 ?_
    refine g_iconst (v := 4) C (by decide) dL_changes_57 ?_
    refine g_cmp_ne (tgt := 69) C (by decide) dL_changes_58 (fun c_58 => ?_) (fun c_58 => absurd c_58 (by decide))
    refine g_iload_n C rfl dL_changes_69 ?_
    refine g_iconst (v := 5) C (by decide) dL_changes_70 ?_
    refine g_cmp_ne (tgt := 83) C (by decide) dL_changes_71 (fun c_71 => ?_) (fun c_71 => absurd c_71 (by decide))
    refine g_iload_n C rfl dL_changes_83 ?_
    refine g_bipush (v := 6) C (by decide) dL_changes_84 ?_
    refine g_cmp_ne (tgt := 98) C (by decide) dL_changes_86 (fun c_86 => absurd (by decide) c_86) (fun c_86 => ?_)
    refine g_aload_n C rfl dL_changes_89 ?_
    refine g_iload_n C rfl dL_changes_90 ?_
    refine g_iload_n C rfl dL_changes_91 ?_
    have hpass : ∀ z ∈ ([] : List (Nat × Nat × Nat × Nat)), z.2.2.2 ≠ 0 ∧ ∃ nm : String, Cond.classLink RL z.2.2.2 nm ∈ gw_T ∧ ("java/lang/IndexOutOfBoundsException", nm) ∈ gw_nc := fun z hz => absurd hz List.not_mem_nil
    exact g_callC C F cw_emb_CO (thr_X6_cost_1 A hA a b h1) my_X6_cost vi_L_30 (by decide) rfl (cw_emb_CO.1 252 (by decide)) rfl (cw_wpc w) cw_wpc_i cw_wpc_o w (fun _ _ => rfl) (Nat.le_of_ble_eq_true rfl) dL_changes_92 rfl h [] (0, 114, 117, 37) [(0, 114, 121, 39), (0, 114, 125, 41)] rfl hpass (by decide) (by decide) (gw_T_at 325 (by decide +kernel) rfl) (gw_N_at 363 (by decide +kernel) rfl) (Or.inr ⟨5, by decide, dL_changes_117, rfl⟩) (ic := 1) (cv := 1) (by decide) dL_changes_119 dL_changes_120 (fun w1 hw1 => cw_LW1 (pw_rc1 (by unfold sp_cost; rw [cw_ie h1]; exact cw_stp1 (by decide)) (by decide)) (by decide) (cw_RC.low (w := w1) (hw1 ▸ h) (fun q hq => if_pos hq)))
  · refine g_aload C rfl dL_changes_0 ?_
    refine g_iconst (v := 0) C (by decide) dL_changes_2 ?_
    refine g_iload_n C rfl dL_changes_3 ?_
    refine g_if_ne (tgt := 15) C (by decide) dL_changes_4 (fun c_4 => ?_) (fun c_4 => absurd c_4 (by decide))
    refine g_iload_n C rfl dL_changes_15 ?_
    refine g_iconst (v := 1) C (by decide) dL_changes_16 ?_
    refine g_cmp_ne (tgt := 29) C (by decide) dL_changes_17 (fun c_17 => ?_) (fun c_17 => absurd c_17 (by decide))
    refine g_iload_n C rfl dL_changes_29 ?_
    refine g_iconst (v := 2) C (by decide) dL_changes_30 ?_
    refine g_cmp_ne (tgt := 43) C (by decide) dL_changes_31 (fun c_31 => ?_) (fun c_31 => absurd c_31 (by decide))
    refine g_iload_n C rfl dL_changes_43 ?_
    refine g_iconst (v := 3) C (by decide) dL_changes_44 ?_
    refine g_cmp_ne (tgt := 56) C (by decide) dL_changes_45 (fun c_45 => ?_) (fun c_45 => absurd c_45 (by decide))
    refine g_iload_n C rfl dL_changes_56 ?_
    refine g_iconst (v := 4) C (by decide) dL_changes_57 ?_
    refine g_cmp_ne (tgt := 69) C (by decide) dL_changes_58 (fun c_58 => ?_) (fun c_58 => absurd c_58 (by decide))
    refine g_iload_n C rfl dL_changes_69 ?_
    refine g_iconst (v := 5) C (by decide) dL_changes_70 ?_
    refine g_cmp_ne (tgt := 83) C (by decide) dL_changes_71 (fun c_71 => ?_) (fun c_71 => absurd c_71 (by decide))
    refine g_iload_n C rfl dL_changes_83 ?_
    refine g_bipush (v := 6) C (by decide) dL_changes_84 ?_
    refine g_cmp_ne (tgt := 98) C (by decide) dL_changes_86 (fun c_86 => absurd (by decide) c_86) (fun c_86 => ?_)
    refine g_aload_n C rfl dL_changes_89 ?_
    refine g_iload_n C rfl dL_changes_90 ?_
    refine g_iload_n C rfl dL_changes_91 ?_
    have hpass : ∀ z ∈ ([(0, 114, 117, 37)] : List (Nat × Nat × Nat × Nat)), z.2.2.2 ≠ 0 ∧ ∃ nm : String, Cond.classLink RL z.2.2.2 nm ∈ gw_T ∧ ("java/lang/IllegalArgumentException", nm) ∈ gw_nc := fun z hz => by
      simp only [List.mem_cons, List.not_mem_nil, or_false] at hz
      rcases hz with rfl
      · exact ⟨by decide, "java/lang/IndexOutOfBoundsException", gw_T_at 325 (by decide +kernel) rfl, List.mem_of_getElem? (i := 1) rfl⟩
    exact g_callC C F cw_emb_CO (thr_X6_cost_2 A hA a b h1 h2) my_X6_cost vi_L_30 (by decide) rfl (cw_emb_CO.1 252 (by decide)) rfl (cw_wpc w) cw_wpc_i cw_wpc_o w (fun _ _ => rfl) (Nat.le_of_ble_eq_true rfl) dL_changes_92 rfl h [(0, 114, 117, 37)] (0, 114, 121, 39) [(0, 114, 125, 41)] rfl hpass (by decide) (by decide) (gw_T_at 326 (by decide +kernel) rfl) (gw_N_at 210 (by decide +kernel) rfl) (Or.inr ⟨5, by decide, dL_changes_121, rfl⟩) (ic := 2) (cv := 2) (by decide) dL_changes_123 dL_changes_124 (fun w1 hw1 => cw_LW1 (pw_rc1 (by unfold sp_cost; rw [cw_it h1, cw_ie h2]; exact cw_stp1 (by decide)) (by decide)) (by decide) (cw_RC.low (w := w1) (hw1 ▸ h) (fun q hq => if_pos hq)))

set_option maxHeartbeats 8000000 in
set_option maxRecDepth 100000 in
theorem ok_L_changes_7 (A : cw_A) {n m : Nat} (hA : cw_IA n m A) (hB : cw_B (n + 21600) (m + 2400)) (a : Int32) (b : Int32) : gw_OkH yL_changes cL_changes 6 (some .int) [(0, 114, 117, 37), (0, 114, 121, 39), (0, 114, 125, 41)] sCO 13 [.ref 252, .int 7, .int a, .int b, .ref 263] (fun w => cw_RC A w) (fun _ vr w1 => cw_LW (pw_rc pw_fD (sp_school A a (cw_b (b = 1)))) vr w1) := by
  refine gw_ofH (by decide) (Nat.le_of_ble_eq_true rfl) ?_
  intro X w h C F
  have hI := hA.1
  have hB2 : cw_B n (m + 20) := cw_B_le2 hB (by omega) (by omega)
  rcases cw_or1 (cw_isW a) with h1 | h1
  · refine g_aload C rfl dL_changes_0 ?_
    refine g_iconst (v := 0) C (by decide) dL_changes_2 ?_
    refine g_iload_n C rfl dL_changes_3 ?_
    refine g_if_ne (tgt := 15) C (by decide) dL_changes_4 (fun c_4 => ?_) (fun c_4 => absurd c_4 (by decide))
    refine g_iload_n C rfl dL_changes_15 ?_
    refine g_iconst (v := 1) C (by decide) dL_changes_16 ?_
    refine g_cmp_ne (tgt := 29) C (by decide) dL_changes_17 (fun c_17 => ?_) (fun c_17 => absurd c_17 (by decide))
    refine g_iload_n C rfl dL_changes_29 ?_
    refine g_iconst (v := 2) C (by decide) dL_changes_30 ?_
    refine g_cmp_ne (tgt := 43) C (by decide) dL_changes_31 (fun c_31 => ?_) (fun c_31 => absurd c_31 (by decide))
    refine g_iload_n C rfl dL_changes_43 ?_
    refine g_iconst (v := 3) C (by decide) dL_changes_44 ?_
    refine g_cmp_ne (tgt := 56) C (by decide) dL_changes_45 (fun c_45 => ?_) (fun c_45 => absurd c_45 (by decide))
    refine g_iload_n C rfl dL_changes_56 ?_
    refine g_iconst (v := 4) C (by decide) dL_changes_57 ?_
    refine g_cmp_ne (tgt := 69) C (by decide) dL_changes_58 (fun c_58 => ?_) (fun c_58 => absurd c_58 (by decide))
    refine g_iload_n C rfl dL_changes_69 ?_
    refine g_iconst (v := 5) C (by decide) dL_changes_70 ?_
    refine g_cmp_ne (tgt := 83) C (by decide) dL_changes_71 (fun c_71 => ?_) (fun c_71 => absurd c_71 (by decide))
    refine g_iload_n C rfl dL_changes_83 ?_
    refine g_bipush (v := 6) C (by decide) dL_changes_84 ?_
    refine g_cmp_ne (tgt := 98) C (by decide) dL_changes_86 (fun c_86 => ?_) (fun c_86 => absurd c_86 (by decide))
    refine g_aload_n C rfl dL_changes_98 ?_
    refine g_iload_n C rfl dL_changes_99 ?_
    refine g_iload_n C rfl dL_changes_100 ?_
    refine g_iconst (v := 1) C (by decide) dL_changes_101 ?_
    refine g_join2 110 (cw_b (b = 1)) (fun k_110 => ?_) ?_
    · refine g_cmp_ne (tgt := 109) C (by decide) dL_changes_102 (fun c_102 => ?_) (fun c_102 => ?_)
      · refine g_iconst (v := 0) C (by decide) dL_changes_109 ?_
        exact k_110 _ ((cw_bf c_102).symm)
      · refine g_iconst (v := 1) C (by decide) dL_changes_105 ?_
        refine g_goto (tgt := 110) C (by decide) dL_changes_106 ?_
        exact k_110 _ ((cw_b1 c_102).symm)
    refine g_callW C cw_emb_CO (ok_X6_school A hA hB2 a (cw_b (b = 1)) h1 (cw_b_r _)) my_X6_school vi_L_33 (by decide) ⟨Nat.zero_le _, Nat.zero_le _⟩ rfl ((cw_emb_CO.1 252 (by decide))) rfl (cw_wpc w) (cw_wpc_i) (cw_wpc_o) (w) (fun _ _ => rfl) (Nat.le_of_ble_eq_true rfl) dL_changes_110 rfl (h) (fun v_110 w_110 hp_110 => ?_)
    obtain ⟨rfl, hr110⟩ := hp_110
    refine g_iast (j := 0) C rfl (rfl) (by decide) (by decide) dL_changes_113 ?_
    refine g_goto (tgt := 129) C (by decide) dL_changes_114 ?_
    refine g_iconst (v := 0) C (by decide) dL_changes_129 ?_
    refine g_iretH C F dL_changes_130 ?_
    exact cw_LW0 (pw_rc1 (by unfold sp_school; rw [cw_it h1]; exact cw_stp0 rfl) (by decide)) (by rw [gw_set_self, cw_ups]) (hr110.low (fun q hq => by rw [gw_set_ne _ _ _ _ (by omega)]; exact if_pos hq))
  · refine g_aload C rfl dL_changes_0 ?_
    refine g_iconst (v := 0) C (by decide) dL_changes_2 ?_
    refine g_iload_n C rfl dL_changes_3 ?_
    refine g_if_ne (tgt := 15) C (by decide) dL_changes_4 (fun c_4 => ?_) (fun c_4 => absurd c_4 (by decide))
    refine g_iload_n C rfl dL_changes_15 ?_
    refine g_iconst (v := 1) C (by decide) dL_changes_16 ?_
    refine g_cmp_ne (tgt := 29) C (by decide) dL_changes_17 (fun c_17 => ?_) (fun c_17 => absurd c_17 (by decide))
    refine g_iload_n C rfl dL_changes_29 ?_
    refine g_iconst (v := 2) C (by decide) dL_changes_30 ?_
    refine g_cmp_ne (tgt := 43) C (by decide) dL_changes_31 (fun c_31 => ?_) (fun c_31 => absurd c_31 (by decide))
    refine g_iload_n C rfl dL_changes_43 ?_
    refine g_iconst (v := 3) C (by decide) dL_changes_44 ?_
    refine g_cmp_ne (tgt := 56) C (by decide) dL_changes_45 (fun c_45 => ?_) (fun c_45 => absurd c_45 (by decide))
    refine g_iload_n C rfl dL_changes_56 ?_
    refine g_iconst (v := 4) C (by decide) dL_changes_57 ?_
    refine g_cmp_ne (tgt := 69) C (by decide) dL_changes_58 (fun c_58 => ?_) (fun c_58 => absurd c_58 (by decide))
    refine g_iload_n C rfl dL_changes_69 ?_
    refine g_iconst (v := 5) C (by decide) dL_changes_70 ?_
    refine g_cmp_ne (tgt := 83) C (by decide) dL_changes_71 (fun c_71 => ?_) (fun c_71 => absurd c_71 (by decide))
    refine g_iload_n C rfl dL_changes_83 ?_
    refine g_bipush (v := 6) C (by decide) dL_changes_84 ?_
    refine g_cmp_ne (tgt := 98) C (by decide) dL_changes_86 (fun c_86 => ?_) (fun c_86 => absurd c_86 (by decide))
    refine g_aload_n C rfl dL_changes_98 ?_
    refine g_iload_n C rfl dL_changes_99 ?_
    refine g_iload_n C rfl dL_changes_100 ?_
    refine g_iconst (v := 1) C (by decide) dL_changes_101 ?_
    refine g_join2 110 (cw_b (b = 1)) (fun k_110 => ?_) ?_
    · refine g_cmp_ne (tgt := 109) C (by decide) dL_changes_102 (fun c_102 => ?_) (fun c_102 => ?_)
      · refine g_iconst (v := 0) C (by decide) dL_changes_109 ?_
        exact k_110 _ ((cw_bf c_102).symm)
      · refine g_iconst (v := 1) C (by decide) dL_changes_105 ?_
        refine g_goto (tgt := 110) C (by decide) dL_changes_106 ?_
        exact k_110 _ ((cw_b1 c_102).symm)
    have hpass : ∀ z ∈ ([] : List (Nat × Nat × Nat × Nat)), z.2.2.2 ≠ 0 ∧ ∃ nm : String, Cond.classLink RL z.2.2.2 nm ∈ gw_T ∧ ("java/lang/IndexOutOfBoundsException", nm) ∈ gw_nc := fun z hz => absurd hz List.not_mem_nil
    exact g_callC C F cw_emb_CO (thr_X6_school_1 A hA a (cw_b (b = 1)) h1) my_X6_school vi_L_33 (by decide) rfl (cw_emb_CO.1 252 (by decide)) rfl (cw_wpc w) cw_wpc_i cw_wpc_o w (fun _ _ => rfl) (Nat.le_of_ble_eq_true rfl) dL_changes_110 rfl h [] (0, 114, 117, 37) [(0, 114, 121, 39), (0, 114, 125, 41)] rfl hpass (by decide) (by decide) (gw_T_at 325 (by decide +kernel) rfl) (gw_N_at 363 (by decide +kernel) rfl) (Or.inr ⟨5, by decide, dL_changes_117, rfl⟩) (ic := 1) (cv := 1) (by decide) dL_changes_119 dL_changes_120 (fun w1 hw1 => cw_LW1 (pw_rc1 (by unfold sp_school; rw [cw_ie h1]; exact cw_stp1 (by decide)) (by decide)) (by decide) (cw_RC.low (w := w1) (hw1 ▸ h) (fun q hq => if_pos hq)))

set_option maxHeartbeats 8000000 in
set_option maxRecDepth 100000 in
theorem ok_L_asks_0 (A : cw_A) {n m : Nat} (hA : cw_IA n m A) (hB : cw_B (n + 21600) (m + 2400)) (a : Int32) (k : Int32) (c : Int32) : gw_OkH yL_asks cL_asks 7 (some .int) [(0, 27, 30, 37), (0, 27, 34, 39), (0, 27, 38, 41)] sCO 13 [.ref 252, .int 0, .int a, .int k, .int c, .ref 263] (fun w => cw_RC A w) (fun _ vr w1 => cw_LW (pw_rc pw_fD (sp_bid A a k c)) vr w1) := by
  refine gw_ofH (by decide) (Nat.le_of_ble_eq_true rfl) ?_
  intro X w h C F
  have hI := hA.1
  have hB2 : cw_B n (m + 20) := cw_B_le2 hB (by omega) (by omega)
  rcases cw_or3 (cw_th A.1 a k) (0 ≤ c ∧ c ≤ 20) (cw_open A.1 (cw_x k)) with ⟨h1, h2, h3⟩ | h1 | ⟨h1, h2⟩ | ⟨h1, h2, h3⟩
  · refine g_aload C rfl dL_asks_0 ?_
    refine g_iconst (v := 0) C (by decide) dL_asks_2 ?_
    refine g_iload_n C rfl dL_asks_3 ?_
    refine g_if_ne (tgt := 18) C (by decide) dL_asks_4 (fun c_4 => absurd (by decide) c_4) (fun c_4 => ?_)
    refine g_aload_n C rfl dL_asks_7 ?_
    refine g_iload_n C rfl dL_asks_8 ?_
    refine g_iload_n C rfl dL_asks_9 ?_
    refine g_iload C rfl dL_asks_10 ?_
    refine g_callW C cw_emb_CO (ok_X6_bid A hA hB2 a k c h1 h2 h3) my_X6_bid vi_L_43 (by decide) ⟨Nat.zero_le _, Nat.zero_le _⟩ rfl ((cw_emb_CO.1 252 (by decide))) rfl (cw_wpc w) (cw_wpc_i) (cw_wpc_o) (w) (fun _ _ => rfl) (Nat.le_of_ble_eq_true rfl) dL_asks_12 rfl (h) (fun v_12 w_12 hp_12 => ?_)
    obtain ⟨rfl, hr12⟩ := hp_12
    refine g_goto (tgt := 26) C (by decide) dL_asks_15 ?_
    refine g_iast (j := 0) C rfl (rfl) (by decide) (by decide) dL_asks_26 ?_
    refine g_goto (tgt := 42) C (by decide) dL_asks_27 ?_
    refine g_iconst (v := 0) C (by decide) dL_asks_42 ?_
    refine g_iretH C F dL_asks_43 ?_
    exact cw_LW0 (pw_rc1 (by unfold sp_bid; rw [cw_it h1, cw_it h2, cw_it h3]; exact cw_stp0 rfl) (by decide)) (by rw [gw_set_self, cw_ups]) (hr12.low (fun q hq => by rw [gw_set_ne _ _ _ _ (by omega)]; exact if_pos hq))
  · refine g_aload C rfl dL_asks_0 ?_
    refine g_iconst (v := 0) C (by decide) dL_asks_2 ?_
    refine g_iload_n C rfl dL_asks_3 ?_
    refine g_if_ne (tgt := 18) C (by decide) dL_asks_4 (fun c_4 => absurd (by decide) c_4) (fun c_4 => ?_)
    refine g_aload_n C rfl dL_asks_7 ?_
    refine g_iload_n C rfl dL_asks_8 ?_
    refine g_iload_n C rfl dL_asks_9 ?_
    refine g_iload C rfl dL_asks_10 ?_
    have hpass : ∀ z ∈ ([] : List (Nat × Nat × Nat × Nat)), z.2.2.2 ≠ 0 ∧ ∃ nm : String, Cond.classLink RL z.2.2.2 nm ∈ gw_T ∧ ("java/lang/IndexOutOfBoundsException", nm) ∈ gw_nc := fun z hz => absurd hz List.not_mem_nil
    exact g_callC C F cw_emb_CO (thr_X6_bid_1 A hA a k c h1) my_X6_bid vi_L_43 (by decide) rfl (cw_emb_CO.1 252 (by decide)) rfl (cw_wpc w) cw_wpc_i cw_wpc_o w (fun _ _ => rfl) (Nat.le_of_ble_eq_true rfl) dL_asks_12 rfl h [] (0, 27, 30, 37) [(0, 27, 34, 39), (0, 27, 38, 41)] rfl hpass (by decide) (by decide) (gw_T_at 325 (by decide +kernel) rfl) (gw_N_at 363 (by decide +kernel) rfl) (Or.inr ⟨6, by decide, dL_asks_30, rfl⟩) (ic := 1) (cv := 1) (by decide) dL_asks_32 dL_asks_33 (fun w1 hw1 => cw_LW1 (pw_rc1 (by unfold sp_bid; rw [cw_ie h1]; exact cw_stp1 (by decide)) (by decide)) (by decide) (cw_RC.low (w := w1) (hw1 ▸ h) (fun q hq => if_pos hq)))
  · refine g_aload C rfl dL_asks_0 ?_
    refine g_iconst (v := 0) C (by decide) dL_asks_2 ?_
    refine g_iload_n C rfl dL_asks_3 ?_
    refine g_if_ne (tgt := 18) C (by decide) dL_asks_4 (fun c_4 => absurd (by decide) c_4) (fun c_4 => ?_)
    refine g_aload_n C rfl dL_asks_7 ?_
    refine g_iload_n C rfl dL_asks_8 ?_
    refine g_iload_n C rfl dL_asks_9 ?_
    refine g_iload C rfl dL_asks_10 ?_
    have hpass : ∀ z ∈ ([(0, 27, 30, 37)] : List (Nat × Nat × Nat × Nat)), z.2.2.2 ≠ 0 ∧ ∃ nm : String, Cond.classLink RL z.2.2.2 nm ∈ gw_T ∧ ("java/lang/IllegalArgumentException", nm) ∈ gw_nc := fun z hz => by
      simp only [List.mem_cons, List.not_mem_nil, or_false] at hz
      rcases hz with rfl
      · exact ⟨by decide, "java/lang/IndexOutOfBoundsException", gw_T_at 325 (by decide +kernel) rfl, List.mem_of_getElem? (i := 1) rfl⟩
    exact g_callC C F cw_emb_CO (thr_X6_bid_2 A hA a k c h1 h2) my_X6_bid vi_L_43 (by decide) rfl (cw_emb_CO.1 252 (by decide)) rfl (cw_wpc w) cw_wpc_i cw_wpc_o w (fun _ _ => rfl) (Nat.le_of_ble_eq_true rfl) dL_asks_12 rfl h [(0, 27, 30, 37)] (0, 27, 34, 39) [(0, 27, 38, 41)] rfl hpass (by decide) (by decide) (gw_T_at 326 (by decide +kernel) rfl) (gw_N_at 210 (by decide +kernel) rfl) (Or.inr ⟨6, by decide, dL_asks_34, rfl⟩) (ic := 2) (cv := 2) (by decide) dL_asks_36 dL_asks_37 (fun w1 hw1 => cw_LW1 (pw_rc1 (by unfold sp_bid; rw [cw_it h1, cw_ie h2]; exact cw_stp1 (by decide)) (by decide)) (by decide) (cw_RC.low (w := w1) (hw1 ▸ h) (fun q hq => if_pos hq)))
  · refine g_aload C rfl dL_asks_0 ?_
    refine g_iconst (v := 0) C (by decide) dL_asks_2 ?_
    refine g_iload_n C rfl dL_asks_3 ?_
    refine g_if_ne (tgt := 18) C (by decide) dL_asks_4 (fun c_4 => absurd (by decide) c_4) (fun c_4 => ?_)
    refine g_aload_n C rfl dL_asks_7 ?_
    refine g_iload_n C rfl dL_asks_8 ?_
    refine g_iload_n C rfl dL_asks_9 ?_
    refine g_iload C rfl dL_asks_10 ?_
    have hpass : ∀ z ∈ ([(0, 27, 30, 37), (0, 27, 34, 39)] : List (Nat × Nat × Nat × Nat)), z.2.2.2 ≠ 0 ∧ ∃ nm : String, Cond.classLink RL z.2.2.2 nm ∈ gw_T ∧ ("java/lang/IllegalStateException", nm) ∈ gw_nc := fun z hz => by
      simp only [List.mem_cons, List.not_mem_nil, or_false] at hz
      rcases hz with rfl | rfl
      · exact ⟨by decide, "java/lang/IndexOutOfBoundsException", gw_T_at 325 (by decide +kernel) rfl, List.mem_of_getElem? (i := 2) rfl⟩
      · exact ⟨by decide, "java/lang/IllegalArgumentException", gw_T_at 326 (by decide +kernel) rfl, List.mem_of_getElem? (i := 0) rfl⟩
    exact g_callC C F cw_emb_CO (thr_X6_bid_3 A hA a k c h1 h2 h3) my_X6_bid vi_L_43 (by decide) rfl (cw_emb_CO.1 252 (by decide)) rfl (cw_wpc w) cw_wpc_i cw_wpc_o w (fun _ _ => rfl) (Nat.le_of_ble_eq_true rfl) dL_asks_12 rfl h [(0, 27, 30, 37), (0, 27, 34, 39)] (0, 27, 38, 41) [] rfl hpass (by decide) (by decide) (gw_T_at 286 (by decide +kernel) rfl) (gw_N_at 297 (by decide +kernel) rfl) (Or.inr ⟨6, by decide, dL_asks_38, rfl⟩) (ic := 3) (cv := 3) (by decide) dL_asks_40 dL_asks_41 (fun w1 hw1 => cw_LW1 (pw_rc1 (by unfold sp_bid; rw [cw_it h1, cw_it h2, cw_ie h3]; exact cw_stp1 (by decide)) (by decide)) (by decide) (cw_RC.low (w := w1) (hw1 ▸ h) (fun q hq => if_pos hq)))

set_option maxHeartbeats 8000000 in
set_option maxRecDepth 100000 in
theorem ok_L_asks_1 (A : cw_A) {n m : Nat} (hA : cw_IA n m A) (hB : cw_B (n + 21600) (m + 2400)) (a : Int32) (k : Int32) (c : Int32) : gw_OkH yL_asks cL_asks 7 (some .int) [(0, 27, 30, 37), (0, 27, 34, 39), (0, 27, 38, 41)] sCO 13 [.ref 252, .int 1, .int a, .int k, .int c, .ref 263] (fun w => cw_RC A w) (fun _ vr w1 => cw_LW (pw_rc pw_fC (sp_offer A a k c)) vr w1) := by
  refine gw_ofH (by decide) (Nat.le_of_ble_eq_true rfl) ?_
  intro X w h C F
  have hI := hA.1
  have hB2 : cw_B n (m + 20) := cw_B_le2 hB (by omega) (by omega)
  rcases cw_or2 (cw_th A.1 a k ∧ cw_isW c) (cw_swap A.1 a k c ∧ ¬ A.1 205 = 8) with ⟨h1, h2⟩ | h1 | ⟨h1, h2⟩
  · refine g_aload C rfl dL_asks_0 ?_
    refine g_iconst (v := 0) C (by decide) dL_asks_2 ?_
    refine g_iload_n C rfl dL_asks_3 ?_
    refine g_if_ne (tgt := 18) C (by decide) dL_asks_4 (fun c_4 => ?_) (fun c_4 => absurd c_4 (by decide))
    refine g_aload_n C rfl dL_asks_18 ?_
    refine g_iload_n C rfl dL_asks_19 ?_
    refine g_iload_n C rfl dL_asks_20 ?_
    refine g_iload C rfl dL_asks_21 ?_
    refine g_callW C cw_emb_CO (ok_X6_offer A hA hB2 a k c h1.1 h1.2 ⟨h2.1, (cw_205 hI).mpr h2.2⟩) my_X6_offer vi_L_47 (by decide) ⟨Nat.zero_le _, Nat.zero_le _⟩ rfl ((cw_emb_CO.1 252 (by decide))) rfl (cw_wpc w) (cw_wpc_i) (cw_wpc_o) (w) (fun _ _ => rfl) (Nat.le_of_ble_eq_true rfl) dL_asks_23 rfl (h) (fun v_23 w_23 hp_23 => ?_)
    obtain ⟨rfl, hr23⟩ := hp_23
    refine g_iast (j := 0) C rfl (rfl) (by decide) (by decide) dL_asks_26 ?_
    refine g_goto (tgt := 42) C (by decide) dL_asks_27 ?_
    refine g_iconst (v := 0) C (by decide) dL_asks_42 ?_
    refine g_iretH C F dL_asks_43 ?_
    exact cw_LW0 (pw_rc1 (by unfold sp_offer; rw [cw_it h1, cw_it h2]; exact cw_stp0 rfl) (by decide)) (by rw [gw_set_self, cw_ups]) (hr23.low (fun q hq => by rw [gw_set_ne _ _ _ _ (by omega)]; exact if_pos hq))
  · refine g_aload C rfl dL_asks_0 ?_
    refine g_iconst (v := 0) C (by decide) dL_asks_2 ?_
    refine g_iload_n C rfl dL_asks_3 ?_
    refine g_if_ne (tgt := 18) C (by decide) dL_asks_4 (fun c_4 => ?_) (fun c_4 => absurd c_4 (by decide))
    refine g_aload_n C rfl dL_asks_18 ?_
    refine g_iload_n C rfl dL_asks_19 ?_
    refine g_iload_n C rfl dL_asks_20 ?_
    refine g_iload C rfl dL_asks_21 ?_
    have hpass : ∀ z ∈ ([] : List (Nat × Nat × Nat × Nat)), z.2.2.2 ≠ 0 ∧ ∃ nm : String, Cond.classLink RL z.2.2.2 nm ∈ gw_T ∧ ("java/lang/IndexOutOfBoundsException", nm) ∈ gw_nc := fun z hz => absurd hz List.not_mem_nil
    exact g_callC C F cw_emb_CO (thr_X6_offer_12 A hA a k c h1) my_X6_offer vi_L_47 (by decide) rfl (cw_emb_CO.1 252 (by decide)) rfl (cw_wpc w) cw_wpc_i cw_wpc_o w (fun _ _ => rfl) (Nat.le_of_ble_eq_true rfl) dL_asks_23 rfl h [] (0, 27, 30, 37) [(0, 27, 34, 39), (0, 27, 38, 41)] rfl hpass (by decide) (by decide) (gw_T_at 325 (by decide +kernel) rfl) (gw_N_at 363 (by decide +kernel) rfl) (Or.inr ⟨6, by decide, dL_asks_30, rfl⟩) (ic := 1) (cv := 1) (by decide) dL_asks_32 dL_asks_33 (fun w1 hw1 => cw_LW1 (pw_rc1 (by unfold sp_offer; rw [cw_ie h1]; exact cw_stp1 (by decide)) (by decide)) (by decide) (cw_RC.low (w := w1) (hw1 ▸ h) (fun q hq => if_pos hq)))
  · refine g_aload C rfl dL_asks_0 ?_
    refine g_iconst (v := 0) C (by decide) dL_asks_2 ?_
    refine g_iload_n C rfl dL_asks_3 ?_
    refine g_if_ne (tgt := 18) C (by decide) dL_asks_4 (fun c_4 => ?_) (fun c_4 => absurd c_4 (by decide))
    refine g_aload_n C rfl dL_asks_18 ?_
    refine g_iload_n C rfl dL_asks_19 ?_
    refine g_iload_n C rfl dL_asks_20 ?_
    refine g_iload C rfl dL_asks_21 ?_
    have hpass : ∀ z ∈ ([(0, 27, 30, 37), (0, 27, 34, 39)] : List (Nat × Nat × Nat × Nat)), z.2.2.2 ≠ 0 ∧ ∃ nm : String, Cond.classLink RL z.2.2.2 nm ∈ gw_T ∧ ("java/lang/IllegalStateException", nm) ∈ gw_nc := fun z hz => by
      simp only [List.mem_cons, List.not_mem_nil, or_false] at hz
      rcases hz with rfl | rfl
      · exact ⟨by decide, "java/lang/IndexOutOfBoundsException", gw_T_at 325 (by decide +kernel) rfl, List.mem_of_getElem? (i := 2) rfl⟩
      · exact ⟨by decide, "java/lang/IllegalArgumentException", gw_T_at 326 (by decide +kernel) rfl, List.mem_of_getElem? (i := 0) rfl⟩
    exact g_callC C F cw_emb_CO (thr_X6_offer_2 A hA a k c h1.1 h1.2 (fun z => h2 ⟨z.1, (cw_205 hI).mp z.2⟩)) my_X6_offer vi_L_47 (by decide) rfl (cw_emb_CO.1 252 (by decide)) rfl (cw_wpc w) cw_wpc_i cw_wpc_o w (fun _ _ => rfl) (Nat.le_of_ble_eq_true rfl) dL_asks_23 rfl h [(0, 27, 30, 37), (0, 27, 34, 39)] (0, 27, 38, 41) [] rfl hpass (by decide) (by decide) (gw_T_at 286 (by decide +kernel) rfl) (gw_N_at 297 (by decide +kernel) rfl) (Or.inr ⟨6, by decide, dL_asks_38, rfl⟩) (ic := 3) (cv := 3) (by decide) dL_asks_40 dL_asks_41 (fun w1 hw1 => cw_LW1 (pw_rc1 (by unfold sp_offer; rw [cw_it h1, cw_ie h2]; exact cw_stp1 (by decide)) (by decide)) (by decide) (cw_RC.low (w := w1) (hw1 ▸ h) (fun q hq => if_pos hq)))

set_option maxHeartbeats 8000000 in
set_option maxRecDepth 100000 in
theorem ok_L_undoes (A : cw_A) {n m : Nat} (hA : cw_IA n m A) (hc : ¬ A.2.1.1 = 0) : gw_OkN yL_undoes cL_undoes 3 (some .int) [(0, 7, 10, 41)] sCO 13 [.ref 252, .ref 263] (fun w => cw_RC A w) (fun _ vr w1 => vr = some (.int 0) ∧ w1 263 0 = nI (A.2.1.1 - 1) ∧ cw_RC (A.2.1.2 (A.2.1.1 - 1), (A.2.1.1 - 1, A.2.1.2), A.2.2) w1) := by
  refine gw_ofN (by decide) (Nat.le_of_ble_eq_true rfl) ?_
  intro X w h C F
  refine g_aload_n C rfl dL_undoes_0 ?_
  refine g_iconst (v := 0) C (by decide) dL_undoes_1 ?_
  refine g_aload_n C rfl dL_undoes_2 ?_
  refine g_callW C cw_emb_CO (ok_X6_undo A hA hc) my_X6_undo vi_L_50 (by decide) ⟨Nat.zero_le _, Nat.zero_le _⟩ rfl ((cw_emb_CO.1 252 (by decide))) rfl (cw_wpc w) (cw_wpc_i) (cw_wpc_o) (w) (fun _ _ => rfl) (Nat.le_of_ble_eq_true rfl) dL_undoes_3 rfl (h) (fun v_3 w_3 hp_3 => ?_)
  obtain ⟨rfl, hr3⟩ := hp_3
  refine g_iast (j := 0) C rfl (rfl) (by decide) (by decide) dL_undoes_6 ?_
  refine g_goto (tgt := 13) C (by decide) dL_undoes_7 ?_
  refine g_iconst (v := 0) C (by decide) dL_undoes_13 ?_
  refine g_iretN C F dL_undoes_14 ?_
  exact ⟨rfl, by rw [gw_set_self, cw_ups], hr3.low (fun q hq => by rw [gw_set_ne _ _ _ _ (by omega)]; exact if_pos hq)⟩

theorem my_L_changes : gw_myH yL_changes cL_changes 6 (some .int) [(0, 114, 117, 37), (0, 114, 121, 39), (0, 114, 125, 41)] 5 := ⟨gw_T_at 324 (by decide +kernel) rfl, gw_T_at 0 (by decide +kernel) rfl, by decide +kernel, by decide +kernel, by decide +kernel, by decide⟩
theorem my_L_asks : gw_myH yL_asks cL_asks 7 (some .int) [(0, 27, 30, 37), (0, 27, 34, 39), (0, 27, 38, 41)] 6 := ⟨gw_T_at 498 (by decide +kernel) rfl, gw_T_at 0 (by decide +kernel) rfl, by decide +kernel, by decide +kernel, by decide +kernel, by decide⟩
theorem my_L_undoes : gw_myH yL_undoes cL_undoes 3 (some .int) [(0, 7, 10, 41)] 2 := ⟨gw_T_at 285 (by decide +kernel) rfl, gw_T_at 0 (by decide +kernel) rfl, by decide +kernel, by decide +kernel, by decide +kernel, by decide⟩
