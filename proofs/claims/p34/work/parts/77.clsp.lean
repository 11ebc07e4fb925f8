/-! THE FACE OF THE CLASS: actions -/
theorem cw_re_ok {v : Int32} (h : ¬ v = -9) : cw_re v = v := if_neg h
theorem cw_RC.sch {A : cw_A} {w : gw_M} {n m : Nat} (h : cw_RC A w) (hI : cw_I n m A.1) : ∀ k, k < 20 → cw_r 0 1 (w 8 k) := fun k hk => by rw [cw_pA8 h hk]; exact hI.sch k hk
theorem cw_RC.act {A : cw_A} {w2 w1 : gw_M} {n m : Nat} (hI : cw_I n m A.1) (hB : cw_B n (m + 20)) (hr : cw_RC (cw_rem A) w2) {l a b c : Int32} (h115 : l = 115 → cw_isW a) (hh : cw_nf (ho w1) = cw_nf (cw_does (ho (cw_hs 0 w2)) l a b c).2) : cw_RC (cw_acts A l a b c).2 (cw_wp (14 * 0) 14 w2 w1) :=
  hr.pres (fun q hq => cw_wp_out _ _ (by omega)) (by rw [cw_hs_wp, hh]; exact (cw_does_cg hI hB (show cw_eq (ho (cw_hs 0 w2)) A.1 from hr.eq) l a b c h115).2)
theorem cw_r_le {u : Nat} {x : Int32} {l : Nat} (h : cw_r l u x) : cw_r 0 u x := h.mono (Nat.zero_le _) (Nat.le_refl _)
theorem cw_hlf {x : Int32} (h : cw_r 1 9 x) : ¬ x / 2 = -9 := by
  obtain ⟨k, h1, h2, rfl⟩ := h
  have : ∀ k : Fin 10, ¬ nI k.val / 2 = -9 := by decide +kernel
  exact this ⟨k, by omega⟩

theorem cw_9upk {n m : Nat} {u : cw_s} (hI : cw_I n m u) {c : Int32} (hc : 1 ≤ c ∧ c ≤ 999) (hf : ¬ u 0 = 0) : ¬ (cw_oUpkeep u c).1 = -9 := by
  unfold cw_oUpkeep
  rw [cw_it ⟨hc, hf⟩]
  have z1 : (1 : Int32).toInt = 1 := rfl
  have z9 : (999 : Int32).toInt = 999 := rfl
  have c1 := cw_le.mp hc.1
  have c2 := cw_le.mp hc.2
  have key := cw_fold_P (f := cw_pays u c) (fun i (x : Int32 × cw_s) => cw_r 0 10001 x.1) (cw_no u) (0, u) ⟨0, Nat.zero_le _, by decide, rfl⟩ (fun j y hj hy => by
    show cw_r 0 10001 (if y.1 < cw_partOf u j c then cw_partOf u j c else y.1)
    split
    · exact cw_partOf_r hI (by omega) (by omega) hj
    · exact hy)
  exact cw_r_9 (key (cw_no u) (Nat.le_refl _)) (by decide)

theorem cw_upself (f : cw_s) (p : Nat) : upd f p (f p) = f := by
  funext q
  by_cases h : q = p
  · rw [h, cw_ups]
  · rw [cw_upn _ _ h]
theorem cw_no_upd (t : cw_s) {p : Nat} (x : Int32) (h : 0 < p) : cw_no (upd t p x) = cw_no t := cw_no_eq (cw_upn _ _ (by omega))

set_option maxHeartbeats 8000000 in
set_option maxRecDepth 100000 in
theorem ok_X6_owner (A : cw_A) {n m : Nat} (hA : cw_IA n m A) (hB : cw_B n (m + 20)) (a : Int32) (hc : 1 ≤ a ∧ a ≤ 9) (hf : ¬ A.1 0 = 6) : gw_Ok yX6_owner cX6_owner 2 (some .int) sC 6 [.ref 252, .int a] (fun w => cw_RC A w) (fun _ vr w1 => vr = some (.int ((cw_acts A 111 a 0 0).1)) ∧ cw_RC ((cw_acts A 111 a 0 0).2) w1) := by
  refine gw_of (by decide) (Nat.le_of_ble_eq_true rfl) ?_
  intro X w h C F
  have hw := h
  obtain ⟨-, ⟨o9, h9o, b2, b3, h9c, b5⟩, -, -⟩ := h
  have h := hw
  have e := hw.eq
  have hI := hA.1
  have hIt := cw_I_cg hI e
  have h6 := hI.m.2
  have hno : A.1 0 = nI (cw_no A.1) := hI.m.1
  have hlt : A.1 0 < 6 := by
    rw [hno]
    exact (cw_nlt (b := 6) (by omega) (by omega)).mpr (Nat.lt_of_le_of_ne h6 (fun q => hf (by rw [hno, q]; rfl)))
  refine g_aload_n C rfl dX6_owner_0 ?_
  refine g_iload_n C rfl dX6_owner_1 ?_
  refine g_iconst (v := 1) C (by decide) dX6_owner_2 ?_
  refine g_bipush (v := 9) C (by decide) dX6_owner_3 ?_
  refine g_call C (ok_X6_needRange a 1 9 hc) my_X6_needRange vi_X6_48 (by decide) ⟨Nat.le_refl _, Nat.le_refl _⟩ rfl rfl rfl (Nat.le_of_ble_eq_true rfl) dX6_owner_5 rfl (trivial) (fun v_5 w_5 hp_5 => ?_)
  obtain ⟨rfl, hw_5⟩ := hp_5
  have hw_5 := hw_5.symm; subst hw_5
  refine g_aload_n C rfl dX6_owner_8 ?_
  refine g_getr C fl_X6_10 rfl rfl dX6_owner_9 ?_
  refine g_getf C fl_X6_86 rfl rfl dX6_owner_12 ?_
  refine g_top (cw_pF3 hw) ?_
  refine g_bipush (v := 6) C (by decide) dX6_owner_15 ?_
  refine g_cmp_lt (tgt := 30) C (by decide) dX6_owner_17 (fun c_17 => ?_) (fun c_17 => absurd (hlt) c_17)
  refine g_aload_n C rfl dX6_owner_30 ?_
  refine g_getr C fl_X6_22 rfl rfl dX6_owner_31 ?_
  refine g_aload_n C rfl dX6_owner_34 ?_
  refine g_getr C fl_X6_10 rfl rfl dX6_owner_35 ?_
  refine g_call C (ok_X0_remember o9 A.2.1.1 h9o h9c) my_X0_remember vi_X6_183 (by decide) ⟨Nat.le_refl _, Nat.le_refl _⟩ rfl rfl rfl (Nat.le_of_ble_eq_true rfl) dX6_owner_38 rfl (⟨b2, b3, hw.sch hI⟩) (fun v_38 w_38 hp_38 => ?_)
  obtain ⟨rfl, ho38, hn38, hh38, hf38⟩ := hp_38
  have hr := hw.rem h9o b2 b5 ho38 hn38 hh38 hf38
  have e2 : cw_eq (ho (cw_hs 0 w_38)) A.1 := hr.eq
  have hI2 := cw_I_cg hI e2
  refine g_aload_n C rfl dX6_owner_41 ?_
  refine g_getr C fl_X6_10 rfl rfl dX6_owner_42 ?_
  refine g_iload_n C rfl dX6_owner_45 ?_
  refine g_callW C (cw_emb_h 0 (by decide)) (ok_X1_addOwner _ hI2) my_X1_addOwner vi_X6_187 (by decide) ⟨Nat.le_refl _, Nat.le_refl _⟩ rfl (((cw_emb_h 0 (by decide)).1 0 (by decide))) rfl (cw_wp (14 * 0) 14 w_38) (cw_wp_i) (cw_wp_o) (cw_hs 0 w_38) (fun _ _ => rfl) (Nat.le_of_ble_eq_true rfl) dX6_owner_46 rfl (rfl) (fun v_46 w_46 hp_46 => ?_)
  obtain ⟨rfl, h_46⟩ := hp_46
  refine g_iret C F dX6_owner_49 ?_
  have dq := cw_does_cg hI hB e2 111 a 0 0 (fun q => absurd q (by decide))
  rw [cw_does_111, cw_does_111] at dq
  refine ⟨?_, cw_RC.act (l := 111) (a := a) (b := 0) (c := 0) hI hB hr (fun q => absurd q (by decide)) (by rw [cw_does_111]; exact congrArg cw_nf h_46)⟩
  show _ = some (Value.int (cw_does A.1 111 a 0 0).1)
  rw [cw_does_111, dq.1, cw_re_ok (by rw [cw_oOwner, cw_it ⟨hc, hf⟩]; exact cw_r_9 (u := 6) ⟨cw_no A.1, Nat.zero_le _, h6, hno⟩ (by decide))]

set_option maxHeartbeats 8000000 in
set_option maxRecDepth 100000 in
theorem thr_X6_owner_1 (A : cw_A) {n m : Nat} (hA : cw_IA n m A) (a : Int32) (hc : ¬ (1 ≤ a ∧ a ≤ 9)) : gw_Thr yX6_owner cX6_owner 2 (some .int) sC 8 [.ref 252, .int a] (fun w => cw_RC A w) "java/lang/IllegalArgumentException" (fun w w1 => w1 = w) := by
  refine gw_ofT (by decide) (Nat.le_of_ble_eq_true rfl) ?_
  intro X w h C F
  have hw := h
  have e := hw.eq
  have hI := hA.1
  have hIt := cw_I_cg hI e
  have h6 := hI.m.2
  refine g_aload_n C rfl dX6_owner_0 ?_
  refine g_iload_n C rfl dX6_owner_1 ?_
  refine g_iconst (v := 1) C (by decide) dX6_owner_2 ?_
  refine g_bipush (v := 9) C (by decide) dX6_owner_3 ?_
  exact g_callT C F (gw_emb_id sC) (thr_X6_needRange a 1 9 hc) my_X6_needRange vi_X6_48 (by decide) rfl (rfl) rfl ((fun w1 => w1)) (fun _ _ _ => rfl) (fun w1 j hj h => absurd rfl (h j hj)) (w) (fun _ _ => rfl) (Nat.le_of_ble_eq_true rfl) dX6_owner_5 rfl (trivial) (fun w1 hw => hw)

set_option maxHeartbeats 8000000 in
set_option maxRecDepth 100000 in
theorem thr_X6_owner_2 (A : cw_A) {n m : Nat} (hA : cw_IA n m A) (a : Int32) (hc : 1 ≤ a ∧ a ≤ 9) (hf : A.1 0 = 6) : gw_Thr yX6_owner cX6_owner 2 (some .int) sC 8 [.ref 252, .int a] (fun w => cw_RC A w) "java/lang/IllegalStateException" (fun w w1 => w1 = w) := by
  refine gw_ofT (by decide) (Nat.le_of_ble_eq_true rfl) ?_
  intro X w h C F
  have hw := h
  have e := hw.eq
  have hI := hA.1
  have hIt := cw_I_cg hI e
  have h6 := hI.m.2
  refine g_aload_n C rfl dX6_owner_0 ?_
  refine g_iload_n C rfl dX6_owner_1 ?_
  refine g_iconst (v := 1) C (by decide) dX6_owner_2 ?_
  refine g_bipush (v := 9) C (by decide) dX6_owner_3 ?_
  refine g_call C (ok_X6_needRange a 1 9 hc) my_X6_needRange vi_X6_48 (by decide) ⟨Nat.zero_le _, Nat.zero_le _⟩ rfl rfl rfl (Nat.le_of_ble_eq_true rfl) dX6_owner_5 rfl (trivial) (fun v_5 w_5 hp_5 => ?_)
  obtain ⟨rfl, hw_5⟩ := hp_5
  have hw_5 := hw_5.symm; subst hw_5
  refine g_aload_n C rfl dX6_owner_8 ?_
  refine g_getr C fl_X6_10 rfl rfl dX6_owner_9 ?_
  refine g_getf C fl_X6_86 rfl rfl dX6_owner_12 ?_
  refine g_top ((cw_pF3 hw).trans hf) ?_
  refine g_bipush (v := 6) C (by decide) dX6_owner_15 ?_
  refine g_cmp_lt (tgt := 30) C (by decide) dX6_owner_17 (fun c_17 => absurd c_17 (by decide)) (fun c_17 => ?_)
  exact g_throw C F tw_ISE (List.mem_of_getElem? (i := 4) rfl) (by decide) (Nat.le_of_ble_eq_true rfl) dX6_owner_20 dX6_owner_23 dX6_owner_24 dX6_owner_26 dX6_owner_29 (rfl)

set_option maxHeartbeats 8000000 in
set_option maxRecDepth 100000 in
theorem ok_X6_cost (A : cw_A) {n m : Nat} (hA : cw_IA n m A) (hB : cw_B n (m + 20)) (o k : Int32) (hc : cw_isW o) (hk : 1 ≤ k ∧ k ≤ 9) : gw_Ok yX6_cost cX6_cost 3 (some .int) sC 6 [.ref 252, .int o, .int k] (fun w => cw_RC A w) (fun _ vr w1 => vr = some (.int ((cw_acts A 107 o k 0).1)) ∧ cw_RC ((cw_acts A 107 o k 0).2) w1) := by
  refine gw_of (by decide) (Nat.le_of_ble_eq_true rfl) ?_
  intro X w h C F
  have hw := h
  obtain ⟨-, ⟨o9, h9o, b2, b3, h9c, b5⟩, -, -⟩ := h
  have h := hw
  have e := hw.eq
  have hI := hA.1
  have hIt := cw_I_cg hI e
  have h6 := hI.m.2
  refine g_aload_n C rfl dX6_cost_0 ?_
  refine g_iload_n C rfl dX6_cost_1 ?_
  refine g_call C (ok_X6_needWeek A hA o hc) my_X6_needWeek vi_X6_139 (by decide) ⟨Nat.le_refl _, Nat.le_refl _⟩ rfl rfl rfl (Nat.le_of_ble_eq_true rfl) dX6_cost_2 rfl (h) (fun v_2 w_2 hp_2 => ?_)
  obtain ⟨rfl, hw_2⟩ := hp_2
  have hw_2 := hw_2.symm; subst hw_2
  refine g_aload_n C rfl dX6_cost_5 ?_
  refine g_iload_n C rfl dX6_cost_6 ?_
  refine g_iconst (v := 1) C (by decide) dX6_cost_7 ?_
  refine g_bipush (v := 9) C (by decide) dX6_cost_8 ?_
  refine g_call C (ok_X6_needRange k 1 9 hk) my_X6_needRange vi_X6_48 (by decide) ⟨Nat.le_refl _, Nat.le_refl _⟩ rfl rfl rfl (Nat.le_of_ble_eq_true rfl) dX6_cost_10 rfl (trivial) (fun v_10 w_10 hp_10 => ?_)
  obtain ⟨rfl, hw_10⟩ := hp_10
  have hw_10 := hw_10.symm; subst hw_10
  refine g_aload_n C rfl dX6_cost_13 ?_
  refine g_getr C fl_X6_22 rfl rfl dX6_cost_14 ?_
  refine g_aload_n C rfl dX6_cost_17 ?_
  refine g_getr C fl_X6_10 rfl rfl dX6_cost_18 ?_
  refine g_call C (ok_X0_remember o9 A.2.1.1 h9o h9c) my_X0_remember vi_X6_183 (by decide) ⟨Nat.le_refl _, Nat.le_refl _⟩ rfl rfl rfl (Nat.le_of_ble_eq_true rfl) dX6_cost_21 rfl (⟨b2, b3, hw.sch hI⟩) (fun v_21 w_21 hp_21 => ?_)
  obtain ⟨rfl, ho21, hn21, hh21, hf21⟩ := hp_21
  have hr := hw.rem h9o b2 b5 ho21 hn21 hh21 hf21
  have e2 : cw_eq (ho (cw_hs 0 w_21)) A.1 := hr.eq
  have hI2 := cw_I_cg hI e2
  refine g_aload_n C rfl dX6_cost_24 ?_
  refine g_getr C fl_X6_10 rfl rfl dX6_cost_25 ?_
  refine g_iload_n C rfl dX6_cost_28 ?_
  refine g_iload_n C rfl dX6_cost_29 ?_
  refine g_callW C (cw_emb_h 0 (by decide)) (ok_X1_changeCost _ _ hI2) my_X1_changeCost vi_X6_190 (by decide) ⟨Nat.le_refl _, Nat.le_refl _⟩ rfl (((cw_emb_h 0 (by decide)).1 0 (by decide))) rfl (cw_wp (14 * 0) 14 w_21) (cw_wp_i) (cw_wp_o) (cw_hs 0 w_21) (fun _ _ => rfl) (Nat.le_of_ble_eq_true rfl) dX6_cost_30 rfl (rfl) (fun v_30 w_30 hp_30 => ?_)
  obtain ⟨rfl, h_30⟩ := hp_30
  refine g_iret C F dX6_cost_33 ?_
  have dq := cw_does_cg hI hB e2 107 o k 0 (fun q => absurd q (by decide))
  rw [cw_does_107, cw_does_107] at dq
  refine ⟨?_, cw_RC.act (l := 107) (a := o) (b := k) (c := 0) hI hB hr (fun q => absurd q (by decide)) (by rw [cw_does_107]; exact congrArg cw_nf h_30)⟩
  show _ = some (Value.int (cw_does A.1 107 o k 0).1)
  rw [cw_does_107, dq.1, cw_re_ok (by rw [cw_oCost, cw_it ⟨hc, hk⟩]; exact cw_r_9 (cw_r_le (hI.cos (cw_x o) (by obtain ⟨i, rfl, hi⟩ := cw_isW_ix hc; rw [cw_xn (by omega)]; exact hi))) (by decide))]

set_option maxHeartbeats 8000000 in
set_option maxRecDepth 100000 in
theorem thr_X6_cost_1 (A : cw_A) {n m : Nat} (hA : cw_IA n m A) (o k : Int32) (hc : ¬ cw_isW o) : gw_Thr yX6_cost cX6_cost 3 (some .int) sC 8 [.ref 252, .int o, .int k] (fun w => cw_RC A w) "java/lang/IndexOutOfBoundsException" (fun w w1 => w1 = w) := by
  refine gw_ofT (by decide) (Nat.le_of_ble_eq_true rfl) ?_
  intro X w h C F
  have hw := h
  have e := hw.eq
  have hI := hA.1
  have hIt := cw_I_cg hI e
  have h6 := hI.m.2
  refine g_aload_n C rfl dX6_cost_0 ?_
  refine g_iload_n C rfl dX6_cost_1 ?_
  exact g_callT C F (gw_emb_id sC) (thr_X6_needWeek A hA o hc) my_X6_needWeek vi_X6_139 (by decide) rfl (rfl) rfl ((fun w1 => w1)) (fun _ _ _ => rfl) (fun w1 j hj h => absurd rfl (h j hj)) (w) (fun _ _ => rfl) (Nat.le_of_ble_eq_true rfl) dX6_cost_2 rfl (h) (fun w1 hw => hw)

set_option maxHeartbeats 8000000 in
set_option maxRecDepth 100000 in
theorem thr_X6_cost_2 (A : cw_A) {n m : Nat} (hA : cw_IA n m A) (o k : Int32) (hc : cw_isW o) (hk : ¬ (1 ≤ k ∧ k ≤ 9)) : gw_Thr yX6_cost cX6_cost 3 (some .int) sC 8 [.ref 252, .int o, .int k] (fun w => cw_RC A w) "java/lang/IllegalArgumentException" (fun w w1 => w1 = w) := by
  refine gw_ofT (by decide) (Nat.le_of_ble_eq_true rfl) ?_
  intro X w h C F
  have hw := h
  have e := hw.eq
  have hI := hA.1
  have hIt := cw_I_cg hI e
  have h6 := hI.m.2
  refine g_aload_n C rfl dX6_cost_0 ?_
  refine g_iload_n C rfl dX6_cost_1 ?_
  refine g_call C (ok_X6_needWeek A hA o hc) my_X6_needWeek vi_X6_139 (by decide) ⟨Nat.zero_le _, Nat.zero_le _⟩ rfl rfl rfl (Nat.le_of_ble_eq_true rfl) dX6_cost_2 rfl (h) (fun v_2 w_2 hp_2 => ?_)
  obtain ⟨rfl, hw_2⟩ := hp_2
  have hw_2 := hw_2.symm; subst hw_2
  refine g_aload_n C rfl dX6_cost_5 ?_
  refine g_iload_n C rfl dX6_cost_6 ?_
  refine g_iconst (v := 1) C (by decide) dX6_cost_7 ?_
  refine g_bipush (v := 9) C (by decide) dX6_cost_8 ?_
  exact g_callT C F (gw_emb_id sC) (thr_X6_needRange k 1 9 hk) my_X6_needRange vi_X6_48 (by decide) rfl (rfl) rfl ((fun w1 => w1)) (fun _ _ _ => rfl) (fun w1 j hj h => absurd rfl (h j hj)) (w) (fun _ _ => rfl) (Nat.le_of_ble_eq_true rfl) dX6_cost_10 rfl (trivial) (fun w1 hw => hw)

set_option maxHeartbeats 8000000 in
set_option maxRecDepth 100000 in
theorem ok_X6_school (A : cw_A) {n m : Nat} (hA : cw_IA n m A) (hB : cw_B n (m + 20)) (o k : Int32) (hc : cw_isW o) (h01 : cw_r 0 1 k) : gw_Ok yX6_school cX6_school 3 (some .int) sC 6 [.ref 252, .int o, .int k] (fun w => cw_RC A w) (fun _ vr w1 => vr = some (.int (cw_schools (cw_acts A 115 o k 0).2.1)) ∧ cw_RC ((cw_acts A 115 o k 0).2) w1) := by
  refine gw_of (by decide) (Nat.le_of_ble_eq_true rfl) ?_
  intro X w h C F
  have hw := h
  obtain ⟨-, ⟨o9, h9o, b2, b3, h9c, b5⟩, -, -⟩ := h
  have h := hw
  have e := hw.eq
  have hI := hA.1
  have hIt := cw_I_cg hI e
  have h6 := hI.m.2
  refine g_aload_n C rfl dX6_school_0 ?_
  refine g_iload_n C rfl dX6_school_1 ?_
  refine g_call C (ok_X6_needWeek A hA o hc) my_X6_needWeek vi_X6_139 (by decide) ⟨Nat.le_refl _, Nat.le_refl _⟩ rfl rfl rfl (Nat.le_of_ble_eq_true rfl) dX6_school_2 rfl (h) (fun v_2 w_2 hp_2 => ?_)
  obtain ⟨rfl, hw_2⟩ := hp_2
  have hw_2 := hw_2.symm; subst hw_2
  refine g_aload_n C rfl dX6_school_5 ?_
  refine g_getr C fl_X6_22 rfl rfl dX6_school_6 ?_
  refine g_aload_n C rfl dX6_school_9 ?_
  refine g_getr C fl_X6_10 rfl rfl dX6_school_10 ?_
  refine g_call C (ok_X0_remember o9 A.2.1.1 h9o h9c) my_X0_remember vi_X6_183 (by decide) ⟨Nat.le_refl _, Nat.le_refl _⟩ rfl rfl rfl (Nat.le_of_ble_eq_true rfl) dX6_school_13 rfl (⟨b2, b3, hw.sch hI⟩) (fun v_13 w_13 hp_13 => ?_)
  obtain ⟨rfl, ho13, hn13, hh13, hf13⟩ := hp_13
  have hr := hw.rem h9o b2 b5 ho13 hn13 hh13 hf13
  have e2 : cw_eq (ho (cw_hs 0 w_13)) A.1 := hr.eq
  have hI2 := cw_I_cg hI e2
  refine g_aload_n C rfl dX6_school_16 ?_
  refine g_getr C fl_X6_10 rfl rfl dX6_school_17 ?_
  refine g_iload_n C rfl dX6_school_20 ?_
  refine g_iload_n C rfl dX6_school_21 ?_
  refine g_callW C (cw_emb_h 0 (by decide)) (ok_X1_markSchool _ _ h01 hI2) my_X1_markSchool vi_X6_193 (by decide) ⟨Nat.le_refl _, Nat.le_refl _⟩ rfl (((cw_emb_h 0 (by decide)).1 0 (by decide))) rfl (cw_wp (14 * 0) 14 w_13) (cw_wp_i) (cw_wp_o) (cw_hs 0 w_13) (fun _ _ => rfl) (Nat.le_of_ble_eq_true rfl) dX6_school_22 rfl (rfl) (fun v_22 w_22 hp_22 => ?_)
  obtain ⟨rfl, h_22⟩ := hp_22
  refine g_iret C F dX6_school_25 ?_
  have hxo : cw_x o < 20 := by obtain ⟨i, rfl, hi⟩ := cw_isW_ix hc; rw [cw_xn (by omega)]; exact hi
  have e3 := cw_up e2 (p := 25 + 3 * cw_x o + 1) k (by omega) (by omega)
  rw [cw_it hc] at h_22
  refine ⟨?_, cw_RC.act (l := 115) (a := o) (b := k) (c := 0) hI hB hr (fun _ => hc) (by rw [cw_does_115]; exact congrArg cw_nf h_22)⟩
  rw [cw_it hc]
  show _ = some (Value.int (cw_schools (cw_nf (cw_does A.1 115 o k 0).2)))
  rw [cw_does_115, cw_schools_cg (cw_nf_nf _)]
  rw [cw_schools_cg e3]

set_option maxHeartbeats 8000000 in
set_option maxRecDepth 100000 in
theorem thr_X6_school_1 (A : cw_A) {n m : Nat} (hA : cw_IA n m A) (o k : Int32) (hc : ¬ cw_isW o) : gw_Thr yX6_school cX6_school 3 (some .int) sC 8 [.ref 252, .int o, .int k] (fun w => cw_RC A w) "java/lang/IndexOutOfBoundsException" (fun w w1 => w1 = w) := by
  refine gw_ofT (by decide) (Nat.le_of_ble_eq_true rfl) ?_
  intro X w h C F
  have hw := h
  have e := hw.eq
  have hI := hA.1
  have hIt := cw_I_cg hI e
  have h6 := hI.m.2
  refine g_aload_n C rfl dX6_school_0 ?_
  refine g_iload_n C rfl dX6_school_1 ?_
  exact g_callT C F (gw_emb_id sC) (thr_X6_needWeek A hA o hc) my_X6_needWeek vi_X6_139 (by decide) rfl (rfl) rfl ((fun w1 => w1)) (fun _ _ _ => rfl) (fun w1 j hj h => absurd rfl (h j hj)) (w) (fun _ _ => rfl) (Nat.le_of_ble_eq_true rfl) dX6_school_2 rfl (h) (fun w1 hw => hw)

set_option maxHeartbeats 8000000 in
set_option maxRecDepth 100000 in
theorem ok_X6_take (A : cw_A) {n m : Nat} (hA : cw_IA n m A) (hB : cw_B n (m + 20)) (o k : Int32) (hc : cw_th A.1 o k) : gw_Ok yX6_take cX6_take 3 (some .int) sC 6 [.ref 252, .int o, .int k] (fun w => cw_RC A w) (fun _ vr w1 => vr = some (.int ((cw_acts A 116 o k 0).1)) ∧ cw_RC ((upd (cw_acts A 116 o k 0).2.1 240 ((cw_acts A 116 o k 0).2.1 240 + (if (cw_acts A 116 o k 0).1 ≤ 0 then 0 else 1)), (cw_acts A 116 o k 0).2.2)) w1) := by
  refine gw_of (by decide) (Nat.le_of_ble_eq_true rfl) ?_
  intro X w h C F
  have hw := h
  obtain ⟨-, ⟨o9, h9o, b2, b3, h9c, b5⟩, -, -⟩ := h
  have h := hw
  have e := hw.eq
  have hI := hA.1
  have hIt := cw_I_cg hI e
  have h6 := hI.m.2
  refine g_aload_n C rfl dX6_take_0 ?_
  refine g_iload_n C rfl dX6_take_1 ?_
  refine g_call C (ok_X6_needOwner A hA o hc.1) my_X6_needOwner vi_X6_115 (by decide) ⟨Nat.le_refl _, Nat.le_refl _⟩ rfl rfl rfl (Nat.le_of_ble_eq_true rfl) dX6_take_2 rfl (h) (fun v_2 w_2 hp_2 => ?_)
  obtain ⟨rfl, hw_2⟩ := hp_2
  have hw_2 := hw_2.symm; subst hw_2
  refine g_aload_n C rfl dX6_take_5 ?_
  refine g_iload_n C rfl dX6_take_6 ?_
  refine g_call C (ok_X6_needWeek A hA k hc.2) my_X6_needWeek vi_X6_139 (by decide) ⟨Nat.le_refl _, Nat.le_refl _⟩ rfl rfl rfl (Nat.le_of_ble_eq_true rfl) dX6_take_7 rfl (h) (fun v_7 w_7 hp_7 => ?_)
  obtain ⟨rfl, hw_7⟩ := hp_7
  have hw_7 := hw_7.symm; subst hw_7
  refine g_aload_n C rfl dX6_take_10 ?_
  refine g_getr C fl_X6_22 rfl rfl dX6_take_11 ?_
  refine g_aload_n C rfl dX6_take_14 ?_
  refine g_getr C fl_X6_10 rfl rfl dX6_take_15 ?_
  refine g_call C (ok_X0_remember o9 A.2.1.1 h9o h9c) my_X0_remember vi_X6_183 (by decide) ⟨Nat.le_refl _, Nat.le_refl _⟩ rfl rfl rfl (Nat.le_of_ble_eq_true rfl) dX6_take_18 rfl (⟨b2, b3, hw.sch hI⟩) (fun v_18 w_18 hp_18 => ?_)
  obtain ⟨rfl, ho18, hn18, hh18, hf18⟩ := hp_18
  have hr := hw.rem h9o b2 b5 ho18 hn18 hh18 hf18
  have e2 : cw_eq (ho (cw_hs 0 w_18)) A.1 := hr.eq
  have hI2 := cw_I_cg hI e2
  refine g_aload_n C rfl dX6_take_21 ?_
  refine g_getr C fl_X6_10 rfl rfl dX6_take_22 ?_
  refine g_iload_n C rfl dX6_take_25 ?_
  refine g_iload_n C rfl dX6_take_26 ?_
  refine g_callW C (cw_emb_h 0 (by decide)) (ok_X1_takeWeek _ _ hI2) my_X1_takeWeek vi_X6_197 (by decide) ⟨Nat.le_refl _, Nat.le_refl _⟩ rfl (((cw_emb_h 0 (by decide)).1 0 (by decide))) rfl (cw_wp (14 * 0) 14 w_18) (cw_wp_i) (cw_wp_o) (cw_hs 0 w_18) (fun _ _ => rfl) (Nat.le_of_ble_eq_true rfl) dX6_take_27 rfl (rfl) (fun v_27 w_27 hp_27 => ?_)
  obtain ⟨rfl, h_27⟩ := hp_27
  refine g_iret C F dX6_take_30 ?_
  have hth : cw_th (ho (cw_hs 0 w_18)) o k := by rw [cw_th_cg e2]; exact hc
  obtain ⟨hj, hi, eo, ek⟩ := cw_thx hI hc
  have hj6 : cw_x o < 6 := by omega
  have ehi := cw_hind_cg e2 hj6 hi
  have ac : cw_acts A 116 o k 0 = (cw_hind A.1 (cw_x o) (cw_x k), (cw_nf (cw_takes A.1 (cw_x o) (cw_x k)), (cw_rem A).2)) := by
    show ((cw_does A.1 116 o k 0).1, (cw_nf (cw_does A.1 116 o k 0).2, (cw_rem A).2)) = _
    rw [cw_does_116, cw_oTake, cw_it hc]
  rw [ac]
  have hv : ¬ cw_hind A.1 (cw_x o) (cw_x k) = -9 := by
    unfold cw_hind
    repeat' split
    all_goals decide
  rw [cw_oTakeR, cw_it hth, ehi] at h_27
  refine ⟨?_, ?_⟩
  · rw [cw_oTakeR, cw_it hth, ehi, cw_re_ok hv]
  · refine hr.pres (fun q hq => cw_wp_out _ _ (by omega)) ?_
    rw [cw_hs_wp, h_27]
    by_cases z : cw_hind A.1 (cw_x o) (cw_x k) = 0
    · rw [if_pos z]
      show _ = upd (cw_nf (cw_takes A.1 (cw_x o) (cw_x k))) 240 (cw_nf (cw_takes A.1 (cw_x o) (cw_x k)) 240 + (if cw_hind A.1 (cw_x o) (cw_x k) ≤ 0 then 0 else 1))
      rw [if_pos (by rw [z]; decide), Int32.add_zero]
      rw [cw_upself]
      exact cw_takes_cg e2 hj6 hi
    · rw [if_neg z]
      show _ = upd (cw_nf (cw_takes A.1 (cw_x o) (cw_x k))) 240 (cw_nf (cw_takes A.1 (cw_x o) (cw_x k)) 240 + (if cw_hind A.1 (cw_x o) (cw_x k) ≤ 0 then 0 else 1))
      have hpos : ¬ cw_hind A.1 (cw_x o) (cw_x k) ≤ 0 := by
        have := cw_take_pos hI (a := o) (b := k) (by rw [cw_oTake, cw_it hc]; exact z)
        rw [cw_oTake, cw_it hc] at this
        exact this.resolve_left hv
      have tk : cw_takes A.1 (cw_x o) (cw_x k) = A.1 := by unfold cw_takes; rw [if_neg z]
      rw [if_neg hpos, tk, ← cw_nf_upd _ _ (by omega) (by omega), cw_nf_rd _ (by omega) (by omega), cw_rd e2 (p := 240) (by omega) (by omega)]
      exact cw_up e2 _ (by omega) (by omega)

set_option maxHeartbeats 8000000 in
set_option maxRecDepth 100000 in
theorem thr_X6_take_o (A : cw_A) {n m : Nat} (hA : cw_IA n m A) (o k : Int32) (hc : ¬ cw_isO A.1 o) : gw_Thr yX6_take cX6_take 3 (some .int) sC 8 [.ref 252, .int o, .int k] (fun w => cw_RC A w) "java/lang/IndexOutOfBoundsException" (fun w w1 => w1 = w) := by
  refine gw_ofT (by decide) (Nat.le_of_ble_eq_true rfl) ?_
  intro X w h C F
  have hw := h
  have e := hw.eq
  have hI := hA.1
  have hIt := cw_I_cg hI e
  have h6 := hI.m.2
  refine g_aload_n C rfl dX6_take_0 ?_
  refine g_iload_n C rfl dX6_take_1 ?_
  exact g_callT C F (gw_emb_id sC) (thr_X6_needOwner A hA o hc) my_X6_needOwner vi_X6_115 (by decide) rfl (rfl) rfl ((fun w1 => w1)) (fun _ _ _ => rfl) (fun w1 j hj h => absurd rfl (h j hj)) (w) (fun _ _ => rfl) (Nat.le_of_ble_eq_true rfl) dX6_take_2 rfl (h) (fun w1 hw => hw)

set_option maxHeartbeats 8000000 in
set_option maxRecDepth 100000 in
theorem thr_X6_take_w (A : cw_A) {n m : Nat} (hA : cw_IA n m A) (o k : Int32) (hc : cw_isO A.1 o) (hk : ¬ cw_isW k) : gw_Thr yX6_take cX6_take 3 (some .int) sC 8 [.ref 252, .int o, .int k] (fun w => cw_RC A w) "java/lang/IndexOutOfBoundsException" (fun w w1 => w1 = w) := by
  refine gw_ofT (by decide) (Nat.le_of_ble_eq_true rfl) ?_
  intro X w h C F
  have hw := h
  have e := hw.eq
  have hI := hA.1
  have hIt := cw_I_cg hI e
  have h6 := hI.m.2
  refine g_aload_n C rfl dX6_take_0 ?_
  refine g_iload_n C rfl dX6_take_1 ?_
  refine g_call C (ok_X6_needOwner A hA o hc) my_X6_needOwner vi_X6_115 (by decide) ⟨Nat.zero_le _, Nat.zero_le _⟩ rfl rfl rfl (Nat.le_of_ble_eq_true rfl) dX6_take_2 rfl (h) (fun v_2 w_2 hp_2 => ?_)
  obtain ⟨rfl, hw_2⟩ := hp_2
  have hw_2 := hw_2.symm; subst hw_2
  refine g_aload_n C rfl dX6_take_5 ?_
  refine g_iload_n C rfl dX6_take_6 ?_
  exact g_callT C F (gw_emb_id sC) (thr_X6_needWeek A hA k hk) my_X6_needWeek vi_X6_139 (by decide) rfl (rfl) rfl ((fun w1 => w1)) (fun _ _ _ => rfl) (fun w1 j hj h => absurd rfl (h j hj)) (w) (fun _ _ => rfl) (Nat.le_of_ble_eq_true rfl) dX6_take_7 rfl (h) (fun w1 hw => hw)

theorem thr_X6_take_1 (A : cw_A) {n m : Nat} (hA : cw_IA n m A) (o k : Int32) (hc : ¬ cw_th A.1 o k) : gw_Thr yX6_take cX6_take 3 (some .int) sC 8 [.ref 252, .int o, .int k] (fun w => cw_RC A w) "java/lang/IndexOutOfBoundsException" (fun w w1 => w1 = w) := by
  by_cases h1 : cw_isO A.1 o
  · exact thr_X6_take_w A hA o k h1 (fun h2 => hc ⟨h1, h2⟩)
  · exact thr_X6_take_o A hA o k h1

set_option maxHeartbeats 8000000 in
set_option maxRecDepth 100000 in
theorem ok_X6_release (A : cw_A) {n m : Nat} (hA : cw_IA n m A) (hB : cw_B n (m + 20)) (o k : Int32) (hc : cw_th A.1 o k) (hk : A.1 (25 + 3 * cw_x k + 2) = o) : gw_Ok yX6_release cX6_release 3 (some .int) sC 6 [.ref 252, .int o, .int k] (fun w => cw_RC A w) (fun _ vr w1 => vr = some (.int ((cw_acts A 114 o k 0).1)) ∧ cw_RC ((cw_acts A 114 o k 0).2) w1) := by
  refine gw_of (by decide) (Nat.le_of_ble_eq_true rfl) ?_
  intro X w h C F
  have hw := h
  obtain ⟨-, ⟨o9, h9o, b2, b3, h9c, b5⟩, -, -⟩ := h
  have h := hw
  have e := hw.eq
  have hI := hA.1
  have hIt := cw_I_cg hI e
  have h6 := hI.m.2
  refine g_aload_n C rfl dX6_release_0 ?_
  refine g_iload_n C rfl dX6_release_1 ?_
  refine g_call C (ok_X6_needOwner A hA o hc.1) my_X6_needOwner vi_X6_115 (by decide) ⟨Nat.le_refl _, Nat.le_refl _⟩ rfl rfl rfl (Nat.le_of_ble_eq_true rfl) dX6_release_2 rfl (h) (fun v_2 w_2 hp_2 => ?_)
  obtain ⟨rfl, hw_2⟩ := hp_2
  have hw_2 := hw_2.symm; subst hw_2
  refine g_aload_n C rfl dX6_release_5 ?_
  refine g_iload_n C rfl dX6_release_6 ?_
  refine g_call C (ok_X6_needWeek A hA k hc.2) my_X6_needWeek vi_X6_139 (by decide) ⟨Nat.le_refl _, Nat.le_refl _⟩ rfl rfl rfl (Nat.le_of_ble_eq_true rfl) dX6_release_7 rfl (h) (fun v_7 w_7 hp_7 => ?_)
  obtain ⟨rfl, hw_7⟩ := hp_7
  have hw_7 := hw_7.symm; subst hw_7
  refine g_aload_n C rfl dX6_release_10 ?_
  refine g_getr C fl_X6_10 rfl rfl dX6_release_11 ?_
  refine g_iload_n C rfl dX6_release_14 ?_
  refine g_iload_n C rfl dX6_release_15 ?_
  refine g_callW C (cw_emb_h 0 (by decide)) (ok_X1_holds _ _ hIt) my_X1_holds vi_X6_200 (by decide) ⟨Nat.le_refl _, Nat.le_refl _⟩ rfl (((cw_emb_h 0 (by decide)).1 0 (by decide))) rfl (cw_wp (14 * 0) 14 w) (cw_wp_i) (cw_wp_o) (cw_hs 0 w) (fun _ _ => rfl) (Nat.le_of_ble_eq_true rfl) dX6_release_16 rfl (rfl) (fun v_16 w_16 hp_16 => ?_)
  obtain ⟨rfl, hw_16⟩ := hp_16
  have hw_16 := hw_16.symm; subst hw_16
  rw [cw_wp_hs]
  rw [cw_th_cg e, cw_rd e (p := 25 + 3 * cw_x k + 2) (by have := (cw_thx hI hc).2.1; omega) (by have := (cw_thx hI hc).2.1; omega)]
  refine g_if_ne (tgt := 32) C (by decide) dX6_release_19 (fun c_19 => ?_) (fun c_19 => absurd c_19 (by rw [cw_b1 ⟨hc, hk⟩]; decide))
  refine g_aload_n C rfl dX6_release_32 ?_
  refine g_getr C fl_X6_22 rfl rfl dX6_release_33 ?_
  refine g_aload_n C rfl dX6_release_36 ?_
  refine g_getr C fl_X6_10 rfl rfl dX6_release_37 ?_
  refine g_call C (ok_X0_remember o9 A.2.1.1 h9o h9c) my_X0_remember vi_X6_183 (by decide) ⟨Nat.le_refl _, Nat.le_refl _⟩ rfl rfl rfl (Nat.le_of_ble_eq_true rfl) dX6_release_40 rfl (⟨b2, b3, hw.sch hI⟩) (fun v_40 w_40 hp_40 => ?_)
  obtain ⟨rfl, ho40, hn40, hh40, hf40⟩ := hp_40
  have hr := hw.rem h9o b2 b5 ho40 hn40 hh40 hf40
  have e2 : cw_eq (ho (cw_hs 0 w_40)) A.1 := hr.eq
  have hI2 := cw_I_cg hI e2
  refine g_aload_n C rfl dX6_release_43 ?_
  refine g_getr C fl_X6_10 rfl rfl dX6_release_44 ?_
  refine g_iload_n C rfl dX6_release_47 ?_
  refine g_iload_n C rfl dX6_release_48 ?_
  refine g_callW C (cw_emb_h 0 (by decide)) (ok_X1_giveBack _ _ hI2) my_X1_giveBack vi_X6_206 (by decide) ⟨Nat.le_refl _, Nat.le_refl _⟩ rfl (((cw_emb_h 0 (by decide)).1 0 (by decide))) rfl (cw_wp (14 * 0) 14 w_40) (cw_wp_i) (cw_wp_o) (cw_hs 0 w_40) (fun _ _ => rfl) (Nat.le_of_ble_eq_true rfl) dX6_release_49 rfl (rfl) (fun v_49 w_49 hp_49 => ?_)
  obtain ⟨rfl, h_49⟩ := hp_49
  refine g_iret C F dX6_release_52 ?_
  have dq := cw_does_cg hI hB e2 114 o k 0 (fun q => absurd q (by decide))
  rw [cw_does_114, cw_does_114] at dq
  refine ⟨?_, cw_RC.act (l := 114) (a := o) (b := k) (c := 0) hI hB hr (fun q => absurd q (by decide)) (by rw [cw_does_114]; exact congrArg cw_nf h_49)⟩
  show _ = some (Value.int (cw_does A.1 114 o k 0).1)
  rw [cw_does_114, dq.1, cw_re_ok (by rw [cw_oRelease, cw_it ⟨hc, hk⟩]; exact cw_hlf (hI.cos _ (cw_thx hI hc).2.1))]

set_option maxHeartbeats 8000000 in
set_option maxRecDepth 100000 in
theorem thr_X6_release_o (A : cw_A) {n m : Nat} (hA : cw_IA n m A) (o k : Int32) (hc : ¬ cw_isO A.1 o) : gw_Thr yX6_release cX6_release 3 (some .int) sC 8 [.ref 252, .int o, .int k] (fun w => cw_RC A w) "java/lang/IndexOutOfBoundsException" (fun w w1 => w1 = w) := by
  refine gw_ofT (by decide) (Nat.le_of_ble_eq_true rfl) ?_
  intro X w h C F
  have hw := h
  have e := hw.eq
  have hI := hA.1
  have hIt := cw_I_cg hI e
  have h6 := hI.m.2
  refine g_aload_n C rfl dX6_release_0 ?_
  refine g_iload_n C rfl dX6_release_1 ?_
  exact g_callT C F (gw_emb_id sC) (thr_X6_needOwner A hA o hc) my_X6_needOwner vi_X6_115 (by decide) rfl (rfl) rfl ((fun w1 => w1)) (fun _ _ _ => rfl) (fun w1 j hj h => absurd rfl (h j hj)) (w) (fun _ _ => rfl) (Nat.le_of_ble_eq_true rfl) dX6_release_2 rfl (h) (fun w1 hw => hw)

set_option maxHeartbeats 8000000 in
set_option maxRecDepth 100000 in
theorem thr_X6_release_w (A : cw_A) {n m : Nat} (hA : cw_IA n m A) (o k : Int32) (hc : cw_isO A.1 o) (hk : ¬ cw_isW k) : gw_Thr yX6_release cX6_release 3 (some .int) sC 8 [.ref 252, .int o, .int k] (fun w => cw_RC A w) "java/lang/IndexOutOfBoundsException" (fun w w1 => w1 = w) := by
  refine gw_ofT (by decide) (Nat.le_of_ble_eq_true rfl) ?_
  intro X w h C F
  have hw := h
  have e := hw.eq
  have hI := hA.1
  have hIt := cw_I_cg hI e
  have h6 := hI.m.2
  refine g_aload_n C rfl dX6_release_0 ?_
  refine g_iload_n C rfl dX6_release_1 ?_
  refine g_call C (ok_X6_needOwner A hA o hc) my_X6_needOwner vi_X6_115 (by decide) ⟨Nat.zero_le _, Nat.zero_le _⟩ rfl rfl rfl (Nat.le_of_ble_eq_true rfl) dX6_release_2 rfl (h) (fun v_2 w_2 hp_2 => ?_)
  obtain ⟨rfl, hw_2⟩ := hp_2
  have hw_2 := hw_2.symm; subst hw_2
  refine g_aload_n C rfl dX6_release_5 ?_
  refine g_iload_n C rfl dX6_release_6 ?_
  exact g_callT C F (gw_emb_id sC) (thr_X6_needWeek A hA k hk) my_X6_needWeek vi_X6_139 (by decide) rfl (rfl) rfl ((fun w1 => w1)) (fun _ _ _ => rfl) (fun w1 j hj h => absurd rfl (h j hj)) (w) (fun _ _ => rfl) (Nat.le_of_ble_eq_true rfl) dX6_release_7 rfl (h) (fun w1 hw => hw)

theorem thr_X6_release_1 (A : cw_A) {n m : Nat} (hA : cw_IA n m A) (o k : Int32) (hc : ¬ cw_th A.1 o k) : gw_Thr yX6_release cX6_release 3 (some .int) sC 8 [.ref 252, .int o, .int k] (fun w => cw_RC A w) "java/lang/IndexOutOfBoundsException" (fun w w1 => w1 = w) := by
  by_cases h1 : cw_isO A.1 o
  · exact thr_X6_release_w A hA o k h1 (fun h2 => hc ⟨h1, h2⟩)
  · exact thr_X6_release_o A hA o k h1

set_option maxHeartbeats 8000000 in
set_option maxRecDepth 100000 in
theorem thr_X6_release_2 (A : cw_A) {n m : Nat} (hA : cw_IA n m A) (o k : Int32) (hc : cw_th A.1 o k) (hk : ¬ A.1 (25 + 3 * cw_x k + 2) = o) : gw_Thr yX6_release cX6_release 3 (some .int) sC 8 [.ref 252, .int o, .int k] (fun w => cw_RC A w) "java/lang/IllegalStateException" (fun w w1 => w1 = w) := by
  refine gw_ofT (by decide) (Nat.le_of_ble_eq_true rfl) ?_
  intro X w h C F
  have hw := h
  have e := hw.eq
  have hI := hA.1
  have hIt := cw_I_cg hI e
  have h6 := hI.m.2
  refine g_aload_n C rfl dX6_release_0 ?_
  refine g_iload_n C rfl dX6_release_1 ?_
  refine g_call C (ok_X6_needOwner A hA o hc.1) my_X6_needOwner vi_X6_115 (by decide) ⟨Nat.zero_le _, Nat.zero_le _⟩ rfl rfl rfl (Nat.le_of_ble_eq_true rfl) dX6_release_2 rfl (h) (fun v_2 w_2 hp_2 => ?_)
  obtain ⟨rfl, hw_2⟩ := hp_2
  have hw_2 := hw_2.symm; subst hw_2
  refine g_aload_n C rfl dX6_release_5 ?_
  refine g_iload_n C rfl dX6_release_6 ?_
  refine g_call C (ok_X6_needWeek A hA k hc.2) my_X6_needWeek vi_X6_139 (by decide) ⟨Nat.zero_le _, Nat.zero_le _⟩ rfl rfl rfl (Nat.le_of_ble_eq_true rfl) dX6_release_7 rfl (h) (fun v_7 w_7 hp_7 => ?_)
  obtain ⟨rfl, hw_7⟩ := hp_7
  have hw_7 := hw_7.symm; subst hw_7
  refine g_aload_n C rfl dX6_release_10 ?_
  refine g_getr C fl_X6_10 rfl rfl dX6_release_11 ?_
  refine g_iload_n C rfl dX6_release_14 ?_
  refine g_iload_n C rfl dX6_release_15 ?_
  refine g_callW C (cw_emb_h 0 (by decide)) (ok_X1_holds _ _ hIt) my_X1_holds vi_X6_200 (by decide) ⟨Nat.zero_le _, Nat.zero_le _⟩ rfl (((cw_emb_h 0 (by decide)).1 0 (by decide))) rfl (cw_wp (14 * 0) 14 w) (cw_wp_i) (cw_wp_o) (cw_hs 0 w) (fun _ _ => rfl) (Nat.le_of_ble_eq_true rfl) dX6_release_16 rfl (rfl) (fun v_16 w_16 hp_16 => ?_)
  obtain ⟨rfl, hw_16⟩ := hp_16
  have hw_16 := hw_16.symm; subst hw_16
  rw [cw_wp_hs]
  rw [cw_th_cg e, cw_rd e (p := 25 + 3 * cw_x k + 2) (by have := (cw_thx hI hc).2.1; omega) (by have := (cw_thx hI hc).2.1; omega)]
  refine g_if_ne (tgt := 32) C (by decide) dX6_release_19 (fun c_19 => absurd c_19 (fun z => z (cw_bf (fun y => hk y.2)))) (fun c_19 => ?_)
  exact g_throw C F tw_ISE (List.mem_of_getElem? (i := 5) rfl) (by decide) (Nat.le_of_ble_eq_true rfl) dX6_release_22 dX6_release_25 dX6_release_26 dX6_release_28 dX6_release_31 (rfl)

set_option maxHeartbeats 8000000 in
set_option maxRecDepth 100000 in
theorem ok_X6_bid (A : cw_A) {n m : Nat} (hA : cw_IA n m A) (hB : cw_B n (m + 20)) (o k a : Int32) (hc : cw_th A.1 o k) (ha : 0 ≤ a ∧ a ≤ 20) (hp : cw_open A.1 (cw_x k)) : gw_Ok yX6_bid cX6_bid 4 (some .int) sC 6 [.ref 252, .int o, .int k, .int a] (fun w => cw_RC A w) (fun _ vr w1 => vr = some (.int ((cw_acts A 98 o k a).1)) ∧ cw_RC ((cw_acts A 98 o k a).2) w1) := by
  refine gw_of (by decide) (Nat.le_of_ble_eq_true rfl) ?_
  intro X w h C F
  have hw := h
  obtain ⟨-, ⟨o9, h9o, b2, b3, h9c, b5⟩, -, -⟩ := h
  have h := hw
  have e := hw.eq
  have hI := hA.1
  have hIt := cw_I_cg hI e
  have h6 := hI.m.2
  refine g_aload_n C rfl dX6_bid_0 ?_
  refine g_iload_n C rfl dX6_bid_1 ?_
  refine g_call C (ok_X6_needOwner A hA o hc.1) my_X6_needOwner vi_X6_115 (by decide) ⟨Nat.le_refl _, Nat.le_refl _⟩ rfl rfl rfl (Nat.le_of_ble_eq_true rfl) dX6_bid_2 rfl (h) (fun v_2 w_2 hp_2 => ?_)
  obtain ⟨rfl, hw_2⟩ := hp_2
  have hw_2 := hw_2.symm; subst hw_2
  refine g_aload_n C rfl dX6_bid_5 ?_
  refine g_iload_n C rfl dX6_bid_6 ?_
  refine g_call C (ok_X6_needWeek A hA k hc.2) my_X6_needWeek vi_X6_139 (by decide) ⟨Nat.le_refl _, Nat.le_refl _⟩ rfl rfl rfl (Nat.le_of_ble_eq_true rfl) dX6_bid_7 rfl (h) (fun v_7 w_7 hp_7 => ?_)
  obtain ⟨rfl, hw_7⟩ := hp_7
  have hw_7 := hw_7.symm; subst hw_7
  refine g_aload_n C rfl dX6_bid_10 ?_
  refine g_iload_n C rfl dX6_bid_11 ?_
  refine g_iconst (v := 0) C (by decide) dX6_bid_12 ?_
  refine g_bipush (v := 20) C (by decide) dX6_bid_13 ?_
  refine g_call C (ok_X6_needRange a 0 20 ha) my_X6_needRange vi_X6_48 (by decide) ⟨Nat.le_refl _, Nat.le_refl _⟩ rfl rfl rfl (Nat.le_of_ble_eq_true rfl) dX6_bid_15 rfl (trivial) (fun v_15 w_15 hp_15 => ?_)
  obtain ⟨rfl, hw_15⟩ := hp_15
  have hw_15 := hw_15.symm; subst hw_15
  refine g_aload_n C rfl dX6_bid_18 ?_
  refine g_getr C fl_X6_10 rfl rfl dX6_bid_19 ?_
  refine g_iload_n C rfl dX6_bid_22 ?_
  refine g_callW C (cw_emb_h 0 (by decide)) (ok_X1_isOpenForBids _ hIt) my_X1_isOpenForBids vi_X6_209 (by decide) ⟨Nat.le_refl _, Nat.le_refl _⟩ rfl (((cw_emb_h 0 (by decide)).1 0 (by decide))) rfl (cw_wp (14 * 0) 14 w) (cw_wp_i) (cw_wp_o) (cw_hs 0 w) (fun _ _ => rfl) (Nat.le_of_ble_eq_true rfl) dX6_bid_23 rfl (rfl) (fun v_23 w_23 hp_23 => ?_)
  obtain ⟨rfl, hw_23⟩ := hp_23
  have hw_23 := hw_23.symm; subst hw_23
  rw [cw_wp_hs]
  rw [cw_open_cg e (cw_thx hI hc).2.1]
  refine g_if_ne (tgt := 39) C (by decide) dX6_bid_26 (fun c_26 => ?_) (fun c_26 => absurd c_26 (by rw [cw_b1 ⟨hc.2, hp⟩]; decide))
  refine g_aload_n C rfl dX6_bid_39 ?_
  refine g_getr C fl_X6_22 rfl rfl dX6_bid_40 ?_
  refine g_aload_n C rfl dX6_bid_43 ?_
  refine g_getr C fl_X6_10 rfl rfl dX6_bid_44 ?_
  refine g_call C (ok_X0_remember o9 A.2.1.1 h9o h9c) my_X0_remember vi_X6_183 (by decide) ⟨Nat.le_refl _, Nat.le_refl _⟩ rfl rfl rfl (Nat.le_of_ble_eq_true rfl) dX6_bid_47 rfl (⟨b2, b3, hw.sch hI⟩) (fun v_47 w_47 hp_47 => ?_)
  obtain ⟨rfl, ho47, hn47, hh47, hf47⟩ := hp_47
  have hr := hw.rem h9o b2 b5 ho47 hn47 hh47 hf47
  have e2 : cw_eq (ho (cw_hs 0 w_47)) A.1 := hr.eq
  have hI2 := cw_I_cg hI e2
  refine g_aload_n C rfl dX6_bid_50 ?_
  refine g_getr C fl_X6_10 rfl rfl dX6_bid_51 ?_
  refine g_iload_n C rfl dX6_bid_54 ?_
  refine g_iload_n C rfl dX6_bid_55 ?_
  refine g_iload_n C rfl dX6_bid_56 ?_
  refine g_callW C (cw_emb_h 0 (by decide)) (ok_X1_placeBid _ _ _ hI2) my_X1_placeBid vi_X6_215 (by decide) ⟨Nat.le_refl _, Nat.le_refl _⟩ rfl (((cw_emb_h 0 (by decide)).1 0 (by decide))) rfl (cw_wp (14 * 0) 14 w_47) (cw_wp_i) (cw_wp_o) (cw_hs 0 w_47) (fun _ _ => rfl) (Nat.le_of_ble_eq_true rfl) dX6_bid_57 rfl (rfl) (fun v_57 w_57 hp_57 => ?_)
  obtain ⟨rfl, h_57⟩ := hp_57
  refine g_iret C F dX6_bid_60 ?_
  have dq := cw_does_cg hI hB e2 98 o k a (fun q => absurd q (by decide))
  rw [cw_does_98, cw_does_98] at dq
  refine ⟨?_, cw_RC.act (l := 98) (a := o) (b := k) (c := a) hI hB hr (fun q => absurd q (by decide)) (by rw [cw_does_98]; exact congrArg cw_nf h_57)⟩
  show _ = some (Value.int (cw_does A.1 98 o k a).1)
  rw [cw_does_98, dq.1, cw_re_ok (by rw [cw_oBid, cw_it ⟨⟨hc, ha⟩, hp⟩]; exact cw_r_9 (cw_bidsFor_r _ _ (by rw [cw_no_upd _ _ (by omega)]; exact h6)) (by decide))]

set_option maxHeartbeats 8000000 in
set_option maxRecDepth 100000 in
theorem thr_X6_bid_o (A : cw_A) {n m : Nat} (hA : cw_IA n m A) (o k a : Int32) (hc : ¬ cw_isO A.1 o) : gw_Thr yX6_bid cX6_bid 4 (some .int) sC 8 [.ref 252, .int o, .int k, .int a] (fun w => cw_RC A w) "java/lang/IndexOutOfBoundsException" (fun w w1 => w1 = w) := by
  refine gw_ofT (by decide) (Nat.le_of_ble_eq_true rfl) ?_
  intro X w h C F
  have hw := h
  have e := hw.eq
  have hI := hA.1
  have hIt := cw_I_cg hI e
  have h6 := hI.m.2
  refine g_aload_n C rfl dX6_bid_0 ?_
  refine g_iload_n C rfl dX6_bid_1 ?_
  exact g_callT C F (gw_emb_id sC) (thr_X6_needOwner A hA o hc) my_X6_needOwner vi_X6_115 (by decide) rfl (rfl) rfl ((fun w1 => w1)) (fun _ _ _ => rfl) (fun w1 j hj h => absurd rfl (h j hj)) (w) (fun _ _ => rfl) (Nat.le_of_ble_eq_true rfl) dX6_bid_2 rfl (h) (fun w1 hw => hw)

set_option maxHeartbeats 8000000 in
set_option maxRecDepth 100000 in
theorem thr_X6_bid_w (A : cw_A) {n m : Nat} (hA : cw_IA n m A) (o k a : Int32) (hc : cw_isO A.1 o) (hk : ¬ cw_isW k) : gw_Thr yX6_bid cX6_bid 4 (some .int) sC 8 [.ref 252, .int o, .int k, .int a] (fun w => cw_RC A w) "java/lang/IndexOutOfBoundsException" (fun w w1 => w1 = w) := by
  refine gw_ofT (by decide) (Nat.le_of_ble_eq_true rfl) ?_
  intro X w h C F
  have hw := h
  have e := hw.eq
  have hI := hA.1
  have hIt := cw_I_cg hI e
  have h6 := hI.m.2
  refine g_aload_n C rfl dX6_bid_0 ?_
  refine g_iload_n C rfl dX6_bid_1 ?_
  refine g_call C (ok_X6_needOwner A hA o hc) my_X6_needOwner vi_X6_115 (by decide) ⟨Nat.zero_le _, Nat.zero_le _⟩ rfl rfl rfl (Nat.le_of_ble_eq_true rfl) dX6_bid_2 rfl (h) (fun v_2 w_2 hp_2 => ?_)
  obtain ⟨rfl, hw_2⟩ := hp_2
  have hw_2 := hw_2.symm; subst hw_2
  refine g_aload_n C rfl dX6_bid_5 ?_
  refine g_iload_n C rfl dX6_bid_6 ?_
  exact g_callT C F (gw_emb_id sC) (thr_X6_needWeek A hA k hk) my_X6_needWeek vi_X6_139 (by decide) rfl (rfl) rfl ((fun w1 => w1)) (fun _ _ _ => rfl) (fun w1 j hj h => absurd rfl (h j hj)) (w) (fun _ _ => rfl) (Nat.le_of_ble_eq_true rfl) dX6_bid_7 rfl (h) (fun w1 hw => hw)

theorem thr_X6_bid_1 (A : cw_A) {n m : Nat} (hA : cw_IA n m A) (o k a : Int32) (hc : ¬ cw_th A.1 o k) : gw_Thr yX6_bid cX6_bid 4 (some .int) sC 8 [.ref 252, .int o, .int k, .int a] (fun w => cw_RC A w) "java/lang/IndexOutOfBoundsException" (fun w w1 => w1 = w) := by
  by_cases h1 : cw_isO A.1 o
  · exact thr_X6_bid_w A hA o k a h1 (fun h2 => hc ⟨h1, h2⟩)
  · exact thr_X6_bid_o A hA o k a h1

set_option maxHeartbeats 8000000 in
set_option maxRecDepth 100000 in
theorem thr_X6_bid_2 (A : cw_A) {n m : Nat} (hA : cw_IA n m A) (o k a : Int32) (hc : cw_th A.1 o k) (ha : ¬ (0 ≤ a ∧ a ≤ 20)) : gw_Thr yX6_bid cX6_bid 4 (some .int) sC 8 [.ref 252, .int o, .int k, .int a] (fun w => cw_RC A w) "java/lang/IllegalArgumentException" (fun w w1 => w1 = w) := by
  refine gw_ofT (by decide) (Nat.le_of_ble_eq_true rfl) ?_
  intro X w h C F
  have hw := h
  have e := hw.eq
  have hI := hA.1
  have hIt := cw_I_cg hI e
  have h6 := hI.m.2
  refine g_aload_n C rfl dX6_bid_0 ?_
  refine g_iload_n C rfl dX6_bid_1 ?_
  refine g_call C (ok_X6_needOwner A hA o hc.1) my_X6_needOwner vi_X6_115 (by decide) ⟨Nat.zero_le _, Nat.zero_le _⟩ rfl rfl rfl (Nat.le_of_ble_eq_true rfl) dX6_bid_2 rfl (h) (fun v_2 w_2 hp_2 => ?_)
  obtain ⟨rfl, hw_2⟩ := hp_2
  have hw_2 := hw_2.symm; subst hw_2
  refine g_aload_n C rfl dX6_bid_5 ?_
  refine g_iload_n C rfl dX6_bid_6 ?_
  refine g_call C (ok_X6_needWeek A hA k hc.2) my_X6_needWeek vi_X6_139 (by decide) ⟨Nat.zero_le _, Nat.zero_le _⟩ rfl rfl rfl (Nat.le_of_ble_eq_true rfl) dX6_bid_7 rfl (h) (fun v_7 w_7 hp_7 => ?_)
  obtain ⟨rfl, hw_7⟩ := hp_7
  have hw_7 := hw_7.symm; subst hw_7
  refine g_aload_n C rfl dX6_bid_10 ?_
  refine g_iload_n C rfl dX6_bid_11 ?_
  refine g_iconst (v := 0) C (by decide) dX6_bid_12 ?_
  refine g_bipush (v := 20) C (by decide) dX6_bid_13 ?_
  exact g_callT C F (gw_emb_id sC) (thr_X6_needRange a 0 20 ha) my_X6_needRange vi_X6_48 (by decide) rfl (rfl) rfl ((fun w1 => w1)) (fun _ _ _ => rfl) (fun w1 j hj h => absurd rfl (h j hj)) (w) (fun _ _ => rfl) (Nat.le_of_ble_eq_true rfl) dX6_bid_15 rfl (trivial) (fun w1 hw => hw)

set_option maxHeartbeats 8000000 in
set_option maxRecDepth 100000 in
theorem thr_X6_bid_3 (A : cw_A) {n m : Nat} (hA : cw_IA n m A) (o k a : Int32) (hc : cw_th A.1 o k) (ha : 0 ≤ a ∧ a ≤ 20) (hp : ¬ cw_open A.1 (cw_x k)) : gw_Thr yX6_bid cX6_bid 4 (some .int) sC 8 [.ref 252, .int o, .int k, .int a] (fun w => cw_RC A w) "java/lang/IllegalStateException" (fun w w1 => w1 = w) := by
  refine gw_ofT (by decide) (Nat.le_of_ble_eq_true rfl) ?_
  intro X w h C F
  have hw := h
  have e := hw.eq
  have hI := hA.1
  have hIt := cw_I_cg hI e
  have h6 := hI.m.2
  refine g_aload_n C rfl dX6_bid_0 ?_
  refine g_iload_n C rfl dX6_bid_1 ?_
  refine g_call C (ok_X6_needOwner A hA o hc.1) my_X6_needOwner vi_X6_115 (by decide) ⟨Nat.zero_le _, Nat.zero_le _⟩ rfl rfl rfl (Nat.le_of_ble_eq_true rfl) dX6_bid_2 rfl (h) (fun v_2 w_2 hp_2 => ?_)
  obtain ⟨rfl, hw_2⟩ := hp_2
  have hw_2 := hw_2.symm; subst hw_2
  refine g_aload_n C rfl dX6_bid_5 ?_
  refine g_iload_n C rfl dX6_bid_6 ?_
  refine g_call C (ok_X6_needWeek A hA k hc.2) my_X6_needWeek vi_X6_139 (by decide) ⟨Nat.zero_le _, Nat.zero_le _⟩ rfl rfl rfl (Nat.le_of_ble_eq_true rfl) dX6_bid_7 rfl (h) (fun v_7 w_7 hp_7 => ?_)
  obtain ⟨rfl, hw_7⟩ := hp_7
  have hw_7 := hw_7.symm; subst hw_7
  refine g_aload_n C rfl dX6_bid_10 ?_
  refine g_iload_n C rfl dX6_bid_11 ?_
  refine g_iconst (v := 0) C (by decide) dX6_bid_12 ?_
  refine g_bipush (v := 20) C (by decide) dX6_bid_13 ?_
  refine g_call C (ok_X6_needRange a 0 20 ha) my_X6_needRange vi_X6_48 (by decide) ⟨Nat.zero_le _, Nat.zero_le _⟩ rfl rfl rfl (Nat.le_of_ble_eq_true rfl) dX6_bid_15 rfl (trivial) (fun v_15 w_15 hp_15 => ?_)
  obtain ⟨rfl, hw_15⟩ := hp_15
  have hw_15 := hw_15.symm; subst hw_15
  refine g_aload_n C rfl dX6_bid_18 ?_
  refine g_getr C fl_X6_10 rfl rfl dX6_bid_19 ?_
  refine g_iload_n C rfl dX6_bid_22 ?_
  refine g_callW C (cw_emb_h 0 (by decide)) (ok_X1_isOpenForBids _ hIt) my_X1_isOpenForBids vi_X6_209 (by decide) ⟨Nat.zero_le _, Nat.zero_le _⟩ rfl (((cw_emb_h 0 (by decide)).1 0 (by decide))) rfl (cw_wp (14 * 0) 14 w) (cw_wp_i) (cw_wp_o) (cw_hs 0 w) (fun _ _ => rfl) (Nat.le_of_ble_eq_true rfl) dX6_bid_23 rfl (rfl) (fun v_23 w_23 hp_23 => ?_)
  obtain ⟨rfl, hw_23⟩ := hp_23
  have hw_23 := hw_23.symm; subst hw_23
  rw [cw_wp_hs]
  rw [cw_open_cg e (cw_thx hI hc).2.1]
  refine g_if_ne (tgt := 39) C (by decide) dX6_bid_26 (fun c_26 => absurd c_26 (fun z => z (cw_bf (fun y => hp y.2)))) (fun c_26 => ?_)
  exact g_throw C F tw_ISE (List.mem_of_getElem? (i := 6) rfl) (by decide) (Nat.le_of_ble_eq_true rfl) dX6_bid_29 dX6_bid_32 dX6_bid_33 dX6_bid_35 dX6_bid_38 (rfl)

set_option maxHeartbeats 8000000 in
set_option maxRecDepth 100000 in
theorem ok_X6_settle (A : cw_A) {n m : Nat} (hA : cw_IA n m A) (hB : cw_B n (m + 20)) : gw_Ok yX6_settle cX6_settle 1 (some .int) sC 6 [.ref 252] (fun w => cw_RC A w) (fun _ vr w1 => vr = some (.int ((cw_acts A 101 0 0 0).1)) ∧ cw_RC ((cw_acts A 101 0 0 0).2) w1) := by
  refine gw_of (by decide) (Nat.le_of_ble_eq_true rfl) ?_
  intro X w h C F
  have hw := h
  obtain ⟨-, ⟨o9, h9o, b2, b3, h9c, b5⟩, -, -⟩ := h
  have h := hw
  have e := hw.eq
  have hI := hA.1
  have hIt := cw_I_cg hI e
  have h6 := hI.m.2
  refine g_aload_n C rfl dX6_settle_0 ?_
  refine g_getr C fl_X6_22 rfl rfl dX6_settle_1 ?_
  refine g_aload_n C rfl dX6_settle_4 ?_
  refine g_getr C fl_X6_10 rfl rfl dX6_settle_5 ?_
  refine g_call C (ok_X0_remember o9 A.2.1.1 h9o h9c) my_X0_remember vi_X6_183 (by decide) ⟨Nat.le_refl _, Nat.le_refl _⟩ rfl rfl rfl (Nat.le_of_ble_eq_true rfl) dX6_settle_8 rfl (⟨b2, b3, hw.sch hI⟩) (fun v_8 w_8 hp_8 => ?_)
  obtain ⟨rfl, ho8, hn8, hh8, hf8⟩ := hp_8
  have hr := hw.rem h9o b2 b5 ho8 hn8 hh8 hf8
  have e2 : cw_eq (ho (cw_hs 0 w_8)) A.1 := hr.eq
  have hI2 := cw_I_cg hI e2
  refine g_aload_n C rfl dX6_settle_11 ?_
  refine g_getr C fl_X6_10 rfl rfl dX6_settle_12 ?_
  refine g_callW C (cw_emb_h 0 (by decide)) (ok_X1_settleBids  hI2 hB) my_X1_settleBids vi_X6_219 (by decide) ⟨Nat.le_refl _, Nat.le_refl _⟩ rfl (((cw_emb_h 0 (by decide)).1 0 (by decide))) rfl (cw_wp (14 * 0) 14 w_8) (cw_wp_i) (cw_wp_o) (cw_hs 0 w_8) (fun _ _ => rfl) (Nat.le_of_ble_eq_true rfl) dX6_settle_15 rfl (rfl) (fun v_15 w_15 hp_15 => ?_)
  obtain ⟨rfl, h_15⟩ := hp_15
  refine g_iret C F dX6_settle_18 ?_
  have dq := cw_does_cg hI hB e2 101 0 0 0 (fun q => absurd q (by decide))
  rw [cw_does_101, cw_does_101] at dq
  refine ⟨?_, cw_RC.act (l := 101) (a := 0) (b := 0) (c := 0) hI hB hr (fun q => absurd q (by decide)) (by rw [cw_does_101]; exact congrArg cw_nf h_15)⟩
  show _ = some (Value.int (cw_does A.1 101 0 0 0).1)
  rw [cw_does_101, dq.1]

set_option maxHeartbeats 8000000 in
set_option maxRecDepth 100000 in
theorem ok_X6_year (A : cw_A) {n m : Nat} (hA : cw_IA n m A) (hB : cw_B n (m + 20)) : gw_Ok yX6_year cX6_year 1 (some .int) sC 6 [.ref 252] (fun w => cw_RC A w) (fun _ vr w1 => vr = some (.int ((cw_acts A 121 0 0 0).1)) ∧ cw_RC ((cw_acts A 121 0 0 0).2) w1) := by
  refine gw_of (by decide) (Nat.le_of_ble_eq_true rfl) ?_
  intro X w h C F
  have hw := h
  obtain ⟨-, ⟨o9, h9o, b2, b3, h9c, b5⟩, -, -⟩ := h
  have h := hw
  have e := hw.eq
  have hI := hA.1
  have hIt := cw_I_cg hI e
  have h6 := hI.m.2
  refine g_aload_n C rfl dX6_year_0 ?_
  refine g_getr C fl_X6_22 rfl rfl dX6_year_1 ?_
  refine g_aload_n C rfl dX6_year_4 ?_
  refine g_getr C fl_X6_10 rfl rfl dX6_year_5 ?_
  refine g_call C (ok_X0_remember o9 A.2.1.1 h9o h9c) my_X0_remember vi_X6_183 (by decide) ⟨Nat.le_refl _, Nat.le_refl _⟩ rfl rfl rfl (Nat.le_of_ble_eq_true rfl) dX6_year_8 rfl (⟨b2, b3, hw.sch hI⟩) (fun v_8 w_8 hp_8 => ?_)
  obtain ⟨rfl, ho8, hn8, hh8, hf8⟩ := hp_8
  have hr := hw.rem h9o b2 b5 ho8 hn8 hh8 hf8
  have e2 : cw_eq (ho (cw_hs 0 w_8)) A.1 := hr.eq
  have hI2 := cw_I_cg hI e2
  refine g_aload_n C rfl dX6_year_11 ?_
  refine g_getr C fl_X6_10 rfl rfl dX6_year_12 ?_
  refine g_callW C (cw_emb_h 0 (by decide)) (ok_X1_beginYear  hI2) my_X1_beginYear vi_X6_238 (by decide) ⟨Nat.le_refl _, Nat.le_refl _⟩ rfl (((cw_emb_h 0 (by decide)).1 0 (by decide))) rfl (cw_wp (14 * 0) 14 w_8) (cw_wp_i) (cw_wp_o) (cw_hs 0 w_8) (fun _ _ => rfl) (Nat.le_of_ble_eq_true rfl) dX6_year_15 rfl (rfl) (fun v_15 w_15 hp_15 => ?_)
  obtain ⟨rfl, h_15⟩ := hp_15
  refine g_iret C F dX6_year_18 ?_
  have dq := cw_does_cg hI hB e2 121 0 0 0 (fun q => absurd q (by decide))
  have hy : ∀ s : cw_s, cw_does s 121 0 0 0 = cw_oYear s := fun s => cw_does_y s _ _ _ (by decide) (by decide) (by decide) (by decide) (by decide) (by decide) (by decide) (by decide) (by decide) (by decide)
  rw [hy, hy] at dq
  refine ⟨?_, cw_RC.act (l := 121) (a := 0) (b := 0) (c := 0) hI hB hr (fun q => absurd q (by decide)) (by rw [hy]; exact congrArg cw_nf h_15)⟩
  show _ = some (Value.int (cw_does A.1 121 0 0 0).1)
  rw [hy, dq.1]

set_option maxHeartbeats 8000000 in
set_option maxRecDepth 100000 in
theorem ok_X6_offer (A : cw_A) {n m : Nat} (hA : cw_IA n m A) (hB : cw_B n (m + 20)) (o k a : Int32) (hc : cw_th A.1 o k) (ha : cw_isW a) (hp : cw_swap A.1 o k a ∧ A.1 205 < 8) : gw_Ok yX6_offer cX6_offer 4 (some .int) sC 6 [.ref 252, .int o, .int k, .int a] (fun w => cw_RC A w) (fun _ vr w1 => vr = some (.int ((cw_acts A 102 o k a).1)) ∧ cw_RC ((cw_acts A 102 o k a).2) w1) := by
  refine gw_of (by decide) (Nat.le_of_ble_eq_true rfl) ?_
  intro X w h C F
  have hw := h
  obtain ⟨-, ⟨o9, h9o, b2, b3, h9c, b5⟩, -, -⟩ := h
  have h := hw
  have e := hw.eq
  have hI := hA.1
  have hIt := cw_I_cg hI e
  have h6 := hI.m.2
  refine g_aload_n C rfl dX6_offer_0 ?_
  refine g_iload_n C rfl dX6_offer_1 ?_
  refine g_call C (ok_X6_needOwner A hA o hc.1) my_X6_needOwner vi_X6_115 (by decide) ⟨Nat.le_refl _, Nat.le_refl _⟩ rfl rfl rfl (Nat.le_of_ble_eq_true rfl) dX6_offer_2 rfl (h) (fun v_2 w_2 hp_2 => ?_)
  obtain ⟨rfl, hw_2⟩ := hp_2
  have hw_2 := hw_2.symm; subst hw_2
  refine g_aload_n C rfl dX6_offer_5 ?_
  refine g_iload_n C rfl dX6_offer_6 ?_
  refine g_call C (ok_X6_needWeek A hA k hc.2) my_X6_needWeek vi_X6_139 (by decide) ⟨Nat.le_refl _, Nat.le_refl _⟩ rfl rfl rfl (Nat.le_of_ble_eq_true rfl) dX6_offer_7 rfl (h) (fun v_7 w_7 hp_7 => ?_)
  obtain ⟨rfl, hw_7⟩ := hp_7
  have hw_7 := hw_7.symm; subst hw_7
  refine g_aload_n C rfl dX6_offer_10 ?_
  refine g_iload_n C rfl dX6_offer_11 ?_
  refine g_call C (ok_X6_needWeek A hA a ha) my_X6_needWeek vi_X6_139 (by decide) ⟨Nat.le_refl _, Nat.le_refl _⟩ rfl rfl rfl (Nat.le_of_ble_eq_true rfl) dX6_offer_12 rfl (h) (fun v_12 w_12 hp_12 => ?_)
  obtain ⟨rfl, hw_12⟩ := hp_12
  have hw_12 := hw_12.symm; subst hw_12
  refine g_aload_n C rfl dX6_offer_15 ?_
  refine g_getr C fl_X6_10 rfl rfl dX6_offer_16 ?_
  refine g_iload_n C rfl dX6_offer_19 ?_
  refine g_iload_n C rfl dX6_offer_20 ?_
  refine g_iload_n C rfl dX6_offer_21 ?_
  refine g_callW C (cw_emb_h 0 (by decide)) (ok_X1_canOffer _ _ _ hIt) my_X1_canOffer vi_X6_222 (by decide) ⟨Nat.le_refl _, Nat.le_refl _⟩ rfl (((cw_emb_h 0 (by decide)).1 0 (by decide))) rfl (cw_wp (14 * 0) 14 w) (cw_wp_i) (cw_wp_o) (cw_hs 0 w) (fun _ _ => rfl) (Nat.le_of_ble_eq_true rfl) dX6_offer_22 rfl (rfl) (fun v_22 w_22 hp_22 => ?_)
  obtain ⟨rfl, hw_22⟩ := hp_22
  have hw_22 := hw_22.symm; subst hw_22
  rw [cw_wp_hs]
  rw [cw_swap_cg2 e, cw_rd e (p := 205) (by omega) (by omega)]
  refine g_if_ne (tgt := 38) C (by decide) dX6_offer_25 (fun c_25 => ?_) (fun c_25 => absurd c_25 (by rw [cw_b1 hp]; decide))
  refine g_aload_n C rfl dX6_offer_38 ?_
  refine g_getr C fl_X6_22 rfl rfl dX6_offer_39 ?_
  refine g_aload_n C rfl dX6_offer_42 ?_
  refine g_getr C fl_X6_10 rfl rfl dX6_offer_43 ?_
  refine g_call C (ok_X0_remember o9 A.2.1.1 h9o h9c) my_X0_remember vi_X6_183 (by decide) ⟨Nat.le_refl _, Nat.le_refl _⟩ rfl rfl rfl (Nat.le_of_ble_eq_true rfl) dX6_offer_46 rfl (⟨b2, b3, hw.sch hI⟩) (fun v_46 w_46 hp_46 => ?_)
  obtain ⟨rfl, ho46, hn46, hh46, hf46⟩ := hp_46
  have hr := hw.rem h9o b2 b5 ho46 hn46 hh46 hf46
  have e2 : cw_eq (ho (cw_hs 0 w_46)) A.1 := hr.eq
  have hI2 := cw_I_cg hI e2
  refine g_aload_n C rfl dX6_offer_49 ?_
  refine g_getr C fl_X6_10 rfl rfl dX6_offer_50 ?_
  refine g_iload_n C rfl dX6_offer_53 ?_
  refine g_iload_n C rfl dX6_offer_54 ?_
  refine g_iload_n C rfl dX6_offer_55 ?_
  refine g_callW C (cw_emb_h 0 (by decide)) (ok_X1_placeOffer _ _ _ hI2) my_X1_placeOffer vi_X6_227 (by decide) ⟨Nat.le_refl _, Nat.le_refl _⟩ rfl (((cw_emb_h 0 (by decide)).1 0 (by decide))) rfl (cw_wp (14 * 0) 14 w_46) (cw_wp_i) (cw_wp_o) (cw_hs 0 w_46) (fun _ _ => rfl) (Nat.le_of_ble_eq_true rfl) dX6_offer_56 rfl (rfl) (fun v_56 w_56 hp_56 => ?_)
  obtain ⟨rfl, h_56⟩ := hp_56
  refine g_iret C F dX6_offer_59 ?_
  have dq := cw_does_cg hI hB e2 102 o k a (fun q => absurd q (by decide))
  rw [cw_does_102, cw_does_102] at dq
  refine ⟨?_, cw_RC.act (l := 102) (a := o) (b := k) (c := a) hI hB hr (fun q => absurd q (by decide)) (by rw [cw_does_102]; exact congrArg cw_nf h_56)⟩
  show _ = some (Value.int (cw_does A.1 102 o k a).1)
  rw [cw_does_102, dq.1, cw_re_ok (by rw [cw_oOffer, cw_it hp]; exact (by obtain ⟨q9, hq8, hq, -⟩ := hI.off; exact cw_r_9 (u := 8) ⟨q9, Nat.zero_le _, hq8, hq⟩ (by decide)))]

set_option maxHeartbeats 8000000 in
set_option maxRecDepth 100000 in
theorem thr_X6_offer_o (A : cw_A) {n m : Nat} (hA : cw_IA n m A) (o k a : Int32) (hc : ¬ cw_isO A.1 o) : gw_Thr yX6_offer cX6_offer 4 (some .int) sC 8 [.ref 252, .int o, .int k, .int a] (fun w => cw_RC A w) "java/lang/IndexOutOfBoundsException" (fun w w1 => w1 = w) := by
  refine gw_ofT (by decide) (Nat.le_of_ble_eq_true rfl) ?_
  intro X w h C F
  have hw := h
  have e := hw.eq
  have hI := hA.1
  have hIt := cw_I_cg hI e
  have h6 := hI.m.2
  refine g_aload_n C rfl dX6_offer_0 ?_
  refine g_iload_n C rfl dX6_offer_1 ?_
  exact g_callT C F (gw_emb_id sC) (thr_X6_needOwner A hA o hc) my_X6_needOwner vi_X6_115 (by decide) rfl (rfl) rfl ((fun w1 => w1)) (fun _ _ _ => rfl) (fun w1 j hj h => absurd rfl (h j hj)) (w) (fun _ _ => rfl) (Nat.le_of_ble_eq_true rfl) dX6_offer_2 rfl (h) (fun w1 hw => hw)

set_option maxHeartbeats 8000000 in
set_option maxRecDepth 100000 in
theorem thr_X6_offer_w (A : cw_A) {n m : Nat} (hA : cw_IA n m A) (o k a : Int32) (hc : cw_isO A.1 o) (hk : ¬ cw_isW k) : gw_Thr yX6_offer cX6_offer 4 (some .int) sC 8 [.ref 252, .int o, .int k, .int a] (fun w => cw_RC A w) "java/lang/IndexOutOfBoundsException" (fun w w1 => w1 = w) := by
  refine gw_ofT (by decide) (Nat.le_of_ble_eq_true rfl) ?_
  intro X w h C F
  have hw := h
  have e := hw.eq
  have hI := hA.1
  have hIt := cw_I_cg hI e
  have h6 := hI.m.2
  refine g_aload_n C rfl dX6_offer_0 ?_
  refine g_iload_n C rfl dX6_offer_1 ?_
  refine g_call C (ok_X6_needOwner A hA o hc) my_X6_needOwner vi_X6_115 (by decide) ⟨Nat.zero_le _, Nat.zero_le _⟩ rfl rfl rfl (Nat.le_of_ble_eq_true rfl) dX6_offer_2 rfl (h) (fun v_2 w_2 hp_2 => ?_)
  obtain ⟨rfl, hw_2⟩ := hp_2
  have hw_2 := hw_2.symm; subst hw_2
  refine g_aload_n C rfl dX6_offer_5 ?_
  refine g_iload_n C rfl dX6_offer_6 ?_
  exact g_callT C F (gw_emb_id sC) (thr_X6_needWeek A hA k hk) my_X6_needWeek vi_X6_139 (by decide) rfl (rfl) rfl ((fun w1 => w1)) (fun _ _ _ => rfl) (fun w1 j hj h => absurd rfl (h j hj)) (w) (fun _ _ => rfl) (Nat.le_of_ble_eq_true rfl) dX6_offer_7 rfl (h) (fun w1 hw => hw)

theorem thr_X6_offer_1 (A : cw_A) {n m : Nat} (hA : cw_IA n m A) (o k a : Int32) (hc : ¬ cw_th A.1 o k) : gw_Thr yX6_offer cX6_offer 4 (some .int) sC 8 [.ref 252, .int o, .int k, .int a] (fun w => cw_RC A w) "java/lang/IndexOutOfBoundsException" (fun w w1 => w1 = w) := by
  by_cases h1 : cw_isO A.1 o
  · exact thr_X6_offer_w A hA o k a h1 (fun h2 => hc ⟨h1, h2⟩)
  · exact thr_X6_offer_o A hA o k a h1

set_option maxHeartbeats 8000000 in
set_option maxRecDepth 100000 in
theorem thr_X6_offer_x (A : cw_A) {n m : Nat} (hA : cw_IA n m A) (o k a : Int32) (hc : cw_th A.1 o k) (ha : ¬ cw_isW a) : gw_Thr yX6_offer cX6_offer 4 (some .int) sC 8 [.ref 252, .int o, .int k, .int a] (fun w => cw_RC A w) "java/lang/IndexOutOfBoundsException" (fun w w1 => w1 = w) := by
  refine gw_ofT (by decide) (Nat.le_of_ble_eq_true rfl) ?_
  intro X w h C F
  have hw := h
  have e := hw.eq
  have hI := hA.1
  have hIt := cw_I_cg hI e
  have h6 := hI.m.2
  refine g_aload_n C rfl dX6_offer_0 ?_
  refine g_iload_n C rfl dX6_offer_1 ?_
  refine g_call C (ok_X6_needOwner A hA o hc.1) my_X6_needOwner vi_X6_115 (by decide) ⟨Nat.zero_le _, Nat.zero_le _⟩ rfl rfl rfl (Nat.le_of_ble_eq_true rfl) dX6_offer_2 rfl (h) (fun v_2 w_2 hp_2 => ?_)
  obtain ⟨rfl, hw_2⟩ := hp_2
  have hw_2 := hw_2.symm; subst hw_2
  refine g_aload_n C rfl dX6_offer_5 ?_
  refine g_iload_n C rfl dX6_offer_6 ?_
  refine g_call C (ok_X6_needWeek A hA k hc.2) my_X6_needWeek vi_X6_139 (by decide) ⟨Nat.zero_le _, Nat.zero_le _⟩ rfl rfl rfl (Nat.le_of_ble_eq_true rfl) dX6_offer_7 rfl (h) (fun v_7 w_7 hp_7 => ?_)
  obtain ⟨rfl, hw_7⟩ := hp_7
  have hw_7 := hw_7.symm; subst hw_7
  refine g_aload_n C rfl dX6_offer_10 ?_
  refine g_iload_n C rfl dX6_offer_11 ?_
  exact g_callT C F (gw_emb_id sC) (thr_X6_needWeek A hA a ha) my_X6_needWeek vi_X6_139 (by decide) rfl (rfl) rfl ((fun w1 => w1)) (fun _ _ _ => rfl) (fun w1 j hj h => absurd rfl (h j hj)) (w) (fun _ _ => rfl) (Nat.le_of_ble_eq_true rfl) dX6_offer_12 rfl (h) (fun w1 hw => hw)

set_option maxHeartbeats 8000000 in
set_option maxRecDepth 100000 in
theorem thr_X6_offer_2 (A : cw_A) {n m : Nat} (hA : cw_IA n m A) (o k a : Int32) (hc : cw_th A.1 o k) (ha : cw_isW a) (hp : ¬ (cw_swap A.1 o k a ∧ A.1 205 < 8)) : gw_Thr yX6_offer cX6_offer 4 (some .int) sC 8 [.ref 252, .int o, .int k, .int a] (fun w => cw_RC A w) "java/lang/IllegalStateException" (fun w w1 => w1 = w) := by
  refine gw_ofT (by decide) (Nat.le_of_ble_eq_true rfl) ?_
  intro X w h C F
  have hw := h
  have e := hw.eq
  have hI := hA.1
  have hIt := cw_I_cg hI e
  have h6 := hI.m.2
  refine g_aload_n C rfl dX6_offer_0 ?_
  refine g_iload_n C rfl dX6_offer_1 ?_
  refine g_call C (ok_X6_needOwner A hA o hc.1) my_X6_needOwner vi_X6_115 (by decide) ⟨Nat.zero_le _, Nat.zero_le _⟩ rfl rfl rfl (Nat.le_of_ble_eq_true rfl) dX6_offer_2 rfl (h) (fun v_2 w_2 hp_2 => ?_)
  obtain ⟨rfl, hw_2⟩ := hp_2
  have hw_2 := hw_2.symm; subst hw_2
  refine g_aload_n C rfl dX6_offer_5 ?_
  refine g_iload_n C rfl dX6_offer_6 ?_
  refine g_call C (ok_X6_needWeek A hA k hc.2) my_X6_needWeek vi_X6_139 (by decide) ⟨Nat.zero_le _, Nat.zero_le _⟩ rfl rfl rfl (Nat.le_of_ble_eq_true rfl) dX6_offer_7 rfl (h) (fun v_7 w_7 hp_7 => ?_)
  obtain ⟨rfl, hw_7⟩ := hp_7
  have hw_7 := hw_7.symm; subst hw_7
  refine g_aload_n C rfl dX6_offer_10 ?_
  refine g_iload_n C rfl dX6_offer_11 ?_
  refine g_call C (ok_X6_needWeek A hA a ha) my_X6_needWeek vi_X6_139 (by decide) ⟨Nat.zero_le _, Nat.zero_le _⟩ rfl rfl rfl (Nat.le_of_ble_eq_true rfl) dX6_offer_12 rfl (h) (fun v_12 w_12 hp_12 => ?_)
  obtain ⟨rfl, hw_12⟩ := hp_12
  have hw_12 := hw_12.symm; subst hw_12
  refine g_aload_n C rfl dX6_offer_15 ?_
  refine g_getr C fl_X6_10 rfl rfl dX6_offer_16 ?_
  refine g_iload_n C rfl dX6_offer_19 ?_
  refine g_iload_n C rfl dX6_offer_20 ?_
  refine g_iload_n C rfl dX6_offer_21 ?_
  refine g_callW C (cw_emb_h 0 (by decide)) (ok_X1_canOffer _ _ _ hIt) my_X1_canOffer vi_X6_222 (by decide) ⟨Nat.zero_le _, Nat.zero_le _⟩ rfl (((cw_emb_h 0 (by decide)).1 0 (by decide))) rfl (cw_wp (14 * 0) 14 w) (cw_wp_i) (cw_wp_o) (cw_hs 0 w) (fun _ _ => rfl) (Nat.le_of_ble_eq_true rfl) dX6_offer_22 rfl (rfl) (fun v_22 w_22 hp_22 => ?_)
  obtain ⟨rfl, hw_22⟩ := hp_22
  have hw_22 := hw_22.symm; subst hw_22
  rw [cw_wp_hs]
  rw [cw_swap_cg2 e, cw_rd e (p := 205) (by omega) (by omega)]
  refine g_if_ne (tgt := 38) C (by decide) dX6_offer_25 (fun c_25 => absurd c_25 (fun z => z (cw_bf hp))) (fun c_25 => ?_)
  exact g_throw C F tw_ISE (List.mem_of_getElem? (i := 7) rfl) (by decide) (Nat.le_of_ble_eq_true rfl) dX6_offer_28 dX6_offer_31 dX6_offer_32 dX6_offer_34 dX6_offer_37 (rfl)

set_option maxHeartbeats 8000000 in
set_option maxRecDepth 100000 in
theorem ok_X6_accept (A : cw_A) {n m : Nat} (hA : cw_IA n m A) (hB : cw_B n (m + 20)) (o : Int32) (hc : cw_isK A.1 o) : gw_Ok yX6_accept cX6_accept 2 (some .int) sC 6 [.ref 252, .int o] (fun w => cw_RC A w) (fun _ vr w1 => vr = some (.int ((cw_acts A 97 o 0 0).1)) ∧ cw_RC ((cw_acts A 97 o 0 0).2) w1) := by
  refine gw_of (by decide) (Nat.le_of_ble_eq_true rfl) ?_
  intro X w h C F
  have hw := h
  obtain ⟨-, ⟨o9, h9o, b2, b3, h9c, b5⟩, -, -⟩ := h
  have h := hw
  have e := hw.eq
  have hI := hA.1
  have hIt := cw_I_cg hI e
  have h6 := hI.m.2
  refine g_aload_n C rfl dX6_accept_0 ?_
  refine g_iload_n C rfl dX6_accept_1 ?_
  refine g_call C (ok_X6_needOffer A hA o hc) my_X6_needOffer vi_X6_163 (by decide) ⟨Nat.le_refl _, Nat.le_refl _⟩ rfl rfl rfl (Nat.le_of_ble_eq_true rfl) dX6_accept_2 rfl (h) (fun v_2 w_2 hp_2 => ?_)
  obtain ⟨rfl, hw_2⟩ := hp_2
  have hw_2 := hw_2.symm; subst hw_2
  refine g_aload_n C rfl dX6_accept_5 ?_
  refine g_getr C fl_X6_22 rfl rfl dX6_accept_6 ?_
  refine g_aload_n C rfl dX6_accept_9 ?_
  refine g_getr C fl_X6_10 rfl rfl dX6_accept_10 ?_
  refine g_call C (ok_X0_remember o9 A.2.1.1 h9o h9c) my_X0_remember vi_X6_183 (by decide) ⟨Nat.le_refl _, Nat.le_refl _⟩ rfl rfl rfl (Nat.le_of_ble_eq_true rfl) dX6_accept_13 rfl (⟨b2, b3, hw.sch hI⟩) (fun v_13 w_13 hp_13 => ?_)
  obtain ⟨rfl, ho13, hn13, hh13, hf13⟩ := hp_13
  have hr := hw.rem h9o b2 b5 ho13 hn13 hh13 hf13
  have e2 : cw_eq (ho (cw_hs 0 w_13)) A.1 := hr.eq
  have hI2 := cw_I_cg hI e2
  refine g_aload_n C rfl dX6_accept_16 ?_
  refine g_getr C fl_X6_10 rfl rfl dX6_accept_17 ?_
  refine g_iload_n C rfl dX6_accept_20 ?_
  refine g_callW C (cw_emb_h 0 (by decide)) (ok_X1_acceptOffer _ hI2) my_X1_acceptOffer vi_X6_230 (by decide) ⟨Nat.le_refl _, Nat.le_refl _⟩ rfl (((cw_emb_h 0 (by decide)).1 0 (by decide))) rfl (cw_wp (14 * 0) 14 w_13) (cw_wp_i) (cw_wp_o) (cw_hs 0 w_13) (fun _ _ => rfl) (Nat.le_of_ble_eq_true rfl) dX6_accept_21 rfl (rfl) (fun v_21 w_21 hp_21 => ?_)
  obtain ⟨rfl, h_21⟩ := hp_21
  refine g_iret C F dX6_accept_24 ?_
  have dq := cw_does_cg hI hB e2 97 o 0 0 (fun q => absurd q (by decide))
  rw [cw_does_97, cw_does_97] at dq
  refine ⟨?_, cw_RC.act (l := 97) (a := o) (b := 0) (c := 0) hI hB hr (fun q => absurd q (by decide)) (by rw [cw_does_97]; exact h_21)⟩
  show _ = some (Value.int (cw_does A.1 97 o 0 0).1)
  rw [cw_does_97, dq.1, cw_re_ok (by
    unfold cw_oAccept
    simp only []
    rw [cw_it hc]
    by_cases r : cw_swap A.1 (A.1 (206 + 3 * cw_x o + 0)) (A.1 (206 + 3 * cw_x o + 1)) (A.1 (206 + 3 * cw_x o + 2))
    · rw [cw_it r]; show ¬ (1 : Int32) = -9; decide
    · rw [cw_ie r]; show ¬ (0 : Int32) = -9; decide)]

set_option maxHeartbeats 8000000 in
set_option maxRecDepth 100000 in
theorem thr_X6_accept_1 (A : cw_A) {n m : Nat} (hA : cw_IA n m A) (o : Int32) (hc : ¬ cw_isK A.1 o) : gw_Thr yX6_accept cX6_accept 2 (some .int) sC 8 [.ref 252, .int o] (fun w => cw_RC A w) "java/lang/IndexOutOfBoundsException" (fun w w1 => w1 = w) := by
  refine gw_ofT (by decide) (Nat.le_of_ble_eq_true rfl) ?_
  intro X w h C F
  have hw := h
  have e := hw.eq
  have hI := hA.1
  have hIt := cw_I_cg hI e
  have h6 := hI.m.2
  refine g_aload_n C rfl dX6_accept_0 ?_
  refine g_iload_n C rfl dX6_accept_1 ?_
  exact g_callT C F (gw_emb_id sC) (thr_X6_needOffer A hA o hc) my_X6_needOffer vi_X6_163 (by decide) rfl (rfl) rfl ((fun w1 => w1)) (fun _ _ _ => rfl) (fun w1 j hj h => absurd rfl (h j hj)) (w) (fun _ _ => rfl) (Nat.le_of_ble_eq_true rfl) dX6_accept_2 rfl (h) (fun w1 hw => hw)

set_option maxHeartbeats 8000000 in
set_option maxRecDepth 100000 in
theorem ok_X6_upkeep (A : cw_A) {n m : Nat} (hA : cw_IA n m A) (hB : cw_B n (m + 20)) (a : Int32) (hc : 1 ≤ a ∧ a ≤ 999) (hf : ¬ A.1 0 = 0) : gw_Ok yX6_upkeep cX6_upkeep 2 (some .int) sC 6 [.ref 252, .int a] (fun w => cw_RC A w) (fun _ vr w1 => vr = some (.int ((cw_acts A 117 a 0 0).1)) ∧ cw_RC ((cw_acts A 117 a 0 0).2) w1) := by
  refine gw_of (by decide) (Nat.le_of_ble_eq_true rfl) ?_
  intro X w h C F
  have hw := h
  obtain ⟨-, ⟨o9, h9o, b2, b3, h9c, b5⟩, -, -⟩ := h
  have h := hw
  have e := hw.eq
  have hI := hA.1
  have hIt := cw_I_cg hI e
  have h6 := hI.m.2
  refine g_aload_n C rfl dX6_upkeep_0 ?_
  refine g_iload_n C rfl dX6_upkeep_1 ?_
  refine g_iconst (v := 1) C (by decide) dX6_upkeep_2 ?_
  refine g_sipush (v := 999) C (by decide) dX6_upkeep_3 ?_
  refine g_call C (ok_X6_needRange a 1 999 hc) my_X6_needRange vi_X6_48 (by decide) ⟨Nat.le_refl _, Nat.le_refl _⟩ rfl rfl rfl (Nat.le_of_ble_eq_true rfl) dX6_upkeep_6 rfl (trivial) (fun v_6 w_6 hp_6 => ?_)
  obtain ⟨rfl, hw_6⟩ := hp_6
  have hw_6 := hw_6.symm; subst hw_6
  refine g_aload_n C rfl dX6_upkeep_9 ?_
  refine g_getr C fl_X6_10 rfl rfl dX6_upkeep_10 ?_
  refine g_getf C fl_X6_86 rfl rfl dX6_upkeep_13 ?_
  refine g_top (cw_pF3 hw) ?_
  refine g_if_ne (tgt := 29) C (by decide) dX6_upkeep_16 (fun c_16 => ?_) (fun c_16 => absurd c_16 (hf))
  refine g_aload_n C rfl dX6_upkeep_29 ?_
  refine g_getr C fl_X6_22 rfl rfl dX6_upkeep_30 ?_
  refine g_aload_n C rfl dX6_upkeep_33 ?_
  refine g_getr C fl_X6_10 rfl rfl dX6_upkeep_34 ?_
  refine g_call C (ok_X0_remember o9 A.2.1.1 h9o h9c) my_X0_remember vi_X6_183 (by decide) ⟨Nat.le_refl _, Nat.le_refl _⟩ rfl rfl rfl (Nat.le_of_ble_eq_true rfl) dX6_upkeep_37 rfl (⟨b2, b3, hw.sch hI⟩) (fun v_37 w_37 hp_37 => ?_)
  obtain ⟨rfl, ho37, hn37, hh37, hf37⟩ := hp_37
  have hr := hw.rem h9o b2 b5 ho37 hn37 hh37 hf37
  have e2 : cw_eq (ho (cw_hs 0 w_37)) A.1 := hr.eq
  have hI2 := cw_I_cg hI e2
  refine g_aload_n C rfl dX6_upkeep_40 ?_
  refine g_getr C fl_X6_10 rfl rfl dX6_upkeep_41 ?_
  refine g_iload_n C rfl dX6_upkeep_44 ?_
  refine g_callW C (cw_emb_h 0 (by decide)) (ok_X1_payUpkeep _ hI2) my_X1_payUpkeep vi_X6_235 (by decide) ⟨Nat.le_refl _, Nat.le_refl _⟩ rfl (((cw_emb_h 0 (by decide)).1 0 (by decide))) rfl (cw_wp (14 * 0) 14 w_37) (cw_wp_i) (cw_wp_o) (cw_hs 0 w_37) (fun _ _ => rfl) (Nat.le_of_ble_eq_true rfl) dX6_upkeep_45 rfl (rfl) (fun v_45 w_45 hp_45 => ?_)
  obtain ⟨rfl, h_45⟩ := hp_45
  refine g_iret C F dX6_upkeep_48 ?_
  have dq := cw_does_cg hI hB e2 117 a 0 0 (fun q => absurd q (by decide))
  rw [cw_does_117, cw_does_117] at dq
  refine ⟨?_, cw_RC.act (l := 117) (a := a) (b := 0) (c := 0) hI hB hr (fun q => absurd q (by decide)) (by rw [cw_does_117]; exact congrArg cw_nf h_45)⟩
  show _ = some (Value.int (cw_does A.1 117 a 0 0).1)
  rw [cw_does_117, dq.1, cw_re_ok (cw_9upk hI hc hf)]

set_option maxHeartbeats 8000000 in
set_option maxRecDepth 100000 in
theorem thr_X6_upkeep_1 (A : cw_A) {n m : Nat} (hA : cw_IA n m A) (a : Int32) (hc : ¬ (1 ≤ a ∧ a ≤ 999)) : gw_Thr yX6_upkeep cX6_upkeep 2 (some .int) sC 8 [.ref 252, .int a] (fun w => cw_RC A w) "java/lang/IllegalArgumentException" (fun w w1 => w1 = w) := by
  refine gw_ofT (by decide) (Nat.le_of_ble_eq_true rfl) ?_
  intro X w h C F
  have hw := h
  have e := hw.eq
  have hI := hA.1
  have hIt := cw_I_cg hI e
  have h6 := hI.m.2
  refine g_aload_n C rfl dX6_upkeep_0 ?_
  refine g_iload_n C rfl dX6_upkeep_1 ?_
  refine g_iconst (v := 1) C (by decide) dX6_upkeep_2 ?_
  refine g_sipush (v := 999) C (by decide) dX6_upkeep_3 ?_
  exact g_callT C F (gw_emb_id sC) (thr_X6_needRange a 1 999 hc) my_X6_needRange vi_X6_48 (by decide) rfl (rfl) rfl ((fun w1 => w1)) (fun _ _ _ => rfl) (fun w1 j hj h => absurd rfl (h j hj)) (w) (fun _ _ => rfl) (Nat.le_of_ble_eq_true rfl) dX6_upkeep_6 rfl (trivial) (fun w1 hw => hw)

set_option maxHeartbeats 8000000 in
set_option maxRecDepth 100000 in
theorem thr_X6_upkeep_2 (A : cw_A) {n m : Nat} (hA : cw_IA n m A) (a : Int32) (hc : 1 ≤ a ∧ a ≤ 999) (hf : A.1 0 = 0) : gw_Thr yX6_upkeep cX6_upkeep 2 (some .int) sC 8 [.ref 252, .int a] (fun w => cw_RC A w) "java/lang/IllegalStateException" (fun w w1 => w1 = w) := by
  refine gw_ofT (by decide) (Nat.le_of_ble_eq_true rfl) ?_
  intro X w h C F
  have hw := h
  have e := hw.eq
  have hI := hA.1
  have hIt := cw_I_cg hI e
  have h6 := hI.m.2
  refine g_aload_n C rfl dX6_upkeep_0 ?_
  refine g_iload_n C rfl dX6_upkeep_1 ?_
  refine g_iconst (v := 1) C (by decide) dX6_upkeep_2 ?_
  refine g_sipush (v := 999) C (by decide) dX6_upkeep_3 ?_
  refine g_call C (ok_X6_needRange a 1 999 hc) my_X6_needRange vi_X6_48 (by decide) ⟨Nat.zero_le _, Nat.zero_le _⟩ rfl rfl rfl (Nat.le_of_ble_eq_true rfl) dX6_upkeep_6 rfl (trivial) (fun v_6 w_6 hp_6 => ?_)
  obtain ⟨rfl, hw_6⟩ := hp_6
  have hw_6 := hw_6.symm; subst hw_6
  refine g_aload_n C rfl dX6_upkeep_9 ?_
  refine g_getr C fl_X6_10 rfl rfl dX6_upkeep_10 ?_
  refine g_getf C fl_X6_86 rfl rfl dX6_upkeep_13 ?_
  refine g_top ((cw_pF3 hw).trans hf) ?_
  refine g_if_ne (tgt := 29) C (by decide) dX6_upkeep_16 (fun c_16 => absurd c_16 (fun z => z rfl)) (fun c_16 => ?_)
  exact g_throw C F tw_ISE (List.mem_of_getElem? (i := 8) rfl) (by decide) (Nat.le_of_ble_eq_true rfl) dX6_upkeep_19 dX6_upkeep_22 dX6_upkeep_23 dX6_upkeep_25 dX6_upkeep_28 (rfl)
