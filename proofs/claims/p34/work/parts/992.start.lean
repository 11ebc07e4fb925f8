set_option maxHeartbeats 8000000 in
set_option maxRecDepth 100000 in
/-! THE START -/
def gs_nar : List Cond := flatC (Jvm.Cond.and given_1 narrow_1)
theorem gs_T {s : State} {b : Nat} (hts : ∀ w ∈ lw_tbl, w.before #[Value.ref b] s = true) {w : Cond} (i : Nat) (h : tables_1[i]? = some w) : w.before #[Value.ref b] s = true := hts w (List.mem_append_right _ (List.mem_of_getElem? h))
theorem gs_K {s : State} {b : Nat} (hts : ∀ w ∈ lw_tbl, w.before #[Value.ref b] s = true) : ∃ (D : va_G) (cA : Nat → ClassId), va_K D vwCl (gw_ty cA) s := by
  have ht : ∀ w ∈ gw_T, w.before #[Value.ref b] s = true := fun w hw => hts w (List.mem_filter.mp hw).1
  obtain ⟨c0, i0, k0⟩ := u_known (C := RX0) (T := TX0) (N := 3) ht inT_X0 (gs_T hts (w := .instantiable RX0 3) 109 (by decide +kernel))
  obtain ⟨c1, i1, k1⟩ := u_known (C := RX1) (T := TX1) (N := 16) ht inT_X1 (gs_T hts (w := .instantiable RX1 16) 25 (by decide +kernel))
  obtain ⟨c2, i2, k2⟩ := u_known (C := RX2) (T := TX2) (N := 2) ht inT_X2 (gs_T hts (w := .instantiable RX2 2) 150 (by decide +kernel))
  obtain ⟨c3, i3, k3⟩ := u_known (C := RX5) (T := TX5) (N := 6) ht inT_X5 (gs_T hts (w := .instantiable RX5 6) 128 (by decide +kernel))
  obtain ⟨c4, i4, k4⟩ := u_known (C := RX6) (T := TX6) (N := 7) ht inT_X6 (gs_T hts (w := .instantiable RX6 7) 17 (by decide +kernel))
  obtain ⟨a0, z0, y0, p0, q0, r0⟩ := Cond.arrayClass_spec (gs_T hts (w := .arrayClass .int) 106 (by decide +kernel))
  obtain ⟨a1, z1, y1, p1, q1, r1⟩ := Cond.arrayClass_spec (gs_T hts (w := .arrayClass .boolean) 107 (by decide +kernel))
  obtain ⟨a2, z2, y2, p2, q2, r2⟩ := Cond.arrayClass_spec (gs_T hts (w := .arrayClass .char) 148 (by decide +kernel))
  obtain ⟨a3, z3, y3, p3, q3, r3⟩ := Cond.arrayClass_spec (gs_T hts (w := .arrayClass .int) 106 (by decide +kernel))
  obtain ⟨y4, a4, z4, p4, o4, q4, r4, n4⟩ := Cond.arrayOver_spec (n := "CottageWeeks$House") (gs_T hts (w := .arrayOver (.object "CottageWeeks$House")) 115 (by decide +kernel))
  refine ⟨(fun c => match c with | 0 => c0 | 1 => c1 | 2 => c2 | 3 => c3 | _ => c4, fun c => match c with | 0 => i0 | 1 => i1 | 2 => i2 | 3 => i3 | _ => i4), fun k => match k with | 0 => a0 | 1 => a1 | 2 => a2 | 3 => a3 | _ => a4, ?_, ?_⟩
  · intro c q hc
    match c, hc with
    | 0, hc => cases hc; exact k0
    | 1, hc => cases hc; exact k1
    | 2, hc => cases hc; exact k2
    | 3, hc => cases hc; exact k3
    | 4, hc => cases hc; exact k4
    | n + 5, hc => cases hc
  · intro k q hk
    match k, hk with
    | 0, hk => cases hk; exact ⟨fun n z => ⟨fun k h => (by cases h), z0, q0, y0, r0⟩, p0⟩
    | 1, hk => cases hk; exact ⟨fun n z => ⟨fun k h => (by cases h), z1, q1, y1, r1⟩, p1⟩
    | 2, hk => cases hk; exact ⟨fun n z => ⟨fun k h => (by cases h), z2, q2, y2, r2⟩, p2⟩
    | 3, hk => cases hk; exact ⟨fun n z => ⟨fun k h => (by cases h), z3, q3, y3, r3⟩, p3⟩
    | 4, hk => cases hk; exact ⟨fun n z => ⟨fun k h => (by cases h), z4, q4, y4, r4⟩, z4, y4, q4, r4, p4, n4⟩
    | n + 5, hk => cases hk

set_option maxHeartbeats 8000000 in
set_option maxRecDepth 100000 in
theorem gs_SETTING_AT_FIRST {s : State} {b : Nat} (hts : ∀ w ∈ lw_tbl, w.before #[Value.ref b] s = true) (hgv : (Jvm.Cond.and given_1 narrow_1).before #[Value.ref b] s = true) : ∃ t : Nat, va_Z "CottageWeeks" "SETTING_AT_FIRST" "[I" (.ref t) (fun q : Nat => s.heap.size ≤ q) s s.heap ∧ va_T .int t 3 (fun j => .int (if j = 0 then 4 else if j = 1 then 5 else 3)) (fun q : Nat => s.heap.size ≤ q) s s.heap := by
  have G : ∀ {w : Cond}, w ∈ gs_nar → w.before #[Value.ref b] s = true := fun hw => flat_of_before _ hgv _ hw
  have hA : ∀ a : Nat, a < s.heap.size → ¬ (fun q : Nat => s.heap.size ≤ q) a := fun a h => Nat.not_le.mpr h
  obtain ⟨t, ht, hT⟩ := va_Tof (tm := (.static "CottageWeeks" "SETTING_AT_FIRST" "[I")) (ty := .int) (N := 3) (f := fun j => .int (if j = 0 then 4 else if j = 1 then 5 else 3)) (A := fun q : Nat => s.heap.size ≤ q) (by decide) (G (w := .arrayOf (.static "CottageWeeks" "SETTING_AT_FIRST" "[I") .int) (by decide +kernel)) (va_eqt (G (w := .eq (.length (.static "CottageWeeks" "SETTING_AT_FIRST" "[I")) (.int 3)) (by decide +kernel))) (fun j hj => by
    rcases (show j = 0 ∨ j = 1 ∨ j = 2 by omega) with rfl | rfl | rfl
    · exact va_eqt (G (w := .eq (.elem (.static "CottageWeeks" "SETTING_AT_FIRST" "[I") (.int 0)) (.int 4)) (by decide +kernel))
    · exact va_eqt (G (w := .eq (.elem (.static "CottageWeeks" "SETTING_AT_FIRST" "[I") (.int 1)) (.int 5)) (by decide +kernel))
    · exact va_eqt (G (w := .eq (.elem (.static "CottageWeeks" "SETTING_AT_FIRST" "[I") (.int 2)) (.int 3)) (by decide +kernel))) hA
  exact ⟨t, va_Zof (gs_T hts 35 (by decide +kernel)) (gs_T hts 1 (by decide +kernel)) ht hA, hT⟩
theorem gs_SETTING_LEAST {s : State} {b : Nat} (hts : ∀ w ∈ lw_tbl, w.before #[Value.ref b] s = true) (hgv : (Jvm.Cond.and given_1 narrow_1).before #[Value.ref b] s = true) : ∃ t : Nat, va_Z "CottageWeeks" "SETTING_LEAST" "[I" (.ref t) (fun q : Nat => s.heap.size ≤ q) s s.heap ∧ va_T .int t 3 (fun j => .int (if j = 0 then 1 else if j = 1 then 0 else 1)) (fun q : Nat => s.heap.size ≤ q) s s.heap := by
  have G : ∀ {w : Cond}, w ∈ gs_nar → w.before #[Value.ref b] s = true := fun hw => flat_of_before _ hgv _ hw
  have hA : ∀ a : Nat, a < s.heap.size → ¬ (fun q : Nat => s.heap.size ≤ q) a := fun a h => Nat.not_le.mpr h
  obtain ⟨t, ht, hT⟩ := va_Tof (tm := (.static "CottageWeeks" "SETTING_LEAST" "[I")) (ty := .int) (N := 3) (f := fun j => .int (if j = 0 then 1 else if j = 1 then 0 else 1)) (A := fun q : Nat => s.heap.size ≤ q) (by decide) (G (w := .arrayOf (.static "CottageWeeks" "SETTING_LEAST" "[I") .int) (by decide +kernel)) (va_eqt (G (w := .eq (.length (.static "CottageWeeks" "SETTING_LEAST" "[I")) (.int 3)) (by decide +kernel))) (fun j hj => by
    rcases (show j = 0 ∨ j = 1 ∨ j = 2 by omega) with rfl | rfl | rfl
    · exact va_eqt (G (w := .eq (.elem (.static "CottageWeeks" "SETTING_LEAST" "[I") (.int 0)) (.int 1)) (by decide +kernel))
    · exact va_eqt (G (w := .eq (.elem (.static "CottageWeeks" "SETTING_LEAST" "[I") (.int 1)) (.int 0)) (by decide +kernel))
    · exact va_eqt (G (w := .eq (.elem (.static "CottageWeeks" "SETTING_LEAST" "[I") (.int 2)) (.int 1)) (by decide +kernel))) hA
  exact ⟨t, va_Zof (gs_T hts 467 (by decide +kernel)) (gs_T hts 1 (by decide +kernel)) ht hA, hT⟩
theorem gs_SETTING_MOST {s : State} {b : Nat} (hts : ∀ w ∈ lw_tbl, w.before #[Value.ref b] s = true) (hgv : (Jvm.Cond.and given_1 narrow_1).before #[Value.ref b] s = true) : ∃ t : Nat, va_Z "CottageWeeks" "SETTING_MOST" "[I" (.ref t) (fun q : Nat => s.heap.size ≤ q) s s.heap ∧ va_T .int t 3 (fun j => .int (if j = 0 then 20 else if j = 1 then 20 else 10)) (fun q : Nat => s.heap.size ≤ q) s s.heap := by
  have G : ∀ {w : Cond}, w ∈ gs_nar → w.before #[Value.ref b] s = true := fun hw => flat_of_before _ hgv _ hw
  have hA : ∀ a : Nat, a < s.heap.size → ¬ (fun q : Nat => s.heap.size ≤ q) a := fun a h => Nat.not_le.mpr h
  obtain ⟨t, ht, hT⟩ := va_Tof (tm := (.static "CottageWeeks" "SETTING_MOST" "[I")) (ty := .int) (N := 3) (f := fun j => .int (if j = 0 then 20 else if j = 1 then 20 else 10)) (A := fun q : Nat => s.heap.size ≤ q) (by decide) (G (w := .arrayOf (.static "CottageWeeks" "SETTING_MOST" "[I") .int) (by decide +kernel)) (va_eqt (G (w := .eq (.length (.static "CottageWeeks" "SETTING_MOST" "[I")) (.int 3)) (by decide +kernel))) (fun j hj => by
    rcases (show j = 0 ∨ j = 1 ∨ j = 2 by omega) with rfl | rfl | rfl
    · exact va_eqt (G (w := .eq (.elem (.static "CottageWeeks" "SETTING_MOST" "[I") (.int 0)) (.int 20)) (by decide +kernel))
    · exact va_eqt (G (w := .eq (.elem (.static "CottageWeeks" "SETTING_MOST" "[I") (.int 1)) (.int 20)) (by decide +kernel))
    · exact va_eqt (G (w := .eq (.elem (.static "CottageWeeks" "SETTING_MOST" "[I") (.int 2)) (.int 10)) (by decide +kernel))) hA
  exact ⟨t, va_Zof (gs_T hts 469 (by decide +kernel)) (gs_T hts 1 (by decide +kernel)) ht hA, hT⟩

set_option maxHeartbeats 8000000 in
set_option maxRecDepth 100000 in
theorem gs_str1 : ∀ q ∈ gw_str, Cond.exactly (.string q.1 q.2.1) "java/lang/String" ∈ gs_nar := by decide +kernel
theorem gs_str2 : ∀ q ∈ gw_str, Cond.stringRef q.1 q.2.1 q.2.2 ∈ lw_tbl := by decide +kernel
theorem gs_nc : ∀ q ∈ gw_nc, Cond.not (.castable q.1 q.2) ∈ gs_nar := by decide +kernel
theorem gs_E {s : State} {b : Nat} (hts : ∀ w ∈ lw_tbl, w.before #[Value.ref b] s = true) (hgv : (Jvm.Cond.and given_1 narrow_1).before #[Value.ref b] s = true) : gw_E (fun q : Nat => s.heap.size ≤ q) s s.heap := by
  have G : ∀ {w : Cond}, w ∈ gs_nar → w.before #[Value.ref b] s = true := fun hw => flat_of_before _ hgv _ hw
  have hA : ∀ a : Nat, a < s.heap.size → ¬ (fun q : Nat => s.heap.size ≤ q) a := fun a h => Nat.not_le.mpr h
  refine ⟨gs_SETTING_AT_FIRST hts hgv, gs_SETTING_LEAST hts hgv, gs_SETTING_MOST hts hgv, ⟨?_, ?_⟩, ?_, ?_, ?_, ?_⟩
  · exact vx_Zqof (gs_T hts 235 (by decide +kernel)) (gs_T hts 8 (by decide +kernel)) (G (by decide +kernel)) hA
  · exact vx_Zqof (gs_T hts 237 (by decide +kernel)) (gs_T hts 8 (by decide +kernel)) (G (by decide +kernel)) hA
  · exact fun w hw => va_Nw.of (gw_nw_tab (List.mem_filter.mp hw).2) (hts w (List.mem_filter.mp hw).1)
  · intro q hq
    obtain ⟨a, c, cA, kA, q1, -⟩ := Cond.exactly_spec (args := #[Value.ref b]) (first := s) (o := none) (s := s) (idx := []) (t := .string q.1 q.2.1) (cls := "java/lang/String") (G (gs_str1 q hq))
    exact ⟨a, vk_R.of (A := #[Value.ref b]) (hts _ (gs_str2 q hq)) q1⟩
  · exact fun q hq => va_Nc.of (G (gs_nc q hq))
  · trivial

set_option maxHeartbeats 8000000 in
set_option maxRecDepth 100000 in
theorem gw_lo_C : ∀ i, i < 263 → gw_lo 263 (sC.2 i) = true := by decide +kernel
theorem cw_IA_0 : cw_IA (194400 * 0) (21600 * 0) cw_A0 := ⟨cw_I_new, fun i hi => absurd hi (Nat.not_lt_zero _), fun i v hi hv => (by cases hv), by decide, by decide, fun i hi => absurd hi (Nat.not_lt_zero _)⟩
theorem nw_L_9 : rw_nw RL 9 4 RX6 [.null, .null, .null, .null, .null, .null, .null] 7 := ⟨TX6, tyX6, rfl, inT_X6, tyX6_ok, gw_T_at 16 (by decide +kernel) rfl, gw_T_at 17 (by decide +kernel) rfl, gw_T_at 1 (by decide +kernel) rfl, fun j hj => by
  rcases (show j = 0 ∨ j = 1 ∨ j = 2 ∨ j = 3 ∨ j = 4 ∨ j = 5 ∨ j = 6 by omega) with rfl | rfl | rfl | rfl | rfl | rfl | rfl <;> rfl⟩
theorem li_L_111 : rw_li RL 111 yX6_init := ⟨Or.inl (gw_T_at 18 (by decide +kernel) rfl), gw_T_at 19 (by decide +kernel) rfl, rfl⟩
theorem pw_J_0 : pw_J cw_A0.1 := ⟨by decide +kernel, by decide +kernel⟩
def gs_mx {α : Type} (fC fP : Nat → α) (t b : α) : Nat → α := fun i => if i < 263 then fC i else if i = 263 then t else if i < 527 then fP (i - 264) else b
theorem gs_mx_C {α : Type} (fC fP : Nat → α) (t b : α) {i : Nat} (h : i < 263) : gs_mx fC fP t b i = fC i := if_pos h
theorem gs_mx_P {α : Type} (fC fP : Nat → α) (t b : α) {i : Nat} (h : i < 263) : gs_mx fC fP t b (264 + i) = fP i := by
  unfold gs_mx
  rw [if_neg (by omega), if_neg (by omega), if_pos (by omega), show 264 + i - 264 = i by omega]
theorem gs_tail (ρC ρP : Nat → Nat) (qt b : Nat) : (List.range 264).map (fun i => gs_mx ρC ρP qt b (263 + i)) = [qt] ++ (List.range 263).map ρP := by
  rw [show 264 = 263 + 1 by rfl, List.range_succ_eq_map, List.map_cons, List.map_map]
  refine congrArg (List.cons qt) (List.map_congr_left fun i hi => ?_)
  have hi2 : i < 263 := List.mem_range.mp hi
  show gs_mx ρC ρP qt b (263 + (i + 1)) = ρP i
  rw [show 263 + (i + 1) = 264 + i by omega]
  exact gs_mx_P _ _ _ _ hi2
theorem gs_pm (a b c : List Nat) : (a ++ (c ++ b)).Perm ((a ++ b) ++ c) := List.perm_iff_count.mpr fun x => by
  simp only [List.count_append]
  omega
theorem gs_mk {D : va_G} {cA : Nat → ClassId} {ρC ρP : Nat → Nat} {wC wP : gw_M} {qt b : Nat} {H : Heap} (gC : va_P D vwCl (gw_W cA ρC sC wC) H) (gP : va_P D vwCl (gw_W cA ρP sC wP) H) (gt : va_at D vwCl (qt, .inl (cA 0, 1, .inl (fun _ => 0))) H) :
    ∀ i, i < 527 → va_at D vwCl (gs_mx ρC ρP qt b i, gw_cell cA (gs_mx ρC ρP qt b) (gs_mx wC wP (fun _ => 0) (fun _ => 0) i) (sP.2 i)) H := by
  intro i hi
  by_cases h1 : i < 263
  · have q := rw_lo (ρ' := gs_mx ρC ρP qt b) (gw_lo_C i h1) (fun j hj => (gs_mx_C ρC ρP qt b hj).symm) (rw_PW (S := sC) gC (i := i) h1)
    rw [gs_mx_C _ _ _ _ h1, gs_mx_C _ _ _ _ h1, show sP.2 i = sC.2 i from (if_pos (show i < 264 by omega)).trans (if_pos h1)]
    exact q
  · by_cases h2 : i = 263
    · subst h2
      exact gt
    · obtain ⟨t, ht, rfl⟩ : ∃ t, t < 263 ∧ i = 264 + t := ⟨i - 264, by omega, by omega⟩
      have q := rw_lo (ρ' := fun j => gs_mx ρC ρP qt b (pw_pi j)) (gw_lo_C t ht) (fun j hj => by rw [pw_pi_263 hj]; exact (gs_mx_P ρC ρP qt b hj).symm) (rw_PW (S := sC) gP (i := t) ht)
      rw [gs_mx_P _ _ _ _ ht, gs_mx_P _ _ _ _ ht, show sP.2 (264 + t) = gw_pi pw_pi (sC.2 t) from (if_neg (show ¬ 264 + t < 264 by omega)).trans (by rw [show 264 + t - 264 = t by omega]), gw_pi_cell]
      exact q
set_option maxHeartbeats 8000000 in
set_option maxRecDepth 100000 in
/-- the law from its entry to its loop -/
theorem law_start {X : gw_X} (C : gw_ok X RL cL_law 9 20 600130 7301080) (I : rw_ao X) {b L : Nat} {xs : Nat → Int32} (hst : ∀ ρ : Nat → Nat, (rw_X X ρ).2.1.stackTraces = false) (hX : ∀ ρ : Nat → Nat, ρ 527 = b → gw_lx (rw_X X ρ) L xs) (hL : L ≤ 260)
    (K : ∀ ρ : Nat → Nat, ∀ (k n : Nat) (lv : gw_LV) (w : gw_M), k ≤ 600130 → n ≤ 7301080 → gw_G (rw_X X ρ) sP 9 k n 307 lv [.int 1] w) : rw_G X [] 9 0 0 0 [(0, .ref b)] [] := by
  refine r_new3 C I new_X6 my_X6_init li_L_111 nw_L_9 (by decide) ⟨by decide, by decide⟩ (Nat.le_of_ble_eq_true rfl) dL_law_0 dL_law_3 dL_law_4 (fun ρC wC hpC => ?_)
  refine r_astore_n C (by decide) dL_law_7 ?_
  refine r_new3 C I new_X6 my_X6_init li_L_111 nw_L_9 (by decide) ⟨by decide, by decide⟩ (Nat.le_of_ble_eq_true rfl) dL_law_8 dL_law_11 dL_law_12 (fun ρP wP hpP => ?_)
  refine r_astore_n C (by decide) dL_law_15 ?_
  refine r_iconst (v := 1) C (by decide) dL_law_16 ?_
  refine r_new_int (N := 1) C (by decide) (by decide) (by decide) ⟨by decide, by decide⟩ dL_law_17 (fun qt => ?_)
  refine r_astore_n C (by decide) dL_law_19 ?_
  refine r_iconst (v := 0) C (by decide) dL_law_20 ?_
  refine r_istore C (by decide) dL_law_21 ?_
  show rw_G X ((([] ++ gw_W (rw_cA X) ρC sC wC) ++ gw_W (rw_cA X) ρP sC wP) ++ [(qt, .inl (rw_cA X 0, 1, .inl (fun _ => 0)))]) 9 527 9579 23 [(4, .int 0), (3, .ref qt), (2, .ref (ρP 252)), (1, .ref (ρC 252)), (0, .ref b)] []
  refine r_to (S := sP) (gs_mx ρC ρP qt b) (gs_mx wC wP (fun _ => 0) (fun _ => 0)) (fun D H h => ?_) ?_ ?_
  · have h1 := rw_Papp.mp h
    have h2 := rw_Papp.mp h1.1
    have h3 := rw_Papp.mp h2.1
    exact gs_mk h3.2 h2.2 (rw_Pone.mp h1.2).1
  · have e : (List.range sP.1).map (gs_mx ρC ρP qt b) = (List.range 263).map ρC ++ ([qt] ++ (List.range 263).map ρP) := rw_cat (a := 263) (b := 264) (fun i hi => gs_mx_C _ _ _ _ hi) (gs_tail ρC ρP qt b)
    rw [e]
    simp only [List.map_append, List.map_cons, List.map_nil, rw_fst, List.nil_append]
    exact gs_pm _ _ _
  · have hg : gw_G (rw_X X (gs_mx ρC ρP qt b)) sP 9 527 9579 23 [(4, .int 0), (3, .ref 263), (2, .ref 516), (1, .ref 252), (0, .ref 527)] [] (gs_mx wC wP (fun _ => 0) (fun _ => 0)) := by
      refine g_sub (lv' := [(0, .ref 527), (1, .ref 252), (2, .ref 516), (3, .ref 263), (4, .int (nI 0))]) rfl ?_
      exact law_loop (rw_okX C _) (hst _) (hX _ rfl) hL (k0 := 527) (n0 := 9579) ⟨by decide, by decide⟩ (K _) 56 0 rfl cw_A0.1 cw_A0.2 cw_A0.2 _ cw_IA_0 cw_IA_0 pw_J_0 ⟨hpC.low (fun q hq => gs_mx_C _ _ _ _ hq), hpP.low (fun q hq => by show gs_mx wC wP _ _ (pw_pi q) = wP q; rw [pw_pi_263 hq]; exact gs_mx_P _ _ _ _ hq)⟩
    exact rw_gw hg
