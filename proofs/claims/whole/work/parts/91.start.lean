set_option maxHeartbeats 8000000 in
set_option maxRecDepth 100000 in
/-! THE START -/
def gs_nar : List Cond := flatC (Jvm.Cond.and given_1 narrow_1)
theorem gs_T {s : State} {b : Nat} (hts : ∀ w ∈ lw_tbl, w.before #[Value.ref b] s = true) {w : Cond} (i : Nat) (h : tables_1[i]? = some w) : w.before #[Value.ref b] s = true := hts w (List.mem_append_right _ (List.mem_of_getElem? h))
theorem gs_K {s : State} {b : Nat} (hts : ∀ w ∈ lw_tbl, w.before #[Value.ref b] s = true) : ∃ (D : va_G) (cA : Nat → ClassId), va_K D vwCl (gw_ty cA) s := by
  have ht : ∀ w ∈ gw_T, w.before #[Value.ref b] s = true := fun w hw => hts w (List.mem_filter.mp hw).1
  obtain ⟨c0, i0, k0⟩ := u_known (C := RX0) (T := TX0) (N := 3) ht inT_X0 (gs_T hts (w := .instantiable RX0 3) 117 (by decide +kernel))
  obtain ⟨c1, i1, k1⟩ := u_known (C := RX1) (T := TX1) (N := 16) ht inT_X1 (gs_T hts (w := .instantiable RX1 16) 33 (by decide +kernel))
  obtain ⟨c2, i2, k2⟩ := u_known (C := RX2) (T := TX2) (N := 2) ht inT_X2 (gs_T hts (w := .instantiable RX2 2) 162 (by decide +kernel))
  obtain ⟨c3, i3, k3⟩ := u_known (C := RX5) (T := TX5) (N := 6) ht inT_X5 (gs_T hts (w := .instantiable RX5 6) 136 (by decide +kernel))
  obtain ⟨c4, i4, k4⟩ := u_known (C := RX6) (T := TX6) (N := 7) ht inT_X6 (gs_T hts (w := .instantiable RX6 7) 25 (by decide +kernel))
  obtain ⟨c5, i5, k5⟩ := u_known (C := RX7) (T := TX7) (N := 16) ht inT_X7 (gs_T hts (w := .instantiable RX7 16) 953 (by decide +kernel))
  obtain ⟨a0, z0, y0, p0, q0, r0⟩ := Cond.arrayClass_spec (gs_T hts (w := .arrayClass .int) 114 (by decide +kernel))
  obtain ⟨a1, z1, y1, p1, q1, r1⟩ := Cond.arrayClass_spec (gs_T hts (w := .arrayClass .boolean) 115 (by decide +kernel))
  obtain ⟨a2, z2, y2, p2, q2, r2⟩ := Cond.arrayClass_spec (gs_T hts (w := .arrayClass .char) 160 (by decide +kernel))
  obtain ⟨a3, z3, y3, p3, q3, r3⟩ := Cond.arrayClass_spec (gs_T hts (w := .arrayClass .long) 1406 (by decide +kernel))
  obtain ⟨y4, a4, z4, p4, o4, q4, r4, n4⟩ := Cond.arrayOver_spec (n := "CottageWeeks$House") (gs_T hts (w := .arrayOver (.object "CottageWeeks$House")) 123 (by decide +kernel))
  refine ⟨(fun c => match c with | 0 => c0 | 1 => c1 | 2 => c2 | 3 => c3 | 4 => c4 | _ => c5, fun c => match c with | 0 => i0 | 1 => i1 | 2 => i2 | 3 => i3 | 4 => i4 | _ => i5), fun k => match k with | 0 => a0 | 1 => a1 | 2 => a2 | 3 => a3 | _ => a4, ?_, ?_⟩
  · intro c q hc
    match c, hc with
    | 0, hc => cases hc; exact k0
    | 1, hc => cases hc; exact k1
    | 2, hc => cases hc; exact k2
    | 3, hc => cases hc; exact k3
    | 4, hc => cases hc; exact k4
    | 5, hc => cases hc; exact k5
    | n + 6, hc => cases hc
  · intro k q hk
    match k, hk with
    | 0, hk => cases hk; exact ⟨fun n z => ⟨fun k h => (by cases h), z0, q0, y0, r0⟩, p0⟩
    | 1, hk => cases hk; exact ⟨fun n z => ⟨fun k h => (by cases h), z1, q1, y1, r1⟩, p1⟩
    | 2, hk => cases hk; exact ⟨fun n z => ⟨fun k h => (by cases h), z2, q2, y2, r2⟩, p2⟩
    | 3, hk => cases hk; exact ⟨fun n z => ⟨fun k h => (by cases h), z3, q3, y3, r3⟩, p3⟩
    | 4, hk => cases hk; exact ⟨fun n z => ⟨fun k h => (by cases h), z4, q4, y4, r4⟩, z4, y4, q4, r4, p4, n4⟩
    | n + 5, hk => cases hk

set_option maxHeartbeats 8000000 in
set_option maxRecDepth 100000 in
theorem gs_SETTING_AT_FIRST {s : State} {b : Nat} (hts : ∀ w ∈ lw_tbl, w.before #[Value.ref b] s = true) (hgv : (Jvm.Cond.and given_1 narrow_1).before #[Value.ref b] s = true) : ∃ t : Nat, va_Z "CottageWeeks" "SETTING_AT_FIRST" "[I" (.ref t) (fun q : Nat => s.heap.size ≤ q) s s.heap ∧ va_T .int t 3 (fun j => .int (if j = 0 then 4 else if j = 1 then 5 else 3)) (fun q : Nat => s.heap.size ≤ q) s s.heap := by
  have G : ∀ {w : Cond}, w ∈ gs_nar → w.before #[Value.ref b] s = true := fun hw => flat_of_before _ hgv _ hw
  have hA : ∀ a : Nat, a < s.heap.size → ¬ (fun q : Nat => s.heap.size ≤ q) a := fun a h => Nat.not_le.mpr h
  obtain ⟨t, ht, hT⟩ := va_Tof (tm := (.static "CottageWeeks" "SETTING_AT_FIRST" "[I")) (ty := .int) (N := 3) (f := fun j => .int (if j = 0 then 4 else if j = 1 then 5 else 3)) (A := fun q : Nat => s.heap.size ≤ q) (by decide) (G (w := .arrayOf (.static "CottageWeeks" "SETTING_AT_FIRST" "[I") .int) (by decide +kernel)) (va_eqt (G (w := .eq (.length (.static "CottageWeeks" "SETTING_AT_FIRST" "[I")) (.int 3)) (by decide +kernel))) (fun j hj => by
    rcases (show j = 0 ∨ j = 1 ∨ j = 2 by omega) with rfl | rfl | rfl
    · exact va_eqt (G (w := .eq (.elem (.static "CottageWeeks" "SETTING_AT_FIRST" "[I") (.int 0)) (.int 4)) (by decide +kernel))
    · exact va_eqt (G (w := .eq (.elem (.static "CottageWeeks" "SETTING_AT_FIRST" "[I") (.int 1)) (.int 5)) (by decide +kernel))
    · exact va_eqt (G (w := .eq (.elem (.static "CottageWeeks" "SETTING_AT_FIRST" "[I") (.int 2)) (.int 3)) (by decide +kernel))) hA
  exact ⟨t, va_Zof (gs_T hts 43 (by decide +kernel)) (gs_T hts 1 (by decide +kernel)) ht hA, hT⟩
theorem gs_SETTING_LEAST {s : State} {b : Nat} (hts : ∀ w ∈ lw_tbl, w.before #[Value.ref b] s = true) (hgv : (Jvm.Cond.and given_1 narrow_1).before #[Value.ref b] s = true) : ∃ t : Nat, va_Z "CottageWeeks" "SETTING_LEAST" "[I" (.ref t) (fun q : Nat => s.heap.size ≤ q) s s.heap ∧ va_T .int t 3 (fun j => .int (if j = 0 then 1 else if j = 1 then 0 else 1)) (fun q : Nat => s.heap.size ≤ q) s s.heap := by
  have G : ∀ {w : Cond}, w ∈ gs_nar → w.before #[Value.ref b] s = true := fun hw => flat_of_before _ hgv _ hw
  have hA : ∀ a : Nat, a < s.heap.size → ¬ (fun q : Nat => s.heap.size ≤ q) a := fun a h => Nat.not_le.mpr h
  obtain ⟨t, ht, hT⟩ := va_Tof (tm := (.static "CottageWeeks" "SETTING_LEAST" "[I")) (ty := .int) (N := 3) (f := fun j => .int (if j = 0 then 1 else if j = 1 then 0 else 1)) (A := fun q : Nat => s.heap.size ≤ q) (by decide) (G (w := .arrayOf (.static "CottageWeeks" "SETTING_LEAST" "[I") .int) (by decide +kernel)) (va_eqt (G (w := .eq (.length (.static "CottageWeeks" "SETTING_LEAST" "[I")) (.int 3)) (by decide +kernel))) (fun j hj => by
    rcases (show j = 0 ∨ j = 1 ∨ j = 2 by omega) with rfl | rfl | rfl
    · exact va_eqt (G (w := .eq (.elem (.static "CottageWeeks" "SETTING_LEAST" "[I") (.int 0)) (.int 1)) (by decide +kernel))
    · exact va_eqt (G (w := .eq (.elem (.static "CottageWeeks" "SETTING_LEAST" "[I") (.int 1)) (.int 0)) (by decide +kernel))
    · exact va_eqt (G (w := .eq (.elem (.static "CottageWeeks" "SETTING_LEAST" "[I") (.int 2)) (.int 1)) (by decide +kernel))) hA
  exact ⟨t, va_Zof (gs_T hts 797 (by decide +kernel)) (gs_T hts 1 (by decide +kernel)) ht hA, hT⟩
theorem gs_SETTING_MOST {s : State} {b : Nat} (hts : ∀ w ∈ lw_tbl, w.before #[Value.ref b] s = true) (hgv : (Jvm.Cond.and given_1 narrow_1).before #[Value.ref b] s = true) : ∃ t : Nat, va_Z "CottageWeeks" "SETTING_MOST" "[I" (.ref t) (fun q : Nat => s.heap.size ≤ q) s s.heap ∧ va_T .int t 3 (fun j => .int (if j = 0 then 20 else if j = 1 then 20 else 10)) (fun q : Nat => s.heap.size ≤ q) s s.heap := by
  have G : ∀ {w : Cond}, w ∈ gs_nar → w.before #[Value.ref b] s = true := fun hw => flat_of_before _ hgv _ hw
  have hA : ∀ a : Nat, a < s.heap.size → ¬ (fun q : Nat => s.heap.size ≤ q) a := fun a h => Nat.not_le.mpr h
  obtain ⟨t, ht, hT⟩ := va_Tof (tm := (.static "CottageWeeks" "SETTING_MOST" "[I")) (ty := .int) (N := 3) (f := fun j => .int (if j = 0 then 20 else if j = 1 then 20 else 10)) (A := fun q : Nat => s.heap.size ≤ q) (by decide) (G (w := .arrayOf (.static "CottageWeeks" "SETTING_MOST" "[I") .int) (by decide +kernel)) (va_eqt (G (w := .eq (.length (.static "CottageWeeks" "SETTING_MOST" "[I")) (.int 3)) (by decide +kernel))) (fun j hj => by
    rcases (show j = 0 ∨ j = 1 ∨ j = 2 by omega) with rfl | rfl | rfl
    · exact va_eqt (G (w := .eq (.elem (.static "CottageWeeks" "SETTING_MOST" "[I") (.int 0)) (.int 20)) (by decide +kernel))
    · exact va_eqt (G (w := .eq (.elem (.static "CottageWeeks" "SETTING_MOST" "[I") (.int 1)) (.int 20)) (by decide +kernel))
    · exact va_eqt (G (w := .eq (.elem (.static "CottageWeeks" "SETTING_MOST" "[I") (.int 2)) (.int 10)) (by decide +kernel))) hA
  exact ⟨t, va_Zof (gs_T hts 799 (by decide +kernel)) (gs_T hts 1 (by decide +kernel)) ht hA, hT⟩

set_option maxHeartbeats 8000000 in
set_option maxRecDepth 100000 in
theorem gs_str1 : ∀ q ∈ gw_str, Cond.exactly (.string q.1 q.2.1) "java/lang/String" ∈ gs_nar := by decide +kernel
theorem gs_str2 : ∀ q ∈ gw_str, Cond.stringRef q.1 q.2.1 q.2.2 ∈ lw_tbl := by decide +kernel
theorem gs_nc : ∀ q ∈ gw_nc, Cond.not (.castable q.1 q.2) ∈ gs_nar := by decide +kernel
theorem gs_el : ∀ j, j < 11 → Cond.eq (.elem (.field (.string "CottageWeeks$Text" 54) "java/lang/String" "value" "[B") (.int (Int32.ofNat j))) (.int (gw_cmd.getD j 0)) ∈ gs_nar := by decide +kernel
theorem gs_E {s : State} {b : Nat} (hts : ∀ w ∈ lw_tbl, w.before #[Value.ref b] s = true) (hgv : (Jvm.Cond.and given_1 narrow_1).before #[Value.ref b] s = true) : gw_E (fun q : Nat => s.heap.size ≤ q) s s.heap := by
  have G : ∀ {w : Cond}, w ∈ gs_nar → w.before #[Value.ref b] s = true := fun hw => flat_of_before _ hgv _ hw
  have hA : ∀ a : Nat, a < s.heap.size → ¬ (fun q : Nat => s.heap.size ≤ q) a := fun a h => Nat.not_le.mpr h
  refine ⟨gs_SETTING_AT_FIRST hts hgv, gs_SETTING_LEAST hts hgv, gs_SETTING_MOST hts hgv, ⟨?_, ?_⟩, ?_, ?_, ?_, ?_⟩
  · exact vx_Zqof (gs_T hts 449 (by decide +kernel)) (gs_T hts 9 (by decide +kernel)) (G (by decide +kernel)) hA
  · exact vx_Zqof (gs_T hts 451 (by decide +kernel)) (gs_T hts 9 (by decide +kernel)) (G (by decide +kernel)) hA
  · exact fun w hw => va_Nw.of (gw_nw_tab (List.mem_filter.mp hw).2) (hts w (List.mem_filter.mp hw).1)
  · intro q hq
    obtain ⟨a, c, cA, kA, q1, -⟩ := Cond.exactly_spec (args := #[Value.ref b]) (first := s) (o := none) (s := s) (idx := []) (t := .string q.1 q.2.1) (cls := "java/lang/String") (G (gs_str1 q hq))
    exact ⟨a, vk_R.of (A := #[Value.ref b]) (hts _ (gs_str2 q hq)) q1⟩
  · exact fun q hq => va_Nc.of (G (gs_nc q hq))
  · obtain ⟨adK, adV, hS, hev⟩ := vk_Sof (args := #[Value.ref b]) (s := s) (N := 1) (tm := fun _ => (.string "CottageWeeks$Text" 54)) (len := [11]) (byt := [gw_cmd]) (A := fun q : Nat => s.heap.size ≤ q)
      (fun i hi => by rw [show i = 0 by omega]; decide)
      (fun i hi => G (w := .exactly (.string "CottageWeeks$Text" 54) "java/lang/String") (by decide +kernel))
      (fun i hi => G (w := .eq (.field (.string "CottageWeeks$Text" 54) "java/lang/String" "coder" "B") (.int 0)) (by decide +kernel))
      (fun i hi => G (w := .arrayOf (.field (.string "CottageWeeks$Text" 54) "java/lang/String" "value" "[B") .byte) (by decide +kernel))
      (fun i hi => by rw [show i = 0 by omega]; exact G (w := .eq (.length (.field (.string "CottageWeeks$Text" 54) "java/lang/String" "value" "[B")) (.int 11)) (by decide +kernel))
      (fun i hi j hj => by
        obtain rfl : i = 0 := by omega
        exact G (gs_el j hj))
      (fun i j hi hj hij => absurd (show i = j by omega) hij) hA
    refine ⟨adK 0, adV 0, vk_R.of (A := #[Value.ref b]) (gs_T hts (w := .stringRef "CottageWeeks$Text" 54 "okstberfauy") 228 (by decide +kernel)) (hev 0 (by decide)), ⟨fun i hi => ?_, fun i j hi hj _ => by omega⟩, va_Zof (gs_T hts 242 (by decide +kernel)) (gs_T hts 14 (by decide +kernel)) (va_eqt (G (w := .eq (.static "java/lang/String" "COMPACT_STRINGS" "Z") (.int 1)) (by decide +kernel))) hA⟩
    obtain rfl : i = 0 := by omega
    exact hS.1 0 (by decide)

set_option maxHeartbeats 8000000 in
set_option maxRecDepth 100000 in
theorem gw_lo_C : ∀ i, i < 263 → gw_lo 263 (sC.2 i) = true := by decide +kernel
theorem gw_lo_M : ∀ i, i < 7 → gw_lo 7 (sM.2 i) = true := by decide +kernel
theorem cw_IA_0 : cw_IA (21600 * 0) (2400 * 0) cw_A0 := ⟨cw_I_new, fun i hi => absurd hi (Nat.not_lt_zero _), fun i v hi hv => (by cases hv), by decide, by decide, fun i hi => absurd hi (Nat.not_lt_zero _)⟩
def gs_mx {α : Type} (fC fM : Nat → α) (t b : α) : Nat → α := fun i => if i < 263 then fC i else if i = 263 then t else if i < 271 then fM (i - 264) else b
theorem gs_mx_C {α : Type} (fC fM : Nat → α) (t b : α) {i : Nat} (h : i < 263) : gs_mx fC fM t b i = fC i := if_pos h
theorem gs_mx_M {α : Type} (fC fM : Nat → α) (t b : α) {i : Nat} (h : i < 7) : gs_mx fC fM t b (264 + i) = fM i := by
  unfold gs_mx
  rw [if_neg (by omega), if_neg (by omega), if_pos (by omega), show 264 + i - 264 = i by omega]
theorem gs_pm (a b c : List Nat) : (a ++ (c ++ b)).Perm ((a ++ b) ++ c) := List.perm_iff_count.mpr fun x => by
  simp only [List.count_append]
  omega
theorem gs_mk {D : va_G} {cA : Nat → ClassId} {ρC ρM : Nat → Nat} {wC wM : gw_M} {qt b : Nat} {H : Heap} (gC : va_P D vwCl (gw_W cA ρC sC wC) H) (gM : va_P D vwCl (gw_W cA ρM sM wM) H) (gt : va_at D vwCl (qt, .inl (cA 3, 1, .inr (.inl (fun _ => 0)))) H) :
    ∀ i, i < 271 → va_at D vwCl (gs_mx ρC ρM qt b i, gw_cell cA (gs_mx ρC ρM qt b) (gs_mx wC wM (fun _ => 0) (fun _ => 0) i) (sL.2 i)) H := by
  intro i hi
  by_cases h1 : i < 263
  · have q := rw_lo (ρ' := gs_mx ρC ρM qt b) (gw_lo_C i h1) (fun j hj => (gs_mx_C ρC ρM qt b hj).symm) (rw_PW (S := sC) gC (i := i) h1)
    rw [gs_mx_C _ _ _ _ h1, gs_mx_C _ _ _ _ h1, show sL.2 i = sC.2 i from (if_pos (show i < 264 by omega)).trans (if_pos h1)]
    exact q
  · by_cases h2 : i = 263
    · subst h2
      exact gt
    · obtain ⟨t, ht, rfl⟩ : ∃ t, t < 7 ∧ i = 264 + t := ⟨i - 264, by omega, by omega⟩
      have q := rw_lo (ρ' := fun j => gs_mx ρC ρM qt b (264 + j)) (gw_lo_M t ht) (fun j hj => (gs_mx_M ρC ρM qt b hj).symm) (rw_PW (S := sM) gM (i := t) ht)
      rw [gs_mx_M _ _ _ _ ht, gs_mx_M _ _ _ _ ht, show sL.2 (264 + t) = gw_pi (fun j => 264 + j) (sM.2 t) from (if_neg (show ¬ 264 + t < 264 by omega)).trans (by rw [show 264 + t - 264 = t by omega]), gw_pi_cell]
      exact q
/-- the law from its entry to its loop -/
theorem law_start {X : gw_X} (C : gw_ok X RL cL_law 7 20 601024 7293034) (I : rw_ao X) {b L : Nat} {xs : Nat → Int32} (hX : ∀ ρ : Nat → Nat, ρ 271 = b → gw_lx (rw_X X ρ) L xs) (hL : L ≤ 2048)
    (K : ∀ ρ : Nat → Nat, ∀ (k n : Nat) (lv : gw_LV) (w : gw_M), k ≤ 601024 → n ≤ 7293034 → gw_G (rw_X X ρ) sL 7 k n 2018 lv [] w) : rw_G X [] 7 0 0 0 [(0, .ref b)] [] := by
  refine r_new3 C I new_X6 my_X6_init li_L_103 nw_L_8 (by decide) ⟨by decide, by decide⟩ (Nat.le_of_ble_eq_true rfl) dL_law_0 dL_law_3 dL_law_4 (fun ρC wC hpC => ?_)
  refine r_astore_n C (by decide) dL_law_7 ?_
  refine r_new3 C I new_X7 my_X7_init li_L_106 nw_L_104 (by decide) ⟨by decide, by decide⟩ (Nat.le_of_ble_eq_true rfl) dL_law_8 dL_law_11 dL_law_12 (fun ρM wM hpM => ?_)
  refine r_astore_n C (by decide) dL_law_15 ?_
  refine r_iconst (v := 1) C (by decide) dL_law_16 ?_
  refine r_new_long (N := 1) C (by decide) (by decide) (by decide) ⟨by decide, by decide⟩ dL_law_17 (fun qt => ?_)
  refine r_astore_n C (by decide) dL_law_19 ?_
  refine r_iconst (v := 0) C (by decide) dL_law_20 ?_
  refine r_istore C (by decide) dL_law_21 ?_
  show rw_G X ((([] ++ gw_W (rw_cA X) ρC sC wC) ++ gw_W (rw_cA X) ρM sM wM) ++ [(qt, .inl (rw_cA X 3, 1, .inr (.inl (fun _ => 0))))]) 7 271 9346 23 [(4, .int 0), (3, .ref qt), (2, .ref (ρM 0)), (1, .ref (ρC 252)), (0, .ref b)] []
  refine r_to (S := sL) (gs_mx ρC ρM qt b) (gs_mx wC wM (fun _ => 0) (fun _ => 0)) (fun D H h => ?_) ?_ ?_
  · have h1 := rw_Papp.mp h
    have h2 := rw_Papp.mp h1.1
    have h3 := rw_Papp.mp h2.1
    exact gs_mk h3.2 h2.2 (rw_Pone.mp h1.2).1
  · have e : (List.range sL.1).map (gs_mx ρC ρM qt b) = (List.range 263).map ρC ++ ([qt] ++ (List.range 7).map ρM) := rw_cat (a := 263) (b := 8) (fun i hi => gs_mx_C _ _ _ _ hi) rfl
    rw [e]
    simp only [List.map_append, List.map_cons, List.map_nil, rw_fst, List.nil_append]
    exact gs_pm _ _ _
  · have hg : gw_G (rw_X X (gs_mx ρC ρM qt b)) sL 7 271 9346 23 [(4, .int 0), (3, .ref 263), (2, .ref 264), (1, .ref 252), (0, .ref 271)] [] (gs_mx wC wM (fun _ => 0) (fun _ => 0)) := by
      refine g_sub (lv' := [(0, .ref 271), (1, .ref 252), (2, .ref 264), (3, .ref 263), (4, .int (nI (4 * 0)))]) rfl ?_
      refine law_loop (rw_okX C _) (hX _ rfl) hL (k0 := 271) (n0 := 9346) ⟨by decide, by decide⟩ (K _) 512 0 rfl cw_A0 _ cw_IA_0 (hpC.cg (fun q hq => gs_mx_C _ _ _ _ (by omega)) rfl) ?_
      exact ⟨hpM.1, ⟨hpM.2.1, by decide, fun i hi => absurd hi (Nat.not_lt_zero _)⟩, ⟨hpM.2.2.1, fun i hi v hv => (by cases hv)⟩, ⟨hpM.2.2.2, by decide, fun i hi => absurd hi (Nat.not_lt_zero _)⟩⟩
    exact rw_gw hg

