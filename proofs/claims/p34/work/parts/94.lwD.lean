/-! TWO OBJECTS: the law's world -/
def pw_pi (i : Nat) : Nat := if i = 263 then 263 else 264 + i
def sP : gw_S := (527, fun i => if i < 264 then sCO.2 i else gw_pi pw_pi (sC.2 (i - 264)))
theorem pw_pi_263 {i : Nat} (h : i < 263) : pw_pi i = 264 + i := if_neg (by omega)
theorem pw_pi_inj {i j : Nat} (hi : i < 264) (hj : j < 264) (h : pw_pi i = pw_pi j) : i = j := by
  unfold pw_pi at h
  split at h <;> split at h <;> omega
theorem cw_emb_PO : gw_emb sP sCO (fun i => i) := ⟨fun i hi => by
  have h2 : i < 264 := hi
  rw [gw_pi_id]
  simp [gw_at, sP, h2, show i < 527 by omega], fun i j _ _ h => h⟩
theorem cw_emb_PC : gw_emb sP sC (fun i => i) := ⟨fun i hi => by
  have h2 : i < 263 := hi
  rw [gw_pi_id]
  have e : sCO.2 i = sC.2 i := if_pos h2
  simp [gw_at, sP, e, show i < 264 by omega, show i < 527 by omega], fun i j _ _ h => h⟩
theorem cw_emb_PQ : gw_emb sP sC pw_pi := ⟨fun i hi => by
  have h2 : i < 263 := hi
  rw [pw_pi_263 h2]
  simp [gw_at, sP, show ¬ 264 + i < 264 by omega, show 264 + i < 527 by omega], fun i j hi hj h => pw_pi_inj (show i < 264 from Nat.lt_succ_of_lt hi) (show j < 264 from Nat.lt_succ_of_lt hj) h⟩
theorem cw_emb_PR : gw_emb sP sCO pw_pi := ⟨fun i hi => by
  have h2 : i < 264 := hi
  by_cases h3 : i = 263
  · subst h3
    rfl
  · have e : sCO.2 i = sC.2 i := if_pos (show i < 263 by omega)
    rw [pw_pi_263 (by omega), e]
    simp [gw_at, sP, show ¬ 264 + i < 264 by omega, show 264 + i < 527 by omega], fun i j hi hj h => pw_pi_inj hi hj h⟩
/-- what the second object sees -/
def pw_q (w : gw_M) : gw_M := fun i => w (pw_pi i)
def pw_wpo (w w1 : gw_M) : gw_M := fun j => if j < 264 then w1 j else w j
def pw_wpq (w w1 : gw_M) : gw_M := fun j => if 264 ≤ j then w1 (j - 264) else w j
def pw_wpr (w w1 : gw_M) : gw_M := fun j => if 264 ≤ j then w1 (j - 264) else if j = 263 then w1 263 else w j
theorem pw_wpo_i {w : gw_M} : ∀ (w1 : gw_M) (i : Nat), i < 264 → pw_wpo w w1 i = w1 i := fun w1 i hi => if_pos hi
theorem pw_wpo_o {w : gw_M} {N : Nat} : ∀ (w1 : gw_M) (j : Nat), j < N → (∀ i, i < 264 → i ≠ j) → pw_wpo w w1 j = w j := fun w1 j _ h => if_neg (fun q => h j q rfl)
theorem pw_wpq_i {w : gw_M} : ∀ (w1 : gw_M) (i : Nat), i < 263 → pw_wpq w w1 (pw_pi i) = w1 i := fun w1 i hi => by
  rw [pw_pi_263 hi]
  show (if 264 ≤ 264 + i then w1 (264 + i - 264) else w (264 + i)) = w1 i
  rw [if_pos (by omega), show 264 + i - 264 = i by omega]
theorem pw_wpq_o {w : gw_M} : ∀ (w1 : gw_M) (j : Nat), j < 527 → (∀ i, i < 263 → pw_pi i ≠ j) → pw_wpq w w1 j = w j := fun w1 j hj h => if_neg (fun q => h (j - 264) (by omega) (by rw [pw_pi_263 (by omega)]; omega))
theorem pw_wpr_i {w : gw_M} : ∀ (w1 : gw_M) (i : Nat), i < 264 → pw_wpr w w1 (pw_pi i) = w1 i := fun w1 i hi => by
  by_cases h3 : i = 263
  · subst h3; rfl
  · rw [pw_pi_263 (by omega)]
    show (if 264 ≤ 264 + i then w1 (264 + i - 264) else _) = w1 i
    rw [if_pos (by omega), show 264 + i - 264 = i by omega]
theorem pw_wpr_o {w : gw_M} : ∀ (w1 : gw_M) (j : Nat), j < 527 → (∀ i, i < 264 → pw_pi i ≠ j) → pw_wpr w w1 j = w j := fun w1 j hj h => by
  have h1 : ¬ 264 ≤ j := fun q => h (j - 264) (by omega) (by rw [pw_pi_263 (by omega)]; omega)
  have h2 : ¬ j = 263 := fun q => h 263 (by omega) (by rw [q]; rfl)
  show (if 264 ≤ j then w1 (j - 264) else if j = 263 then w1 263 else w j) = w j
  rw [if_neg h1, if_neg h2]
/-- both objects stand in the world -/
def pw_two (A B : cw_A) (w : gw_M) : Prop := cw_RC A w ∧ cw_RC B (pw_q w)
theorem pw_tc {A B A' : cw_A} {w w1 : gw_M} (h : pw_two A B w) (h1 : cw_RC A' w1) : pw_two A' B (cw_wpc w w1) :=
  ⟨h1.low (fun q hq => if_pos hq), h.2.low (fun q hq => by show cw_wpc w w1 (pw_pi q) = w (pw_pi q); rw [pw_pi_263 hq]; exact if_neg (by omega))⟩
theorem pw_to2 {A B A' : cw_A} {w w1 : gw_M} (h : pw_two A B w) (h1 : cw_RC A' w1) : pw_two A' B (pw_wpo w w1) :=
  ⟨h1.low (fun q hq => if_pos (by omega)), h.2.low (fun q hq => by show pw_wpo w w1 (pw_pi q) = w (pw_pi q); rw [pw_pi_263 hq]; exact if_neg (by omega))⟩
theorem pw_tq {A B B' : cw_A} {w w1 : gw_M} (h : pw_two A B w) (h1 : cw_RC B' w1) : pw_two A B' (pw_wpq w w1) :=
  ⟨h.1.low (fun q hq => if_neg (by omega)), h1.low (fun q hq => pw_wpq_i w1 q hq)⟩
theorem pw_tr {A B B' : cw_A} {w w1 : gw_M} (h : pw_two A B w) (h1 : cw_RC B' w1) : pw_two A B' (pw_wpr w w1) :=
  ⟨h.1.low (fun q hq => by show (if 264 ≤ q then w1 (q - 264) else if q = 263 then w1 263 else w q) = w q; rw [if_neg (by omega), if_neg (by omega)]), h1.low (fun q hq => pw_wpr_i w1 q (by omega))⟩
theorem pw_nge {i N : Nat} (h : i < N) (hN : N < 1000) : ¬ nI N ≤ nI i := by
  rw [cw_le, cw_ni hN, cw_ni (by omega)]; omega
theorem pw_dv {i : Nat} (hi : i < 1000) {d : Int32} (k : Nat) (hd : d = nI k) (hk : 0 < k) (hk2 : k < 1000) : nI i / d = nI (i / k) ∧ nI i - nI i / d * d = nI (i % k) := by
  subst hd
  have e := cw_mdg (x := nI i) (y := nI k) (by rw [cw_ni hi]; omega) (by rw [cw_ni hk2]; omega)
  rw [cw_ni hi, cw_ni hk2] at e
  have h1 : i / k ≤ i := Nat.div_le_self i k
  have h2 : i % k ≤ i := Nat.mod_le i k
  constructor
  · apply Int32.toInt_inj.mp
    rw [e.2, cw_ni (by omega)]; exact (Int.natCast_ediv i k).symm
  · apply Int32.toInt_inj.mp
    show (cw_md (nI i) (nI k)).toInt = _
    rw [e.1, cw_ni (by omega)]; exact (Int.natCast_emod i k).symm
theorem pw_in {l u k : Nat} (h1 : l ≤ k) (h2 : k ≤ u) (hu : u < 1000) : nI l ≤ nI k ∧ nI k ≤ nI u := by
  rw [cw_le, cw_le, cw_ni (by omega), cw_ni (by omega), cw_ni (by omega)]; omega
theorem pw_isK {n m : Nat} {u : cw_s} (hI : cw_I n m u) {q k : Nat} (hq : u 205 = nI q) (q8 : q ≤ 8) (hk : k < q) : cw_isK u (nI k) := by
  unfold cw_isK
  rw [hq, cw_sub_1 (by omega), cw_le, cw_le, cw_ni (by omega), cw_ni (by omega)]
  have z : (0 : Int32).toInt = 0 := rfl
  omega

set_option maxHeartbeats 8000000 in
set_option maxRecDepth 100000 in
theorem ok_L_areAlike (u : cw_s) (T1 T2 : (Nat × (Nat → cw_s)) × (Nat → Option cw_s) × (Nat × (Nat → Int32))) {n m n2 m2 : Nat} (hA : cw_IA n m (u, T1)) (hB : cw_IA n2 m2 (u, T2)) : gw_Ok yL_areAlike cL_areAlike 4 (some .boolean) sP 13 [.ref 252, .ref 516] (pw_two (u, T1) (u, T2)) (fun _ vr w1 => vr = some (.int 1) ∧ pw_two (u, T1) (u, T2) w1) := by
  refine gw_of (by decide) (Nat.le_of_ble_eq_true rfl) ?_
  intro X w h C F
  have hI : cw_I n m u := hA.1
  have h6 := hI.m.2
  obtain ⟨q, q1, q2, -⟩ := hI.off
  have h7 : (7 : Int32) * u 0 = nI (7 * cw_no u) := by rw [show u 0 = nI (cw_no u) from hI.m.1]; exact pk_mul 7 (cw_no u)
  have h4 : (4 : Int32) * u 205 = nI (4 * q) := by rw [q2]; exact pk_mul 4 q
  refine g_iconst (v := 1) C (by decide) dL_areAlike_0 ?_
  refine g_istore_n C (by decide) dL_areAlike_1 ?_
  refine g_iconst (v := 0) C (by decide) dL_areAlike_2 ?_
  refine g_istore_n C (by decide) dL_areAlike_3 ?_
  refine g_sub rfl (g_for (α := Unit) 14 (fun i1 x1 => [(0, .ref 252), (1, .ref 516), (2, .int 1), (3, .int (nI i1))]) (fun i1 x1 w1 => pw_two (u, T1) (u, T2) w1) 0 () _ (Nat.zero_le _) (h) (fun i1 x1 w1 hi1 hR1 ih1 => ?_) (fun x1 w1 hR1 => ?_))
  · skip
    refine g_iload_n C rfl dL_areAlike_4 ?_
    refine g_bipush (v := 14) C (by decide) dL_areAlike_5 ?_
    refine g_cmp_ge (tgt := 39) C (by decide) dL_areAlike_7 (fun c_7 => absurd c_7 (nI_ge hi1 (by decide))) (fun c_7 => ?_)
    refine g_iload_n C rfl dL_areAlike_10 ?_
    refine g_if_eq (tgt := 31) C (by decide) dL_areAlike_11 (fun c_11 => absurd c_11 (by decide)) (fun c_11 => ?_)
    refine g_aload_n C rfl dL_areAlike_14 ?_
    refine g_iload_n C rfl dL_areAlike_15 ?_
    refine g_callW C cw_emb_PC (ok_X6_about (u, T1) hA (nI i1) (pw_in (l := 0) (u := 13) (by omega) (by omega) (by omega))) my_X6_about vi_L_59 (by decide) ⟨Nat.le_refl _, Nat.le_refl _⟩ rfl ((cw_emb_PC.1 252 (by decide))) rfl (cw_wpc w1) (cw_wpc_i) (cw_wpc_o) (w1) (fun _ _ => rfl) (Nat.le_of_ble_eq_true rfl) dL_areAlike_16 rfl (hR1.1) (fun v_16 w_16 hp_16 => ?_)
    obtain ⟨rfl, hr16⟩ := hp_16
    refine g_genP (P := pw_two (u, T1) (u, T2)) (pw_tc hR1 hr16) (fun w16n h16n => ?_)
    refine g_aload_n C rfl dL_areAlike_19 ?_
    refine g_iload_n C rfl dL_areAlike_20 ?_
    refine g_callW C cw_emb_PQ (ok_X6_about (u, T2) hB (nI i1) (pw_in (l := 0) (u := 13) (by omega) (by omega) (by omega))) my_X6_about vi_L_59 (by decide) ⟨Nat.le_refl _, Nat.le_refl _⟩ rfl ((cw_emb_PQ.1 252 (by decide))) rfl (pw_wpq w16n) (pw_wpq_i) (pw_wpq_o) ((pw_q w16n)) (fun _ _ => rfl) (Nat.le_of_ble_eq_true rfl) dL_areAlike_21 rfl (h16n.2) (fun v_21 w_21 hp_21 => ?_)
    obtain ⟨rfl, hr21⟩ := hp_21
    refine g_genP (P := pw_two (u, T1) (u, T2)) (pw_tq h16n hr21) (fun w21n h21n => ?_)
    refine g_cmp_ne (tgt := 31) C (by decide) dL_areAlike_24 (fun c_24 => absurd (rfl) c_24) (fun c_24 => ?_)
    refine g_iconst (v := 1) C (by decide) dL_areAlike_27 ?_
    refine g_goto (tgt := 32) C (by decide) dL_areAlike_28 ?_
    refine g_istore_n C (by decide) dL_areAlike_32 ?_
    refine g_iinc (v := nI (i1 + 1)) C rfl (nI_1 i1) (by decide) dL_areAlike_33 ?_
    refine g_goto (tgt := 4) C (by decide) dL_areAlike_36 ?_
    exact g_sub rfl (ih1 () _ h21n)
  skip
  refine g_iload_n C rfl dL_areAlike_4 ?_
  refine g_bipush (v := 14) C (by decide) dL_areAlike_5 ?_
  refine g_cmp_ge (tgt := 39) C (by decide) dL_areAlike_7 (fun c_7 => ?_) (fun c_7 => absurd (by decide) c_7)
  refine g_iconst (v := 0) C (by decide) dL_areAlike_39 ?_
  refine g_istore_n C (by decide) dL_areAlike_40 ?_
  refine g_sub rfl (g_for (α := Unit) (7 * cw_no u) (fun i2 x2 => [(0, .ref 252), (1, .ref 516), (2, .int 1), (3, .int (nI i2))]) (fun i2 x2 w2 => pw_two (u, T1) (u, T2) w2) 0 () _ (Nat.zero_le _) (hR1) (fun i2 x2 w2 hi2 hR2 ih2 => ?_) (fun x2 w2 hR2 => ?_))
  · skip
    refine g_iload_n C rfl dL_areAlike_41 ?_
    refine g_bipush (v := 7) C (by decide) dL_areAlike_42 ?_
    refine g_aload_n C rfl dL_areAlike_44 ?_
    refine g_iconst (v := 0) C (by decide) dL_areAlike_45 ?_
    refine g_callW C cw_emb_PC (ok_X6_about (u, T1) hA 0 (by decide)) my_X6_about vi_L_59 (by decide) ⟨Nat.le_refl _, Nat.le_refl _⟩ rfl ((cw_emb_PC.1 252 (by decide))) rfl (cw_wpc w2) (cw_wpc_i) (cw_wpc_o) (w2) (fun _ _ => rfl) (Nat.le_of_ble_eq_true rfl) dL_areAlike_46 rfl (hR2.1) (fun v_46 w_46 hp_46 => ?_)
    obtain ⟨rfl, hr46⟩ := hp_46
    refine g_genP (P := pw_two (u, T1) (u, T2)) (pw_tc hR2 hr46) (fun w46n h46n => ?_)
    refine g_top (show _ = u 0 from rfl) ?_
    refine g_imul C dL_areAlike_49 ?_
    refine g_top h7 ?_
    refine g_cmp_ge (tgt := 96) C (by decide) dL_areAlike_50 (fun c_50 => absurd c_50 (pw_nge hi2 (by omega))) (fun c_50 => ?_)
    refine g_iload_n C rfl dL_areAlike_53 ?_
    refine g_if_eq (tgt := 88) C (by decide) dL_areAlike_54 (fun c_54 => absurd c_54 (by decide)) (fun c_54 => ?_)
    refine g_aload_n C rfl dL_areAlike_57 ?_
    refine g_iload_n C rfl dL_areAlike_58 ?_
    refine g_bipush (v := 7) C (by decide) dL_areAlike_59 ?_
    refine g_idiv C (by decide) dL_areAlike_61 ?_
    refine g_top (pw_dv (by omega) 7 rfl (by decide) (by decide)).1 ?_
    refine g_iload_n C rfl dL_areAlike_62 ?_
    refine g_bipush (v := 7) C (by decide) dL_areAlike_63 ?_
    refine g_irem C (by decide) dL_areAlike_65 ?_
    refine g_top (pw_dv (by omega) 7 rfl (by decide) (by decide)).2 ?_
    refine g_callW C cw_emb_PC (ok_X6_ownerOf (u, T1) hA (nI (i2 / 7)) (nI (i2 % 7)) (cw_isO_nI hI.m (by omega)) (pw_in (l := 0) (u := 6) (by omega) (by omega) (by omega))) my_X6_ownerOf vi_L_66 (by decide) ⟨Nat.le_refl _, Nat.le_refl _⟩ rfl ((cw_emb_PC.1 252 (by decide))) rfl (cw_wpc w46n) (cw_wpc_i) (cw_wpc_o) (w46n) (fun _ _ => rfl) (Nat.le_of_ble_eq_true rfl) dL_areAlike_66 rfl (h46n.1) (fun v_66 w_66 hp_66 => ?_)
    obtain ⟨rfl, hr66⟩ := hp_66
    refine g_genP (P := pw_two (u, T1) (u, T2)) (pw_tc h46n hr66) (fun w66n h66n => ?_)
    refine g_aload_n C rfl dL_areAlike_69 ?_
    refine g_iload_n C rfl dL_areAlike_70 ?_
    refine g_bipush (v := 7) C (by decide) dL_areAlike_71 ?_
    refine g_idiv C (by decide) dL_areAlike_73 ?_
    refine g_top (pw_dv (by omega) 7 rfl (by decide) (by decide)).1 ?_
    refine g_iload_n C rfl dL_areAlike_74 ?_
    refine g_bipush (v := 7) C (by decide) dL_areAlike_75 ?_
    refine g_irem C (by decide) dL_areAlike_77 ?_
    refine g_top (pw_dv (by omega) 7 rfl (by decide) (by decide)).2 ?_
    refine g_callW C cw_emb_PQ (ok_X6_ownerOf (u, T2) hB (nI (i2 / 7)) (nI (i2 % 7)) (cw_isO_nI hI.m (by omega)) (pw_in (l := 0) (u := 6) (by omega) (by omega) (by omega))) my_X6_ownerOf vi_L_66 (by decide) ⟨Nat.le_refl _, Nat.le_refl _⟩ rfl ((cw_emb_PQ.1 252 (by decide))) rfl (pw_wpq w66n) (pw_wpq_i) (pw_wpq_o) ((pw_q w66n)) (fun _ _ => rfl) (Nat.le_of_ble_eq_true rfl) dL_areAlike_78 rfl (h66n.2) (fun v_78 w_78 hp_78 => ?_)
    obtain ⟨rfl, hr78⟩ := hp_78
    refine g_genP (P := pw_two (u, T1) (u, T2)) (pw_tq h66n hr78) (fun w78n h78n => ?_)
    refine g_cmp_ne (tgt := 88) C (by decide) dL_areAlike_81 (fun c_81 => absurd (rfl) c_81) (fun c_81 => ?_)
    refine g_iconst (v := 1) C (by decide) dL_areAlike_84 ?_
    refine g_goto (tgt := 89) C (by decide) dL_areAlike_85 ?_
    refine g_istore_n C (by decide) dL_areAlike_89 ?_
    refine g_iinc (v := nI (i2 + 1)) C rfl (nI_1 i2) (by decide) dL_areAlike_90 ?_
    refine g_goto (tgt := 41) C (by decide) dL_areAlike_93 ?_
    exact g_sub rfl (ih2 () _ h78n)
  skip
  refine g_iload_n C rfl dL_areAlike_41 ?_
  refine g_bipush (v := 7) C (by decide) dL_areAlike_42 ?_
  refine g_aload_n C rfl dL_areAlike_44 ?_
  refine g_iconst (v := 0) C (by decide) dL_areAlike_45 ?_
  refine g_callW C cw_emb_PC (ok_X6_about (u, T1) hA 0 (by decide)) my_X6_about vi_L_59 (by decide) ⟨Nat.le_refl _, Nat.le_refl _⟩ rfl ((cw_emb_PC.1 252 (by decide))) rfl (cw_wpc w2) (cw_wpc_i) (cw_wpc_o) (w2) (fun _ _ => rfl) (Nat.le_of_ble_eq_true rfl) dL_areAlike_46 rfl (hR2.1) (fun v_46 w_46 hp_46 => ?_)
  obtain ⟨rfl, hr46⟩ := hp_46
  refine g_genP (P := pw_two (u, T1) (u, T2)) (pw_tc hR2 hr46) (fun w46n h46n => ?_)
  refine g_top (show _ = u 0 from rfl) ?_
  refine g_imul C dL_areAlike_49 ?_
  refine g_top h7 ?_
  refine g_cmp_ge (tgt := 96) C (by decide) dL_areAlike_50 (fun c_50 => ?_) (fun c_50 => absurd (Int32.le_refl _) c_50)
  refine g_iconst (v := 0) C (by decide) dL_areAlike_96 ?_
  refine g_istore_n C (by decide) dL_areAlike_97 ?_
  refine g_sub rfl (g_for (α := Unit) 100 (fun i3 x3 => [(0, .ref 252), (1, .ref 516), (2, .int 1), (3, .int (nI i3))]) (fun i3 x3 w3 => pw_two (u, T1) (u, T2) w3) 0 () _ (Nat.zero_le _) (h46n) (fun i3 x3 w3 hi3 hR3 ih3 => ?_) (fun x3 w3 hR3 => ?_))
  · skip
    refine g_iload_n C rfl dL_areAlike_98 ?_
    refine g_bipush (v := 100) C (by decide) dL_areAlike_99 ?_
    refine g_cmp_ge (tgt := 143) C (by decide) dL_areAlike_101 (fun c_101 => absurd c_101 (nI_ge hi3 (by decide))) (fun c_101 => ?_)
    refine g_iload_n C rfl dL_areAlike_104 ?_
    refine g_if_eq (tgt := 135) C (by decide) dL_areAlike_105 (fun c_105 => absurd c_105 (by decide)) (fun c_105 => ?_)
    refine g_aload_n C rfl dL_areAlike_108 ?_
    refine g_iload_n C rfl dL_areAlike_109 ?_
    refine g_iconst (v := 5) C (by decide) dL_areAlike_110 ?_
    refine g_idiv C (by decide) dL_areAlike_111 ?_
    refine g_top (pw_dv (by omega) 5 rfl (by decide) (by decide)).1 ?_
    refine g_iload_n C rfl dL_areAlike_112 ?_
    refine g_iconst (v := 5) C (by decide) dL_areAlike_113 ?_
    refine g_irem C (by decide) dL_areAlike_114 ?_
    refine g_top (pw_dv (by omega) 5 rfl (by decide) (by decide)).2 ?_
    refine g_callW C cw_emb_PC (ok_X6_weekOf (u, T1) hA (nI (i3 / 5)) (nI (i3 % 5)) (cw_isW_nI (by omega)) (pw_in (l := 0) (u := 4) (by omega) (by omega) (by omega))) my_X6_weekOf vi_L_79 (by decide) ⟨Nat.le_refl _, Nat.le_refl _⟩ rfl ((cw_emb_PC.1 252 (by decide))) rfl (cw_wpc w3) (cw_wpc_i) (cw_wpc_o) (w3) (fun _ _ => rfl) (Nat.le_of_ble_eq_true rfl) dL_areAlike_115 rfl (hR3.1) (fun v_115 w_115 hp_115 => ?_)
    obtain ⟨rfl, hr115⟩ := hp_115
    refine g_genP (P := pw_two (u, T1) (u, T2)) (pw_tc hR3 hr115) (fun w115n h115n => ?_)
    refine g_aload_n C rfl dL_areAlike_118 ?_
    refine g_iload_n C rfl dL_areAlike_119 ?_
    refine g_iconst (v := 5) C (by decide) dL_areAlike_120 ?_
    refine g_idiv C (by decide) dL_areAlike_121 ?_
    refine g_top (pw_dv (by omega) 5 rfl (by decide) (by decide)).1 ?_
    refine g_iload_n C rfl dL_areAlike_122 ?_
    refine g_iconst (v := 5) C (by decide) dL_areAlike_123 ?_
    refine g_irem C (by decide) dL_areAlike_124 ?_
    refine g_top (pw_dv (by omega) 5 rfl (by decide) (by decide)).2 ?_
    refine g_callW C cw_emb_PQ (ok_X6_weekOf (u, T2) hB (nI (i3 / 5)) (nI (i3 % 5)) (cw_isW_nI (by omega)) (pw_in (l := 0) (u := 4) (by omega) (by omega) (by omega))) my_X6_weekOf vi_L_79 (by decide) ⟨Nat.le_refl _, Nat.le_refl _⟩ rfl ((cw_emb_PQ.1 252 (by decide))) rfl (pw_wpq w115n) (pw_wpq_i) (pw_wpq_o) ((pw_q w115n)) (fun _ _ => rfl) (Nat.le_of_ble_eq_true rfl) dL_areAlike_125 rfl (h115n.2) (fun v_125 w_125 hp_125 => ?_)
    obtain ⟨rfl, hr125⟩ := hp_125
    refine g_genP (P := pw_two (u, T1) (u, T2)) (pw_tq h115n hr125) (fun w125n h125n => ?_)
    refine g_cmp_ne (tgt := 135) C (by decide) dL_areAlike_128 (fun c_128 => absurd (rfl) c_128) (fun c_128 => ?_)
    refine g_iconst (v := 1) C (by decide) dL_areAlike_131 ?_
    refine g_goto (tgt := 136) C (by decide) dL_areAlike_132 ?_
    refine g_istore_n C (by decide) dL_areAlike_136 ?_
    refine g_iinc (v := nI (i3 + 1)) C rfl (nI_1 i3) (by decide) dL_areAlike_137 ?_
    refine g_goto (tgt := 98) C (by decide) dL_areAlike_140 ?_
    exact g_sub rfl (ih3 () _ h125n)
  skip
  refine g_iload_n C rfl dL_areAlike_98 ?_
  refine g_bipush (v := 100) C (by decide) dL_areAlike_99 ?_
  refine g_cmp_ge (tgt := 143) C (by decide) dL_areAlike_101 (fun c_101 => ?_) (fun c_101 => absurd (by decide) c_101)
  refine g_iconst (v := 0) C (by decide) dL_areAlike_143 ?_
  refine g_istore_n C (by decide) dL_areAlike_144 ?_
  refine g_sub rfl (g_for (α := Unit) (4 * q) (fun i4 x4 => [(0, .ref 252), (1, .ref 516), (2, .int 1), (3, .int (nI i4))]) (fun i4 x4 w4 => pw_two (u, T1) (u, T2) w4) 0 () _ (Nat.zero_le _) (hR3) (fun i4 x4 w4 hi4 hR4 ih4 => ?_) (fun x4 w4 hR4 => ?_))
  · skip
    refine g_iload_n C rfl dL_areAlike_145 ?_
    refine g_iconst (v := 4) C (by decide) dL_areAlike_146 ?_
    refine g_aload_n C rfl dL_areAlike_147 ?_
    refine g_bipush (v := 9) C (by decide) dL_areAlike_148 ?_
    refine g_callW C cw_emb_PC (ok_X6_about (u, T1) hA 9 (by decide)) my_X6_about vi_L_59 (by decide) ⟨Nat.le_refl _, Nat.le_refl _⟩ rfl ((cw_emb_PC.1 252 (by decide))) rfl (cw_wpc w4) (cw_wpc_i) (cw_wpc_o) (w4) (fun _ _ => rfl) (Nat.le_of_ble_eq_true rfl) dL_areAlike_150 rfl (hR4.1) (fun v_150 w_150 hp_150 => ?_)
    obtain ⟨rfl, hr150⟩ := hp_150
    refine g_genP (P := pw_two (u, T1) (u, T2)) (pw_tc hR4 hr150) (fun w150n h150n => ?_)
    refine g_top (show _ = u 205 from rfl) ?_
    refine g_imul C dL_areAlike_153 ?_
    refine g_top h4 ?_
    refine g_cmp_ge (tgt := 196) C (by decide) dL_areAlike_154 (fun c_154 => absurd c_154 (pw_nge hi4 (by omega))) (fun c_154 => ?_)
    refine g_iload_n C rfl dL_areAlike_157 ?_
    refine g_if_eq (tgt := 188) C (by decide) dL_areAlike_158 (fun c_158 => absurd c_158 (by decide)) (fun c_158 => ?_)
    refine g_aload_n C rfl dL_areAlike_161 ?_
    refine g_iload_n C rfl dL_areAlike_162 ?_
    refine g_iconst (v := 4) C (by decide) dL_areAlike_163 ?_
    refine g_idiv C (by decide) dL_areAlike_164 ?_
    refine g_top (pw_dv (by omega) 4 rfl (by decide) (by decide)).1 ?_
    refine g_iload_n C rfl dL_areAlike_165 ?_
    refine g_iconst (v := 4) C (by decide) dL_areAlike_166 ?_
    refine g_irem C (by decide) dL_areAlike_167 ?_
    refine g_top (pw_dv (by omega) 4 rfl (by decide) (by decide)).2 ?_
    refine g_callW C cw_emb_PC (ok_X6_offerOf (u, T1) hA (nI (i4 / 4)) (nI (i4 % 4)) (pw_isK hI q2 q1 (by omega)) (pw_in (l := 0) (u := 3) (by omega) (by omega) (by omega))) my_X6_offerOf vi_L_82 (by decide) ⟨Nat.le_refl _, Nat.le_refl _⟩ rfl ((cw_emb_PC.1 252 (by decide))) rfl (cw_wpc w150n) (cw_wpc_i) (cw_wpc_o) (w150n) (fun _ _ => rfl) (Nat.le_of_ble_eq_true rfl) dL_areAlike_168 rfl (h150n.1) (fun v_168 w_168 hp_168 => ?_)
    obtain ⟨rfl, hr168⟩ := hp_168
    refine g_genP (P := pw_two (u, T1) (u, T2)) (pw_tc h150n hr168) (fun w168n h168n => ?_)
    refine g_aload_n C rfl dL_areAlike_171 ?_
    refine g_iload_n C rfl dL_areAlike_172 ?_
    refine g_iconst (v := 4) C (by decide) dL_areAlike_173 ?_
    refine g_idiv C (by decide) dL_areAlike_174 ?_
    refine g_top (pw_dv (by omega) 4 rfl (by decide) (by decide)).1 ?_
    refine g_iload_n C rfl dL_areAlike_175 ?_
    refine g_iconst (v := 4) C (by decide) dL_areAlike_176 ?_
    refine g_irem C (by decide) dL_areAlike_177 ?_
    refine g_top (pw_dv (by omega) 4 rfl (by decide) (by decide)).2 ?_
    refine g_callW C cw_emb_PQ (ok_X6_offerOf (u, T2) hB (nI (i4 / 4)) (nI (i4 % 4)) (pw_isK hI q2 q1 (by omega)) (pw_in (l := 0) (u := 3) (by omega) (by omega) (by omega))) my_X6_offerOf vi_L_82 (by decide) ⟨Nat.le_refl _, Nat.le_refl _⟩ rfl ((cw_emb_PQ.1 252 (by decide))) rfl (pw_wpq w168n) (pw_wpq_i) (pw_wpq_o) ((pw_q w168n)) (fun _ _ => rfl) (Nat.le_of_ble_eq_true rfl) dL_areAlike_178 rfl (h168n.2) (fun v_178 w_178 hp_178 => ?_)
    obtain ⟨rfl, hr178⟩ := hp_178
    refine g_genP (P := pw_two (u, T1) (u, T2)) (pw_tq h168n hr178) (fun w178n h178n => ?_)
    refine g_cmp_ne (tgt := 188) C (by decide) dL_areAlike_181 (fun c_181 => absurd (rfl) c_181) (fun c_181 => ?_)
    refine g_iconst (v := 1) C (by decide) dL_areAlike_184 ?_
    refine g_goto (tgt := 189) C (by decide) dL_areAlike_185 ?_
    refine g_istore_n C (by decide) dL_areAlike_189 ?_
    refine g_iinc (v := nI (i4 + 1)) C rfl (nI_1 i4) (by decide) dL_areAlike_190 ?_
    refine g_goto (tgt := 145) C (by decide) dL_areAlike_193 ?_
    exact g_sub rfl (ih4 () _ h178n)
  skip
  refine g_iload_n C rfl dL_areAlike_145 ?_
  refine g_iconst (v := 4) C (by decide) dL_areAlike_146 ?_
  refine g_aload_n C rfl dL_areAlike_147 ?_
  refine g_bipush (v := 9) C (by decide) dL_areAlike_148 ?_
  refine g_callW C cw_emb_PC (ok_X6_about (u, T1) hA 9 (by decide)) my_X6_about vi_L_59 (by decide) ⟨Nat.le_refl _, Nat.le_refl _⟩ rfl ((cw_emb_PC.1 252 (by decide))) rfl (cw_wpc w4) (cw_wpc_i) (cw_wpc_o) (w4) (fun _ _ => rfl) (Nat.le_of_ble_eq_true rfl) dL_areAlike_150 rfl (hR4.1) (fun v_150 w_150 hp_150 => ?_)
  obtain ⟨rfl, hr150⟩ := hp_150
  refine g_genP (P := pw_two (u, T1) (u, T2)) (pw_tc hR4 hr150) (fun w150n h150n => ?_)
  refine g_top (show _ = u 205 from rfl) ?_
  refine g_imul C dL_areAlike_153 ?_
  refine g_top h4 ?_
  refine g_cmp_ge (tgt := 196) C (by decide) dL_areAlike_154 (fun c_154 => ?_) (fun c_154 => absurd (Int32.le_refl _) c_154)
  refine g_iload_n C rfl dL_areAlike_196 ?_
  refine g_zret C F (rfl) dL_areAlike_197 ?_
  exact ⟨rfl, h150n⟩

