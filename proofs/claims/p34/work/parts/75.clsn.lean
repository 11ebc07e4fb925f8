/-! THE CLASS'S STATE beside the reference's abstract one -/
def cw_RC (A : cw_A) (w : gw_M) : Prop :=
  cw_nf (ho (cw_hs 0 w)) = A.1 ∧
  (∃ o, o < 14 ∧ w 253 1 = nI o ∧ w 253 2 = nI A.2.1.1 ∧ A.2.1.1 ≤ 14 ∧ ∀ i, i < A.2.1.1 → cw_nf (ho (cw_hs ((o + i) % 14 + 2) w)) = A.2.1.2 i) ∧
  (∀ i, i < 2 → w 256 i = cw_b ((A.2.2.1 i).isSome = true) ∧ ∀ v, A.2.2.1 i = some v → cw_nf (ho (cw_hs (16 + i) w)) = v) ∧
  (w 257 1 = nI A.2.2.2.1 ∧ A.2.2.2.1 ≤ 120 ∧ ∀ i, i < A.2.2.2.1 → w 258 i = A.2.2.2.2 i)
theorem cw_hs_cg {h : Nat} {w w1 : gw_M} (k : ∀ q, 14 * h ≤ q → q < 14 * h + 14 → w1 q = w q) : ho (cw_hs h w1) = ho (cw_hs h w) := cw_ho_cg (fun q hq => k (14 * h + q) (by omega) (by omega))
theorem cw_RC.eq {A : cw_A} {w : gw_M} (h : cw_RC A w) : cw_eq (ho (cw_hs 0 w)) A.1 := by
  show cw_nf (ho (cw_hs 0 w)) = cw_nf A.1
  rw [← h.1, cw_nf_nf]
theorem cw_RC.nf {A : cw_A} {w : gw_M} (h : cw_RC A w) : cw_nf A.1 = A.1 := by rw [← h.1, cw_nf_nf]
/-- what is no part of the state may change -/
theorem cw_RC.cg {A : cw_A} {w w1 : gw_M} (h : cw_RC A w) (h1 : ∀ q, q < 14 ∨ (28 ≤ q ∧ q < 252) ∨ q = 253 ∨ q = 256 ∨ q = 258 → w1 q = w q) (h2 : w1 257 1 = w 257 1) : cw_RC A w1 := by
  obtain ⟨a, ⟨o, b1, b2, b3, b4, b5⟩, c, d1, d2, d3⟩ := h
  refine ⟨by rw [cw_hs_cg (fun q _ _ => h1 q (by omega))]; exact a, ⟨o, b1, by rw [h1 253 (by omega)]; exact b2, by rw [h1 253 (by omega)]; exact b3, b4, fun i hi => ?_⟩, fun i hi => ⟨by rw [h1 256 (by omega)]; exact (c i hi).1, fun v hv => ?_⟩, by rw [h2]; exact d1, d2, fun i hi => by rw [h1 258 (by omega)]; exact d3 i hi⟩
  · rw [cw_hs_cg (fun q _ _ => h1 q (by omega))]; exact b5 i hi
  · rw [cw_hs_cg (fun q _ _ => h1 q (by omega))]; exact (c i hi).2 v hv
/-- another house -/
theorem cw_RC.pres {A : cw_A} {w w1 : gw_M} {s : cw_s} (h : cw_RC A w) (h1 : ∀ q, 14 ≤ q → w1 q = w q) (h2 : cw_nf (ho (cw_hs 0 w1)) = s) : cw_RC (s, A.2) w1 := by
  obtain ⟨a, ⟨o, b1, b2, b3, b4, b5⟩, c, d1, d2, d3⟩ := h
  refine ⟨h2, ⟨o, b1, by rw [h1 253 (by omega)]; exact b2, by rw [h1 253 (by omega)]; exact b3, b4, fun i hi => ?_⟩, fun i hi => ⟨by rw [h1 256 (by omega)]; exact (c i hi).1, fun v hv => ?_⟩, by rw [h1 257 (by omega)]; exact d1, d2, fun i hi => by rw [h1 258 (by omega)]; exact d3 i hi⟩
  · rw [cw_hs_cg (fun q _ _ => h1 q (by omega))]; exact b5 i hi
  · rw [cw_hs_cg (fun q _ _ => h1 q (by omega))]; exact (c i hi).2 v hv
/-- another text -/
theorem cw_RC.text {A : cw_A} {w w1 : gw_M} {tx : Nat → Int32} {len : Nat} (h : cw_RC A w) (hx : cw_TX tx len w1) : cw_RC (A.1, A.2.1, A.2.2.1, (len, tx)) (cw_wp 257 3 w w1) := by
  obtain ⟨a, ⟨o, b1, b2, b3, b4, b5⟩, c, d1, d2, d3⟩ := h
  have h1 : ∀ q, q < 257 → cw_wp 257 3 w w1 q = w q := fun q hq => by unfold cw_wp; rw [if_neg (by omega)]
  refine ⟨by rw [cw_hs_cg (fun q _ _ => h1 q (by omega))]; exact a, ⟨o, b1, by rw [h1 253 (by omega)]; exact b2, by rw [h1 253 (by omega)]; exact b3, b4, fun i hi => ?_⟩, fun i hi => ⟨by rw [h1 256 (by omega)]; exact (c i hi).1, fun v hv => ?_⟩, hx.1, hx.2.1, hx.2.2⟩
  · rw [cw_hs_cg (fun q _ _ => h1 q (by omega))]; exact b5 i hi
  · rw [cw_hs_cg (fun q _ _ => h1 q (by omega))]; exact (c i hi).2 v hv
theorem cw_RC.tx {A : cw_A} {w : gw_M} (h : cw_RC A w) : cw_TX A.2.2.2.2 A.2.2.2.1 (cw_ws 257 w) := ⟨h.2.2.2.1, h.2.2.2.2.1, h.2.2.2.2.2⟩
theorem cw_wp_hs (h : Nat) (w : gw_M) : cw_wp (14 * h) 14 w (cw_hs h w) = w := by
  funext j
  unfold cw_wp cw_hs
  split
  · next q => rw [show 14 * h + (j - 14 * h) = j by omega]
  · rfl
theorem cw_wp_ws (b n : Nat) (w : gw_M) : cw_wp b n w (cw_ws b w) = w := by
  funext j
  unfold cw_wp cw_ws
  split
  · next q => rw [show b + (j - b) = j by omega]
  · rfl
theorem cw_hs_wp (h : Nat) (w w1 : gw_M) : ho (cw_hs h (cw_wp (14 * h) 14 w w1)) = ho w1 := cw_ho_cg (fun q hq => cw_wp_i w1 q hq)
theorem cw_wp_out {b n : Nat} (w w1 : gw_M) {q : Nat} (h : ¬ (b ≤ q ∧ q < b + n)) : cw_wp b n w w1 q = w q := by unfold cw_wp; rw [if_neg h]
/-- behind remember -/
theorem cw_RC.rem {A : cw_A} {w w1 : gw_M} (h : cw_RC A w) {o : Nat} (ho2 : o < 14) (b2 : w 253 1 = nI o) (b5 : ∀ i, i < A.2.1.1 → cw_nf (ho (cw_hs ((o + i) % 14 + 2) w)) = A.2.1.2 i)
    (r1 : w1 253 1 = nI (if A.2.1.1 = 14 then (o + 1) % 14 else o)) (r2 : w1 253 2 = nI ((if A.2.1.1 = 14 then 13 else A.2.1.1) + 1)) (r3 : ho (cw_hs (((if A.2.1.1 = 14 then (o + 1) % 14 else o) + (if A.2.1.1 = 14 then 13 else A.2.1.1)) % 14 + 2) w1) = ho (cw_hs 0 w))
    (r4 : ∀ q, q ≠ 253 → ¬ (14 * (((if A.2.1.1 = 14 then (o + 1) % 14 else o) + (if A.2.1.1 = 14 then 13 else A.2.1.1)) % 14 + 2) ≤ q ∧ q < 14 * (((if A.2.1.1 = 14 then (o + 1) % 14 else o) + (if A.2.1.1 = 14 then 13 else A.2.1.1)) % 14 + 2) + 14) → w1 q = w q) : cw_RC (cw_rem A) w1 := by
  obtain ⟨a, ⟨-, -, -, -, b4, -⟩, c, d1, d2, d3⟩ := h
  by_cases z : A.2.1.1 = 14
  · rw [if_pos z, if_pos z] at r3 r4
    rw [if_pos z] at r1 r2
    have er : cw_rem A = (A.1, (14, fun i => if i = 13 then A.1 else A.2.1.2 (i + 1)), A.2.2) := by unfold cw_rem; rw [if_pos z]
    rw [er]
    have hr : ((o + 1) % 14 + 13) % 14 < 14 := Nat.mod_lt _ (by decide)
    have hs : ∀ g, g < 18 → ¬ g = ((o + 1) % 14 + 13) % 14 + 2 → ho (cw_hs g w1) = ho (cw_hs g w) := fun g h1 h2 => cw_hs_cg (fun q q1 q2 => r4 q (by omega) (by omega))
    refine ⟨by rw [hs 0 (by omega) (by omega)]; exact a, ⟨(o + 1) % 14, Nat.mod_lt _ (by decide), r1, r2, Nat.le_refl _, fun i hi => ?_⟩, fun i hi => ⟨by rw [r4 256 (by omega) (by omega)]; exact (c i hi).1, fun v hv => by rw [hs (16 + i) (by omega) (by omega)]; exact (c i hi).2 v hv⟩, by rw [r4 257 (by omega) (by omega)]; exact d1, d2, fun i hi => by rw [r4 258 (by omega) (by omega)]; exact d3 i hi⟩
    have hi : i < 14 := hi
    show cw_nf _ = if i = 13 then A.1 else A.2.1.2 (i + 1)
    by_cases y : i = 13
    · rw [if_pos y, y, r3]; exact a
    · rw [if_neg y, hs _ (by omega) (by omega), ← b5 (i + 1) (by omega)]
      congr 3
      omega
  · rw [if_neg z, if_neg z] at r3 r4
    rw [if_neg z] at r1 r2
    have er : cw_rem A = (A.1, (A.2.1.1 + 1, fun i => if i = A.2.1.1 then A.1 else A.2.1.2 i), A.2.2) := by unfold cw_rem; rw [if_neg z]
    rw [er]
    have hr : (o + A.2.1.1) % 14 < 14 := Nat.mod_lt _ (by decide)
    have hs : ∀ g, g < 18 → ¬ g = (o + A.2.1.1) % 14 + 2 → ho (cw_hs g w1) = ho (cw_hs g w) := fun g h1 h2 => cw_hs_cg (fun q q1 q2 => r4 q (by omega) (by omega))
    refine ⟨by rw [hs 0 (by omega) (by omega)]; exact a, ⟨o, ho2, r1, r2, by show A.2.1.1 + 1 ≤ 14; omega, fun i hi => ?_⟩, fun i hi => ⟨by rw [r4 256 (by omega) (by omega)]; exact (c i hi).1, fun v hv => by rw [hs (16 + i) (by omega) (by omega)]; exact (c i hi).2 v hv⟩, by rw [r4 257 (by omega) (by omega)]; exact d1, d2, fun i hi => by rw [r4 258 (by omega) (by omega)]; exact d3 i hi⟩
    have hi : i < A.2.1.1 + 1 := hi
    show cw_nf _ = if i = A.2.1.1 then A.1 else A.2.1.2 i
    by_cases y : i = A.2.1.1
    · rw [if_pos y, y, r3]; exact a
    · rw [if_neg y, hs _ (by omega) (by omega)]; exact b5 i (by omega)

set_option maxHeartbeats 8000000 in
set_option maxRecDepth 100000 in
theorem ok_X6_needOwner (A : cw_A) {n m : Nat} (hA : cw_IA n m A) (o : Int32) (hc : cw_isO A.1 o) : gw_Ok yX6_needOwner cX6_needOwner 2 none sC 2 [.ref 252, .int o] (fun w => cw_RC A w) (fun w vr w1 => vr = none ∧ w1 = w) := by
  refine gw_of (by decide) (Nat.le_of_ble_eq_true rfl) ?_
  intro X w h C F
  have hw := h
  have e := hw.eq
  have hI := hA.1
  have hIt := cw_I_cg hI e
  have h6 := hI.m.2
  refine g_aload_n C rfl dX6_needOwner_0 ?_
  refine g_getr C fl_X6_10 rfl rfl dX6_needOwner_1 ?_
  refine g_iload_n C rfl dX6_needOwner_4 ?_
  refine g_callW C (cw_emb_h 0 (by decide)) (ok_X1_hasOwner o hIt) my_X1_hasOwner vi_X6_308 (by decide) ⟨Nat.le_refl _, Nat.le_refl _⟩ rfl (((cw_emb_h 0 (by decide)).1 0 (by decide))) rfl (cw_wp (14 * 0) 14 w) (cw_wp_i) (cw_wp_o) (cw_hs 0 w) (fun _ _ => rfl) (Nat.le_of_ble_eq_true rfl) dX6_needOwner_5 rfl (rfl) (fun v_5 w_5 hp_5 => ?_)
  obtain ⟨rfl, hw_5⟩ := hp_5
  have hw_5 := hw_5.symm; subst hw_5
  rw [cw_wp_hs]
  rw [cw_isO_cg e]
  refine g_if_ne (tgt := 22) C (by decide) dX6_needOwner_8 (fun c_8 => ?_) (fun c_8 => absurd c_8 (by rw [cw_b1 hc]; decide))
  refine g_vret C F dX6_needOwner_22 ?_
  exact ⟨rfl, rfl⟩

set_option maxHeartbeats 8000000 in
set_option maxRecDepth 100000 in
theorem thr_X6_needOwner (A : cw_A) {n m : Nat} (hA : cw_IA n m A) (o : Int32) (hc : ¬ cw_isO A.1 o) : gw_Thr yX6_needOwner cX6_needOwner 2 none sC 6 [.ref 252, .int o] (fun w => cw_RC A w) "java/lang/IndexOutOfBoundsException" (fun w w1 => w1 = w) := by
  refine gw_ofT (by decide) (Nat.le_of_ble_eq_true rfl) ?_
  intro X w h C F
  have hw := h
  have e := hw.eq
  have hI := hA.1
  have hIt := cw_I_cg hI e
  have h6 := hI.m.2
  refine g_aload_n C rfl dX6_needOwner_0 ?_
  refine g_getr C fl_X6_10 rfl rfl dX6_needOwner_1 ?_
  refine g_iload_n C rfl dX6_needOwner_4 ?_
  refine g_callW C (cw_emb_h 0 (by decide)) (ok_X1_hasOwner o hIt) my_X1_hasOwner vi_X6_308 (by decide) ⟨Nat.zero_le _, Nat.zero_le _⟩ rfl (((cw_emb_h 0 (by decide)).1 0 (by decide))) rfl (cw_wp (14 * 0) 14 w) (cw_wp_i) (cw_wp_o) (cw_hs 0 w) (fun _ _ => rfl) (Nat.le_of_ble_eq_true rfl) dX6_needOwner_5 rfl (rfl) (fun v_5 w_5 hp_5 => ?_)
  obtain ⟨rfl, hw_5⟩ := hp_5
  have hw_5 := hw_5.symm; subst hw_5
  rw [cw_wp_hs]
  rw [cw_isO_cg e]
  refine g_if_ne (tgt := 22) C (by decide) dX6_needOwner_8 (fun c_8 => absurd c_8 (fun z => z (cw_bf hc))) (fun c_8 => ?_)
  exact g_throwW C F tw_IOE (List.mem_of_getElem? (i := 14) rfl) (by decide) (Nat.le_of_ble_eq_true rfl) dX6_needOwner_11 dX6_needOwner_14 dX6_needOwner_15 dX6_needOwner_18 dX6_needOwner_21 (rfl)

set_option maxHeartbeats 8000000 in
set_option maxRecDepth 100000 in
theorem ok_X6_needWeek (A : cw_A) {n m : Nat} (hA : cw_IA n m A) (o : Int32) (hc : cw_isW o) : gw_Ok yX6_needWeek cX6_needWeek 2 none sC 2 [.ref 252, .int o] (fun w => cw_RC A w) (fun w vr w1 => vr = none ∧ w1 = w) := by
  refine gw_of (by decide) (Nat.le_of_ble_eq_true rfl) ?_
  intro X w h C F
  have hw := h
  have e := hw.eq
  have hI := hA.1
  have hIt := cw_I_cg hI e
  have h6 := hI.m.2
  refine g_aload_n C rfl dX6_needWeek_0 ?_
  refine g_getr C fl_X6_10 rfl rfl dX6_needWeek_1 ?_
  refine g_iload_n C rfl dX6_needWeek_4 ?_
  refine g_callW C (cw_emb_h 0 (by decide)) (ok_X1_hasWeek o hIt) my_X1_hasWeek vi_X6_316 (by decide) ⟨Nat.le_refl _, Nat.le_refl _⟩ rfl (((cw_emb_h 0 (by decide)).1 0 (by decide))) rfl (cw_wp (14 * 0) 14 w) (cw_wp_i) (cw_wp_o) (cw_hs 0 w) (fun _ _ => rfl) (Nat.le_of_ble_eq_true rfl) dX6_needWeek_5 rfl (rfl) (fun v_5 w_5 hp_5 => ?_)
  obtain ⟨rfl, hw_5⟩ := hp_5
  have hw_5 := hw_5.symm; subst hw_5
  rw [cw_wp_hs]
  refine g_if_ne (tgt := 22) C (by decide) dX6_needWeek_8 (fun c_8 => ?_) (fun c_8 => absurd c_8 (by rw [cw_b1 hc]; decide))
  refine g_vret C F dX6_needWeek_22 ?_
  exact ⟨rfl, rfl⟩

set_option maxHeartbeats 8000000 in
set_option maxRecDepth 100000 in
theorem thr_X6_needWeek (A : cw_A) {n m : Nat} (hA : cw_IA n m A) (o : Int32) (hc : ¬ cw_isW o) : gw_Thr yX6_needWeek cX6_needWeek 2 none sC 6 [.ref 252, .int o] (fun w => cw_RC A w) "java/lang/IndexOutOfBoundsException" (fun w w1 => w1 = w) := by
  refine gw_ofT (by decide) (Nat.le_of_ble_eq_true rfl) ?_
  intro X w h C F
  have hw := h
  have e := hw.eq
  have hI := hA.1
  have hIt := cw_I_cg hI e
  have h6 := hI.m.2
  refine g_aload_n C rfl dX6_needWeek_0 ?_
  refine g_getr C fl_X6_10 rfl rfl dX6_needWeek_1 ?_
  refine g_iload_n C rfl dX6_needWeek_4 ?_
  refine g_callW C (cw_emb_h 0 (by decide)) (ok_X1_hasWeek o hIt) my_X1_hasWeek vi_X6_316 (by decide) ⟨Nat.zero_le _, Nat.zero_le _⟩ rfl (((cw_emb_h 0 (by decide)).1 0 (by decide))) rfl (cw_wp (14 * 0) 14 w) (cw_wp_i) (cw_wp_o) (cw_hs 0 w) (fun _ _ => rfl) (Nat.le_of_ble_eq_true rfl) dX6_needWeek_5 rfl (rfl) (fun v_5 w_5 hp_5 => ?_)
  obtain ⟨rfl, hw_5⟩ := hp_5
  have hw_5 := hw_5.symm; subst hw_5
  rw [cw_wp_hs]
  refine g_if_ne (tgt := 22) C (by decide) dX6_needWeek_8 (fun c_8 => absurd c_8 (fun z => z (cw_bf hc))) (fun c_8 => ?_)
  exact g_throwW C F tw_IOE (List.mem_of_getElem? (i := 15) rfl) (by decide) (Nat.le_of_ble_eq_true rfl) dX6_needWeek_11 dX6_needWeek_14 dX6_needWeek_15 dX6_needWeek_18 dX6_needWeek_21 (rfl)

set_option maxHeartbeats 8000000 in
set_option maxRecDepth 100000 in
theorem ok_X6_needOffer (A : cw_A) {n m : Nat} (hA : cw_IA n m A) (o : Int32) (hc : cw_isK A.1 o) : gw_Ok yX6_needOffer cX6_needOffer 2 none sC 2 [.ref 252, .int o] (fun w => cw_RC A w) (fun w vr w1 => vr = none ∧ w1 = w) := by
  refine gw_of (by decide) (Nat.le_of_ble_eq_true rfl) ?_
  intro X w h C F
  have hw := h
  have e := hw.eq
  have hI := hA.1
  have hIt := cw_I_cg hI e
  have h6 := hI.m.2
  refine g_aload_n C rfl dX6_needOffer_0 ?_
  refine g_getr C fl_X6_10 rfl rfl dX6_needOffer_1 ?_
  refine g_iload_n C rfl dX6_needOffer_4 ?_
  refine g_callW C (cw_emb_h 0 (by decide)) (ok_X1_hasOffer o hIt) my_X1_hasOffer vi_X6_321 (by decide) ⟨Nat.le_refl _, Nat.le_refl _⟩ rfl (((cw_emb_h 0 (by decide)).1 0 (by decide))) rfl (cw_wp (14 * 0) 14 w) (cw_wp_i) (cw_wp_o) (cw_hs 0 w) (fun _ _ => rfl) (Nat.le_of_ble_eq_true rfl) dX6_needOffer_5 rfl (rfl) (fun v_5 w_5 hp_5 => ?_)
  obtain ⟨rfl, hw_5⟩ := hp_5
  have hw_5 := hw_5.symm; subst hw_5
  rw [cw_wp_hs]
  rw [cw_isK_cg e]
  refine g_if_ne (tgt := 22) C (by decide) dX6_needOffer_8 (fun c_8 => ?_) (fun c_8 => absurd c_8 (by rw [cw_b1 hc]; decide))
  refine g_vret C F dX6_needOffer_22 ?_
  exact ⟨rfl, rfl⟩

set_option maxHeartbeats 8000000 in
set_option maxRecDepth 100000 in
theorem thr_X6_needOffer (A : cw_A) {n m : Nat} (hA : cw_IA n m A) (o : Int32) (hc : ¬ cw_isK A.1 o) : gw_Thr yX6_needOffer cX6_needOffer 2 none sC 6 [.ref 252, .int o] (fun w => cw_RC A w) "java/lang/IndexOutOfBoundsException" (fun w w1 => w1 = w) := by
  refine gw_ofT (by decide) (Nat.le_of_ble_eq_true rfl) ?_
  intro X w h C F
  have hw := h
  have e := hw.eq
  have hI := hA.1
  have hIt := cw_I_cg hI e
  have h6 := hI.m.2
  refine g_aload_n C rfl dX6_needOffer_0 ?_
  refine g_getr C fl_X6_10 rfl rfl dX6_needOffer_1 ?_
  refine g_iload_n C rfl dX6_needOffer_4 ?_
  refine g_callW C (cw_emb_h 0 (by decide)) (ok_X1_hasOffer o hIt) my_X1_hasOffer vi_X6_321 (by decide) ⟨Nat.zero_le _, Nat.zero_le _⟩ rfl (((cw_emb_h 0 (by decide)).1 0 (by decide))) rfl (cw_wp (14 * 0) 14 w) (cw_wp_i) (cw_wp_o) (cw_hs 0 w) (fun _ _ => rfl) (Nat.le_of_ble_eq_true rfl) dX6_needOffer_5 rfl (rfl) (fun v_5 w_5 hp_5 => ?_)
  obtain ⟨rfl, hw_5⟩ := hp_5
  have hw_5 := hw_5.symm; subst hw_5
  rw [cw_wp_hs]
  rw [cw_isK_cg e]
  refine g_if_ne (tgt := 22) C (by decide) dX6_needOffer_8 (fun c_8 => absurd c_8 (fun z => z (cw_bf hc))) (fun c_8 => ?_)
  exact g_throwW C F tw_IOE (List.mem_of_getElem? (i := 16) rfl) (by decide) (Nat.le_of_ble_eq_true rfl) dX6_needOffer_11 dX6_needOffer_14 dX6_needOffer_15 dX6_needOffer_18 dX6_needOffer_21 (rfl)

set_option maxHeartbeats 8000000 in
set_option maxRecDepth 100000 in
theorem ok_X6_needRange (v a b : Int32) (hc : (a ≤ v ∧ v ≤ b)) : gw_Ok yX6_needRange cX6_needRange 4 none sC 2 [.ref 252, .int v, .int a, .int b] (fun _ => True) (fun w vr w1 => vr = none ∧ w1 = w) := by
  refine gw_of (by decide) (Nat.le_of_ble_eq_true rfl) ?_
  intro X w h C F
  refine g_iload_n C rfl dX6_needRange_0 ?_
  refine g_iload_n C rfl dX6_needRange_1 ?_
  refine g_cmp_lt (tgt := 10) C (by decide) dX6_needRange_2 (fun c_2 => absurd c_2 (fun z => absurd z (Int32.not_lt.mpr hc.1))) (fun c_2 => ?_)
  refine g_iload_n C rfl dX6_needRange_5 ?_
  refine g_iload_n C rfl dX6_needRange_6 ?_
  refine g_cmp_le (tgt := 21) C (by decide) dX6_needRange_7 (fun c_7 => ?_) (fun c_7 => absurd (hc.2) c_7)
  refine g_vret C F dX6_needRange_21 ?_
  exact ⟨rfl, rfl⟩

set_option maxHeartbeats 8000000 in
set_option maxRecDepth 100000 in
theorem thr_X6_needRange (v a b : Int32) (hc : ¬ (a ≤ v ∧ v ≤ b)) : gw_Thr yX6_needRange cX6_needRange 4 none sC 6 [.ref 252, .int v, .int a, .int b] (fun _ => True) "java/lang/IllegalArgumentException" (fun w w1 => w1 = w) := by
  refine gw_ofT (by decide) (Nat.le_of_ble_eq_true rfl) ?_
  intro X w h C F
  refine g_iload_n C rfl dX6_needRange_0 ?_
  refine g_iload_n C rfl dX6_needRange_1 ?_
  refine g_cmp_lt (tgt := 10) C (by decide) dX6_needRange_2 (fun c_2 => ?_) (fun c_2 => ?_)
  · exact g_throwW C F tw_IAE (List.mem_of_getElem? (i := 18) rfl) (by decide) (Nat.le_of_ble_eq_true rfl) dX6_needRange_10 dX6_needRange_13 dX6_needRange_14 dX6_needRange_17 dX6_needRange_20 (rfl)
  · refine g_iload_n C rfl dX6_needRange_5 ?_
    refine g_iload_n C rfl dX6_needRange_6 ?_
    refine g_cmp_le (tgt := 21) C (by decide) dX6_needRange_7 (fun c_7 => absurd c_7 (fun z => hc ⟨Int32.not_lt.mp c_2, z⟩)) (fun c_7 => ?_)
    exact g_throwW C F tw_IAE (List.mem_of_getElem? (i := 18) rfl) (by decide) (Nat.le_of_ble_eq_true rfl) dX6_needRange_10 dX6_needRange_13 dX6_needRange_14 dX6_needRange_17 dX6_needRange_20 (rfl)

theorem cw_lt2 {a : Int32} (h : a ≤ 1) : a < 2 := by
  have h := cw_le.mp h
  rw [cw_lt]
  have z1 : (1 : Int32).toInt = 1 := rfl
  have z2 : (2 : Int32).toInt = 2 := rfl
  omega
theorem cw_le1 {a : Int32} (h : a < 2) : a ≤ 1 := by
  have h := cw_lt.mp h
  rw [cw_le]
  have z1 : (1 : Int32).toInt = 1 := rfl
  have z2 : (2 : Int32).toInt = 2 := rfl
  omega
