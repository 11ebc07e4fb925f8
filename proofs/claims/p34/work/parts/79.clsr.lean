/-! THE FACE OF THE CLASS: what would be -/
theorem cw_best_p {s : cw_s} {p i k j : Nat} {x : Int32} (h6 : cw_no s ≤ 6) (hp : p = 85 + 20 * j + k) (hj : j < 6) (hk : k < 20) (hi : i < 20) (hn : i ≠ k) : cw_best (upd s p x) i = cw_best s i := by
  have no : cw_no (upd s p x) = cw_no s := cw_no_upd _ _ (by omega)
  have r : ∀ a, a ≠ p → upd s p x a = s a := fun a ha => cw_upn _ _ ha
  have hop : cw_open (upd s p x) i = cw_open s i := by unfold cw_open; rw [r _ (by omega), r _ (by omega)]
  have hheld : ∀ o, cw_held (upd s p x) o = cw_held s o := fun o => cw_fold_congr 20 0 0 (fun q y _ h2 => by rw [r _ (by omega)])
  have hcan : ∀ a, a < 6 → cw_canWin (upd s p x) a i = cw_canWin s a i := fun a ha => by unfold cw_canWin; rw [hheld, r _ (by omega), r _ (by omega), r _ (by omega), r _ (by omega)]
  have hbet : ∀ a b, a < 6 → b < 6 → cw_better (upd s p x) a b i = cw_better s a b i := fun a b ha hb => by unfold cw_better; rw [r _ (by omega), r _ (by omega), r _ (by omega), r _ (by omega), r _ (by omega), r _ (by omega)]
  have key : ∀ n, n ≤ cw_no s → cw_fold (fun j x_1 => cw_if (cw_canWin (upd s p x) j i ∧ (x_1 = -1 ∨ cw_better (upd s p x) j (cw_x x_1) i)) (nI j) x_1) 0 n (-1) = cw_fold (fun j x => cw_if (cw_canWin s j i ∧ (x = -1 ∨ cw_better s j (cw_x x) i)) (nI j) x) 0 n (-1) ∧ cw_x (cw_fold (fun j x => cw_if (cw_canWin s j i ∧ (x = -1 ∨ cw_better s j (cw_x x) i)) (nI j) x) 0 n (-1)) < 6 := by
    intro n
    induction n with
    | zero => intro _; exact ⟨rfl, by show cw_x (-1) < 6; decide⟩
    | succ n ih =>
      intro hle
      obtain ⟨e1, e2⟩ := ih (by omega)
      rw [cw_fold0, cw_fold0, e1]
      constructor
      · show cw_if _ _ _ = cw_if _ _ _
        rw [hcan n (by omega), hbet n _ (by omega) e2]
      · show cw_x (cw_if _ _ _) < 6
        by_cases q : cw_canWin s n i ∧ (cw_fold (fun j x => cw_if (cw_canWin s j i ∧ (x = -1 ∨ cw_better s j (cw_x x) i)) (nI j) x) 0 n (-1) = -1 ∨ cw_better s n (cw_x (cw_fold (fun j x => cw_if (cw_canWin s j i ∧ (x = -1 ∨ cw_better s j (cw_x x) i)) (nI j) x) 0 n (-1))) i)
        · rw [cw_it q, cw_xn (by omega)]; omega
        · rw [cw_ie q]; exact e2
  unfold cw_best
  rw [hop, no, (key _ (Nat.le_refl _)).1]
theorem cw_spends_p {s : cw_s} {p c : Nat} {x v : Int32} (hc : c < 6) (h1 : 85 ≤ p) (h2 : p < 205) : cw_spends (upd s p x) c v = upd (cw_spends s c v) p x := by
  unfold cw_spends
  simp only []
  rw [cw_upn s x (show 1 + 4 * c + 1 ≠ p by omega), cw_updc s x _ (show p ≠ 1 + 4 * c + 1 by omega), cw_upn _ x (show 235 ≠ p by omega), cw_updc _ x _ (show p ≠ 235 by omega)]
theorem cw_won_p {s : cw_s} {p i c j k : Nat} {x : Int32} (hp : p = 85 + 20 * j + k) (hj : j < 6) (hk : k < 20) (hi : i < 20) (hn : i ≠ k) (hc : c < 6) : cw_won (upd s p x) i c = upd (cw_won s i c) p x := by
  unfold cw_won
  simp only []
  rw [cw_upn s x (show 25 + 3 * i + 0 ≠ p by omega), cw_upn s x (show 85 + 20 * c + i ≠ p by omega), cw_spends_p hc (by omega) (by omega), cw_upn _ x (show 1 + 4 * c + 2 ≠ p by omega), cw_updc _ x _ (show p ≠ 1 + 4 * c + 2 by omega), cw_updc _ x _ (show p ≠ 25 + 3 * i + 2 by omega)]
theorem cw_best_lt {n m : Nat} {s : cw_s} (hI : cw_I n m s) {i : Nat} (hi : i < 20) (h : ¬ cw_best s i = -1) : cw_x (cw_best s i) < 6 := by
  obtain ⟨j, hj, e, -⟩ := (cw_best_cases hI hi).resolve_left h
  have := hI.m.2
  rw [e, cw_xn (by omega)]; omega
theorem cw_settle1_p {n m : Nat} {s : cw_s} (hI : cw_I n m s) {p i j k : Nat} {x : Int32} (hp : p = 85 + 20 * j + k) (hj : j < 6) (hk : k < 20) (hi : i < 20) (hn : i ≠ k) : cw_settle1 (upd s p x) i = upd (cw_settle1 s i) p x := by
  unfold cw_settle1
  rw [cw_best_p hI.m.2 hp hj hk hi hn]
  by_cases q : cw_best s i = -1
  · rw [cw_it q, cw_it q]
  · rw [cw_ie q, cw_ie q]
    exact cw_won_p hp hj hk hi hn (cw_best_lt hI hi q)
theorem cw_settle1_open {n m : Nat} {s : cw_s} (hI : cw_I n m s) {i k : Nat} (hk : k < 20) (hi : i < 20) (hn : i ≠ k) : cw_open (cw_settle1 s i) k = cw_open s k := by
  have key : ∀ q, q = 25 + 3 * k + 1 ∨ q = 25 + 3 * k + 2 → cw_settle1 s i q = s q := fun q hq => by
    unfold cw_settle1
    by_cases z : cw_best s i = -1
    · rw [cw_it z]
    · rw [cw_ie z]
      have hc := cw_best_lt hI hi z
      unfold cw_won cw_spends
      simp only []
      rw [cw_upn _ _ (by omega), cw_upn _ _ (by omega), cw_upn _ _ (by omega), cw_upn _ _ (by omega)]
  unfold cw_open
  rw [key _ (Or.inl rfl), key _ (Or.inr rfl)]
theorem cw_before_p {n m : Nat} {u : cw_s} (hI : cw_I n m u) (hB : cw_B n (m + 20)) {j k : Nat} (hj : j < 6) (hk : k < 20) (x : Int32) : ∀ i, i ≤ k → cw_before (upd u (85 + 20 * j + k) x) i = upd (cw_before u i) (85 + 20 * j + k) x ∧ cw_open (cw_before u i) k = cw_open u k := by
  intro i
  induction i with
  | zero => intro _; exact ⟨rfl, rfl⟩
  | succ i ih =>
    intro hi
    obtain ⟨e1, e2⟩ := ih (by omega)
    have hIi := (cw_before_cg hI hB rfl i (by omega)).2
    have s1 : ∀ v : cw_s, cw_before v (i + 1) = cw_settle1 (cw_before v i) i := fun v => by unfold cw_before; exact cw_fold0 (fun i x => cw_settle1 x i) i v
    rw [s1, s1, e1, cw_settle1_p hIi rfl hj hk (by omega) (by omega), cw_settle1_open hIi hk (by omega) (by omega)]
    exact ⟨rfl, e2⟩
/-- the least of 0 to 20 -/
theorem cw_fold_least (Q : Nat → Prop) : (∃ e, e ≤ 20 ∧ Q e ∧ (∀ d, d < e → ¬ Q d) ∧ cw_fold (fun i x => cw_if (Q (20 - i)) (nI (20 - i)) x) 0 21 (-1) = nI e) ∨ ((∀ e, e ≤ 20 → ¬ Q e) ∧ cw_fold (fun i x => cw_if (Q (20 - i)) (nI (20 - i)) x) 0 21 (-1) = -1) := by
  have key := cw_fold_P (f := fun i x => cw_if (Q (20 - i)) (nI (20 - i)) x) (fun n (v : Int32) => (∃ e, e ≤ 20 ∧ 21 - n ≤ e ∧ Q e ∧ (∀ d, 21 - n ≤ d → d < e → ¬ Q d) ∧ v = nI e) ∨ ((∀ e, 21 - n ≤ e → e ≤ 20 → ¬ Q e) ∧ v = -1)) 21 (-1) (Or.inr ⟨fun e h1 h2 => by omega, rfl⟩) (fun n y hn hy => by
    by_cases q : Q (20 - n)
    · exact Or.inl ⟨20 - n, by omega, by omega, q, fun d h1 h2 => by omega, cw_it q⟩
    · rcases hy with ⟨e, h1, h2, h3, h4, h5⟩ | ⟨h1, h2⟩
      · exact Or.inl ⟨e, h1, by omega, h3, fun d h6 h7 => by
          by_cases z : d = 20 - n
          · rw [z]; exact q
          · exact h4 d (by omega) h7, (cw_ie q).trans h5⟩
      · exact Or.inr ⟨fun e h3 h4 => by
          by_cases z : e = 20 - n
          · rw [z]; exact q
          · exact h1 e (by omega) h4, (cw_ie q).trans h2⟩)
  rcases key 21 (Nat.le_refl _) with ⟨e, h1, -, h3, h4, h5⟩ | ⟨h1, h2⟩
  · exact Or.inl ⟨e, h1, h3, fun d hd => h4 d (by omega) hd, h5⟩
  · exact Or.inr ⟨fun e he => h1 e (by omega) he, h2⟩
/-- the least bid, with what is settled before already settled -/
theorem cw_least_q {n m : Nat} {u : cw_s} (hI : cw_I n m u) (hB : cw_B n (m + 20)) {j k : Nat} (hj : j < 6) (hk : k < 20) : cw_least u j k = cw_if (cw_open (cw_before u k) k) (cw_fold (fun i x => cw_if (cw_best (upd (cw_before u k) (85 + 20 * j + k) (nI (20 - i))) k = nI j) (nI (20 - i)) x) 0 21 (-1)) (-1) := by
  unfold cw_least
  rw [(cw_before_p hI hB hj hk 0 k (Nat.le_refl _)).2]
  congr 1
  exact cw_fold_congr 21 0 (-1) (fun i y _ h2 => by
    unfold cw_wins
    rw [(cw_before_p hI hB hj hk (nI (20 - i)) k (Nat.le_refl _)).1])
/-! most at once: the class's world -/
theorem cw_emb_CMH : gw_emb sC sMH (fun i => if i < 3 then 260 + i else 14 * 0 + (i - 3)) := ⟨fun i hi => by
  have h2 : i < 17 := hi
  by_cases c : i < 3
  · have h : i = 0 ∨ i = 1 ∨ i = 2 := by omega
    rcases h with rfl | rfl | rfl
    · rfl
    · rfl
    · rfl
  · have e : sMH.2 i = gw_pi (fun j => 3 + j) (sH.2 (i - 3)) := by
      show (if i = 0 then _ else if i < 3 then _ else _) = _
      rw [if_neg (by omega), if_neg c]
    show gw_at sC (if i < 3 then 260 + i else 14 * 0 + (i - 3)) = _
    rw [if_neg c, e, cw_sC_h (by decide) (by omega), gw_pi_pi]
    exact congrArg some (cw_sH_pi (fun j hj => by rw [if_neg (by omega), Nat.add_sub_cancel_left]) (by omega)), fun i j hi hj q => by
  have hi2 : i < 17 := hi
  have hj2 : j < 17 := hj
  have q : (if i < 3 then 260 + i else 14 * 0 + (i - 3)) = (if j < 3 then 260 + j else 14 * 0 + (j - 3)) := q
  split at q <;> split at q <;> omega⟩
def cw_wpMH (w w1 : gw_M) : gw_M := fun j => if 260 ≤ j ∧ j < 263 then w1 (j - 260) else if j < 14 then w1 (j + 3) else w j
def cw_w0MH (w : gw_M) : gw_M := fun i => w (if i < 3 then 260 + i else 14 * 0 + (i - 3))
theorem cw_wpMH_i {w : gw_M} : ∀ (w1 : gw_M) (i : Nat), i < 17 → cw_wpMH w w1 (if i < 3 then 260 + i else 14 * 0 + (i - 3)) = w1 i := fun w1 i hi => by
  unfold cw_wpMH
  by_cases c : i < 3
  · rw [if_pos c, if_pos (by omega), Nat.add_sub_cancel_left]
  · rw [if_neg c, if_neg (by omega), if_pos (by omega), show 14 * 0 + (i - 3) + 3 = i by omega]
theorem cw_wpMH_o {w : gw_M} {N : Nat} : ∀ (w1 : gw_M) (j : Nat), j < N → (∀ i, i < 17 → (if i < 3 then 260 + i else 14 * 0 + (i - 3)) ≠ j) → cw_wpMH w w1 j = w j := fun w1 j _ h => by
  unfold cw_wpMH
  rw [if_neg, if_neg]
  · intro q
    have := h (j + 3) (by omega)
    rw [if_neg (by omega)] at this; omega
  · intro q
    have := h (j - 260) (by omega)
    rw [if_pos (by omega)] at this; omega
theorem cw_RC.mh {A : cw_A} {w w1 : gw_M} (h : cw_RC A w) (h1 : ∀ q, q ≠ 1 → q ≠ 2 → w1 q = cw_w0MH w q) : cw_RC A (cw_wpMH w w1) :=
  h.cg (fun q hq => by
    unfold cw_wpMH
    rw [if_neg (by omega)]
    by_cases c : q < 14
    · rw [if_pos c, h1 _ (by omega) (by omega)]
      show w (if q + 3 < 3 then _ else 14 * 0 + (q + 3 - 3)) = w q
      rw [if_neg (by omega)]; congr 1; omega
    · rw [if_neg c]) (by unfold cw_wpMH; rw [if_neg (by omega), if_neg (by omega)])
theorem cw_ho_MH (w : gw_M) : ho (cw_ws 3 (cw_w0MH w)) = ho (cw_hs 0 w) := cw_ho_cg (fun q hq => by
  show w (if 3 + q < 3 then _ else 14 * 0 + (3 + q - 3)) = w (14 * 0 + q)
  rw [if_neg (by omega), Nat.add_sub_cancel_left])

set_option maxHeartbeats 8000000 in
set_option maxRecDepth 100000 in
theorem ok_X6_could (A : cw_A) {n m : Nat} (hA : cw_IA n m A) (k : Int32) (hc : 0 ≤ k ∧ k ≤ 1) : gw_Ok yX6_could cX6_could 2 (some .int) sC 12 [.ref 252, .int k] (fun w => cw_RC A w) (fun _ vr w1 => vr = some (.int (cw_most A.1)) ∧ cw_RC (A) w1) := by
  refine gw_of (by decide) (Nat.le_of_ble_eq_true rfl) ?_
  intro X w h C F
  have hw := h
  have e := hw.eq
  have hI := hA.1
  have hIt := cw_I_cg hI e
  have h6 := hI.m.2
  refine g_iload_n C rfl dX6_could_0 ?_
  have hsw_1 : (¬ k.toInt = 0 ∧ ¬ k.toInt = 1) ∨ k.toInt = 0 ∨ k.toInt = 1 := by omega
  rcases hsw_1 with hsw_1 | hsw_1 | hsw_1
  · refine g_lookup (off := 51) (tgt := 52) C (by decide) (by simp [Op.lookupswitch.offset, hsw_1]; try omega) (by decide) dX6_could_1 ?_
    exact absurd hsw_1 (by have q1 := cw_le.mp hc.1; have q2 := cw_le.mp hc.2; have z0 : (0 : Int32).toInt = 0 := rfl; have z1 : (1 : Int32).toInt = 1 := rfl; omega)
  · obtain rfl : k = 0 := gw_toInt hsw_1
    refine g_lookup (off := 27) (tgt := 28) C (by decide) (by first | decide | rw [hsw_1]; decide) (by decide) dX6_could_1 ?_
    refine g_aload_n C rfl dX6_could_28 ?_
    refine g_getr C fl_X6_44 rfl rfl dX6_could_29 ?_
    refine g_aload_n C rfl dX6_could_32 ?_
    refine g_getr C fl_X6_10 rfl rfl dX6_could_33 ?_
    refine g_callW C cw_emb_CMH (ok_X2_countByMoving hIt) my_X2_countByMoving vi_X6_263 (by decide) ⟨Nat.le_refl _, Nat.le_refl _⟩ rfl ((cw_emb_CMH.1 0 (by decide))) rfl (cw_wpMH w) (cw_wpMH_i) (cw_wpMH_o) (cw_w0MH w) (fun _ _ => rfl) (Nat.le_of_ble_eq_true rfl) dX6_could_36 rfl (cw_ho_MH w) (fun v_36 w_36 hp_36 => ?_)
    obtain ⟨rfl, hq36⟩ := hp_36
    refine g_iret C F dX6_could_39 ?_
    rw [cw_most_cg e h6]
    exact ⟨rfl, hw.mh hq36⟩
  · obtain rfl : k = 1 := gw_toInt hsw_1
    refine g_lookup (off := 39) (tgt := 40) C (by decide) (by first | decide | rw [hsw_1]; decide) (by decide) dX6_could_1 ?_
    refine g_aload_n C rfl dX6_could_40 ?_
    refine g_getr C fl_X6_44 rfl rfl dX6_could_41 ?_
    refine g_aload_n C rfl dX6_could_44 ?_
    refine g_getr C fl_X6_10 rfl rfl dX6_could_45 ?_
    refine g_callW C cw_emb_CMH (ok_X2_countBySets hIt) my_X2_countBySets vi_X6_266 (by decide) ⟨Nat.le_refl _, Nat.le_refl _⟩ rfl ((cw_emb_CMH.1 0 (by decide))) rfl (cw_wpMH w) (cw_wpMH_i) (cw_wpMH_o) (cw_w0MH w) (fun _ _ => rfl) (Nat.le_of_ble_eq_true rfl) dX6_could_48 rfl (cw_ho_MH w) (fun v_48 w_48 hp_48 => ?_)
    obtain ⟨rfl, hq48⟩ := hp_48
    refine g_iret C F dX6_could_51 ?_
    rw [cw_most_cg e h6]
    exact ⟨rfl, hw.mh (fun q _ _ => congrFun hq48 q)⟩

set_option maxHeartbeats 8000000 in
set_option maxRecDepth 100000 in
theorem thr_X6_could_1 (A : cw_A) {n m : Nat} (hA : cw_IA n m A) (k : Int32) (hc : ¬ (0 ≤ k ∧ k ≤ 1)) : gw_Thr yX6_could cX6_could 2 (some .int) sC 8 [.ref 252, .int k] (fun w => cw_RC A w) "java/lang/IllegalArgumentException" (fun w w1 => w1 = w) := by
  refine gw_ofT (by decide) (Nat.le_of_ble_eq_true rfl) ?_
  intro X w h C F
  have hw := h
  have e := hw.eq
  have hI := hA.1
  have hIt := cw_I_cg hI e
  have h6 := hI.m.2
  refine g_iload_n C rfl dX6_could_0 ?_
  have hsw_1 : (¬ k.toInt = 0 ∧ ¬ k.toInt = 1) ∨ k.toInt = 0 ∨ k.toInt = 1 := by omega
  rcases hsw_1 with hsw_1 | hsw_1 | hsw_1
  · refine g_lookup (off := 51) (tgt := 52) C (by decide) (by simp [Op.lookupswitch.offset, hsw_1]; try omega) (by decide) dX6_could_1 ?_
    exact g_throwW C F tw_IAE (List.mem_of_getElem? (i := 11) rfl) (by decide) (Nat.le_of_ble_eq_true rfl) dX6_could_52 dX6_could_55 dX6_could_56 dX6_could_59 dX6_could_62 (rfl)
  · obtain rfl : k = 0 := gw_toInt hsw_1
    refine g_lookup (off := 27) (tgt := 28) C (by decide) (by first | decide | rw [hsw_1]; decide) (by decide) dX6_could_1 ?_
    exact absurd (by decide) hc
  · obtain rfl : k = 1 := gw_toInt hsw_1
    refine g_lookup (off := 39) (tgt := 40) C (by decide) (by first | decide | rw [hsw_1]; decide) (by decide) dX6_could_1 ?_
    exact absurd (by decide) hc

set_option maxHeartbeats 8000000 in
set_option maxRecDepth 100000 in
theorem ok_X6_settleCopyBefore (A : cw_A) {n m : Nat} (hA : cw_IA n m A) (hB : cw_B n (m + 20)) (k : Nat) (hk : k < 20) : gw_Ok yX6_settleCopyBefore cX6_settleCopyBefore 3 none sC 6 [.ref 252, .int (nI k)] (fun w => cw_RC A w) (fun w vr w1 => vr = none ∧ (∀ q, ¬ (14 ≤ q ∧ q < 28) → w1 q = w q) ∧ cw_eq (ho (cw_hs 1 w1)) (cw_before A.1 k)) := by
  refine gw_of (by decide) (Nat.le_of_ble_eq_true rfl) ?_
  intro X w h C F
  have hw := h
  have e := hw.eq
  have hI := hA.1
  have hIt := cw_I_cg hI e
  have h6 := hI.m.2
  refine g_aload_n C rfl dX6_settleCopyBefore_0 ?_
  refine g_getr C fl_X6_16 rfl rfl dX6_settleCopyBefore_1 ?_
  refine g_aload_n C rfl dX6_settleCopyBefore_4 ?_
  refine g_getr C fl_X6_10 rfl rfl dX6_settleCopyBefore_5 ?_
  refine g_callW C (cw_emb_2 (1) (0) (by omega) (by omega) (by omega)) (ok_X1_copyFrom (cw_w0 1 0 w) (hw.sch hI)) my_X1_copyFrom vi_X6_284 (by decide) ⟨Nat.le_refl _, Nat.le_refl _⟩ rfl (((cw_emb_2 (1) (0) (by omega) (by omega) (by omega)).1 0 (by decide))) rfl (cw_wp2 (1) (0) w) (cw_wp2_i (by omega)) (cw_wp2_o) (cw_w0 (1) (0) w) (fun _ _ => rfl) (Nat.le_of_ble_eq_true rfl) dX6_settleCopyBefore_8 rfl (rfl) (fun v_8 w_8 hp_8 => ?_)
  obtain ⟨rfl, hq8, hc8⟩ := hp_8
  obtain ⟨k1, k2⟩ := cw_copied (h := 1) (g := 0) (by omega) hq8 hc8
  refine g_iconst (v := 0) C (by decide) dX6_settleCopyBefore_11 ?_
  refine g_istore_n C (by decide) dX6_settleCopyBefore_12 ?_
  refine g_sub rfl (g_for (α := Unit) (k) (fun i9 x => [(0, .ref 252), (1, .int (nI k)), (2, .int (nI i9))]) (fun i9 x w1 => (∀ q, ¬ (14 ≤ q ∧ q < 28) → w1 q = w q) ∧ cw_eq (ho (cw_hs 1 w1)) (cw_before A.1 i9)) 0 () _ (Nat.zero_le _) (⟨fun q hq => k2 q (by omega), by rw [k1]; exact e⟩) (fun i9 x w1 hi1 hR1 ih1 => ?_) (fun x w1 hR1 => ?_))
  · obtain ⟨g1, g2⟩ := hR1
    obtain ⟨w9, ew9⟩ : ∃ z, z = w1 := ⟨_, rfl⟩
    rw [← ew9] at g1 g2 ⊢
    have hI9 := (cw_before_cg hI hB rfl i9 (by omega)).2
    refine g_iload_n C rfl dX6_settleCopyBefore_13 ?_
    refine g_iload_n C rfl dX6_settleCopyBefore_14 ?_
    refine g_cmp_ge (tgt := 33) C (by decide) dX6_settleCopyBefore_15 (fun c_15 => absurd c_15 (nI_ge hi1 (by omega))) (fun c_15 => ?_)
    refine g_aload_n C rfl dX6_settleCopyBefore_18 ?_
    refine g_getr C fl_X6_16 rfl rfl dX6_settleCopyBefore_19 ?_
    refine g_iload_n C rfl dX6_settleCopyBefore_22 ?_
    refine g_callW C (cw_emb_h 1 (by decide)) (ok_X1_settleWeek (nI i9) i9 (by omega) rfl (cw_I_cg hI9 g2) (cw_B_le hB (by omega))) my_X1_settleWeek vi_X6_330 (by decide) ⟨Nat.le_refl _, Nat.le_refl _⟩ rfl (((cw_emb_h 1 (by decide)).1 0 (by decide))) rfl (cw_wp (14 * 1) 14 w9) (cw_wp_i) (cw_wp_o) (cw_hs 1 w9) (fun _ _ => rfl) (Nat.le_of_ble_eq_true rfl) dX6_settleCopyBefore_23 rfl (rfl) (fun v_23 w_23 hp_23 => ?_)
    obtain ⟨rfl, hsw23⟩ := hp_23
    refine g_pop C rfl dX6_settleCopyBefore_26 ?_
    refine g_iinc (v := nI (i9 + 1)) C rfl (nI_1 i9) (by decide) dX6_settleCopyBefore_27 ?_
    refine g_goto (tgt := 13) C (by decide) dX6_settleCopyBefore_30 ?_
    exact g_sub rfl (ih1 () _ ⟨fun q hq => by rw [cw_wp_out _ _ (by omega)]; exact g1 q hq, by
      rw [cw_hs_wp, hsw23]
      have s1 : cw_before A.1 (i9 + 1) = cw_settle1 (cw_before A.1 i9) i9 := by unfold cw_before; exact cw_fold0 (fun i x => cw_settle1 x i) i9 A.1
      rw [s1]
      exact cw_settle1_cg hI9 g2 (by omega)⟩)
  obtain ⟨g1, g2⟩ := hR1
  obtain ⟨w9, ew9⟩ : ∃ z, z = w1 := ⟨_, rfl⟩
  rw [← ew9] at g1 g2 ⊢
  refine g_iload_n C rfl dX6_settleCopyBefore_13 ?_
  refine g_iload_n C rfl dX6_settleCopyBefore_14 ?_
  refine g_cmp_ge (tgt := 33) C (by decide) dX6_settleCopyBefore_15 (fun c_15 => ?_) (fun c_15 => absurd (nI_le (Nat.le_refl _) (by omega)) c_15)
  refine g_vret C F dX6_settleCopyBefore_33 ?_
  exact ⟨rfl, g1, g2⟩

set_option maxHeartbeats 8000000 in
set_option maxRecDepth 100000 in
theorem ok_X6_winner (A : cw_A) {n m : Nat} (hA : cw_IA n m A) (hB : cw_B n (m + 20)) (k : Int32) (hc : cw_isW k) : gw_Ok yX6_winner cX6_winner 2 (some .int) sC 8 [.ref 252, .int k] (fun w => cw_RC A w) (fun _ vr w1 => vr = some (.int (cw_wins A.1 (cw_x k))) ∧ cw_RC (A) w1) := by
  refine gw_of (by decide) (Nat.le_of_ble_eq_true rfl) ?_
  intro X w h C F
  have hw := h
  have e := hw.eq
  have hI := hA.1
  have hIt := cw_I_cg hI e
  have h6 := hI.m.2
  obtain ⟨i, rfl, hi⟩ := cw_isW_ix hc
  have ei : cw_x (nI i) = i := cw_xn (by omega)
  have hIb := (cw_before_cg hI hB rfl i (by omega)).2
  refine g_aload_n C rfl dX6_winner_0 ?_
  refine g_iload_n C rfl dX6_winner_1 ?_
  refine g_call C (ok_X6_needWeek A hA (nI i) hc) my_X6_needWeek vi_X6_139 (by decide) ⟨Nat.le_refl _, Nat.le_refl _⟩ rfl rfl rfl (Nat.le_of_ble_eq_true rfl) dX6_winner_2 rfl (h) (fun v_2 w_2 hp_2 => ?_)
  obtain ⟨rfl, hw_2⟩ := hp_2
  have hw_2 := hw_2.symm; subst hw_2
  refine g_aload_n C rfl dX6_winner_5 ?_
  refine g_iload_n C rfl dX6_winner_6 ?_
  refine g_call C (ok_X6_settleCopyBefore A hA hB i hi) my_X6_settleCopyBefore vi_X6_271 (by decide) ⟨Nat.le_refl _, Nat.le_refl _⟩ rfl rfl rfl (Nat.le_of_ble_eq_true rfl) dX6_winner_7 rfl (h) (fun v_7 w_7 hp_7 => ?_)
  obtain ⟨rfl, hq7, he7⟩ := hp_7
  refine g_aload_n C rfl dX6_winner_10 ?_
  refine g_getr C fl_X6_16 rfl rfl dX6_winner_11 ?_
  refine g_iload_n C rfl dX6_winner_14 ?_
  refine g_callW C (cw_emb_h 1 (by decide)) (ok_X1_bestBidder (nI i) i hi rfl (cw_I_cg hIb he7) (cw_B_le hB (by omega))) my_X1_bestBidder vi_X6_274 (by decide) ⟨Nat.le_refl _, Nat.le_refl _⟩ rfl (((cw_emb_h 1 (by decide)).1 0 (by decide))) rfl (cw_wp (14 * 1) 14 w_7) (cw_wp_i) (cw_wp_o) (cw_hs 1 w_7) (fun _ _ => rfl) (Nat.le_of_ble_eq_true rfl) dX6_winner_15 rfl (rfl) (fun v_15 w_15 hp_15 => ?_)
  obtain ⟨rfl, hw_15⟩ := hp_15
  have hw_15 := hw_15.symm; subst hw_15
  rw [cw_wp_hs]
  rw [cw_best_cg he7 hIb.m.2 hi]
  refine g_iret C F dX6_winner_18 ?_
  rw [ei]
  exact ⟨rfl, hw.cg (fun q hq => hq7 q (by omega)) (congrFun (hq7 257 (by omega)) 1)⟩

set_option maxHeartbeats 8000000 in
set_option maxRecDepth 100000 in
theorem thr_X6_winner_1 (A : cw_A) {n m : Nat} (hA : cw_IA n m A) (k : Int32) (hc : ¬ cw_isW k) : gw_Thr yX6_winner cX6_winner 2 (some .int) sC 8 [.ref 252, .int k] (fun w => cw_RC A w) "java/lang/IndexOutOfBoundsException" (fun w w1 => w1 = w) := by
  refine gw_ofT (by decide) (Nat.le_of_ble_eq_true rfl) ?_
  intro X w h C F
  have hw := h
  have e := hw.eq
  have hI := hA.1
  have hIt := cw_I_cg hI e
  have h6 := hI.m.2
  refine g_aload_n C rfl dX6_winner_0 ?_
  refine g_iload_n C rfl dX6_winner_1 ?_
  exact g_callT C F (gw_emb_id sC) (thr_X6_needWeek A hA k hc) my_X6_needWeek vi_X6_139 (by decide) rfl (rfl) rfl ((fun w1 => w1)) (fun _ _ _ => rfl) (fun w1 j hj h => absurd rfl (h j hj)) (w) (fun _ _ => rfl) (Nat.le_of_ble_eq_true rfl) dX6_winner_2 rfl (h) (fun w1 hw => hw)

theorem cw_before_no {n m : Nat} {u : cw_s} (hI : cw_I n m u) (hB : cw_B n (m + 20)) : ∀ i, i ≤ 20 → cw_no (cw_before u i) = cw_no u := by
  intro i
  induction i with
  | zero => intro _; rfl
  | succ i ih =>
    intro hi
    have hIi := (cw_before_cg hI hB rfl i (by omega)).2
    have s1 : cw_before u (i + 1) = cw_settle1 (cw_before u i) i := by unfold cw_before; exact cw_fold0 (fun i x => cw_settle1 x i) i u
    rw [s1, ← ih (by omega)]
    apply cw_no_eq
    unfold cw_settle1
    by_cases z : cw_best (cw_before u i) i = -1
    · rw [cw_it z]
    · rw [cw_ie z]
      unfold cw_won cw_spends
      simp only []
      rw [cw_upn _ _ (by omega), cw_upn _ _ (by omega), cw_upn _ _ (by omega), cw_upn _ _ (by omega)]

set_option maxHeartbeats 8000000 in
set_option maxRecDepth 100000 in
theorem ok_X6_leastBid (A : cw_A) {n m : Nat} (hA : cw_IA n m A) (hB : cw_B n (m + 20)) (o k : Int32) (hc : cw_th A.1 o k) : gw_Ok yX6_leastBid cX6_leastBid 4 (some .int) sC 9 [.ref 252, .int o, .int k] (fun w => cw_RC A w) (fun _ vr w1 => vr = some (.int (cw_least A.1 (cw_x o) (cw_x k))) ∧ cw_RC A w1) := by
  refine gw_of (by decide) (Nat.le_of_ble_eq_true rfl) ?_
  intro X w h C F
  have hw := h
  have e := hw.eq
  have hI := hA.1
  have hIt := cw_I_cg hI e
  have h6 := hI.m.2
  obtain ⟨hj, hi, eo, ek⟩ := cw_thx hI hc
  have hj6 : cw_x o < 6 := by omega
  obtain ⟨j, hje⟩ : ∃ j, j = cw_x o := ⟨_, rfl⟩
  obtain ⟨i, hie⟩ : ∃ i, i = cw_x k := ⟨_, rfl⟩
  rw [← hje] at hj hj6 eo
  rw [← hie] at hi ek
  have hIb := (cw_before_cg hI hB rfl i (by omega)).2
  have hlq := cw_least_q hI hB hj6 hi
  obtain ⟨b, hbe⟩ : ∃ b, b = cw_before A.1 i := ⟨_, rfl⟩
  rw [← hbe] at hIb hlq
  have hjb : j < cw_no b := by rw [hbe, cw_before_no hI hB i (by omega)]; exact hj
  obtain ⟨Q, hQ⟩ : ∃ Q : Nat → Prop, Q = fun z => cw_best (upd b (85 + 20 * j + i) (nI z)) i = nI j := ⟨_, rfl⟩
  refine g_aload_n C rfl dX6_leastBid_0 ?_
  refine g_iload_n C rfl dX6_leastBid_1 ?_
  refine g_call C (ok_X6_needOwner A hA o hc.1) my_X6_needOwner vi_X6_115 (by decide) ⟨Nat.le_refl _, Nat.le_refl _⟩ rfl rfl rfl (Nat.le_of_ble_eq_true rfl) dX6_leastBid_2 rfl (h) (fun v_2 w_2 hp_2 => ?_)
  obtain ⟨rfl, hw_2⟩ := hp_2
  have hw_2 := hw_2.symm; subst hw_2
  refine g_aload_n C rfl dX6_leastBid_5 ?_
  refine g_iload_n C rfl dX6_leastBid_6 ?_
  refine g_call C (ok_X6_needWeek A hA k hc.2) my_X6_needWeek vi_X6_139 (by decide) ⟨Nat.le_refl _, Nat.le_refl _⟩ rfl rfl rfl (Nat.le_of_ble_eq_true rfl) dX6_leastBid_7 rfl (h) (fun v_7 w_7 hp_7 => ?_)
  obtain ⟨rfl, hw_7⟩ := hp_7
  have hw_7 := hw_7.symm; subst hw_7
  refine g_aload_n C rfl dX6_leastBid_10 ?_
  refine g_iload_n C rfl dX6_leastBid_11 ?_
  refine g_call C ((ek ▸ ok_X6_settleCopyBefore A hA hB i hi)) my_X6_settleCopyBefore vi_X6_271 (by decide) ⟨Nat.le_refl _, Nat.le_refl _⟩ rfl rfl rfl (Nat.le_of_ble_eq_true rfl) dX6_leastBid_12 rfl (h) (fun v_12 w_12 hp_12 => ?_)
  obtain ⟨rfl, hq12, he12⟩ := hp_12
  rw [← hbe] at he12
  refine g_iconst (v := 0) C (by decide) dX6_leastBid_15 ?_
  refine g_istore_n C (by decide) dX6_leastBid_16 ?_
  refine g_sub rfl (g_for (α := Unit) 21 (fun i9 x => [(0, .ref 252), (1, .int o), (2, .int k), (3, .int (nI i9))]) (fun i9 x w1 => (∀ q, ¬ (14 ≤ q ∧ q < 28) → w1 q = w_12 q) ∧ (∃ x9, (x9 = -1 ∨ cw_r 0 20 x9) ∧ cw_eq (ho (cw_hs 1 w1)) (upd b (85 + 20 * j + i) x9)) ∧ ∀ z, z < i9 → cw_open b i → ¬ Q z) 0 () _ (Nat.zero_le _) (⟨fun _ _ => rfl, ⟨b (85 + 20 * j + i), hIb.bid j i hj6 hi, by rw [cw_upself]; exact he12⟩, fun z hz => absurd hz (Nat.not_lt_zero _)⟩) (fun i9 x w1 hi1 hR1 ih1 => ?_) (fun x w1 hR1 => ?_))
  · obtain ⟨g1, ⟨x9, hx9, g2⟩, g3⟩ := hR1
    obtain ⟨w9, ew9⟩ : ∃ z, z = w1 := ⟨_, rfl⟩
    rw [← ew9] at g1 g2 ⊢
    have hI9 := cw_I_bid hIb hjb hi hx9
    refine g_iload_n C rfl dX6_leastBid_17 ?_
    refine g_bipush (v := 20) C (by decide) dX6_leastBid_18 ?_
    refine g_cmp_gt (tgt := 58) C (by decide) dX6_leastBid_20 (fun c_20 => absurd c_20 (nI_nlt (a := 20) (by omega) (by omega))) (fun c_20 => ?_)
    refine g_aload_n C rfl dX6_leastBid_23 ?_
    refine g_getr C fl_X6_16 rfl rfl dX6_leastBid_24 ?_
    refine g_iload_n C rfl dX6_leastBid_27 ?_
    refine g_iload_n C rfl dX6_leastBid_28 ?_
    refine g_iload_n C rfl dX6_leastBid_29 ?_
    refine g_callW C (cw_emb_h 1 (by decide)) (ok_X1_placeBid o k (nI i9) (cw_I_cg hI9 g2)) my_X1_placeBid vi_X6_215 (by decide) ⟨Nat.le_refl _, Nat.le_refl _⟩ rfl (((cw_emb_h 1 (by decide)).1 0 (by decide))) rfl (cw_wp (14 * 1) 14 w9) (cw_wp_i) (cw_wp_o) (cw_hs 1 w9) (fun _ _ => rfl) (Nat.le_of_ble_eq_true rfl) dX6_leastBid_30 rfl (rfl) (fun v_30 w_30 hp_30 => ?_)
    obtain ⟨rfl, h_30⟩ := hp_30
    have hopq : cw_open (upd b (85 + 20 * j + i) x9) i = cw_open b i := by unfold cw_open; rw [cw_upn _ _ (by omega), cw_upn _ _ (by omega)]
    have hopt : cw_open (ho (cw_hs 1 w9)) (cw_x k) = cw_open b i := by rw [← hie]; exact (cw_open_cg g2 hi).trans hopq
    have htht : cw_th (ho (cw_hs 1 w9)) o k := by
      rw [cw_th_cg g2]
      refine ⟨?_, hc.2⟩
      have z0 : (upd b (85 + 20 * j + i) x9) 0 = A.1 0 := by
        rw [cw_upn _ _ (by omega), hIb.m.1, hI.m.1]
        congr 1
        rw [hbe]; exact cw_before_no hI hB i (by omega)
      have h1 := hc.1
      unfold cw_isO at h1 ⊢
      rw [z0]; exact h1
    have hrng : (0 : Int32) ≤ nI i9 ∧ nI i9 ≤ 20 := ⟨Int32.not_lt.mp (nI_pos (by omega)), nI_le (b := 20) (by omega) (by decide)⟩
    refine g_bipush (v := (-2)) C (by decide) dX6_leastBid_33 ?_
    refine g_cmp_eq (tgt := 52) C (by decide) dX6_leastBid_35 (fun c_35 => ?_) (fun c_35 => ?_)
    · have hnop : ¬ cw_open (ho (cw_hs 1 w9)) (cw_x k) := fun z => by
        rw [cw_oBid, cw_it ⟨⟨htht, hrng⟩, z⟩] at c_35
        have r6 := cw_bidsFor_r (upd (ho (cw_hs 1 w9)) (85 + 20 * cw_x o + cw_x k) (nI i9)) (cw_x k) (by rw [cw_no_upd _ _ (by omega)]; exact (cw_I_cg hI9 g2).m.2)
        have n9 := cw_r_9 r6 (by decide)
        rw [cw_re_ok n9] at c_35
        exact cw_r_2 r6 (by decide) c_35
      have hnopb : ¬ cw_open b i := by rw [← hopt]; exact hnop
      refine g_iinc (v := nI (i9 + 1)) C rfl (nI_1 i9) (by decide) dX6_leastBid_52 ?_
      refine g_goto (tgt := 17) C (by decide) dX6_leastBid_55 ?_
      exact g_sub rfl (ih1 () _ ⟨fun q hq => by rw [cw_wp_out _ _ (by omega)]; exact g1 q hq, ⟨x9, hx9, by
        rw [cw_hs_wp, h_30, cw_oBid, cw_ie (fun z => hnop z.2)]; exact g2⟩, fun z hz hop => absurd hop hnopb⟩)
    · have hop : cw_open (ho (cw_hs 1 w9)) (cw_x k) := Classical.byContradiction (fun z => by
        rw [cw_oBid, cw_ie (fun y => z y.2)] at c_35
        exact c_35 rfl)
      have hopb : cw_open b i := by rw [← hopt]; exact hop
      rw [cw_oBid, cw_it ⟨⟨htht, hrng⟩, hop⟩, ← hje, ← hie] at h_30
      have e30 : cw_eq (ho w_30) (upd b (85 + 20 * j + i) (nI i9)) := by
        rw [h_30]
        have := cw_up g2 (p := (85 + 20 * j + i)) (nI i9) (by omega) (by omega)
        rw [cw_upd2] at this
        exact this
      have hI30 := cw_I_bid hIb hjb hi (Or.inr ⟨i9, Nat.zero_le _, by omega, rfl⟩ : nI i9 = -1 ∨ cw_r 0 20 (nI i9))
      refine g_aload_n C rfl dX6_leastBid_38 ?_
      refine g_getr C fl_X6_16 rfl rfl dX6_leastBid_39 ?_
      refine g_iload_n C rfl dX6_leastBid_42 ?_
      refine g_callW C (cw_emb_h 1 (by decide)) (ok_X1_bestBidder k i hi ek (cw_I_cg hI30 (by rw [cw_hs_wp]; exact e30)) (cw_B_le hB (by omega))) my_X1_bestBidder vi_X6_274 (by decide) ⟨Nat.le_refl _, Nat.le_refl _⟩ rfl (((cw_emb_h 1 (by decide)).1 0 (by decide))) rfl (cw_wp (14 * 1) 14 (cw_wp (14 * 1) 14 w9 w_30)) (cw_wp_i) (cw_wp_o) (cw_hs 1 (cw_wp (14 * 1) 14 w9 w_30)) (fun _ _ => rfl) (Nat.le_of_ble_eq_true rfl) dX6_leastBid_43 rfl (rfl) (fun v_43 w_43 hp_43 => ?_)
      obtain ⟨rfl, hw_43⟩ := hp_43
      have hw_43 := hw_43.symm; subst hw_43
      rw [cw_wp_hs]
      refine g_top (show _ = cw_best (upd b (85 + 20 * j + i) (nI i9)) i from cw_best_cg (by rw [cw_hs_wp]; exact e30) hI30.m.2 hi) ?_
      refine g_iload_n C rfl dX6_leastBid_46 ?_
      refine g_cmp_ne (tgt := 52) C (by decide) dX6_leastBid_47 (fun c_47 => ?_) (fun c_47 => ?_)
      · refine g_iinc (v := nI (i9 + 1)) C rfl (nI_1 i9) (by decide) dX6_leastBid_52 ?_
        refine g_goto (tgt := 17) C (by decide) dX6_leastBid_55 ?_
        exact g_sub rfl (ih1 () _ ⟨fun q hq => by rw [cw_wp_out _ _ (by omega)]; exact g1 q hq, ⟨nI i9, Or.inr ⟨i9, Nat.zero_le _, by omega, rfl⟩, by rw [cw_hs_wp]; exact e30⟩, fun z hz hop => by
          rcases Nat.lt_or_ge z i9 with y | y
          · exact g3 z y hop
          · obtain rfl : z = i9 := by omega
            rw [hQ]
            intro y
            exact c_47 (by rw [eo, ← y])⟩)
      · have gg : ∀ q, ¬ (14 ≤ q ∧ q < 28) → cw_wp (14 * 1) 14 w9 w_30 q = w q := fun q hq => by rw [cw_wp_out _ _ (by omega), g1 q hq]; exact hq12 q hq
        refine g_iload_n C rfl dX6_leastBid_50 ?_
        refine g_iret C F dX6_leastBid_51 ?_
        have hq9 : Q i9 := by rw [hQ]; exact c_47.trans eo
        rw [← hje, ← hie, hlq, cw_it hopb]
        rcases cw_fold_least Q with ⟨d, d1, d2, d3, d4⟩ | ⟨d1, -⟩
        · have hd : d = i9 := by
            rcases Nat.lt_trichotomy d i9 with y | y | y
            · exact absurd d2 (g3 d y hopb)
            · exact y
            · exact absurd hq9 (d3 i9 y)
          rw [hQ] at d4
          rw [show cw_fold (fun i_1 x => cw_if (cw_best (upd b (85 + 20 * j + i) (nI (20 - i_1))) i = nI j) (nI (20 - i_1)) x) 0 21 (-1) = nI d from d4, hd]
          exact ⟨rfl, hw.cg (fun q hq => gg q (by omega)) (congrFun (gg 257 (by omega)) 1)⟩
        · exact absurd hq9 (d1 i9 (by omega))
  obtain ⟨g1, ⟨x9, hx9, g2⟩, g3⟩ := hR1
  obtain ⟨w9, ew9⟩ : ∃ z, z = w1 := ⟨_, rfl⟩
  rw [← ew9] at g1 g2 ⊢
  have hI9 := cw_I_bid hIb hjb hi hx9
  refine g_iload_n C rfl dX6_leastBid_17 ?_
  refine g_bipush (v := 20) C (by decide) dX6_leastBid_18 ?_
  refine g_cmp_gt (tgt := 58) C (by decide) dX6_leastBid_20 (fun c_20 => ?_) (fun c_20 => absurd (by decide) c_20)
  refine g_iconst (v := (-1)) C (by decide) dX6_leastBid_58 ?_
  refine g_iret C F dX6_leastBid_59 ?_
  rw [← hje, ← hie, hlq]
  have gg : ∀ q, ¬ (14 ≤ q ∧ q < 28) → w9 q = w q := fun q hq => (g1 q hq).trans (hq12 q hq)
  by_cases hopb : cw_open b i
  · rw [cw_it hopb]
    rcases cw_fold_least Q with ⟨d, d1, d2, d3, d4⟩ | ⟨d1, d4⟩
    · exact absurd d2 (g3 d (by omega) hopb)
    · rw [hQ] at d4
      rw [show cw_fold (fun i_1 x => cw_if (cw_best (upd b (85 + 20 * j + i) (nI (20 - i_1))) i = nI j) (nI (20 - i_1)) x) 0 21 (-1) = -1 from d4]
      exact ⟨rfl, hw.cg (fun q hq => gg q (by omega)) (congrFun (gg 257 (by omega)) 1)⟩
  · rw [cw_ie hopb]
    exact ⟨rfl, hw.cg (fun q hq => gg q (by omega)) (congrFun (gg 257 (by omega)) 1)⟩

set_option maxHeartbeats 8000000 in
set_option maxRecDepth 100000 in
theorem thr_X6_leastBid_o (A : cw_A) {n m : Nat} (hA : cw_IA n m A) (o k : Int32) (hc : ¬ cw_isO A.1 o) : gw_Thr yX6_leastBid cX6_leastBid 4 (some .int) sC 8 [.ref 252, .int o, .int k] (fun w => cw_RC A w) "java/lang/IndexOutOfBoundsException" (fun w w1 => w1 = w) := by
  refine gw_ofT (by decide) (Nat.le_of_ble_eq_true rfl) ?_
  intro X w h C F
  have hw := h
  have e := hw.eq
  have hI := hA.1
  have hIt := cw_I_cg hI e
  have h6 := hI.m.2
  refine g_aload_n C rfl dX6_leastBid_0 ?_
  refine g_iload_n C rfl dX6_leastBid_1 ?_
  exact g_callT C F (gw_emb_id sC) (thr_X6_needOwner A hA o hc) my_X6_needOwner vi_X6_115 (by decide) rfl (rfl) rfl ((fun w1 => w1)) (fun _ _ _ => rfl) (fun w1 j hj h => absurd rfl (h j hj)) (w) (fun _ _ => rfl) (Nat.le_of_ble_eq_true rfl) dX6_leastBid_2 rfl (h) (fun w1 hw => hw)

set_option maxHeartbeats 8000000 in
set_option maxRecDepth 100000 in
theorem thr_X6_leastBid_w (A : cw_A) {n m : Nat} (hA : cw_IA n m A) (o k : Int32) (hc : cw_isO A.1 o) (hk : ¬ cw_isW k) : gw_Thr yX6_leastBid cX6_leastBid 4 (some .int) sC 8 [.ref 252, .int o, .int k] (fun w => cw_RC A w) "java/lang/IndexOutOfBoundsException" (fun w w1 => w1 = w) := by
  refine gw_ofT (by decide) (Nat.le_of_ble_eq_true rfl) ?_
  intro X w h C F
  have hw := h
  have e := hw.eq
  have hI := hA.1
  have hIt := cw_I_cg hI e
  have h6 := hI.m.2
  refine g_aload_n C rfl dX6_leastBid_0 ?_
  refine g_iload_n C rfl dX6_leastBid_1 ?_
  refine g_call C (ok_X6_needOwner A hA o hc) my_X6_needOwner vi_X6_115 (by decide) ⟨Nat.zero_le _, Nat.zero_le _⟩ rfl rfl rfl (Nat.le_of_ble_eq_true rfl) dX6_leastBid_2 rfl (h) (fun v_2 w_2 hp_2 => ?_)
  obtain ⟨rfl, hw_2⟩ := hp_2
  have hw_2 := hw_2.symm; subst hw_2
  refine g_aload_n C rfl dX6_leastBid_5 ?_
  refine g_iload_n C rfl dX6_leastBid_6 ?_
  exact g_callT C F (gw_emb_id sC) (thr_X6_needWeek A hA k hk) my_X6_needWeek vi_X6_139 (by decide) rfl (rfl) rfl ((fun w1 => w1)) (fun _ _ _ => rfl) (fun w1 j hj h => absurd rfl (h j hj)) (w) (fun _ _ => rfl) (Nat.le_of_ble_eq_true rfl) dX6_leastBid_7 rfl (h) (fun w1 hw => hw)

theorem thr_X6_leastBid_1 (A : cw_A) {n m : Nat} (hA : cw_IA n m A) (o k : Int32) (hc : ¬ cw_th A.1 o k) : gw_Thr yX6_leastBid cX6_leastBid 4 (some .int) sC 8 [.ref 252, .int o, .int k] (fun w => cw_RC A w) "java/lang/IndexOutOfBoundsException" (fun w w1 => w1 = w) := by
  by_cases h1 : cw_isO A.1 o
  · exact thr_X6_leastBid_w A hA o k h1 (fun h2 => hc ⟨h1, h2⟩)
  · exact thr_X6_leastBid_o A hA o k h1
