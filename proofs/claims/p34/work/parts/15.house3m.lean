/-! FOR THE HOUSE'S METHODS -/
def cw_isK (t : cw_s) (k : Int32) : Prop := 0 ≤ k ∧ k ≤ t 205 - 1
theorem cw_I.offn {n m : Nat} {t : cw_s} (h : cw_I n m t) : ∃ q, q ≤ 8 ∧ t 205 = nI q ∧ (t 205).toInt = (q : Int) := by
  obtain ⟨q, h1, h2, -⟩ := h.off; exact ⟨q, h1, h2, by rw [h2]; exact nI_toInt (by omega)⟩
theorem cw_isK_lt {n m : Nat} {t : cw_s} (h : cw_I n m t) {k : Int32} : cw_isK t k ↔ 0 ≤ k ∧ k < t 205 := by
  obtain ⟨q, h1, h2, h3⟩ := h.offn
  have e1 : (t 205 - 1).toInt = (q : Int) - 1 := by rw [h2]; exact pk_sub_toInt (a := q) (b := 1) (by omega) (by decide)
  unfold cw_isK
  rw [cw_le, cw_le, cw_lt, e1, h3]
  constructor <;> rintro ⟨a, b⟩ <;> exact ⟨a, by omega⟩
theorem cw_spends_hol (t : cw_s) (j k : Nat) (p x : Int32) (hj : j < 6) (hk : k < 20) : cw_spends (upd t (25 + 3 * k + 2) x) j p = upd (cw_spends t j p) (25 + 3 * k + 2) x := by
  unfold cw_spends
  simp only []
  rw [cw_updc _ _ _ (show 25 + 3 * k + 2 ≠ 1 + 4 * j + 1 by omega), cw_updc _ _ _ (show 25 + 3 * k + 2 ≠ 235 by omega)]
  rw [cw_upn t x (show 1 + 4 * j + 1 ≠ 25 + 3 * k + 2 by omega), cw_upn _ x (show 235 ≠ 25 + 3 * k + 2 by omega)]
theorem cw_comes_eq {n m : Nat} {t : cw_s} (h : cw_I n m t) (h6 : cw_no t < 6) (a : Int32) : cw_comes t (cw_no t) a = cw_gives (upd (upd t 0 (t 0 + 1)) (1 + 4 * cw_no t + 0) a) (cw_no t) := by
  obtain ⟨-, z1, z2, z3⟩ := h.nil (cw_no t) (Nat.le_refl _) h6
  unfold cw_comes
  simp only []
  rw [cw_updo (upd (upd t 0 (t 0 + 1)) (1 + 4 * cw_no t + 0) a) (1 + 4 * cw_no t + 1) 0 (by rw [cw_upn _ _ (by omega), cw_upn _ _ (by omega)]; exact z1)]
  rw [cw_updo (upd (upd t 0 (t 0 + 1)) (1 + 4 * cw_no t + 0) a) (1 + 4 * cw_no t + 2) 0 (by rw [cw_upn _ _ (by omega), cw_upn _ _ (by omega)]; exact z2)]
  rw [cw_updo (upd (upd t 0 (t 0 + 1)) (1 + 4 * cw_no t + 0) a) (1 + 4 * cw_no t + 3) 0 (by rw [cw_upn _ _ (by omega), cw_upn _ _ (by omega)]; exact z3)]
theorem cw_releases_eq (t : cw_s) (j k : Nat) (hj : j < 6) (hk : k < 20) : cw_releases t j k = (let p := t (25 + 3 * k + 0) / 2; let s0 := upd t (25 + 3 * k + 2) (-1); let s1 := upd s0 (1 + 4 * j + 1) (s0 (1 + 4 * j + 1) + p); upd s1 236 (s1 236 + p)) := by
  unfold cw_releases
  simp only []
  rw [cw_updc _ _ _ (show 236 ≠ 25 + 3 * k + 2 by omega), cw_updc _ _ _ (show 1 + 4 * j + 1 ≠ 25 + 3 * k + 2 by omega)]
  rw [cw_upn t (-1) (show 1 + 4 * j + 1 ≠ 25 + 3 * k + 2 by omega)]
  rw [cw_updc t _ _ (show 25 + 3 * k + 2 ≠ 1 + 4 * j + 1 by omega), cw_upn _ (-1) (show 236 ≠ 25 + 3 * k + 2 by omega)]
theorem cw_schools_eq {t : cw_s} (h : ∀ k, k < 20 → cw_r 0 1 (t (25 + 3 * k + 1))) : cw_fold (fun k x => if t (25 + 3 * k + 1) = 0 then x else x + 1) 0 20 0 = cw_schools t := by
  unfold cw_schools
  refine cw_fold_congr 20 0 0 (fun j y _ h2 => ?_)
  show (if t (25 + 3 * j + 1) = 0 then y else y + 1) = y + t (25 + 3 * j + 1)
  obtain ⟨a, h3, h4, h5⟩ := h j (by omega)
  have h6 : a = 0 ∨ a = 1 := by omega
  rcases h6 with rfl | rfl
  · rw [h5]; exact (if_pos rfl).trans (Int32.add_zero y).symm
  · rw [h5]; exact if_neg (by decide)
theorem cw_hind_v (t : cw_s) (j k : Nat) : cw_hind t j k = 0 ∨ cw_hind t j k = 1 ∨ cw_hind t j k = 2 ∨ cw_hind t j k = 3 ∨ cw_hind t j k = 4 := by
  unfold cw_hind; split
  · simp
  · split
    · simp
    · split
      · split <;> simp
      · simp
theorem cw_hind_9 (t : cw_s) (j k : Nat) : ¬ cw_hind t j k = -9 := by
  rcases cw_hind_v t j k with h | h | h | h | h <;> rw [h] <;> decide
/-- differences of small numbers -/
theorem cw_sub0 {a b : Int32} (h1 : -1000000000 ≤ a.toInt) (h2 : a.toInt ≤ 1000000000) (h3 : -1000000000 ≤ b.toInt) (h4 : b.toInt ≤ 1000000000) : (a - b).toInt = a.toInt - b.toInt := by
  rw [Int32.toInt_sub]
  exact Int.bmod_eq_of_le (by omega) (by omega)
theorem cw_better_iff {n m : Nat} {t : cw_s} (h : cw_I n m t) (hn : cw_B n m) {j i k : Nat} (hj : j < cw_no t) (hi : i < cw_no t) (hk : k < 20) : cw_better t j i k ↔ (t (85 + 20 * i + k) < t (85 + 20 * j + k) ∨ (t (85 + 20 * j + k) = t (85 + 20 * i + k) ∧ (t (1 + 4 * j + 2) < t (1 + 4 * i + 2) ∨ (t (1 + 4 * j + 2) = t (1 + 4 * i + 2) ∧ t (1 + 4 * i + 0) < t (1 + 4 * j + 0))))) := by
  have h6 := h.m.2
  have bb : ∀ q, q < 6 → -1 ≤ (t (85 + 20 * q + k)).toInt ∧ (t (85 + 20 * q + k)).toInt ≤ 20 := fun q hq => by
    rcases h.bid q k hq hk with e | e
    · rw [e]; decide
    · have := e.toInt (by decide); omega
  have ww : ∀ q, q < 6 → 0 ≤ (t (1 + 4 * q + 2)).toInt ∧ (t (1 + 4 * q + 2)).toInt ≤ 100000000 := fun q hq => by
    have := (h.won q hq).toInt (by have := hn.2; omega)
    have := hn.2; omega
  have ss : ∀ q, q < cw_no t → 0 ≤ (t (1 + 4 * q + 0)).toInt ∧ (t (1 + 4 * q + 0)).toInt ≤ 9 := fun q hq => by
    have := (h.sha q hq).toInt (by decide); omega
  have b1 := bb j (by omega); have b2 := bb i (by omega)
  have w1 := ww j (by omega); have w2 := ww i (by omega)
  have s1 := ss j hj; have s2 := ss i hi
  unfold cw_better
  simp only []
  have d1 := cw_sub0 (a := t (85 + 20 * j + k)) (b := t (85 + 20 * i + k)) (by omega) (by omega) (by omega) (by omega)
  have d2 := cw_sub0 (a := t (1 + 4 * i + 2)) (b := t (1 + 4 * j + 2)) (by omega) (by omega) (by omega) (by omega)
  have d3 := cw_sub0 (a := t (1 + 4 * j + 0)) (b := t (1 + 4 * i + 0)) (by omega) (by omega) (by omega) (by omega)
  have z : (0 : Int32).toInt = 0 := rfl
  simp only [cw_lt, cw_eqi, cw_le, z]
  split
  · next q1 =>
    rw [d1] at q1
    split
    · next q2 =>
      rw [d2] at q2
      rw [d3]; omega
    · next q2 =>
      rw [d2] at q2
      rw [d2]; omega
  · next q1 =>
    rw [d1] at q1
    rw [d1]; omega
theorem cw_canWin_no {n m : Nat} {t : cw_s} (h : cw_I n m t) {j k : Nat} (hj : j < 6) (hk : k < 20) (hc : cw_canWin t j k) : j < cw_no t := by
  rcases Nat.lt_or_ge j (cw_no t) with q | q
  · exact q
  · exact absurd (h.nob j k q hj hk) hc.1
theorem cw_best_cases {n m : Nat} {t : cw_s} (h : cw_I n m t) {k : Nat} (hk : k < 20) : cw_best t k = -1 ∨ ∃ j, j < cw_no t ∧ cw_best t k = nI j ∧ cw_canWin t j k ∧ cw_open t k := by
  have h6 := h.m.2
  unfold cw_best
  by_cases q : cw_open t k
  · rw [cw_it q]
    have := cw_fold_P (f := fun j x => cw_if (cw_canWin t j k ∧ (x = -1 ∨ cw_better t j (cw_x x) k)) (nI j) x) (fun i x => x = -1 ∨ ∃ j, j < cw_no t ∧ x = nI j ∧ cw_canWin t j k ∧ cw_open t k) (cw_no t) (-1) (Or.inl rfl) (fun j y hj hy => by
      show cw_if _ _ _ = -1 ∨ _
      by_cases c : cw_canWin t j k ∧ (y = -1 ∨ cw_better t j (cw_x y) k)
      · rw [cw_it c]; exact Or.inr ⟨j, hj, rfl, c.1, q⟩
      · rw [cw_ie c]; exact hy) (cw_no t) (Nat.le_refl _)
    exact this
  · rw [cw_ie q]; exact Or.inl rfl
theorem cw_I_won1 {n m : Nat} {t : cw_s} (h : cw_I n m t) (hn : cw_B n m) {j k : Nat} (hj : j < cw_no t) (hk : k < 20) (hc : cw_canWin t j k) : cw_I n (m + 1) (cw_won t k j) := by
  have h6 := h.m.2
  unfold cw_won
  have hc0 := (h.cos k hk).toInt (by decide)
  have hb0 : 0 ≤ (t (85 + 20 * j + k)).toInt ∧ (t (85 + 20 * j + k)).toInt ≤ 20 := by
    rcases h.bid j k (by omega) hk with e | e
    · exact absurd e hc.1
    · have := e.toInt (by decide); omega
  have e1 : (t (25 + 3 * k + 0) + t (85 + 20 * j + k)).toInt = (t (25 + 3 * k + 0)).toInt + (t (85 + 20 * j + k)).toInt := by
    rw [Int32.toInt_add]; exact Int.bmod_eq_of_le (by omega) (by omega)
  have g1 := (cw_I_spends h hn hj (p := t (25 + 3 * k + 0) + t (85 + 20 * j + k)) (by omega) hc.2.2).mono (Nat.le_refl n) (Nat.le_add_right m 1)
  have en := cw_no_spends t j (t (25 + 3 * k + 0) + t (85 + 20 * j + k)) (by omega)
  refine cw_I_hol (cw_I_won g1 (by rw [en]; exact hj) ?_) hk (Or.inr ⟨j, ?_, rfl⟩)
  · have : cw_spends t j (t (25 + 3 * k + 0) + t (85 + 20 * j + k)) (1 + 4 * j + 2) = t (1 + 4 * j + 2) := by
      unfold cw_spends; rw [cw_upn _ _ (by omega), cw_upn _ _ (by omega)]
    rw [this]
    exact cw_r_add (h.won j (by omega)) ⟨1, Nat.zero_le _, Nat.le_refl _, rfl⟩
  · rw [cw_no_eq (cw_upn _ _ (by omega)), en]; exact hj
theorem cw_I_settle1 {n m : Nat} {t : cw_s} (h : cw_I n m t) (hn : cw_B n m) {k : Nat} (hk : k < 20) : cw_I n (m + 1) (cw_settle1 t k) := by
  unfold cw_settle1
  rcases cw_best_cases h hk with e | ⟨j, hj, e, hc, -⟩
  · rw [cw_it e]; exact h.mono (Nat.le_refl _) (Nat.le_add_right m 1)
  · have h6 := h.m.2
    rw [cw_ie (by rw [e]; exact fun q => by have := congrArg Int32.toInt q; rw [nI_toInt (by omega)] at this; have z : (-1 : Int32).toInt = -1 := rfl; omega), e, cw_xn (by omega)]
    exact cw_I_won1 h hn hj hk hc
theorem cw_bidsFor_r (t : cw_s) (k : Nat) (h : cw_no t ≤ 6) : cw_r 0 6 (cw_bidsFor t k) := by
  unfold cw_bidsFor
  have := cw_fold_P (f := fun o x => if t (85 + 20 * o + k) = -1 then x else x + 1) (fun i x => cw_r 0 i x) (cw_no t) 0 ⟨0, Nat.le_refl _, Nat.le_refl _, rfl⟩ (fun j y _ hy => by
    show cw_r 0 (j + 1) (if t (85 + 20 * j + k) = -1 then y else y + 1)
    split
    · exact hy.mono (Nat.le_refl _) (Nat.le_succ j)
    · exact (cw_r_add hy ⟨1, Nat.le_refl _, Nat.le_refl _, rfl⟩).mono (Nat.zero_le _) (Nat.le_refl _)) (cw_no t) (Nat.le_refl _)
  exact this.mono (Nat.le_refl _) h
theorem cw_r_9 {u : Nat} {x : Int32} (h : cw_r 0 u x) (hu : u < 2147483648) : ¬ x = -9 := fun q => by
  have := (h.toInt hu).1; rw [q] at this; have z : (-9 : Int32).toInt = -9 := rfl; omega
theorem cw_half {x : Int32} (h : cw_r 1 9 x) : cw_r 0 4 (x / 2) := by
  obtain ⟨z, h1, h2, h3⟩ := h
  have h4 : z = 1 ∨ z = 2 ∨ z = 3 ∨ z = 4 ∨ z = 5 ∨ z = 6 ∨ z = 7 ∨ z = 8 ∨ z = 9 := by omega
  refine ⟨z / 2, by omega, by omega, ?_⟩
  rw [h3]
  rcases h4 with rfl | rfl | rfl | rfl | rfl | rfl | rfl | rfl | rfl <;> rfl
theorem cw_low_eq (t : cw_s) (o : Int32) (i : Nat) (hi : i < 20) (h : ∀ k, k < i → ¬ t (25 + 3 * k + 2) = o) (he : t (25 + 3 * i + 2) = o) : cw_low t o = nI i := by
  unfold cw_low
  rw [show (20 : Nat) = (19 - i) + (1 + i) by omega, cw_fold_app, cw_fold_app, Nat.zero_add]
  have e1 : ∀ y, cw_fold (fun k x => if t (25 + 3 * (19 - k) + 2) = o then nI (19 - k) else x) (19 - i) 1 y = nI i := fun y => by
    show (if t (25 + 3 * (19 - (19 - i)) + 2) = o then nI (19 - (19 - i)) else y) = nI i
    rw [show 19 - (19 - i) = i by omega, if_pos he]
  rw [e1]
  have e2 : ∀ n a, 19 - i + 1 ≤ a → a + n ≤ 20 → cw_fold (fun k x => if t (25 + 3 * (19 - k) + 2) = o then nI (19 - k) else x) a n (nI i) = nI i := by
    intro n
    induction n with
    | zero => intro a _ _; rfl
    | succ n ih =>
      intro a h1 h2
      show cw_fold _ (a + 1) n (if t (25 + 3 * (19 - a) + 2) = o then nI (19 - a) else nI i) = nI i
      rw [if_neg (h (19 - a) (by omega))]
      exact ih (a + 1) (by omega) (by omega)
  exact e2 i (19 - i + 1) (Nat.le_refl _) (by omega)
theorem cw_low_none (t : cw_s) (o : Int32) (h : ∀ k, k < 20 → ¬ t (25 + 3 * k + 2) = o) : cw_low t o = -1 := by
  unfold cw_low
  have := cw_fold_id (f := fun k x => if t (25 + 3 * (19 - k) + 2) = o then nI (19 - k) else x) 0 20 (by omega) (-1) (fun j _ h2 => if_neg (h (19 - j) (by omega)))
  exact this
theorem cw_noBids_at (t : cw_s) (k : Nat) : cw_noBids t k = if 85 ≤ k ∧ k < 205 then -1 else t k := by
  unfold cw_noBids
  have := cw_fold_P (f := fun k (s : cw_s) => upd s (85 + k) (-1)) (fun i s => s k = if 85 ≤ k ∧ k < 85 + i then -1 else t k) 120 t (by rw [if_neg (by omega)]) (fun j y _ hy => by
    show upd y (85 + j) (-1) k = _
    unfold upd
    by_cases c : k = 85 + j
    · rw [if_pos c, if_pos (by omega)]
    · rw [if_neg c, hy]
      by_cases c2 : 85 ≤ k ∧ k < 85 + j
      · rw [if_pos c2, if_pos (by omega)]
      · rw [if_neg c2, if_neg (by omega)]) 120 (Nat.le_refl _)
  exact this
theorem cw_I_noBids {n m : Nat} {t : cw_s} (h : cw_I n m t) : cw_I n m (cw_noBids t) := by
  have e : ∀ k, (k < 85 ∨ 205 ≤ k) → cw_noBids t k = t k := fun k hk => by rw [cw_noBids_at, if_neg (by omega)]
  have eb : ∀ j k, j < 6 → k < 20 → cw_noBids t (85 + 20 * j + k) = -1 := fun j k h1 h2 => by rw [cw_noBids_at, if_pos (by omega)]
  have en : cw_no (cw_noBids t) = cw_no t := cw_no_eq (e 0 (by omega))
  have h6 := h.m.2
  refine ⟨⟨by rw [e 0 (by omega), en]; exact h.m.1, by rw [en]; exact h6⟩, fun j a b => ?_, fun j i a b c => eb j i b c, fun j a => ?_, fun j a => ?_, fun j a => ?_, fun i a => ?_, fun i a => ?_, fun i a => ?_, fun j i a b => Or.inl (eb j i a b), ?_, ?_, ?_, ?_⟩
  · rw [en] at a; rw [e _ (by omega), e _ (by omega), e _ (by omega), e _ (by omega)]; exact h.nil j a b
  · rw [en] at a; rw [e _ (by omega)]; exact h.sha j a
  · rw [e _ (by omega)]; exact h.pts j a
  · rw [e _ (by omega)]; exact h.won j a
  · rw [e _ (by omega)]; exact h.cos i a
  · rw [e _ (by omega)]; exact h.sch i a
  · rw [en, e _ (by omega)]; exact h.hol i a
  · obtain ⟨q, q8, qe, qa⟩ := h.off
    refine ⟨q, q8, by rw [e _ (by omega)]; exact qe, fun i hi => ?_⟩
    rw [en, e _ (by omega), e _ (by omega), e _ (by omega)]; exact qa i hi
  · rw [e _ (by omega)]; exact h.set0
  · rw [e _ (by omega)]; exact h.set1
  · rw [e _ (by omega)]; exact h.set2
