/-! WHO WINS, AND WHO COULD TAKE: what the law asks of them -/
theorem pw_won_rd (t : cw_s) {j k p : Nat} (h1 : p ≠ 1 + 4 * j + 1) (h2 : p ≠ 235) (h3 : p ≠ 1 + 4 * j + 2) (h4 : p ≠ 25 + 3 * k + 2) : cw_won t k j p = t p := by
  unfold cw_won cw_spends
  simp only []
  rw [cw_upn _ _ h4, cw_upn _ _ h3, cw_upn _ _ h2, cw_upn _ _ h1]
theorem pw_settle1_rd {n m : Nat} {t : cw_s} (hI : cw_I n m t) {k p : Nat} (hk : k < 20) (h : 85 ≤ p ∧ p < 205 ∨ (25 ≤ p ∧ p < 85 ∧ p ≠ 25 + 3 * k + 2)) : cw_settle1 t k p = t p := by
  unfold cw_settle1
  by_cases q : cw_best t k = -1
  · rw [cw_it q]
  · rw [cw_ie q]
    have := cw_best_lt hI hk q
    exact pw_won_rd t (by omega) (by omega) (by omega) (by omega)
theorem pw_before_rd {n m : Nat} {u : cw_s} (hI : cw_I n m u) (hB : cw_B n (m + 20)) {p : Nat} : ∀ i, i ≤ 20 → (85 ≤ p ∧ p < 205 ∨ (25 + 3 * i ≤ p ∧ p < 85)) → cw_before u i p = u p := by
  intro i
  induction i with
  | zero => intro _ _; rfl
  | succ i ih =>
    intro hi hp
    rw [cw_before_1, pw_settle1_rd (cw_I_before hI hB (by omega)) (by omega) (by omega)]
    exact ih (by omega) (by omega)
theorem pw_wins {n m : Nat} {u : cw_s} (hI : cw_I n m u) (hB : cw_B n (m + 20)) {k : Nat} (hk : k < 20) : cw_wins u k = -1 ∨ ∃ b, b < cw_no u ∧ cw_wins u k = nI b ∧ ¬ u (85 + 20 * b + k) = -1 ∧ cw_open u k := by
  have hb := cw_I_before hI hB (k := k) (by omega)
  rcases cw_best_cases hb hk with e | ⟨b, hb1, e, hc, ho⟩
  · exact Or.inl e
  · rw [cw_before_no hI hB k (by omega)] at hb1
    have h6 := hI.m.2
    refine Or.inr ⟨b, hb1, e, ?_, ?_⟩
    · rw [← pw_before_rd hI hB (p := 85 + 20 * b + k) k (by omega) (by omega)]; exact hc.1
    · rw [← (cw_before_p hI hB (j := 0) (by omega) hk 0 k (Nat.le_refl _)).2]; exact ho
theorem pw_wins_th {n m : Nat} {u : cw_s} (hI : cw_I n m u) (hB : cw_B n (m + 20)) {k : Nat} (hk : k < 20) (h : ¬ cw_wins u k = -1) : cw_th u (cw_wins u k) (nI k) := by
  obtain ⟨b, hb, e, -⟩ := (pw_wins hI hB hk).resolve_left h
  rw [e]
  exact ⟨cw_isO_nI hI.m hb, cw_isW_nI hk⟩
theorem pw_wins_bid {n m : Nat} {u : cw_s} (hI : cw_I n m u) (hB : cw_B n (m + 20)) {k : Nat} (hk : k < 20) (h : ¬ cw_wins u k = -1) : ¬ u (85 + 20 * cw_x (cw_wins u k) + k) < 0 := by
  obtain ⟨b, hb, e, hne, -⟩ := (pw_wins hI hB hk).resolve_left h
  have h6 := hI.m.2
  rw [e, cw_xn (by omega)]
  exact fun q => hne ((pw_bid_lt hI (by omega) hk).1.mp q)
theorem pw_wins_no {n m : Nat} {u : cw_s} (hI : cw_I n m u) (hB : cw_B n (m + 20)) {k : Nat} (hk : k < 20) (h : ¬ cw_open u k) : cw_wins u k = -1 :=
  Classical.byContradiction fun q => by
    obtain ⟨b, -, -, -, ho⟩ := (pw_wins hI hB hk).resolve_left q
    exact h ho
theorem pw_least_no {u : cw_s} {j k : Nat} (h : ¬ cw_open u k) : cw_least u j k = -1 := by unfold cw_least; rw [cw_ie h]
/-- the least bid: none, or one with which the owner wins, and with none below it -/
theorem pw_least (u : cw_s) (j k : Nat) : cw_least u j k = -1 ∨ (cw_open u k ∧ ∃ e, e ≤ 20 ∧ cw_least u j k = nI e ∧ cw_wins (upd u (85 + 20 * j + k) (nI e)) k = nI j ∧ ∀ d, d < e → ¬ cw_wins (upd u (85 + 20 * j + k) (nI d)) k = nI j) := by
  by_cases ho : cw_open u k
  · unfold cw_least
    rw [cw_it ho]
    rcases cw_fold_least (fun e => cw_wins (upd u (85 + 20 * j + k) (nI e)) k = nI j) with ⟨e, h1, h2, h3, h4⟩ | ⟨-, h⟩
    · exact Or.inr ⟨ho, e, h1, h4, h2, h3⟩
    · exact Or.inl h
  · exact Or.inl (pw_least_no ho)
theorem pw_least_lt (u : cw_s) (j k : Nat) : ¬ 21 ≤ cw_least u j k := by
  rw [cw_le]
  have z : (21 : Int32).toInt = 21 := rfl
  have z1 : (-1 : Int32).toInt = -1 := rfl
  rcases pw_least u j k with e | ⟨-, e, h1, h2, -⟩
  · rw [e]; omega
  · rw [h2, cw_ni (by omega)]; omega
/-- .. settled, the week is the winner's -/
theorem pw_settled {n m : Nat} {u : cw_s} (hI : cw_I n m u) (hB : cw_B n (m + 20)) {k : Nat} (hk : k < 20) (ho : cw_open u k) : cw_before u 20 (25 + 3 * k + 2) = cw_wins u k := by
  have h1 : cw_before u (k + 1) (25 + 3 * k + 2) = cw_wins u k := by
    rw [cw_before_1]
    have hb := cw_I_before hI hB (k := k) (by omega)
    unfold cw_settle1
    by_cases q : cw_best (cw_before u k) k = -1
    · rw [cw_it q]
      show _ = cw_best (cw_before u k) k
      rw [q, pw_before_rd hI hB k (by omega) (by omega)]
      exact ho.2
    · rw [cw_ie q]
      obtain ⟨b, hb1, e, -⟩ := (cw_best_cases hb hk).resolve_left q
      rw [cw_before_no hI hB k (by omega)] at hb1
      have h6 := hI.m.2
      show _ = cw_best (cw_before u k) k
      rw [e, cw_xn (by omega)]
      exact cw_ups _ _ _
  have key : ∀ i, k + 1 + i ≤ 20 → cw_before u (k + 1 + i) (25 + 3 * k + 2) = cw_wins u k := by
    intro i
    induction i with
    | zero => intro _; exact h1
    | succ i ih =>
      intro hi
      rw [show k + 1 + (i + 1) = (k + 1 + i) + 1 by omega, cw_before_1, pw_settle1_rd (cw_I_before hI hB (by omega)) (by omega) (by omega)]
      exact ih (by omega)
  have := key (19 - k) (by omega)
  rw [show k + 1 + (19 - k) = 20 by omega] at this
  exact this
theorem pw_settled2 {n m : Nat} {u : cw_s} (hI : cw_I n m u) (hB : cw_B n (m + 20)) {k : Nat} (hk : k < 20) (ho : cw_open u k) : cw_nf (cw_does u 101 0 0 0).2 (25 + 3 * k + 2) = cw_wins u k := by
  rw [cw_does_101, cw_nf_rd _ (by omega) (by omega), pw_settles_st, cw_noBids_at, if_neg (by omega)]
  exact pw_settled hI hB hk ho
theorem pw_settle_n {n m : Nat} {u : cw_s} (hI : cw_I n m u) (hB : cw_B n (m + 20)) {k : Nat} (hk : k < 20) (h : ¬ cw_wins u k = -1) : ¬ (cw_does u 101 0 0 0).1 ≤ 0 := by
  rw [cw_does_101]
  have key := cw_fold_P (f := fun k (x : Int32 × cw_s) => (cw_if (cw_best x.2 k = -1) x.1 (x.1 + 1), cw_settle1 x.2 k)) (fun i x => x.2 = cw_before u i ∧ 0 ≤ x.1.toInt ∧ x.1.toInt ≤ (i : Int) ∧ (k < i → 1 ≤ x.1.toInt)) 20 (0, u) ⟨rfl, show 0 ≤ (0 : Int32).toInt by decide, show (0 : Int32).toInt ≤ ((0 : Nat) : Int) by decide, fun z => absurd z (Nat.not_lt_zero _)⟩ (fun i y hi ⟨e, a0, a1, a2⟩ => by
    have z1 : (1 : Int32).toInt = 1 := rfl
    refine ⟨by show cw_settle1 y.2 i = _; rw [e, cw_before_1], ?_⟩
    show 0 ≤ (cw_if (cw_best y.2 i = -1) y.1 (y.1 + 1)).toInt ∧ (cw_if (cw_best y.2 i = -1) y.1 (y.1 + 1)).toInt ≤ ((i + 1 : Nat) : Int) ∧ _
    have e1 : (y.1 + 1).toInt = y.1.toInt + 1 := by
      rw [Int32.toInt_add, z1, Int.bmod_eq_of_le (by omega) (by omega)]
    by_cases q : cw_best y.2 i = -1
    · rw [cw_it q]
      refine ⟨a0, by omega, fun hki => ?_⟩
      show 1 ≤ y.1.toInt
      by_cases z : k = i
      · subst z; rw [e] at q; exact absurd q h
      · exact a2 (by omega)
    · rw [cw_ie q, e1]
      exact ⟨by omega, by omega, fun hki => (show 1 ≤ y.1.toInt + 1 by omega)⟩) 20 (Nat.le_refl _)
  rw [cw_le]
  have z : (0 : Int32).toInt = 0 := rfl
  have k2 := key.2.2.2 hk
  show ¬ (cw_settles u).1.toInt ≤ _
  unfold cw_settles
  simp only []
  omega
theorem pw_nobids {n m : Nat} {u : cw_s} (hI : cw_I n m u) (hB : cw_B n (m + 20)) : cw_allBids (cw_nf (cw_does u 101 0 0 0).2) = 0 := by
  rw [cw_does_101]
  have e : ∀ j k, j < 6 → k < 20 → cw_nf (cw_settles u).2 (85 + 20 * j + k) = -1 := fun j k hj hk => by
    rw [cw_nf_rd _ (by omega) (by omega), pw_settles_st, cw_noBids_at, if_pos (by omega)]
  have h6 : cw_no (cw_nf (cw_settles u).2) ≤ 6 := by
    rw [cw_nf_no, pw_settles_st, cw_no_eq (t' := cw_noBids (cw_before u 20)) (t := cw_before u 20) (by rw [cw_noBids_at, if_neg (by omega)])]
    exact (cw_I_before hI hB (Nat.le_refl 20)).m.2
  unfold cw_allBids
  have := cw_fold_P (f := fun k x => x + cw_bidsFor (cw_nf (cw_settles u).2) k) (fun _ (x : Int32) => x = 0) 20 0 rfl (fun k y hk hy => by
    have h0 : cw_bidsFor (cw_nf (cw_settles u).2) k = 0 := by
      unfold cw_bidsFor
      have := cw_fold_P (f := fun o x => if cw_nf (cw_settles u).2 (85 + 20 * o + k) = -1 then x else x + 1) (fun _ (x : Int32) => x = 0) (cw_no (cw_nf (cw_settles u).2)) 0 rfl (fun o y ho hy => by
        show (if cw_nf (cw_settles u).2 (85 + 20 * o + k) = -1 then y else y + 1) = 0
        rw [if_pos (e o k (by omega) hk)]; exact hy) _ (Nat.le_refl _)
      exact this
    show y + cw_bidsFor (cw_nf (cw_settles u).2) k = 0
    rw [h0, hy]; rfl) 20 (Nat.le_refl _)
  exact this
/-- a bid: what is told, and who wins then -/
theorem pw_bidded {n m : Nat} {u : cw_s} (hI : cw_I n m u) {j k : Nat} (hj : j < cw_no u) (hk : k < 20) (ho : cw_open u k) {e : Nat} (he : e ≤ 20) : cw_does u 98 (nI j) (nI k) (nI e) = (cw_bidsFor (upd u (85 + 20 * j + k) (nI e)) k, upd u (85 + 20 * j + k) (nI e)) ∧ ¬ cw_bidsFor (upd u (85 + 20 * j + k) (nI e)) k ≤ 0 := by
  have h6 := hI.m.2
  rw [cw_does_98]
  unfold cw_oBid
  have xj : cw_x (nI j) = j := cw_xn (by omega)
  have xk : cw_x (nI k) = k := cw_xn (by omega)
  rw [xj, xk, cw_it ⟨⟨⟨cw_isO_nI hI.m hj, cw_isW_nI hk⟩, pw_in (l := 0) (u := 20) (Nat.zero_le _) he (by omega)⟩, ho⟩]
  refine ⟨rfl, ?_⟩
  have hno : cw_no (upd u (85 + 20 * j + k) (nI e)) = cw_no u := cw_no_upd _ _ (by omega)
  have z1 : (1 : Int32).toInt = 1 := rfl
  have key := cw_fold_P (f := fun o x => if upd u (85 + 20 * j + k) (nI e) (85 + 20 * o + k) = -1 then x else x + 1) (fun i (x : Int32) => 0 ≤ x.toInt ∧ x.toInt ≤ (i : Int) ∧ (j < i → 1 ≤ x.toInt)) (cw_no u) 0 ⟨by decide, by decide, fun z => absurd z (Nat.not_lt_zero _)⟩ (fun i y hi ⟨a0, a1, a2⟩ => by
    have e1 : (y + 1).toInt = y.toInt + 1 := by
      rw [Int32.toInt_add, z1, Int.bmod_eq_of_le (by omega) (by omega)]
    show 0 ≤ (if upd u (85 + 20 * j + k) (nI e) (85 + 20 * i + k) = -1 then y else y + 1).toInt ∧ (if upd u (85 + 20 * j + k) (nI e) (85 + 20 * i + k) = -1 then y else y + 1).toInt ≤ ((i + 1 : Nat) : Int) ∧ (j < i + 1 → 1 ≤ (if upd u (85 + 20 * j + k) (nI e) (85 + 20 * i + k) = -1 then y else y + 1).toInt)
    by_cases q : upd u (85 + 20 * j + k) (nI e) (85 + 20 * i + k) = -1
    · rw [if_pos q]
      refine ⟨a0, by omega, fun hji => ?_⟩
      by_cases z : j = i
      · subst z
        rw [cw_ups] at q
        have := congrArg Int32.toInt q
        rw [cw_ni (by omega)] at this
        have zm : (-1 : Int32).toInt = -1 := rfl
        omega
      · exact a2 (by omega)
    · rw [if_neg q, e1]
      exact ⟨by omega, by omega, fun _ => by omega⟩) (cw_no u) (Nat.le_refl _)
  have k2 := key.2.2 hj
  rw [cw_le]
  have z : (0 : Int32).toInt = 0 := rfl
  unfold cw_bidsFor
  rw [hno]
  omega
theorem pw_bid_wins {n m : Nat} {u : cw_s} (hI : cw_I n m u) (hB : cw_B n (m + 20)) {j k : Nat} (hj : j < cw_no u) (hk : k < 20) (ho : cw_open u k) {e : Nat} (he : e ≤ 20) : cw_wins (cw_nf (cw_does u 98 (nI j) (nI k) (nI e)).2) k = cw_wins (upd u (85 + 20 * j + k) (nI e)) k := by
  rw [(pw_bidded hI hj hk ho he).1]
  exact cw_wins_cg (cw_I_bid hI hj hk (Or.inr ⟨e, Nat.zero_le _, he, rfl⟩)) hB (cw_nf_nf _) hk
/-- owners who could take a week at all -/
noncomputable def pw_any (u : cw_s) (o : Nat) : Bool := @decide (∃ q, q < 20 ∧ cw_hind u o q = 0) (Classical.propDecidable _)
theorem pw_any_iff {u : cw_s} {o : Nat} : pw_any u o = true ↔ ∃ q, q < 20 ∧ cw_hind u o q = 0 := by
  unfold pw_any
  exact @decide_eq_true_iff _ (Classical.propDecidable _)
noncomputable def pw_SM (u : cw_s) (i : Nat) : Int32 := cw_fold (fun o x => x + cw_b (∃ q, q < 20 ∧ cw_hind u o q = 0)) 0 i 0
theorem pw_SM_1 (u : cw_s) (i : Nat) : pw_SM u (i + 1) = pw_SM u i + cw_b (∃ q, q < 20 ∧ cw_hind u i q = 0) := cw_fold0 _ i 0
theorem pw_SM_n (u : cw_s) : ∀ i, pw_SM u i = nI (pw_cnt (pw_any u) i) := by
  intro i
  induction i with
  | zero => rfl
  | succ i ih =>
    rw [pw_SM_1, ih, pw_cnt_1]
    by_cases q : ∃ q, q < 20 ∧ cw_hind u i q = 0
    · rw [cw_b1 q, if_pos (pw_any_iff.mpr q), nI_1]
    · rw [cw_bf q, if_neg (fun z => q (pw_any_iff.mp z)), Int32.add_zero]; rfl
theorem pw_bits1 : ∀ S : Fin 64, ∀ j : Fin 6, ∀ i : Fin 6, S.val.testBit j.val = true → i ≠ j → (S.val - 2 ^ j.val).testBit i.val = S.val.testBit i.val := by decide +kernel
theorem pw_bits2 : ∀ S : Fin 64, pw_cnt (fun i => S.val.testBit i) 6 = cw_pop S.val := by decide +kernel
theorem pw_bits3 : ∀ j : Fin 6, (2 ^ j.val).testBit j.val = true ∧ 2 ^ j.val < 64 ∧ cw_pop (2 ^ j.val) = 1 := by decide +kernel
theorem pw_rch_in {u : cw_s} (h6 : cw_no u ≤ 6) : ∀ k, ∀ S, S < 64 → cw_rch u k S → ∀ o, o < 6 → S.testBit o = true → o < cw_no u ∧ ∃ q, q < k ∧ cw_hind u o q = 0 := by
  intro k
  induction k with
  | zero =>
    intro S _ h o _ hb
    have h : S = 0 := h
    rw [h, Nat.zero_testBit] at hb
    exact absurd hb (by decide)
  | succ k ih =>
    intro S hS h o ho hb
    rcases h with h | ⟨p, hp, hpb, h, hh⟩
    · obtain ⟨a, q, hq, b⟩ := ih S hS h o ho hb
      exact ⟨a, q, by omega, b⟩
    · by_cases z : o = p
      · subst z; exact ⟨hp, k, by omega, hh⟩
      · have e := pw_bits1 ⟨S, hS⟩ ⟨p, by omega⟩ ⟨o, ho⟩ hpb (fun q => z (congrArg Fin.val q))
        obtain ⟨a, q, hq, b⟩ := ih (S - 2 ^ p) (Nat.lt_of_le_of_lt (Nat.sub_le _ _) hS) h o ho (by rw [← hb]; exact e)
        exact ⟨a, q, by omega, b⟩
theorem pw_rch_0 (u : cw_s) : ∀ k, cw_rch u k 0 := by
  intro k
  induction k with
  | zero => rfl
  | succ k ih => exact Or.inl ih
theorem pw_rch_up {u : cw_s} {S k : Nat} (h : cw_rch u k S) : ∀ i, cw_rch u (k + i) S := by
  intro i
  induction i with
  | zero => exact h
  | succ i ih => exact Or.inl ih
theorem pw_cnt_ext {P : Nat → Bool} {a b : Nat} (hab : a ≤ b) (h : ∀ i, a ≤ i → i < b → ¬ P i = true) : pw_cnt P b = pw_cnt P a := by
  obtain ⟨d, rfl⟩ := Nat.le.dest hab
  induction d with
  | zero => rfl
  | succ d ih =>
    show pw_cnt P (a + d + 1) = _
    rw [pw_cnt_1, ih (by omega) (fun i h1 h2 => h i h1 (by omega)), if_neg (h (a + d) (by omega) (by omega)), Nat.add_zero]
theorem pw_pop_le {u : cw_s} (h6 : cw_no u ≤ 6) {S : Nat} (hS : S < 64) (h : cw_rch u 20 S) : cw_pop S ≤ pw_cnt (pw_any u) (cw_no u) := by
  have hb := pw_rch_in h6 20 S hS h
  rw [← pw_bits2 ⟨S, hS⟩, pw_cnt_ext h6 (fun i h1 h2 z => by have := (hb i h2 z).1; omega)]
  exact pw_cnt_le (fun i hi z => pw_any_iff.mpr (hb i (by omega) z).2)
theorem pw_cnt_pos {P : Nat → Bool} : ∀ n, 0 < pw_cnt P n → ∃ i, i < n ∧ P i = true := by
  intro n
  induction n with
  | zero => intro h; exact absurd h (Nat.lt_irrefl _)
  | succ n ih =>
    intro h
    rw [pw_cnt_1] at h
    by_cases q : P n = true
    · exact ⟨n, by omega, q⟩
    · rw [if_neg q] at h
      obtain ⟨i, hi, hp⟩ := ih h
      exact ⟨i, by omega, hp⟩
/-- the most at once: no more than could each, and some if one could -/
theorem pw_most {u : cw_s} (h6 : cw_no u ≤ 6) : ∃ a b, cw_most u = nI a ∧ pw_SM u (cw_no u) = nI b ∧ a ≤ b ∧ b ≤ 6 ∧ (0 < b → 0 < a) := by
  have hb6 : pw_cnt (pw_any u) (cw_no u) ≤ 6 := by
    have := pw_sum_le (f := fun i => if pw_any u i = true then 1 else 0) (g := fun _ => 1) (cw_no u) (fun i _ => by split <;> omega)
    rw [pw_sum_one] at this
    exact Nat.le_trans this h6
  have key := cw_fold_P (f := fun S x => cw_if (cw_rch u 20 S ∧ x < nI (cw_pop S)) (nI (cw_pop S)) x) (fun i (x : Int32) => ∃ a, x = nI a ∧ a ≤ pw_cnt (pw_any u) (cw_no u) ∧ ∀ S, S < i → cw_rch u 20 S → cw_pop S ≤ a) 64 0 ⟨0, rfl, Nat.zero_le _, fun S h => absurd h (Nat.not_lt_zero _)⟩ (fun S y hS ⟨a, e, ha, hs⟩ => by
    by_cases q : cw_rch u 20 S ∧ y < nI (cw_pop S)
    · refine ⟨cw_pop S, cw_it q, pw_pop_le h6 hS q.1, fun T hT hr => ?_⟩
      by_cases z : T = S
      · rw [z]; exact Nat.le_refl _
      · have h1 := hs T (by omega) hr
        have h2 := q.2
        have h3 := pw_pop_le h6 hS q.1
        rw [e, cw_lt, cw_ni (by omega), cw_ni (by omega)] at h2
        omega
    · refine ⟨a, (cw_ie q).trans e, ha, fun T hT hr => ?_⟩
      by_cases z : T = S
      · subst z
        have h2 : ¬ y < nI (cw_pop T) := fun w => q ⟨hr, w⟩
        have h3 := pw_pop_le h6 hS hr
        rw [e, cw_lt, cw_ni (by omega), cw_ni (by omega)] at h2
        omega
      · exact hs T (by omega) hr) 64 (Nat.le_refl _)
  obtain ⟨a, e, ha, hs⟩ := key
  refine ⟨a, _, e, pw_SM_n u _, ha, hb6, fun hpos => ?_⟩
  obtain ⟨o, ho, hp⟩ := pw_cnt_pos _ hpos
  obtain ⟨q, hq, hh⟩ := pw_any_iff.mp hp
  obtain ⟨b1, b2, b3⟩ := pw_bits3 ⟨o, by omega⟩
  have r1 : cw_rch u (q + 1) (2 ^ o) := Or.inr ⟨o, ho, b1, by rw [Nat.sub_self]; exact pw_rch_0 u q, hh⟩
  have r2 := pw_rch_up r1 (19 - q)
  rw [show q + 1 + (19 - q) = 20 by omega] at r2
  have := hs (2 ^ o) b2 r2
  have b3 : cw_pop (2 ^ o) = 1 := b3
  omega
theorem pw_could1 {u : cw_s} (h6 : cw_no u ≤ 6) : ¬ pw_SM u (cw_no u) < cw_most u := by
  obtain ⟨a, b, e1, e2, h1, h2, h3⟩ := pw_most h6
  rw [e1, e2, cw_lt, cw_ni (by omega), cw_ni (by omega)]; omega
theorem pw_could2 {u : cw_s} (h6 : cw_no u ≤ 6) : (cw_most u ≤ 0) ↔ (pw_SM u (cw_no u) ≤ 0) := by
  obtain ⟨a, b, e1, e2, h1, h2, h3⟩ := pw_most h6
  have z : (0 : Int32).toInt = 0 := rfl
  rw [e1, e2, cw_le, cw_le, cw_ni (by omega), cw_ni (by omega), z]; omega
