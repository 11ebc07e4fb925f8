theorem cw_2own {n m : Nat} {u : cw_s} (hI : cw_I n m u) (a : Int32) : ¬ (cw_oOwner u a).1 = -2 := by
  unfold cw_oOwner
  by_cases q : (1 ≤ a ∧ a ≤ 9) ∧ ¬ u 0 = 6
  · rw [cw_it q]
    exact cw_r_2 (u := 6) ⟨cw_no u, Nat.zero_le _, hI.m.2, hI.m.1⟩ (by decide)
  · rw [cw_ie q]; show ¬ (-9 : Int32) = -2; decide

theorem cw_2cost {n m : Nat} {u : cw_s} (hI : cw_I n m u) (k a : Int32) : ¬ (cw_oCost u k a).1 = -2 := by
  unfold cw_oCost
  by_cases q : cw_isW k ∧ 1 ≤ a ∧ a ≤ 9
  · rw [cw_it q]
    obtain ⟨i, rfl, hi⟩ := cw_isW_ix q.1
    rw [cw_xn (by omega)]
    exact cw_r_2 ((hI.cos i hi).mono (Nat.zero_le _) (Nat.le_refl _)) (by decide)
  · rw [cw_ie q]; show ¬ (-9 : Int32) = -2; decide

theorem cw_2upk {n m : Nat} {u : cw_s} (hI : cw_I n m u) (c : Int32) : ¬ (cw_oUpkeep u c).1 = -2 := by
  unfold cw_oUpkeep
  by_cases q : (1 ≤ c ∧ c ≤ 999) ∧ ¬ u 0 = 0
  · rw [cw_it q]
    have z1 : (1 : Int32).toInt = 1 := rfl
    have z9 : (999 : Int32).toInt = 999 := rfl
    have c1 := cw_le.mp q.1.1
    have c2 := cw_le.mp q.1.2
    have key := cw_fold_P (f := cw_pays u c) (fun i (x : Int32 × cw_s) => cw_r 0 10001 x.1) (cw_no u) (0, u) ⟨0, Nat.zero_le _, by decide, rfl⟩ (fun j y hj hy => by
      show cw_r 0 10001 (if y.1 < cw_partOf u j c then cw_partOf u j c else y.1)
      split
      · exact cw_partOf_r hI (by omega) (by omega) hj
      · exact hy)
    exact cw_r_2 (key (cw_no u) (Nat.le_refl _)) (by decide)
  · rw [cw_ie q]; show ¬ (-9 : Int32) = -2; decide
theorem cw_2acc {n m : Nat} {u : cw_s} (hI : cw_I n m u) (k : Int32) : ¬ (cw_oAccept u k).1 = -2 := by
  unfold cw_oAccept
  simp only []
  by_cases q : cw_isK u k
  · rw [cw_it q]
    by_cases r : cw_swap u (u (206 + 3 * cw_x k + 0)) (u (206 + 3 * cw_x k + 1)) (u (206 + 3 * cw_x k + 2))
    · rw [cw_it r]; show ¬ (1 : Int32) = -2; decide
    · rw [cw_ie r]; show ¬ (0 : Int32) = -2; decide
  · rw [cw_ie q]; show ¬ (-9 : Int32) = -2; decide
theorem cw_settles_r (u : cw_s) : cw_r 0 20 (cw_settles u).1 := by
  have key := cw_fold_P (f := fun k (x : Int32 × cw_s) => (cw_if (cw_best x.2 k = -1) x.1 (x.1 + 1), cw_settle1 x.2 k)) (fun i (x : Int32 × cw_s) => cw_r 0 i x.1) 20 (0, u) ⟨0, Nat.zero_le _, by decide, rfl⟩ (fun j y hj hy => by
    show cw_r 0 (j + 1) (cw_if (cw_best y.2 j = -1) y.1 (y.1 + 1))
    by_cases q : cw_best y.2 j = -1
    · rw [cw_it q]; exact hy.mono (Nat.le_refl _) (Nat.le_succ _)
    · rw [cw_ie q]
      obtain ⟨k, h1, h2, h3⟩ := hy
      exact ⟨k + 1, Nat.zero_le _, Nat.succ_le_succ h2, by rw [h3]; exact nI_1 k⟩)
  exact key 20 (Nat.le_refl _)
