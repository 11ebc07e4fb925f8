theorem cw_20 {i : Nat} (h : i ≤ 20) : (20 : Int32) - nI i = nI (20 - i) := by
  apply Int32.toInt_inj.mp
  rw [cw_ni (by omega)]
  have := pk_sub_toInt (a := 20) (b := i) (by omega) (by omega)
  have e : nI 20 = (20 : Int32) := rfl
  rw [← e, this]; omega
theorem cw_201 {i : Nat} (h : i ≤ 20) : nI (20 - i) + Int32.ofInt (-1) = 20 - nI (i + 1) := by
  rw [← cw_20 h, ← nI_1 i]
  have e : Int32.ofInt (-1) = -1 := rfl
  rw [e, Int32.sub_eq_add_neg, Int32.sub_eq_add_neg, Int32.neg_add, Int32.add_assoc, Int32.sub_eq_add_neg]
theorem cw_before_1 (s : cw_s) (i : Nat) : cw_before s (i + 1) = cw_settle1 (cw_before s i) i := cw_fold0 (fun i x => cw_settle1 x i) i s
theorem cw_I_before {n m : Nat} {s : cw_s} (hI : cw_I n m s) (hB : cw_B n (m + 20)) {k : Nat} (hk : k ≤ 20) : cw_I n (m + k) (cw_before s k) := (cw_before_cg hI hB rfl k hk).2

theorem cw_lst (s : cw_s) (j k : Nat) : (-1 : Int32) = cw_if (cw_open s k) (cw_fold (fun i x => cw_if (cw_wins (upd s (85 + 20 * j + k) (nI (20 - i))) k = nI j) (nI (20 - i)) x) 0 0 (-1)) (-1) := by
  by_cases q : cw_open s k
  · rw [cw_it q]; rfl
  · rw [cw_ie q]
