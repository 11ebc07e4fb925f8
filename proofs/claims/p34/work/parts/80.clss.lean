/-! THE FACE OF THE CLASS: scripts, simulations -/
theorem cw_p6 {N : Nat} (h : N ≤ 3) : 1000000 ^ N < 9223372036854775808 ∧ 0 < 1000000 ^ N := by
  have : N = 0 ∨ N = 1 ∨ N = 2 ∨ N = 3 := by omega
  rcases this with rfl | rfl | rfl | rfl <;> exact ⟨by decide +kernel, by decide +kernel⟩
theorem cw_sc_mul {i : Nat} (h : i < 3) : Int64.ofNat (1000000 ^ i) * 1000000 = Int64.ofNat (1000000 ^ (i + 1)) := by
  have : i = 0 ∨ i = 1 ∨ i = 2 := by omega
  rcases this with rfl | rfl | rfl <;> decide +kernel
theorem cw_l_dvg {a b : Nat} (ha : a < 9223372036854775808) (hb0 : 0 < b) (hb : b < 9223372036854775808) : Int64.ofNat a / Int64.ofNat b = Int64.ofNat (a / b) := by
  have h2 : a / b ≤ a := Nat.div_le_self _ _
  apply Int64.toInt_inj.mp
  rw [cw_l_nat (by omega), Int64.toInt_div, cw_l_nat ha, cw_l_nat hb, Int.tdiv_eq_ediv_of_nonneg (by omega)]
  rw [show (a : Int) / (b : Int) = ((a / b : Nat) : Int) from (Int.natCast_ediv a b).symm]
  generalize a / b = c at h2 ⊢
  exact Int.bmod_eq_of_le (by omega) (by omega)
theorem cw_ipow (N : Nat) : ((1000000 ^ N : Nat) : Int) = (1000000 : Int) ^ N := by
  induction N with
  | zero => rfl
  | succ N ih => rw [Nat.pow_succ, Int.pow_succ, Int.natCast_mul, ih]; rfl
theorem cw_sc_div {N j : Nat} (hN : N ≤ 3) (hj : j < N) : Int64.ofNat (1000000 ^ (N - j)) / 1000000 = Int64.ofNat (1000000 ^ (N - (j + 1))) := by
  rw [cw_l_div (cw_p6 (by omega)).1]
  congr 1
  rw [show N - j = N - (j + 1) + 1 by omega, Nat.pow_succ, Nat.mul_div_cancel _ (by decide)]
theorem cw_sc_ne {e : Nat} (h : e ≤ 3) : ¬ Int64.ofNat (1000000 ^ e) = 0 := fun q => by
  have h2 := congrArg Int64.toInt q
  have hp := cw_p6 h
  rw [cw_l_nat hp.1] at h2
  have z : (0 : Int64).toInt = 0 := rfl
  rw [z] at h2
  omega
theorem cw_lcn {a b : Nat} (ha : a < 9223372036854775808) (hb : b < 9223372036854775808) : lg_cmp (Int64.ofNat a) (Int64.ofNat b) < 0 ↔ a < b := by
  rw [lg_cmp_lt, Int64.lt_iff_toInt_lt, cw_l_nat ha, cw_l_nat hb]; omega
theorem cw_points_cgq {s' s : cw_s} (e : cw_eqq s' s) (h6 : cw_no s ≤ 6) : cw_points s' = cw_points s := by
  unfold cw_points; rw [cw_no_cgq e]
  exact cw_fold_congr _ 0 0 (fun j y _ h2 => by rw [cw_rdq e (by omega) (by omega)])
