theorem cw_l_nat {a : Nat} (h : a < 9223372036854775808) : (Int64.ofNat a).toInt = a := Int64.toInt_ofNat_of_lt h
theorem cw_l_div {a : Nat} (h : a < 9223372036854775808) : Int64.ofNat a / 1000000 = Int64.ofNat (a / 1000000) := by
  apply Int64.toInt_inj.mp
  rw [cw_l_nat (by omega), Int64.toInt_div, cw_l_nat h]
  have z : (1000000 : Int64).toInt = 1000000 := rfl
  rw [z, Int.tdiv_eq_ediv_of_nonneg (by omega)]
  exact Int.bmod_eq_of_le (by omega) (by omega)
theorem cw_l_rem {a : Nat} (h : a < 9223372036854775808) : (Int64.ofNat a - Int64.ofNat a / 1000000 * 1000000).toInt32 = nI (a % 1000000) := by
  rw [cw_l_div h]
  apply Int32.toInt_inj.mp
  have z : (1000000 : Int64).toInt = 1000000 := rfl
  have e1 : (Int64.ofNat (a / 1000000) * 1000000).toInt = (a / 1000000 * 1000000 : Nat) := by
    rw [Int64.toInt_mul, cw_l_nat (by omega), z]
    rw [Int.bmod_eq_of_le (by omega) (by omega)]; omega
  rw [Int64.toInt_toInt32, Int64.toInt_sub, cw_l_nat h, e1]
  have e2 : ((a : Int) - (a / 1000000 * 1000000 : Nat)).bmod (2^64) = ((a % 1000000 : Nat) : Int) := by
    rw [Int.bmod_eq_of_le (by omega) (by omega)]; omega
  rw [e2, nI_toInt (by omega)]
  exact Int.bmod_eq_of_le (by omega) (by omega)
theorem cw_l_of {x : Int64} (h : 0 ≤ x.toInt) : x = Int64.ofNat x.toInt.toNat := by
  apply Int64.toInt_inj.mp
  have := Int64.toInt_lt x
  rw [cw_l_nat (by omega)]; omega
theorem cw_l_dv {a k : Nat} (h : a < 9223372036854775808) : Int64.ofNat (a / 1000000 ^ k) / 1000000 = Int64.ofNat (a / 1000000 ^ (k + 1)) := by
  have h2 : a / 1000000 ^ k ≤ a := Nat.div_le_self _ _
  rw [cw_l_div (by omega), Nat.div_div_eq_div_mul, Nat.pow_succ]
theorem cw_l_rm {a k : Nat} (h : a < 9223372036854775808) : (Int64.ofNat (a / 1000000 ^ k) - Int64.ofNat (a / 1000000 ^ k) / 1000000 * 1000000).toInt32 = nI (a / 1000000 ^ k % 1000000) := by
  have h2 : a / 1000000 ^ k ≤ a := Nat.div_le_self _ _
  exact cw_l_rem (by omega)
theorem cw_grp_at {N a i : Nat} (h : a < 9223372036854775808) : cw_grp N (Int64.ofNat a) i = nI (a / 1000000 ^ (N - (i + 1)) % 1000000) := by
  unfold cw_grp
  rw [cw_l_nat h, show N - 1 - i = N - (i + 1) by omega]
  rfl
