theorem cw_k3 {k : Int32} (h : 1 ≤ k ∧ k ≤ 3) (h1 : ¬ k = 1) (h2 : ¬ k = 2) : k = 3 := by
  have a := cw_le.mp h.1
  have b := cw_le.mp h.2
  have z1 : (1 : Int32).toInt = 1 := rfl
  have z3 : (3 : Int32).toInt = 3 := rfl
  have c1 : ¬ k.toInt = 1 := fun q => h1 (gw_toInt (v := 1) q)
  have c2 : ¬ k.toInt = 2 := fun q => h2 (gw_toInt (v := 2) q)
  exact gw_toInt (v := 3) (by omega)
theorem cw_kn {k : Int32} {b : Nat} (hb : b < 1000) (h : 1 ≤ k ∧ k ≤ nI b) : ∃ N, k = nI N ∧ N ≤ b ∧ cw_x (nI N) = N := by
  have q1 := cw_le.mp h.1
  have q2 := cw_le.mp h.2
  have z1 : (1 : Int32).toInt = 1 := rfl
  rw [cw_ni hb] at q2
  refine ⟨k.toInt.toNat, ?_, by omega, cw_xn (by omega)⟩
  apply Int32.toInt_inj.mp
  rw [cw_ni (by omega)]; omega
theorem cw_ln {x : Int64} (h : 0 ≤ x.toInt) : ∃ a, x = Int64.ofNat a ∧ a < 9223372036854775808 := ⟨x.toInt.toNat, cw_l_of h, by have := Int64.toInt_lt x; omega⟩
theorem cw_lc0 {x : Int64} {L : Int64} {z : Int} (hz : L.toInt = z) (h : lg_cmp x L < 0) : x.toInt < z := by
  rw [← hz]; exact Int64.lt_iff_toInt_lt.mp ((lg_cmp_lt x L).mp h)
theorem cw_lc1 {x : Int64} {L : Int64} {z : Int} (hz : L.toInt = z) (h : ¬ lg_cmp x L < 0) : ¬ x.toInt < z := by
  rw [← hz]; exact fun q => h ((lg_cmp_lt x L).mpr (Int64.lt_iff_toInt_lt.mpr q))
