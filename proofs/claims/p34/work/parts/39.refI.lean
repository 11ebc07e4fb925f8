theorem cw_19 {i : Nat} (h : i ≤ 19) : (19 : Int32) - nI i = nI (19 - i) := by
  apply Int32.toInt_inj.mp
  rw [cw_ni (by omega)]
  have := pk_sub_toInt (a := 19) (b := i) (by omega) (by omega)
  have e : nI 19 = (19 : Int32) := rfl
  rw [← e, this]; omega
theorem cw_191 {i : Nat} (h : i ≤ 19) : nI (19 - i) + Int32.ofInt (-1) = 19 - nI (i + 1) := by
  rw [← cw_19 h, ← nI_1 i]
  have e : Int32.ofInt (-1) = -1 := rfl
  rw [e, Int32.sub_eq_add_neg, Int32.sub_eq_add_neg, Int32.neg_add, Int32.add_assoc, Int32.sub_eq_add_neg]
