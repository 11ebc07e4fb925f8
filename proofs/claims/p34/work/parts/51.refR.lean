theorem cw_nI0 {i : Nat} (h : i < 1000) (e : nI i = 0) : i = 0 := by
  have q := cw_ni h
  rw [e] at q
  have z : (0 : Int32).toInt = 0 := rfl
  omega
