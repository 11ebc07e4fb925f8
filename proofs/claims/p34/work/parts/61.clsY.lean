theorem cw_take_ok {tx : Nat → Int32} {len : Nat} {lo hi : Int32} {g : cw_sg} (h : (cw_take tx len lo hi g).2.1 = false) : g.1 = false := by
  obtain ⟨gw, p⟩ := g
  cases gw with
  | false => rfl
  | true => rw [cw_take_w] at h; exact h
theorem cw_week_ok {tx : Nat → Int32} {len : Nat} {g : cw_sg} (h : (cw_week tx len g).2.1 = false) : g.1 = false := cw_take_ok (cw_take_ok h)
theorem cw_extra_ok {tx : Nat → Int32} {len : Nat} {g : cw_sg} (h : (cw_extra tx len g).2.1 = false) : g.1 = false := cw_take_ok (cw_take_ok h)
theorem cw_sign_ok {tx : Nat → Int32} {len : Nat} {g : cw_sg} (h : (cw_sign tx len g).1 = false) : g.1 = false :=
  Classical.byContradiction (fun q => by rw [cw_sign_w q] at h; exact q h)
