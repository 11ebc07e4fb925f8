/-! THE REFERENCE: its cells: itself, s, aside, history, slots, text, sets -/
def sM : gw_S := (7, fun i => match i with
  | 0 => .inr (5, [none, some 1, some 2, some 3, none, some 4, none, some 5, none, none, none, none, none, none, none, some 6])
  | 1 => .inl (0, 242, fun j => j)
  | 2 => .inl (0, 242, fun j => j)
  | 3 => .inl (0, 3388, fun j => j)
  | 4 => .inl (0, 484, fun j => j)
  | 5 => .inl (0, 120, fun j => j)
  | _ => .inl (1, 64, fun j => j))

theorem cw_lim {s : cw_s} (hm : cw_m s) : s 0 ≤ nI (cw_no s) := by rw [hm.1]; exact nI_le (Nat.le_refl _) (Nat.lt_of_le_of_lt hm.2 (by decide))
theorem cw_liml {s : cw_s} (hm : cw_m s) {i : Nat} (h : i < cw_no s) : ¬ s 0 ≤ nI i := by rw [hm.1]; exact nI_ge h (Nat.lt_of_le_of_lt hm.2 (by decide))
