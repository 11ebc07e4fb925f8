def cw_bad (least most op d v : Int32) : Prop := d < 0 ∨ 9 < d ∨ most < v * op ∨ v * op + op - 1 < least
/-- a number read by the class -/
noncomputable def cw_num (tx : Nat → Int32) (len : Nat) (least most : Int32) (D : Nat) (g : cw_sg) (i : Nat) : cw_sg × Int32 := cw_fold (fun k (x : cw_sg × Int32) => cw_if (x.1.1 = false) (cw_if (cw_bad least most (nI (10 ^ (D - (k + 1)))) (cw_sgn tx len x.1.2 - 48) (x.2 * 10 + (cw_sgn tx len x.1.2 - 48))) ((true, x.1.2), x.2 * 10 + (cw_sgn tx len x.1.2 - 48)) ((false, x.1.2 + 1), x.2 * 10 + (cw_sgn tx len x.1.2 - 48))) x) 0 i (g, 0)
theorem cw_num_1 (tx : Nat → Int32) (len : Nat) (least most : Int32) (D : Nat) (g : cw_sg) (i : Nat) : cw_num tx len least most D g (i + 1) = (fun k (x : cw_sg × Int32) => cw_if (x.1.1 = false) (cw_if (cw_bad least most (nI (10 ^ (D - (k + 1)))) (cw_sgn tx len x.1.2 - 48) (x.2 * 10 + (cw_sgn tx len x.1.2 - 48))) ((true, x.1.2), x.2 * 10 + (cw_sgn tx len x.1.2 - 48)) ((false, x.1.2 + 1), x.2 * 10 + (cw_sgn tx len x.1.2 - 48))) x) i (cw_num tx len least most D g i) := cw_fold0 (fun k (x : cw_sg × Int32) => cw_if (x.1.1 = false) (cw_if (cw_bad least most (nI (10 ^ (D - (k + 1)))) (cw_sgn tx len x.1.2 - 48) (x.2 * 10 + (cw_sgn tx len x.1.2 - 48))) ((true, x.1.2), x.2 * 10 + (cw_sgn tx len x.1.2 - 48)) ((false, x.1.2 + 1), x.2 * 10 + (cw_sgn tx len x.1.2 - 48))) x) i (g, 0)
theorem cw_num_end (tx : Nat → Int32) (len : Nat) (least most : Int32) (D : Nat) (g : cw_sg) (i : Nat) (h : ¬ (cw_num tx len least most D g i).1.1 = false) : ∀ k, cw_num tx len least most D g (i + k) = cw_num tx len least most D g i := by
  intro k
  induction k with
  | zero => rfl
  | succ k ih => show cw_num tx len least most D g ((i + k) + 1) = _; rw [cw_num_1, ih]; exact cw_ie h
theorem cw_p10 {k : Nat} (h : k ≤ 2) : nI (10 ^ (k + 1)) / 10 = nI (10 ^ k) := by
  have : k = 0 ∨ k = 1 ∨ k = 2 := by omega
  rcases this with rfl | rfl | rfl <;> decide
theorem cw_bad_lt {tx : Nat → Int32} {len p : Nat} {least most op v : Int32} (h : ¬ cw_bad least most op (cw_sgn tx len p - 48) v) : p < len := by
  refine Nat.lt_of_not_le (fun q => h (Or.inl ?_))
  rw [cw_sgn, cw_ie (by omega)]
  decide
theorem cw_TS.wr {tx : Nat → Int32} {len : Nat} {g : cw_sg} {w : gw_M} (h : cw_TS tx len g w) : cw_TS tx len (true, g.2) (gw_set w 0 3 1) :=
  ⟨h.1.set (by decide), by rw [gw_set_self, cw_upn _ _ (by decide)]; exact h.2.1, by rw [gw_set_self, cw_ups]; rfl, h.2.2.2⟩
theorem cw_TS.go {tx : Nat → Int32} {len : Nat} {g : cw_sg} {w : gw_M} (h : cw_TS tx len g w) (hp : g.2 < len) : cw_TS tx len (false, g.2 + 1) (gw_set (gw_set w 0 3 0) 0 2 (nI (g.2 + 1))) :=
  ⟨(h.1.set (by decide)).set (by decide), by rw [gw_set_self, cw_ups], by rw [gw_set_self, cw_upn _ _ (by decide), gw_set_self, cw_ups]; rfl, by have := h.1.2.1; show g.2 + 1 ≤ 120; omega⟩
