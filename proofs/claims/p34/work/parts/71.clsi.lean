theorem cw_isL_cmd (x : Int32) : (∃ i, i < 11 ∧ gw_cmd.getD i 0 = x) ↔ cw_isL x := by
  constructor
  · rintro ⟨i, hi, rfl⟩
    exact (by unfold cw_isL; decide +kernel : ∀ i : Fin 11, cw_isL (gw_cmd.getD i.val 0)) ⟨i, hi⟩
  · intro h
    unfold cw_isL at h
    rcases h with rfl | rfl | rfl | rfl | rfl | rfl | rfl | rfl | rfl | rfl | rfl
    · exact ⟨0, by decide, rfl⟩
    · exact ⟨1, by decide, rfl⟩
    · exact ⟨2, by decide, rfl⟩
    · exact ⟨3, by decide, rfl⟩
    · exact ⟨4, by decide, rfl⟩
    · exact ⟨5, by decide, rfl⟩
    · exact ⟨6, by decide, rfl⟩
    · exact ⟨7, by decide, rfl⟩
    · exact ⟨8, by decide, rfl⟩
    · exact ⟨9, by decide, rfl⟩
    · exact ⟨10, by decide, rfl⟩
theorem cw_TS.set5 {tx : Nat → Int32} {len : Nat} {g : cw_sg} {w : gw_M} (h : cw_TS tx len g w) (x : Int32) : cw_TS tx len g (gw_set w 0 5 x) :=
  ⟨h.1.set (by decide), by rw [gw_set_self, cw_upn _ _ (by decide)]; exact h.2.1, by rw [gw_set_self, cw_upn _ _ (by decide)]; exact h.2.2.1, h.2.2.2⟩

theorem cw_wp3_lo (w w1 : gw_M) {q : Nat} (h : q < 3) : cw_wp 0 3 w w1 q = w1 q := by unfold cw_wp; rw [if_pos (by omega), Nat.sub_zero]
theorem cw_wp3_hi (w w1 : gw_M) {q : Nat} (h : 3 ≤ q) : cw_wp 0 3 w w1 q = w q := by unfold cw_wp; rw [if_neg (by omega)]
theorem cw_wp3_h (w w1 : gw_M) : cw_ws 3 (cw_wp 0 3 w w1) = cw_ws 3 w := by funext i; exact cw_wp3_hi _ _ (by omega)
theorem cw_TX.cgw {tx : Nat → Int32} {len : Nat} {w w1 : gw_M} (h : cw_TX tx len w) (h0 : w1 0 = w 0) (h1 : w1 1 = w 1) : cw_TX tx len w1 := ⟨by rw [h0]; exact h.1, h.2.1, fun i hi => by rw [h1]; exact h.2.2 i hi⟩
theorem cw_TS.cgw {tx : Nat → Int32} {len : Nat} {g : cw_sg} {w w1 : gw_M} (h : cw_TS tx len g w) (h0 : w1 0 = w 0) (h1 : w1 1 = w 1) : cw_TS tx len g w1 := ⟨h.1.cgw h0 h1, by rw [h0]; exact h.2.1, by rw [h0]; exact h.2.2.1, h.2.2.2⟩
theorem cw_wp3_self (w : gw_M) : cw_wp 0 3 w w = w := by
  funext j
  unfold cw_wp
  split
  · rw [Nat.sub_zero]
  · rfl
