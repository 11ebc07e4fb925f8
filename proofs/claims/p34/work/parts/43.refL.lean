theorem cw_tx_RM {A : cw_A} {w : gw_M} (h : cw_RM A w) : cw_tx A.2.2.2.2 A.2.2.2.1 w := h.2.2.2
theorem cw_kb_in (sl : Nat → Option cw_s) (x : cw_s) (k : Nat) (hk : k < 2) : nI (cw_kb sl) ||| ((1 : Int32) <<< (nI k &&& 31)) = nI (cw_kb (fun i => if i = k then some x else sl i)) := by
  have hk2 : k = 0 ∨ k = 1 := by omega
  unfold cw_kb
  rcases hk2 with rfl | rfl
  · cases h1 : sl 1 with
    | none => cases h0 : sl 0 <;> simp [h0, h1] <;> rfl
    | some z => cases h0 : sl 0 <;> simp [h0, h1] <;> rfl
  · cases h1 : sl 1 with
    | none => cases h0 : sl 0 <;> simp [h0, h1] <;> rfl
    | some z => cases h0 : sl 0 <;> simp [h0, h1] <;> rfl
theorem cw_kb_at (sl : Nat → Option cw_s) (k : Nat) (hk : k < 2) : (nI (cw_kb sl) >>> (nI k &&& 31)) &&& 1 = if (sl k).isSome then 1 else 0 := by
  have hk2 : k = 0 ∨ k = 1 := by omega
  unfold cw_kb
  rcases hk2 with rfl | rfl
  · cases h1 : sl 1 with
    | none => cases h0 : sl 0 <;> simp [h0, h1] <;> rfl
    | some z => cases h0 : sl 0 <;> simp [h0, h1] <;> rfl
  · cases h1 : sl 1 with
    | none => cases h0 : sl 0 <;> simp [h0, h1] <;> rfl
    | some z => cases h0 : sl 0 <;> simp [h0, h1] <;> rfl
theorem cw_slot {k : Int32} (h : 0 ≤ k ∧ k ≤ 1) : ∃ i, k = nI i ∧ i < 2 := by
  have q1 := cw_le.mp h.1
  have q2 := cw_le.mp h.2
  have z0 : (0 : Int32).toInt = 0 := rfl
  have z1 : (1 : Int32).toInt = 1 := rfl
  have e : k.toInt = 0 ∨ k.toInt = 1 := by omega
  rcases e with e | e
  · exact ⟨0, gw_toInt (v := 0) e, by omega⟩
  · exact ⟨1, gw_toInt (v := 1) e, by omega⟩
