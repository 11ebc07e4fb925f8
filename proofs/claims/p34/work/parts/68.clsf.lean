theorem cw_emb_CT : gw_emb sC sT (fun i => 257 + i) := ⟨fun i hi => by
  have h2 : i < 3 := hi
  have h : i = 0 ∨ i = 1 ∨ i = 2 := by omega
  rcases h with rfl | rfl | rfl
  · rfl
  · rfl
  · rfl, fun i j _ _ q => by have q : 257 + i = 257 + j := q; omega⟩
theorem cw_emb_CTH (h : Nat) (hh : h < 18) : gw_emb sC sTH (fun i => if i < 3 then 257 + i else 14 * h + (i - 3)) := ⟨fun i hi => by
  have h2 : i < 17 := hi
  by_cases c : i < 3
  · have h : i = 0 ∨ i = 1 ∨ i = 2 := by omega
    rcases h with rfl | rfl | rfl
    · rfl
    · rfl
    · rfl
  · have e : sTH.2 i = gw_pi (fun j => 3 + j) (sH.2 (i - 3)) := if_neg c
    show gw_at sC (if i < 3 then 257 + i else 14 * h + (i - 3)) = _
    rw [if_neg c, e, cw_sC_h hh (by omega), gw_pi_pi]
    exact congrArg some (cw_sH_pi (fun j hj => by rw [if_neg (by omega), Nat.add_sub_cancel_left]) (by omega)), fun i j hi hj q => by
  have hi2 : i < 17 := hi
  have hj2 : j < 17 := hj
  have q : (if i < 3 then 257 + i else 14 * h + (i - 3)) = (if j < 3 then 257 + j else 14 * h + (j - 3)) := q
  split at q <;> split at q <;> omega⟩
/-- what counts of a turn does not hang on the place 240, nor on what is stale -/
theorem cw_succ_qq {n m : Nat} {t u : cw_s} (hI : cw_I n m u) (hB : cw_B n (m + 20)) (e : cw_eqq t u) (r : Int32) (hr : 0 ≤ r.toInt) : cw_eqq (cw_turn t r) (cw_turn u r) := by
  unfold cw_turn
  exact cw_eqq_nf (cw_does_cgq hI hB e _ _ _ _ (fun q => (cw_turn_s hr q).1)).2
