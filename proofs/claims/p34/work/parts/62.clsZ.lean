theorem cw_tst_1 {tx : Nat → Int32} {len : Nat} (h : cw_sgn tx len 0 = 67) : 0 < len ∧ cw_tst tx len = (false, 1) := by
  have hp : 0 < len := Classical.byContradiction (fun q => by rw [cw_sgn, cw_ie q] at h; exact absurd h (by decide))
  rw [cw_sgn, cw_it hp] at h
  refine ⟨hp, ?_⟩
  unfold cw_tst cw_take
  rw [cw_it ⟨rfl, hp, by show _ ≤ tx 0; rw [h]; decide, by show tx 0 ≤ _; rw [h]; decide⟩]
theorem cw_tst_0 {tx : Nat → Int32} {len : Nat} (h : ¬ cw_sgn tx len 0 = 67) : cw_tst tx len = (true, 0) := by
  unfold cw_tst cw_take
  rw [cw_ie (fun q => h ?_)]
  rw [cw_sgn, cw_it q.2.1]
  have z1 : (67 : Int32).toInt ≤ (tx 0).toInt := cw_le.mp q.2.2.1
  have z2 : (tx 0).toInt ≤ (67 : Int32).toInt := cw_le.mp q.2.2.2
  apply Int32.toInt_inj.mp
  show (tx 0).toInt = _
  omega

/-- text and house -/
def sTH : gw_S := (17, fun i => if i < 3 then sT.2 i else gw_pi (fun j => 3 + j) (sH.2 (i - 3)))
def cw_wp (b n : Nat) (w w1 : gw_M) : gw_M := fun j => if b ≤ j ∧ j < b + n then w1 (j - b) else w j
def cw_ws (b : Nat) (w : gw_M) : gw_M := fun i => w (b + i)
theorem cw_wp_i {b n : Nat} {w : gw_M} : ∀ (w1 : gw_M) (i : Nat), i < n → cw_wp b n w w1 (b + i) = w1 i := fun w1 i hi => by
  unfold cw_wp; rw [if_pos (by omega), Nat.add_sub_cancel_left]
theorem cw_wp_o {b n N : Nat} {w : gw_M} : ∀ (w1 : gw_M) (j : Nat), j < N → (∀ i, i < n → b + i ≠ j) → cw_wp b n w w1 j = w j := fun w1 j _ h => by
  unfold cw_wp; rw [if_neg]; intro q; exact h (j - b) (by omega) (by omega)
theorem cw_emb_H : gw_emb sTH sH (fun i => 3 + i) := ⟨fun i hi => by
  have h2 : i < 14 := hi
  have h3 : ¬ 3 + i < 3 := by omega
  simp [gw_at, sTH, h3, show 3 + i < 17 by omega], fun i j _ _ h => by have h : 3 + i = 3 + j := h; omega⟩
theorem cw_emb_T : gw_emb sTH sT (fun i => i) := ⟨fun i hi => by
  have h2 : i < 3 := hi
  rw [gw_pi_id]
  simp [gw_at, sTH, h2, show i < 17 by omega], fun i j _ _ h => h⟩
