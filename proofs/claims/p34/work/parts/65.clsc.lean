/-! THE CLASS: its cells: 18 houses of 14 cells (present, copy, 14 rows, 2 slots), then itself, its history, the rows, the slots, what is saved, text, signs, values, matching, takers, tried -/
def sC : gw_S := (263, fun i => if i < 252 then gw_pi (fun j => 14 * (i / 14) + j) (sH.2 (i % 14)) else if i = 252 then .inr (4, [some 0, some 14, some 253, some 255, some 256, some 257, some 260]) else if i = 253 then .inr (0, [some 254, none, none]) else if i = 254 then .inl (4, 14, fun j => 14 * (j + 2)) else if i = 255 then .inl (4, 2, fun j => 14 * (j + 16)) else if i = 256 then .inl (1, 2, fun j => j) else if i = 257 then .inr (3, [some 258, none, none, none, some 259, none]) else if i = 258 then .inl (2, 120, fun j => j) else if i = 259 then .inl (0, 3, fun j => j) else if i = 260 then .inr (2, [some 261, some 262]) else .inl (0, 20, fun j => j))
theorem gw_pi_pi (π σ : Nat → Nat) (c : gw_C) : gw_pi π (gw_pi σ c) = gw_pi (fun j => π (σ j)) c := by
  cases c with
  | inl a =>
    obtain ⟨kd, n, tg⟩ := a
    simp only [gw_pi]
    by_cases h : kd ≤ 3
    · rw [if_pos h, if_pos h, if_pos h]
    · rw [if_neg h, if_neg h, if_neg h]
  | inr a =>
    obtain ⟨ci, fs⟩ := a
    simp only [gw_pi, List.map_map]
    congr 3
    funext z
    cases z <;> rfl
theorem cw_sC_h {h i : Nat} (hh : h < 18) (hi : i < 14) : gw_at sC (14 * h + i) = some (gw_pi (fun j => 14 * h + j) (sH.2 i)) := by
  have e1 : (14 * h + i) / 14 = h := by omega
  have e2 : (14 * h + i) % 14 = i := by omega
  have e3 : sC.2 (14 * h + i) = gw_pi (fun j => 14 * ((14 * h + i) / 14) + j) (sH.2 ((14 * h + i) % 14)) := if_pos (by omega)
  rw [e1, e2] at e3
  rw [← e3]
  exact if_pos (show 14 * h + i < 263 by omega)
theorem cw_emb_h (h : Nat) (hh : h < 18) : gw_emb sC sH (fun i => 14 * h + i) := ⟨fun _ hi => cw_sC_h hh hi, fun i j _ _ q => by have q : 14 * h + i = 14 * h + j := q; omega⟩
theorem cw_sH_pi {π σ : Nat → Nat} (hp : ∀ j, j < 14 → π j = σ j) {i : Nat} (hi : i < 14) : gw_pi π (sH.2 i) = gw_pi σ (sH.2 i) := by
  have h : i = 0 ∨ i = 1 ∨ i = 2 ∨ i = 3 ∨ i = 4 ∨ i = 5 ∨ i = 6 ∨ i = 7 ∨ i = 8 ∨ i = 9 ∨ i = 10 ∨ i = 11 ∨ i = 12 ∨ i = 13 := by omega
  rcases h with rfl | rfl | rfl | rfl | rfl | rfl | rfl | rfl | rfl | rfl | rfl | rfl | rfl | rfl
  · simp [sH, gw_pi, hp]
  all_goals rfl
theorem cw_emb_2 (h g : Nat) (hh : h < 18) (hg : g < 18) (hn : h ≠ g) : gw_emb sC sH2 (fun i => if i < 14 then 14 * h + i else 14 * g + (i - 14)) := ⟨fun i hi => by
  have h2 : i < 28 := hi
  by_cases c : i < 14
  · have e : sH2.2 i = sH.2 i := if_pos c
    show gw_at sC (if i < 14 then 14 * h + i else 14 * g + (i - 14)) = _
    rw [if_pos c, e, cw_sC_h hh c]
    exact congrArg some (cw_sH_pi (fun j hj => (if_pos hj).symm) c)
  · have e : sH2.2 i = gw_pi (fun j => j + 14) (sH.2 (i - 14)) := if_neg c
    show gw_at sC (if i < 14 then 14 * h + i else 14 * g + (i - 14)) = _
    rw [if_neg c, e, cw_sC_h hg (by omega), gw_pi_pi]
    exact congrArg some (cw_sH_pi (fun j hj => by rw [if_neg (by omega), Nat.add_sub_cancel]) (by omega)), fun i j hi hj q => by
  have hi2 : i < 28 := hi
  have hj2 : j < 28 := hj
  have q : (if i < 14 then 14 * h + i else 14 * g + (i - 14)) = (if j < 14 then 14 * h + j else 14 * g + (j - 14)) := q
  split at q <;> split at q <;> omega⟩
