theorem cw_ho_wp (w w1 : gw_M) : ho (cw_ws 3 (cw_wp 3 14 w w1)) = ho w1 := by
  have key : ∀ q, q < 14 → cw_ws 3 (cw_wp 3 14 w w1) q = w1 q := fun q hq => cw_wp_i w1 q hq
  exact ho_eq (by rw [key 0 (by decide)]) (by rw [key 0 (by decide)]) (by rw [key 0 (by decide)]) (fun j _ => by rw [key 1 (by decide)]) (fun j _ => by rw [key 2 (by decide)]) (fun j _ => by rw [key 3 (by decide)]) (fun j _ => by rw [key 4 (by decide)]) (fun j _ => by rw [key 5 (by decide)]) (fun j _ => by rw [key 6 (by decide)]) (fun j _ => by rw [key 7 (by decide)]) (fun j _ => by rw [key 8 (by decide)]) (fun j _ => by rw [key 9 (by decide)]) (fun j _ => by rw [key 10 (by decide)]) (fun j _ => by rw [key 11 (by decide)]) (fun j _ => by rw [key 12 (by decide)]) (fun j _ => by rw [key 13 (by decide)])
theorem cw_wp_self (w : gw_M) : cw_wp 3 14 w (cw_ws 3 w) = w := by
  funext j
  unfold cw_wp cw_ws
  split
  · next q => rw [show 3 + (j - 3) = j by omega]
  · rfl
theorem cw_wp_lo (w w1 : gw_M) {q : Nat} (h : q < 3) : cw_wp 3 14 w w1 q = w q := by unfold cw_wp; rw [if_neg (by omega)]
theorem cw_schools_r {t : cw_s} (h : ∀ k, k < 20 → cw_r 0 1 (t (25 + 3 * k + 1))) : cw_r 0 20 (cw_schools t) := by
  have key := cw_fold_P (f := fun k (x : Int32) => x + t (25 + 3 * k + 1)) (fun i (x : Int32) => cw_r 0 i x) 20 0 ⟨0, Nat.zero_le _, by decide, rfl⟩ (fun j y hj hy => by
    show cw_r 0 (j + 1) (y + t (25 + 3 * j + 1))
    obtain ⟨a, a1, a2, a3⟩ := hy
    obtain ⟨b, b1, b2, b3⟩ := h j hj
    exact ⟨a + b, Nat.zero_le _, by omega, by rw [a3, b3, nI_add]⟩)
  exact key 20 (Nat.le_refl _)
/-- what of a command is done -/
def cw_dn (d l : Int32) : Prop := ¬ (d = -9 ∨ (l = 116 ∧ ¬ d ≤ 0))
theorem cw_dn1 {d l : Int32} (hl : ¬ l = 116) (h : ¬ d = -9) : cw_dn d l := fun q => q.elim h (fun z => hl z.1)

theorem cw_take_pos {n m : Nat} {u : cw_s} (hI : cw_I n m u) {a b : Int32} (h : ¬ (cw_oTake u a b).1 = 0) : (cw_oTake u a b).1 = -9 ∨ ¬ (cw_oTake u a b).1 ≤ 0 := by
  unfold cw_oTake at h ⊢
  by_cases q : cw_th u a b
  · rw [cw_it q] at h ⊢
    right
    have h : ¬ cw_hind u (cw_x a) (cw_x b) = 0 := h
    show ¬ cw_hind u (cw_x a) (cw_x b) ≤ 0
    revert h
    unfold cw_hind
    repeat' split
    all_goals first | (intro _; decide) | (intro h; exact absurd rfl h)
  · rw [cw_ie q]; exact Or.inl rfl
