/-! SETTLING: for the class's order of writing -/
theorem cw_B_le {n m m' : Nat} (h : cw_B n m) (hm : m' ≤ m) : cw_B n m' := ⟨h.1, Nat.le_trans hm h.2⟩
theorem cw_won_eq (t : cw_s) (j k : Nat) (hj : j < 6) (hk : k < 20) : cw_won t k j = (let s0 := upd (cw_spends t j (t (25 + 3 * k + 0) + t (85 + 20 * j + k))) (25 + 3 * k + 2) (nI j); upd s0 (1 + 4 * j + 2) (s0 (1 + 4 * j + 2) + 1)) := by
  unfold cw_won
  show upd (upd _ (1 + 4 * j + 2) _) (25 + 3 * k + 2) (nI j) = upd (upd _ (25 + 3 * k + 2) (nI j)) (1 + 4 * j + 2) _
  rw [cw_updc _ _ _ (show 1 + 4 * j + 2 ≠ 25 + 3 * k + 2 by omega), cw_upn _ (nI j) (show 1 + 4 * j + 2 ≠ 25 + 3 * k + 2 by omega)]
/-- a row of the house filled -/
theorem ho_fillb {w : gw_M} {t : cw_s} (h : ho w = t) : ho (cw_put w 10 (cw_fill 120 (-1) (w 10))) = cw_noBids t := by
  have e : ∀ q, q ≠ 10 → cw_put w 10 (cw_fill 120 (-1) (w 10)) q = w q := fun q hq => cw_put_ne w 10 _ hq
  have z : ∀ k, (k < 85 ∨ 205 ≤ k) → cw_noBids t k = ho w k := fun k hk => by rw [cw_noBids_at, if_neg (by omega), h]
  exact ho_ext (by rw [e 0 (by decide), z 0 (by omega), ho_j3]) (fun j hj => by rw [e 3 (by decide), z _ (by omega), ho_i3 w hj]) (fun j hj => by rw [e 4 (by decide), z _ (by omega), ho_i4 w hj]) (fun j hj => by rw [e 5 (by decide), z _ (by omega), ho_i5 w hj]) (fun j hj => by rw [e 6 (by decide), z _ (by omega), ho_i6 w hj]) (fun j hj => by rw [e 7 (by decide), z _ (by omega), ho_i7 w hj]) (fun j hj => by rw [e 8 (by decide), z _ (by omega), ho_i8 w hj]) (fun j hj => by rw [e 9 (by decide), z _ (by omega), ho_i9 w hj])
    (fun j hj => by rw [cw_put_self, cw_noBids_at, if_pos (by omega)]; unfold cw_fill; rw [if_pos hj]) (by rw [e 0 (by decide), z _ (by omega), ho_j12]) (fun j hj => by rw [e 11 (by decide), z _ (by omega), ho_i11 w hj]) (fun j hj => by rw [e 12 (by decide), z _ (by omega), ho_i12 w hj]) (fun j hj => by rw [e 13 (by decide), z _ (by omega), ho_i13 w hj]) (by rw [e 0 (by decide), z _ (by omega), ho_j2]) (fun j hj => by rw [e 1 (by decide), z _ (by omega), ho_i1 w hj]) (fun j hj => by rw [e 2 (by decide), z _ (by omega), ho_i2 w hj]) (fun k hk => by rw [z _ (by omega), ho_out w hk])
theorem ho_fillh {w : gw_M} {t : cw_s} (h : ho w = t) : ho (cw_put w 9 (cw_fill 20 (-1) (w 9))) = cw_freed t := by
  have e : ∀ q, q ≠ 9 → cw_put w 9 (cw_fill 20 (-1) (w 9)) q = w q := fun q hq => cw_put_ne w 9 _ hq
  have z : ∀ k, ¬ (25 ≤ k ∧ k < 85 ∧ (k - 25) % 3 = 2) → cw_freed t k = ho w k := fun k hk => by rw [cw_freed_at, if_neg hk, h]
  exact ho_ext (by rw [e 0 (by decide), z 0 (by omega), ho_j3]) (fun j hj => by rw [e 3 (by decide), z _ (by omega), ho_i3 w hj]) (fun j hj => by rw [e 4 (by decide), z _ (by omega), ho_i4 w hj]) (fun j hj => by rw [e 5 (by decide), z _ (by omega), ho_i5 w hj]) (fun j hj => by rw [e 6 (by decide), z _ (by omega), ho_i6 w hj]) (fun j hj => by rw [e 7 (by decide), z _ (by omega), ho_i7 w hj]) (fun j hj => by rw [e 8 (by decide), z _ (by omega), ho_i8 w hj]) (fun j hj => by rw [cw_put_self, cw_freed_at, if_pos (by omega)]; unfold cw_fill; rw [if_pos hj])
    (fun j hj => by rw [e 10 (by decide), z _ (by omega), ho_i10 w hj]) (by rw [e 0 (by decide), z _ (by omega), ho_j12]) (fun j hj => by rw [e 11 (by decide), z _ (by omega), ho_i11 w hj]) (fun j hj => by rw [e 12 (by decide), z _ (by omega), ho_i12 w hj]) (fun j hj => by rw [e 13 (by decide), z _ (by omega), ho_i13 w hj]) (by rw [e 0 (by decide), z _ (by omega), ho_j2]) (fun j hj => by rw [e 1 (by decide), z _ (by omega), ho_i1 w hj]) (fun j hj => by rw [e 2 (by decide), z _ (by omega), ho_i2 w hj]) (fun k hk => by rw [z _ (by omega), ho_out w hk])
/-- a sum of sums, told either way -/
theorem cw_fold_sum0 (f : Nat → Int32) : ∀ n x, cw_fold (fun j y => y + f j) 0 n x = x + cw_fold (fun j y => y + f j) 0 n 0 := by
  intro n
  induction n with
  | zero => intro x; exact (Int32.add_zero x).symm
  | succ n ih => intro x; rw [cw_fold0, cw_fold0, ih x, Int32.add_assoc]
theorem cw_fold_add (f g : Nat → Int32) : ∀ n, cw_fold (fun j y => y + (f j + g j)) 0 n 0 = cw_fold (fun j y => y + f j) 0 n 0 + cw_fold (fun j y => y + g j) 0 n 0 := by
  intro n
  induction n with
  | zero => rfl
  | succ n ih =>
    rw [cw_fold0, cw_fold0, cw_fold0, ih, Int32.add_assoc, Int32.add_assoc]
    congr 1
    rw [← Int32.add_assoc, ← Int32.add_assoc, Int32.add_comm (cw_fold (fun j y => y + g j) 0 n 0) (f n)]
theorem cw_fold_zero : ∀ n, cw_fold (fun _ (y : Int32) => y + 0) 0 n 0 = 0 := by
  intro n
  induction n with
  | zero => rfl
  | succ n ih => rw [cw_fold0, ih]; rfl
theorem cw_fold_swap (f : Nat → Nat → Int32) (m : Nat) : ∀ n, cw_fold (fun j y => y + cw_fold (fun k z => z + f j k) 0 m 0) 0 n 0 = cw_fold (fun k y => y + cw_fold (fun j z => z + f j k) 0 n 0) 0 m 0 := by
  intro n
  induction n with
  | zero => exact (cw_fold_zero m).symm
  | succ n ih =>
    rw [cw_fold0, ih, ← cw_fold_add]
    exact cw_fold_congr m 0 0 (fun k y _ _ => by rw [cw_fold0])
theorem cw_cnt_sum (P : Nat → Prop) [DecidablePred P] (n : Nat) (x : Int32) : cw_fold (fun k x => if P k then x else x + 1) 0 n x = cw_fold (fun k x => x + (if P k then 0 else 1)) 0 n x :=
  cw_fold_congr n 0 x (fun k y _ _ => by
    by_cases h : P k
    · rw [if_pos h, if_pos h]; exact (Int32.add_zero y).symm
    · rw [if_neg h, if_neg h])
theorem cw_allBids_eq {n m : Nat} {t : cw_s} (h : cw_I n m t) : cw_fold (fun j x => x + cw_bidsBy t j) 0 6 0 = cw_allBids t := by
  have h6 := h.m.2
  have e1 : ∀ j, cw_bidsBy t j = cw_fold (fun k z => z + (if t (85 + 20 * j + k) = -1 then 0 else 1)) 0 20 0 := fun j => cw_cnt_sum (fun k => t (85 + 20 * j + k) = -1) 20 0
  have e2 : ∀ k, k < 20 → cw_bidsFor t k = cw_fold (fun j z => z + (if t (85 + 20 * j + k) = -1 then 0 else 1)) 0 6 0 := fun k hk => by
    unfold cw_bidsFor
    rw [← cw_fold_id (f := fun o x => if t (85 + 20 * o + k) = -1 then x else x + 1) (cw_no t) 6 h6 0 (fun j h1 h2 => by rw [h.nob j k h1 h2 hk]; rfl)]
    exact cw_cnt_sum (fun j => t (85 + 20 * j + k) = -1) 6 0
  rw [cw_fold_congr 6 0 0 (fun j y _ _ => by rw [e1 j])]
  rw [cw_fold_swap (fun j k => if t (85 + 20 * j + k) = -1 then 0 else 1) 20 6]
  exact cw_fold_congr 20 0 0 (fun k y _ hk => by rw [e2 k (by omega)])
