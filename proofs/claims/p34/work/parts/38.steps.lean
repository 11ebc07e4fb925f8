/-! WHAT EACH METHOD OF THE FACE ANSWERS AND LEAVES: the place of its exception (0: none), the answer, the state -/
abbrev cw_R : Type := Int32 × Int32 × cw_A
def cw_stp (e : Int32) (A : cw_A) (r : Int32 × cw_A) : cw_R := if e = 0 then (0, r.1, r.2) else (e, 0, A)
def cw_told (u : cw_s) (k : Int32) : Int32 :=
  if k = 0 then u 0 else if k = 1 then u 230 else if k = 2 then cw_held u (-1) else if k = 3 then u 234 else if k = 4 then u 235 else if k = 5 then u 236 else if k = 6 then u 237 else if k = 7 then cw_points u else if k = 8 then cw_allBids u else if k = 9 then u 205 else if k = 10 then u 238 else if k = 11 then u 239 else if k = 12 then u 240 else u 241
def cw_ofO (u : cw_s) (j : Nat) (k : Int32) : Int32 :=
  if k = 0 then u (1 + 4 * j + 0) else if k = 1 then u (1 + 4 * j + 1) else if k = 2 then cw_held u (nI j) else if k = 3 then u (1 + 4 * j + 2) else if k = 4 then u (1 + 4 * j + 3) else if k = 5 then cw_low u (nI j) else cw_bidsBy u j
def cw_ofW (u : cw_s) (i : Nat) (k : Int32) : Int32 :=
  if k = 0 then u (25 + 3 * i + 0) else if k = 1 then u (25 + 3 * i + 1) else if k = 2 then u (25 + 3 * i + 2) else if k = 3 then cw_bidsFor u i else cw_great u i
noncomputable def cw_ofK (u : cw_s) (i : Nat) (k : Int32) : Int32 :=
  if k = 0 then u (206 + 3 * i + 0) else if k = 1 then u (206 + 3 * i + 1) else if k = 2 then u (206 + 3 * i + 2) else cw_b (¬ cw_swap u (u (206 + 3 * i + 0)) (u (206 + 3 * i + 1)) (u (206 + 3 * i + 2)))
noncomputable def cw_acts (A : cw_A) (l a b c : Int32) : Int32 × cw_A := ((cw_does A.1 l a b c).1, (cw_nf (cw_does A.1 l a b c).2, (cw_rem A).2))
noncomputable def cw_before (u : cw_s) (k : Nat) : cw_s := cw_fold (fun i x => cw_settle1 x i) 0 k u
noncomputable def cw_wins (u : cw_s) (k : Nat) : Int32 := cw_best (cw_before u k) k
/-- the least extra that wins: from the greatest one down -/
noncomputable def cw_least (u : cw_s) (j k : Nat) : Int32 := cw_if (cw_open u k) (cw_fold (fun i x => cw_if (cw_wins (upd u (85 + 20 * j + k) (nI (20 - i))) k = nI j) (nI (20 - i)) x) 0 21 (-1)) (-1)
def cw_setOk (w v : Int32) : Prop := (w = 0 ∧ 1 ≤ v ∧ v ≤ 20) ∨ (w = 1 ∧ 0 ≤ v ∧ v ≤ 20) ∨ (w = 2 ∧ 1 ≤ v ∧ v ≤ 10)
noncomputable def sp_append (A : cw_A) (c : Int32) : cw_R := cw_stp (cw_if (0 ≤ c ∧ c ≤ 255) (if nI A.2.2.2.1 = 120 then 2 else 0) 1) A (nI (A.2.2.2.1 + 1), (A.1, A.2.1, A.2.2.1, (A.2.2.2.1 + 1, upd A.2.2.2.2 A.2.2.2.1 c)))
def sp_clearText (A : cw_A) : cw_R := (0, nI A.2.2.2.1, (A.1, A.2.1, A.2.2.1, (0, A.2.2.2.2)))
noncomputable def sp_errorPosition (A : cw_A) : cw_R := (0, if (cw_parse A.2.2.2.2 A.2.2.2.1 120).1 = true then nI (cw_parse A.2.2.2.2 A.2.2.2.1 120).2 else -1, A)
noncomputable def sp_load (A : cw_A) : cw_R := cw_stp (cw_bi (cw_parse A.2.2.2.2 A.2.2.2.1 120).1) A ((cw_run A.2.2.2.2 A.2.2.2.1 120).2.2, (cw_nf (cw_run A.2.2.2.2 A.2.2.2.1 120).2.1, (0, A.2.1.2), (fun _ => none), A.2.2.2))
noncomputable def sp_about (A : cw_A) (k : Int32) : cw_R := cw_stp (cw_if (0 ≤ k ∧ k ≤ 13) 0 1) A (cw_told A.1 k, A)
noncomputable def sp_ownerOf (A : cw_A) (o k : Int32) : cw_R := cw_stp (cw_if (cw_isO A.1 o) (cw_if (0 ≤ k ∧ k ≤ 6) 0 2) 1) A (cw_ofO A.1 (cw_x o) k, A)
noncomputable def sp_weekOf (A : cw_A) (i k : Int32) : cw_R := cw_stp (cw_if (cw_isW i) (cw_if (0 ≤ k ∧ k ≤ 4) 0 2) 1) A (cw_ofW A.1 (cw_x i) k, A)
noncomputable def sp_bidOf (A : cw_A) (o i : Int32) : cw_R := cw_stp (cw_if (cw_th A.1 o i) 0 1) A (A.1 (85 + 20 * cw_x o + cw_x i), A)
noncomputable def sp_offerOf (A : cw_A) (i k : Int32) : cw_R := cw_stp (cw_if (cw_isK A.1 i) (cw_if (0 ≤ k ∧ k ≤ 3) 0 2) 1) A (cw_ofK A.1 (cw_x i) k, A)
noncomputable def sp_owner (A : cw_A) (a : Int32) : cw_R := cw_stp (cw_if (1 ≤ a ∧ a ≤ 9) (if A.1 0 = 6 then 2 else 0) 1) A (cw_acts A 111 a 0 0)
noncomputable def sp_cost (A : cw_A) (k a : Int32) : cw_R := cw_stp (cw_if (cw_isW k) (cw_if (1 ≤ a ∧ a ≤ 9) 0 2) 1) A (cw_acts A 107 k a 0)
noncomputable def sp_school (A : cw_A) (k a : Int32) : cw_R := cw_stp (cw_if (cw_isW k) 0 1) A (cw_schools (cw_acts A 115 k a 0).2.1, (cw_acts A 115 k a 0).2)
noncomputable def sp_take (A : cw_A) (o k : Int32) : cw_R := cw_stp (cw_if (cw_th A.1 o k) 0 1) A ((cw_acts A 116 o k 0).1, (upd (cw_acts A 116 o k 0).2.1 240 ((cw_acts A 116 o k 0).2.1 240 + (if (cw_acts A 116 o k 0).1 ≤ 0 then 0 else 1)), (cw_acts A 116 o k 0).2.2))
noncomputable def sp_release (A : cw_A) (o k : Int32) : cw_R := cw_stp (cw_if (cw_th A.1 o k) (if A.1 (25 + 3 * cw_x k + 2) = o then 0 else 2) 1) A (cw_acts A 114 o k 0)
noncomputable def sp_bid (A : cw_A) (o k a : Int32) : cw_R := cw_stp (cw_if (cw_th A.1 o k) (cw_if (0 ≤ a ∧ a ≤ 20) (cw_if (cw_open A.1 (cw_x k)) 0 3) 2) 1) A (cw_acts A 98 o k a)
noncomputable def sp_settle (A : cw_A) : cw_R := (0, cw_acts A 101 0 0 0)
noncomputable def sp_offer (A : cw_A) (o k x : Int32) : cw_R := cw_stp (cw_if (cw_th A.1 o k ∧ cw_isW x) (cw_if (cw_swap A.1 o k x ∧ ¬ A.1 205 = 8) 0 2) 1) A (cw_acts A 102 o k x)
noncomputable def sp_accept (A : cw_A) (k : Int32) : cw_R := cw_stp (cw_if (cw_isK A.1 k) 0 1) A (cw_acts A 97 k 0 0)
noncomputable def sp_upkeep (A : cw_A) (c : Int32) : cw_R := cw_stp (cw_if (1 ≤ c ∧ c ≤ 999) (if A.1 0 = 0 then 2 else 0) 1) A (cw_acts A 117 c 0 0)
noncomputable def sp_year (A : cw_A) : cw_R := (0, cw_acts A 121 0 0 0)
noncomputable def sp_set (A : cw_A) (k v : Int32) : cw_R := cw_stp (cw_if (cw_setOk k v) 0 1) A (A.1 (231 + cw_x k), (upd A.1 (231 + cw_x k) v, (cw_rem A).2))
noncomputable def sp_undo (A : cw_A) : cw_R := cw_stp (if A.2.1.1 = 0 then 1 else 0) A (nI (A.2.1.1 - 1), (A.2.1.2 (A.2.1.1 - 1), (A.2.1.1 - 1, A.2.1.2), A.2.2))
noncomputable def sp_why (A : cw_A) (o k : Int32) : cw_R := cw_stp (cw_if (cw_th A.1 o k) 0 1) A (cw_hind A.1 (cw_x o) (cw_x k), A)
noncomputable def sp_winner (A : cw_A) (k : Int32) : cw_R := cw_stp (cw_if (cw_isW k) 0 1) A (cw_wins A.1 (cw_x k), A)
noncomputable def sp_leastBid (A : cw_A) (o k : Int32) : cw_R := cw_stp (cw_if (cw_th A.1 o k) 0 1) A (cw_least A.1 (cw_x o) (cw_x k), A)
noncomputable def sp_ifUpkeep (A : cw_A) (o c : Int32) : cw_R := cw_stp (cw_if (cw_isO A.1 o) (cw_if (1 ≤ c ∧ c ≤ 999) 0 2) 1) A (cw_partOf A.1 (cw_x o) c, A)
noncomputable def sp_save (A : cw_A) (k : Int32) : cw_R := cw_stp (cw_if (0 ≤ k ∧ k ≤ 1) 0 1) A (A.1 230, (A.1, A.2.1, (fun i => if i = cw_x k then some A.1 else A.2.2.1 i), A.2.2.2))
noncomputable def sp_restore (A : cw_A) (k : Int32) : cw_R := cw_stp (cw_if (0 ≤ k ∧ k ≤ 1) (if (A.2.2.1 (cw_x k)).isSome then 0 else 2) 1) A (((A.2.2.1 (cw_x k)).getD A.1) 230, ((A.2.2.1 (cw_x k)).getD A.1, (0, A.2.1.2), A.2.2))
theorem cw_stp0 {e : Int32} {A : cw_A} {r : Int32 × cw_A} (h : e = 0) : cw_stp e A r = (0, r.1, r.2) := if_pos h
theorem cw_stp1 {e : Int32} {A : cw_A} {r : Int32 × cw_A} (h : ¬ e = 0) : cw_stp e A r = (e, 0, A) := if_neg h
/-- what is told of a house: what counts of it decides -/
theorem cw_points_cg {s' s : cw_s} (e : cw_eq s' s) (h6 : cw_no s ≤ 6) : cw_points s' = cw_points s := by
  unfold cw_points; rw [cw_no_cg e]
  exact cw_fold_congr _ 0 0 (fun j y _ h2 => by rw [cw_rd e (by omega) (by omega)])
theorem cw_allBids_cg {s' s : cw_s} (e : cw_eq s' s) (h6 : cw_no s ≤ 6) : cw_allBids s' = cw_allBids s :=
  cw_fold_congr 20 0 0 (fun k y _ h2 => by rw [cw_bidsFor_cg e h6 (by omega)])
theorem cw_low_cg {s' s : cw_s} (e : cw_eq s' s) (o : Int32) : cw_low s' o = cw_low s o :=
  cw_fold_congr 20 0 (-1) (fun j y _ h2 => by rw [cw_rd e (by omega) (by omega)])
theorem cw_bidsBy_cg {s' s : cw_s} (e : cw_eq s' s) {j : Nat} (hj : j < 6) : cw_bidsBy s' j = cw_bidsBy s j :=
  cw_fold_congr 20 0 0 (fun k y _ h2 => by rw [cw_rd e (by omega) (by omega)])
theorem cw_great_cg {s' s : cw_s} (e : cw_eq s' s) (h6 : cw_no s ≤ 6) {k : Nat} (hk : k < 20) : cw_great s' k = cw_great s k := by
  unfold cw_great; rw [cw_no_cg e]
  exact cw_fold_congr _ 0 (-1) (fun j y _ h2 => by rw [cw_rd e (by omega) (by omega)])
theorem cw_schools_cg {s' s : cw_s} (e : cw_eq s' s) : cw_schools s' = cw_schools s :=
  cw_fold_congr 20 0 0 (fun k y _ h2 => by rw [cw_rd e (by omega) (by omega)])
theorem cw_told_cg {s' s : cw_s} (e : cw_eq s' s) (h6 : cw_no s ≤ 6) (k : Int32) : cw_told s' k = cw_told s k := by
  unfold cw_told
  rw [cw_rd e (p := 0) (by omega) (by omega), cw_rd e (p := 230) (by omega) (by omega), cw_held_cg e, cw_rd e (p := 234) (by omega) (by omega), cw_rd e (p := 235) (by omega) (by omega), cw_rd e (p := 236) (by omega) (by omega), cw_rd e (p := 237) (by omega) (by omega), cw_points_cg e h6, cw_allBids_cg e h6, cw_rd e (p := 205) (by omega) (by omega), cw_rd e (p := 238) (by omega) (by omega), cw_rd e (p := 239) (by omega) (by omega), cw_rd e (p := 240) (by omega) (by omega), cw_rd e (p := 241) (by omega) (by omega)]
theorem cw_ofO_cg {s' s : cw_s} (e : cw_eq s' s) {j : Nat} (hj : j < 6) (k : Int32) : cw_ofO s' j k = cw_ofO s j k := by
  unfold cw_ofO
  rw [cw_rd e (p := 1 + 4 * j + 0) (by omega) (by omega), cw_rd e (p := 1 + 4 * j + 1) (by omega) (by omega), cw_held_cg e, cw_rd e (p := 1 + 4 * j + 2) (by omega) (by omega), cw_rd e (p := 1 + 4 * j + 3) (by omega) (by omega), cw_low_cg e, cw_bidsBy_cg e hj]
theorem cw_ofW_cg {s' s : cw_s} (e : cw_eq s' s) (h6 : cw_no s ≤ 6) {i : Nat} (hi : i < 20) (k : Int32) : cw_ofW s' i k = cw_ofW s i k := by
  unfold cw_ofW
  rw [cw_rd e (p := 25 + 3 * i + 0) (by omega) (by omega), cw_rd e (p := 25 + 3 * i + 1) (by omega) (by omega), cw_rd e (p := 25 + 3 * i + 2) (by omega) (by omega), cw_bidsFor_cg e h6 hi, cw_great_cg e h6 hi]
theorem cw_ofK_cg {n m : Nat} {s' s : cw_s} (hI : cw_I n m s) (e : cw_eq s' s) {i : Nat} (hi : i < cw_x (s 205)) (k : Int32) : cw_ofK s' i k = cw_ofK s i k := by
  unfold cw_ofK
  rw [cw_live hI e (z := 0) hi (by omega), cw_live hI e (z := 1) hi (by omega), cw_live hI e (z := 2) hi (by omega), cw_swap_cg2 e]
theorem cw_before_cg {n m : Nat} {s' s : cw_s} (hI : cw_I n m s) (hB : cw_B n (m + 20)) (e : cw_eq s' s) : ∀ k, k ≤ 20 → cw_eq (cw_before s' k) (cw_before s k) ∧ cw_I n (m + k) (cw_before s k) := by
  intro k
  induction k with
  | zero => intro _; exact ⟨e, hI⟩
  | succ k ih =>
    intro hk
    obtain ⟨a, b⟩ := ih (by omega)
    unfold cw_before at a b ⊢
    rw [cw_fold0, cw_fold0]
    exact ⟨cw_settle1_cg b a (by omega), cw_I_settle1 b (cw_B_le hB (by omega)) (by omega)⟩
theorem cw_wins_cg {n m : Nat} {s' s : cw_s} (hI : cw_I n m s) (hB : cw_B n (m + 20)) (e : cw_eq s' s) {k : Nat} (hk : k < 20) : cw_wins s' k = cw_wins s k := by
  obtain ⟨a, b⟩ := cw_before_cg hI hB e k (by omega)
  exact cw_best_cg a b.m.2 hk
theorem cw_least_cg {n m : Nat} {s' s : cw_s} (hI : cw_I n m s) (hB : cw_B n (m + 20)) (e : cw_eq s' s) {j k : Nat} (hj : j < cw_no s) (hk : k < 20) : cw_least s' j k = cw_least s j k := by
  have h6 := hI.m.2
  unfold cw_least
  rw [cw_open_cg e hk]
  congr 1
  exact cw_fold_congr 21 0 (-1) (fun i y _ h2 => by
    rw [cw_wins_cg (cw_I_bid hI hj hk (Or.inr ⟨20 - i, by omega, by omega, rfl⟩)) hB (cw_up e _ (by omega) (by omega)) hk])
