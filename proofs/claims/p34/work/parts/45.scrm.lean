/-! SCRIPTS, SIMULATIONS -/
def cw_ga (g : Int32) : Int32 := cw_md (g / 10000) 10
def cw_gb (g : Int32) : Int32 := cw_md (g / 100) 100
def cw_gc (g : Int32) : Int32 := cw_md (g / 1) 100
noncomputable def cw_dd (u : cw_s) (g l : Int32) : Int32 × cw_s := cw_does u l (cw_ga g) (cw_gb g) (cw_gc g)
/-- a command of a script: 1 if it succeeds; the house then -/
noncomputable def cw_succ (u : cw_s) (g : Int32) : Int32 × cw_s :=
  if g / 100000 = 1 then cw_if (cw_gc g = 0) (cw_b ((cw_dd u g 116).1 = 0), cw_nf (cw_dd u g 116).2) (0, u)
  else if g / 100000 = 2 then (cw_b (¬ (cw_dd u g 98).1 = -9), cw_nf (cw_dd u g 98).2)
  else if g / 100000 = 3 then cw_if (cw_ga g = 0 ∧ cw_gb g = 0 ∧ cw_gc g < 10) (cw_b (¬ (cw_settles u).1 < cw_gc g), cw_nf (cw_settles u).2) (0, u)
  else if g / 100000 = 4 then cw_if (cw_gc g = 0) (cw_b (¬ (cw_dd u g 114).1 = -9), cw_nf (cw_dd u g 114).2) (0, u)
  else if g / 100000 = 5 then (cw_b (¬ (cw_dd u g 102).1 = -9), cw_nf (cw_dd u g 102).2)
  else if g / 100000 = 6 then cw_if (cw_gb g = 0 ∧ cw_gc g = 0) (cw_b ((cw_dd u g 97).1 = 1), cw_nf (cw_dd u g 97).2) (0, u)
  else if g / 100000 = 7 then cw_if (g = 700000) (cw_b (¬ (cw_dd u g 121).1 = -9), cw_nf (cw_dd u g 121).2) (0, u)
  else if g / 100000 = 8 then (cw_b (cw_gb g = 0 ∧ cw_isO u (cw_ga g) ∧ ¬ u (1 + 4 * cw_x (cw_ga g) + 1) < cw_gc g), u)
  else if g / 100000 = 9 then (cw_b (cw_gc g = 0 ∧ cw_th u (cw_ga g) (cw_gb g) ∧ u (25 + 3 * cw_x (cw_gb g) + 2) = cw_ga g), u)
  else (0, u)
theorem cw_succ_no (u : cw_s) (g : Int32) (h : (g / 100000).toInt < 1 ∨ 9 < (g / 100000).toInt) : cw_succ u g = (0, u) := by
  unfold cw_succ
  have e : ∀ v : Int32, 1 ≤ v.toInt → v.toInt ≤ 9 → ¬ g / 100000 = v := fun v h1 h2 q => by rw [q] at h; omega
  rw [if_neg (e 1 (by decide) (by decide)), if_neg (e 2 (by decide) (by decide)), if_neg (e 3 (by decide) (by decide)), if_neg (e 4 (by decide) (by decide)), if_neg (e 5 (by decide) (by decide)), if_neg (e 6 (by decide) (by decide)), if_neg (e 7 (by decide) (by decide)), if_neg (e 8 (by decide) (by decide)), if_neg (e 9 (by decide) (by decide))]

theorem cw_succ_1 {u : cw_s} {g : Int32} (h : g / 100000 = 1) : cw_succ u g = cw_if (cw_gc g = 0) (cw_b ((cw_dd u g 116).1 = 0), cw_nf (cw_dd u g 116).2) (0, u) := by
  unfold cw_succ
  rw [h]
  rw [if_pos rfl]
theorem cw_succ_2 {u : cw_s} {g : Int32} (h : g / 100000 = 2) : cw_succ u g = (cw_b (¬ (cw_dd u g 98).1 = -9), cw_nf (cw_dd u g 98).2) := by
  unfold cw_succ
  rw [h]
  rw [if_neg (show ¬ (2 : Int32) = 1 by decide), if_pos rfl]
theorem cw_succ_3 {u : cw_s} {g : Int32} (h : g / 100000 = 3) : cw_succ u g = cw_if (cw_ga g = 0 ∧ cw_gb g = 0 ∧ cw_gc g < 10) (cw_b (¬ (cw_settles u).1 < cw_gc g), cw_nf (cw_settles u).2) (0, u) := by
  unfold cw_succ
  rw [h]
  rw [if_neg (show ¬ (3 : Int32) = 1 by decide), if_neg (show ¬ (3 : Int32) = 2 by decide), if_pos rfl]
theorem cw_succ_4 {u : cw_s} {g : Int32} (h : g / 100000 = 4) : cw_succ u g = cw_if (cw_gc g = 0) (cw_b (¬ (cw_dd u g 114).1 = -9), cw_nf (cw_dd u g 114).2) (0, u) := by
  unfold cw_succ
  rw [h]
  rw [if_neg (show ¬ (4 : Int32) = 1 by decide), if_neg (show ¬ (4 : Int32) = 2 by decide), if_neg (show ¬ (4 : Int32) = 3 by decide), if_pos rfl]
theorem cw_succ_5 {u : cw_s} {g : Int32} (h : g / 100000 = 5) : cw_succ u g = (cw_b (¬ (cw_dd u g 102).1 = -9), cw_nf (cw_dd u g 102).2) := by
  unfold cw_succ
  rw [h]
  rw [if_neg (show ¬ (5 : Int32) = 1 by decide), if_neg (show ¬ (5 : Int32) = 2 by decide), if_neg (show ¬ (5 : Int32) = 3 by decide), if_neg (show ¬ (5 : Int32) = 4 by decide), if_pos rfl]
theorem cw_succ_6 {u : cw_s} {g : Int32} (h : g / 100000 = 6) : cw_succ u g = cw_if (cw_gb g = 0 ∧ cw_gc g = 0) (cw_b ((cw_dd u g 97).1 = 1), cw_nf (cw_dd u g 97).2) (0, u) := by
  unfold cw_succ
  rw [h]
  rw [if_neg (show ¬ (6 : Int32) = 1 by decide), if_neg (show ¬ (6 : Int32) = 2 by decide), if_neg (show ¬ (6 : Int32) = 3 by decide), if_neg (show ¬ (6 : Int32) = 4 by decide), if_neg (show ¬ (6 : Int32) = 5 by decide), if_pos rfl]
theorem cw_succ_7 {u : cw_s} {g : Int32} (h : g / 100000 = 7) : cw_succ u g = cw_if (g = 700000) (cw_b (¬ (cw_dd u g 121).1 = -9), cw_nf (cw_dd u g 121).2) (0, u) := by
  unfold cw_succ
  rw [h]
  rw [if_neg (show ¬ (7 : Int32) = 1 by decide), if_neg (show ¬ (7 : Int32) = 2 by decide), if_neg (show ¬ (7 : Int32) = 3 by decide), if_neg (show ¬ (7 : Int32) = 4 by decide), if_neg (show ¬ (7 : Int32) = 5 by decide), if_neg (show ¬ (7 : Int32) = 6 by decide), if_pos rfl]
theorem cw_succ_8 {u : cw_s} {g : Int32} (h : g / 100000 = 8) : cw_succ u g = (cw_b (cw_gb g = 0 ∧ cw_isO u (cw_ga g) ∧ ¬ u (1 + 4 * cw_x (cw_ga g) + 1) < cw_gc g), u) := by
  unfold cw_succ
  rw [h]
  rw [if_neg (show ¬ (8 : Int32) = 1 by decide), if_neg (show ¬ (8 : Int32) = 2 by decide), if_neg (show ¬ (8 : Int32) = 3 by decide), if_neg (show ¬ (8 : Int32) = 4 by decide), if_neg (show ¬ (8 : Int32) = 5 by decide), if_neg (show ¬ (8 : Int32) = 6 by decide), if_neg (show ¬ (8 : Int32) = 7 by decide), if_pos rfl]
theorem cw_succ_9 {u : cw_s} {g : Int32} (h : g / 100000 = 9) : cw_succ u g = (cw_b (cw_gc g = 0 ∧ cw_th u (cw_ga g) (cw_gb g) ∧ u (25 + 3 * cw_x (cw_gb g) + 2) = cw_ga g), u) := by
  unfold cw_succ
  rw [h]
  rw [if_neg (show ¬ (9 : Int32) = 1 by decide), if_neg (show ¬ (9 : Int32) = 2 by decide), if_neg (show ¬ (9 : Int32) = 3 by decide), if_neg (show ¬ (9 : Int32) = 4 by decide), if_neg (show ¬ (9 : Int32) = 5 by decide), if_neg (show ¬ (9 : Int32) = 6 by decide), if_neg (show ¬ (9 : Int32) = 7 by decide), if_neg (show ¬ (9 : Int32) = 8 by decide), if_pos rfl]
theorem cw_I_succ {n m : Nat} {u : cw_s} (hI : cw_I n m u) (hB : cw_B (n + 180) (m + 20)) (g : Int32) : cw_I (n + 180) (m + 20) (cw_succ u g).2 := by
  have k0 : cw_I (n + 180) (m + 20) u := hI.mono (Nat.le_add_right _ _) (Nat.le_add_right _ _)
  have kd : ∀ l, l ≠ 115 → cw_I (n + 180) (m + 20) (cw_nf (cw_dd u g l).2) := fun l hl => cw_I_cg (cw_I_does hI hB l _ _ _ (fun q => absurd q hl)) (cw_nf_nf _)
  unfold cw_succ
  split
  · by_cases q : cw_gc g = 0
    · rw [cw_it q]; exact kd 116 (by decide)
    · rw [cw_ie q]; exact k0
  split
  · exact kd 98 (by decide)
  split
  · by_cases q : cw_ga g = 0 ∧ cw_gb g = 0 ∧ cw_gc g < 10
    · rw [cw_it q]
      have g1 := cw_I_settles hI (cw_B_le2 hB (by omega) (by omega)) 20 (Nat.le_refl _)
      have g2 : cw_I n (m + 20) (cw_settles u).2 := by
        unfold cw_settles
        simp only []
        exact cw_I_noBids g1
      have g3 : cw_I n (m + 20) (cw_nf (cw_settles u).2) := cw_I_cg g2 (cw_nf_nf _)
      exact g3.mono (Nat.le_add_right _ _) (Nat.le_refl _)
    · rw [cw_ie q]; exact k0
  split
  · by_cases q : cw_gc g = 0
    · rw [cw_it q]; exact kd 114 (by decide)
    · rw [cw_ie q]; exact k0
  split
  · exact kd 102 (by decide)
  split
  · by_cases q : cw_gb g = 0 ∧ cw_gc g = 0
    · rw [cw_it q]; exact kd 97 (by decide)
    · rw [cw_ie q]; exact k0
  split
  · by_cases q : g = 700000
    · rw [cw_it q]; exact kd 121 (by decide)
    · rw [cw_ie q]; exact k0
  split
  · exact k0
  split
  · exact k0
  · exact k0
/-- the groups of a script, from the highest one -/
def cw_grp (n : Nat) (sc : Int64) (k : Nat) : Int32 := nI (sc.toInt.toNat / 1000000 ^ (n - 1 - k) % 1000000)
noncomputable def cw_srun (u : cw_s) (n : Nat) (sc : Int64) (i : Nat) : Int32 × cw_s :=
  cw_fold (fun k (x : Int32 × cw_s) => if x.1 = -1 then ((if (cw_succ x.2 (cw_grp n sc k)).1 = 0 then nI k else -1), (cw_succ x.2 (cw_grp n sc k)).2) else x) 0 i (-1, u)
theorem cw_srun_1 (u : cw_s) (n : Nat) (sc : Int64) (i : Nat) : cw_srun u n sc (i + 1) = if (cw_srun u n sc i).1 = -1 then ((if (cw_succ (cw_srun u n sc i).2 (cw_grp n sc i)).1 = 0 then nI i else -1), (cw_succ (cw_srun u n sc i).2 (cw_grp n sc i)).2) else cw_srun u n sc i := cw_fold0 _ i (-1, u)
theorem cw_srun_end (u : cw_s) (n : Nat) (sc : Int64) (i : Nat) (h : ¬ (cw_srun u n sc i).1 = -1) : ∀ k, cw_srun u n sc (i + k) = cw_srun u n sc i := by
  intro k
  induction k with
  | zero => rfl
  | succ k ih => show cw_srun u n sc ((i + k) + 1) = _; rw [cw_srun_1, ih, if_neg h]
theorem cw_srun_I {n m : Nat} {u : cw_s} (hI : cw_I n m u) (hB : cw_B (n + 21600) (m + 2400)) (nn : Nat) (sc : Int64) : ∀ i, i ≤ 100 → cw_I (n + 180 * i) (m + 20 * i) (cw_srun u nn sc i).2 := by
  intro i
  induction i with
  | zero =>
    intro _
    have e : cw_srun u nn sc 0 = (-1, u) := rfl
    rw [e]; exact hI.mono (by omega) (by omega)
  | succ i ih =>
    intro hi
    have h1 := ih (by omega)
    rw [cw_srun_1]
    split
    · exact (cw_I_succ h1 (cw_B_le2 hB (by omega) (by omega)) _).mono (by omega) (by omega)
    · exact h1.mono (by omega) (by omega)
/-- a turn of a simulation by r: what is done -/
def cw_tl (r : Int32) : Int32 :=
  let k := cw_md r 16
  if k = 0 then 111 else if k = 1 then 107 else if k = 2 then 115 else if k = 3 ∨ k = 4 ∨ k = 5 ∨ k = 6 then 116 else if k = 7 ∨ k = 8 then 98 else if k = 9 then 101 else if k = 10 then 114 else if k = 11 ∨ k = 12 then 102 else if k = 13 then 97 else if k = 14 then 117 else 121
def cw_ta (r : Int32) : Int32 :=
  let k := cw_md r 16
  let q := r / 16
  if k = 0 then 1 + cw_md q 9 else if k = 1 ∨ k = 2 then cw_md q 20 else if k = 13 then cw_md q 8 else if k = 14 then 1 + cw_md q 999 else cw_md q 6
def cw_tb (r : Int32) : Int32 :=
  let k := cw_md r 16
  let q := r / 16
  if k = 1 then 1 + cw_md (q / 32) 9 else if k = 2 then cw_md (q / 32) 2 else cw_md (q / 8) 20
def cw_tc (r : Int32) : Int32 :=
  let k := cw_md r 16
  let q := r / 16
  if k = 7 ∨ k = 8 then cw_md (q / 256) 21 else cw_md (q / 256) 20
noncomputable def cw_turn (u : cw_s) (r : Int32) : cw_s := cw_nf (cw_does u (cw_tl r) (cw_ta r) (cw_tb r) (cw_tc r)).2
def cw_sx (x : Int64) : Int64 := x * 6364136223846793005 + 1442695040888963407
def cw_sr (x : Int64) : Int32 := ((cw_sx x).toUInt64 >>> ((33 : Int32).toInt64.toUInt64 &&& Int64.toUInt64 63)).toInt64.toInt32
noncomputable def cw_sim (u : cw_s) (sd : Int64) (i : Nat) : Int64 × cw_s := cw_fold (fun _ (x : Int64 × cw_s) => (cw_sx x.1, cw_turn x.2 (cw_sr x.1))) 0 i (sd, u)
theorem cw_sim_1 (u : cw_s) (sd : Int64) (i : Nat) : cw_sim u sd (i + 1) = (cw_sx (cw_sim u sd i).1, cw_turn (cw_sim u sd i).2 (cw_sr (cw_sim u sd i).1)) := cw_fold0 _ i (sd, u)
theorem cw_mdg {x y : Int32} (hx : 0 ≤ x.toInt) (hy : 0 < y.toInt) : (cw_md x y).toInt = x.toInt % y.toInt ∧ (x / y).toInt = x.toInt / y.toInt := by
  have hx2 := Int32.toInt_lt x
  have hy2 := Int32.toInt_lt y
  have e1 : (x / y).toInt = x.toInt / y.toInt := by
    rw [Int32.toInt_div, Int.tdiv_eq_ediv_of_nonneg hx]
    have h1 : 0 ≤ x.toInt / y.toInt := Int.ediv_nonneg hx (by omega)
    have h2 : x.toInt / y.toInt ≤ x.toInt := Int.ediv_le_self _ hx
    exact Int.bmod_eq_of_le (by omega) (by omega)
  refine ⟨?_, e1⟩
  unfold cw_md
  have h1 : 0 ≤ x.toInt / y.toInt := Int.ediv_nonneg hx (by omega)
  have h3 : x.toInt / y.toInt * y.toInt ≤ x.toInt := Int.ediv_mul_le _ (by omega)
  have h4 : 0 ≤ x.toInt / y.toInt * y.toInt := Int.mul_nonneg h1 (by omega)
  have e2 : (x / y * y).toInt = x.toInt / y.toInt * y.toInt := by
    rw [Int32.toInt_mul, e1]; exact Int.bmod_eq_of_le (by omega) (by omega)
  have h5 := Int.emod_def x.toInt y.toInt
  rw [Int.mul_comm] at h5
  rw [Int32.toInt_sub, e2, Int.bmod_eq_of_le (by omega) (by omega)]
  omega
theorem cw_sr_pos (x : Int64) : 0 ≤ (cw_sr x).toInt := by
  unfold cw_sr
  generalize cw_sx x = y
  have e : ((33 : Int32).toInt64.toUInt64 &&& Int64.toUInt64 63) = 33 := by decide
  rw [e]
  generalize y.toUInt64 = z
  have h : (z >>> 33).toNat < 2147483648 := by
    rw [UInt64.toNat_shiftRight]
    have := z.toNat_lt
    have e2 : (33 : UInt64).toNat % 64 = 33 := by decide
    rw [e2, Nat.shiftRight_eq_div_pow]
    omega
  have e3 : ((z >>> 33).toInt64.toInt32).toInt = ((z >>> 33).toNat : Int) := by
    generalize z >>> 33 = v at h
    rw [Int64.toInt_toInt32]
    have e4 : v.toInt64.toInt = (v.toNat : Int) := by
      show v.toBitVec.toInt = _
      have h3 : v.toBitVec.toNat < 2147483648 := h
      rw [BitVec.toInt_eq_toNat_of_lt (by omega)]
      rfl
    rw [e4]
    exact Int.bmod_eq_of_le (by omega) (by omega)
  rw [e3]; exact Int.natCast_nonneg _
theorem cw_turn_s {r : Int32} (hr : 0 ≤ r.toInt) (h : cw_tl r = 115) : cw_isW (cw_ta r) ∧ cw_r 0 1 (cw_tb r) := by
  have hk : cw_md r 16 = 2 := by
    unfold cw_tl at h
    simp only [] at h
    repeat' (split at h)
    all_goals first | assumption | exact absurd h (by decide)
  have hq := (cw_mdg hr (y := 16) (by decide)).2
  have z16 : (16 : Int32).toInt = 16 := rfl
  have hq0 : 0 ≤ (r / 16).toInt := by rw [hq, z16]; omega
  have h20 := (cw_mdg hq0 (y := 20) (by decide)).1
  have z20 : (20 : Int32).toInt = 20 := rfl
  have h32 := (cw_mdg hq0 (y := 32) (by decide)).2
  have z32 : (32 : Int32).toInt = 32 := rfl
  have hq1 : 0 ≤ (r / 16 / 32).toInt := by rw [h32, z32]; omega
  have h2 := (cw_mdg hq1 (y := 2) (by decide)).1
  have z2 : (2 : Int32).toInt = 2 := rfl
  have ea : cw_ta r = cw_md (r / 16) 20 := by unfold cw_ta; simp only [hk]; simp
  have eb : cw_tb r = cw_md (r / 16 / 32) 2 := by unfold cw_tb; simp only [hk]; simp
  rw [ea, eb]
  rw [z20] at h20; rw [z2] at h2
  exact ⟨cw_r_isW (cw_r.of (by rw [h20]; omega) (by rw [h20]; omega) (by decide)), cw_r.of (by rw [h2]; omega) (by rw [h2]; omega) (by decide)⟩
theorem cw_sim_I {n m : Nat} {u : cw_s} (hI : cw_I n m u) (hB : cw_B (n + 21600) (m + 2400)) (sd : Int64) : ∀ i, i ≤ 100 → cw_I (n + 180 * i) (m + 20 * i) (cw_sim u sd i).2 := by
  intro i
  induction i with
  | zero => intro _; exact hI
  | succ i ih =>
    intro hi
    have h1 := ih (by omega)
    rw [cw_sim_1]
    show cw_I _ _ (cw_turn _ _)
    unfold cw_turn
    exact (cw_I_cg (cw_I_does h1 (cw_B_le2 hB (by omega) (by omega)) _ _ _ _ (fun q => cw_turn_s (cw_sr_pos _) q)) (cw_nf_nf _)).mono (by omega) (by omega)
noncomputable def sp_runScript (A : cw_A) (k : Int32) (sc : Int64) : cw_R := cw_stp (cw_if ((1 ≤ k ∧ k ≤ 3) ∧ 0 ≤ sc.toInt ∧ sc.toInt < 1000000 ^ cw_x k) 0 1) A ((cw_srun A.1 (cw_x k) sc (cw_x k)).1, A)
noncomputable def sp_simulate (A : cw_A) (sd : Int64) (k : Int32) : cw_R := cw_stp (cw_if (1 ≤ k ∧ k ≤ 60) 0 1) A (10000 * cw_held (cw_sim A.1 sd (cw_x k)).2 (-1) + cw_points (cw_sim A.1 sd (cw_x k)).2, A)
