theorem cw_gq {g : Int32} {k : Int} (h : (g / 100000).toInt = k) (h1 : 1 ≤ k) : 100000 * k ≤ g.toInt ∧ g.toInt < 100000 * (k + 1) := by
  have z : (100000 : Int32).toInt = 100000 := rfl
  by_cases q : 0 ≤ g.toInt
  · have e := (cw_mdg q (y := 100000) (by decide)).2
    rw [h, z] at e
    omega
  · exfalso
    rw [Int32.toInt_div, z] at h
    have e : g.toInt.tdiv 100000 = -((-g.toInt) / 100000) := by
      rw [show g.toInt = -(-g.toInt) by omega, Int.neg_tdiv, Int.tdiv_eq_ediv_of_nonneg (by omega)]
      simp
    have b := Int32.le_toInt g
    rw [e, Int.bmod_eq_of_le (by omega) (by omega)] at h
    omega
theorem cw_gabc {g : Int32} (h : 0 ≤ g.toInt) : (cw_ga g).toInt = g.toInt / 10000 % 10 ∧ (cw_gb g).toInt = g.toInt / 100 % 100 ∧ (cw_gc g).toInt = g.toInt % 100 := by
  have z1 : (10000 : Int32).toInt = 10000 := rfl
  have z2 : (100 : Int32).toInt = 100 := rfl
  have z3 : (10 : Int32).toInt = 10 := rfl
  have z4 : (1 : Int32).toInt = 1 := rfl
  have e1 := (cw_mdg h (y := 10000) (by decide)).2
  have e2 := (cw_mdg h (y := 100) (by decide)).2
  have e4 := (cw_mdg h (y := 1) (by decide)).2
  rw [z1] at e1; rw [z2] at e2; rw [z4] at e4
  have f1 := (cw_mdg (x := g / 10000) (by omega) (y := 10) (by decide)).1
  have f2 := (cw_mdg (x := g / 100) (by omega) (y := 100) (by decide)).1
  have f4 := (cw_mdg (x := g / 1) (by omega) (y := 100) (by decide)).1
  rw [z3] at f1; rw [z2] at f2; rw [z2] at f4
  unfold cw_ga cw_gb cw_gc
  rw [f1, f2, f4]
  omega
theorem cw_z0 {x : Int32} : x = 0 ↔ x.toInt = 0 := ⟨fun h => by rw [h]; rfl, fun h => Int32.toInt_inj.mp h⟩
theorem cw_g3 {g : Int32} (h : 0 ≤ g.toInt) : (cw_md (g / 10) 10000 = 0 ↔ cw_ga g = 0 ∧ cw_gb g = 0 ∧ cw_gc g < 10) ∧ (cw_md (g / 10) 10000 = 0 → cw_md g 10 = cw_gc g) := by
  obtain ⟨a, b, c⟩ := cw_gabc h
  have z3 : (10 : Int32).toInt = 10 := rfl
  have z5 : (10000 : Int32).toInt = 10000 := rfl
  have e1 := (cw_mdg h (y := 10) (by decide)).2
  rw [z3] at e1
  have f1 := (cw_mdg (x := g / 10) (by omega) (y := 10000) (by decide)).1
  have f2 := (cw_mdg h (y := 10) (by decide)).1
  rw [z5] at f1; rw [z3] at f2
  rw [cw_z0, cw_z0, cw_z0, Int32.lt_iff_toInt_lt, ← Int32.toInt_inj, z3, f1, f2, a, b, c, e1]
  omega
theorem cw_g6 {g : Int32} (h : 0 ≤ g.toInt) : cw_md g 10000 = 0 ↔ cw_gb g = 0 ∧ cw_gc g = 0 := by
  obtain ⟨a, b, c⟩ := cw_gabc h
  have z5 : (10000 : Int32).toInt = 10000 := rfl
  have f1 := (cw_mdg h (y := 10000) (by decide)).1
  rw [z5] at f1
  rw [cw_z0, cw_z0, cw_z0, f1, b, c]
  omega
theorem cw_g7 {g : Int32} (h : (g / 100000).toInt = 7) : cw_md g 100000 = 0 ↔ g = 700000 := by
  have q := cw_gq h (by decide)
  have z5 : (100000 : Int32).toInt = 100000 := rfl
  have z7 : (700000 : Int32).toInt = 700000 := rfl
  have f1 := (cw_mdg (x := g) (by omega) (y := 100000) (by decide)).1
  rw [z5] at f1
  rw [cw_z0, f1, ← Int32.toInt_inj, z7]
  omega
theorem cw_gn {g : Int32} {k : Int} (h : (g / 100000).toInt = k) (h1 : 1 ≤ k) : 0 ≤ g.toInt := by have := cw_gq h h1; omega
theorem cw_gc1 (g : Int32) : cw_gc g = cw_md g 100 := by simp [cw_gc]
theorem cw_re0 {v : Int32} : cw_re v = 0 ↔ v = 0 := by
  unfold cw_re
  by_cases q : v = -9
  · rw [if_pos q, q]; decide
  · rw [if_neg q]
theorem cw_re1 {v : Int32} : cw_re v = 1 ↔ v = 1 := by
  unfold cw_re
  by_cases q : v = -9
  · rw [if_pos q, q]; decide
  · rw [if_neg q]
theorem cw_re2 {v : Int32} (h : ¬ v = -2) : cw_re v = -2 ↔ v = -9 := by
  unfold cw_re
  by_cases q : v = -9
  · rw [if_pos q, q]; decide
  · rw [if_neg q]; exact ⟨fun z => absurd z h, fun z => absurd z q⟩
theorem cw_r_2 {u : Nat} {x : Int32} (h : cw_r 0 u x) (hu : u < 2147483648) : ¬ x = -2 := fun q => by
  have := (h.toInt hu).1
  rw [q] at this
  have z : (-2 : Int32).toInt = -2 := rfl
  rw [z] at this
  omega
theorem cw_eqq_r {a b : cw_s} (e : cw_eqq a b) : cw_eqq a (cw_nf b) := by
  show cw_f _ = cw_f _
  rw [cw_f_nf, e]
theorem cw_takeR_q {n m : Nat} {t u : cw_s} (hI : cw_I n m u) (e : cw_eqq t u) (o k : Int32) : (cw_oTakeR t o k).1 = (cw_oTake u o k).1 ∧ cw_eqq (cw_oTakeR t o k).2 (cw_oTake u o k).2 := by
  unfold cw_oTakeR cw_oTake
  rw [cw_th_cgq e]
  by_cases q : cw_th u o k
  · rw [cw_it q, cw_it q]
    obtain ⟨h1, h2, -, -⟩ := cw_thx hI q
    have h6 := hI.m.2
    refine ⟨cw_hind_cgq e (by omega) h2, ?_⟩
    simp only []
    by_cases c : cw_hind t (cw_x o) (cw_x k) = 0
    · rw [if_pos c]; exact cw_takes_cgq e (by omega) h2
    · rw [if_neg c]
      have c2 : ¬ cw_hind u (cw_x o) (cw_x k) = 0 := by rw [← cw_hind_cgq e (by omega) h2]; exact c
      have t2 : cw_takes u (cw_x o) (cw_x k) = u := by unfold cw_takes; rw [if_neg c2]
      rw [t2]; exact cw_up240 e _
  · rw [cw_ie q, cw_ie q]; exact ⟨rfl, e⟩
theorem cw_has_q {n m : Nat} {t u : cw_s} (hI : cw_I n m u) (e : cw_eqq t u) (o a : Int32) : cw_b (cw_isO t o ∧ ¬ t (1 + 4 * cw_x o + 1) < a) = cw_b (cw_isO u o ∧ ¬ u (1 + 4 * cw_x o + 1) < a) := by
  have eo : cw_isO t o = cw_isO u o := by unfold cw_isO; rw [cw_rdq e (p := 0) (by omega) (by omega)]
  rw [eo]
  by_cases q : cw_isO u o
  · obtain ⟨j, rfl, hj⟩ := cw_isO_ix hI.m q
    have h6 := hI.m.2
    rw [cw_xn (by omega), cw_rdq e (p := 1 + 4 * j + 1) (by omega) (by omega)]
  · exact cw_b_eq ⟨fun z => absurd z.1 q, fun z => absurd z.1 q⟩
theorem cw_hol_q {n m : Nat} {t u : cw_s} (hI : cw_I n m u) (e : cw_eqq t u) (o k : Int32) : cw_b (cw_th t o k ∧ t (25 + 3 * cw_x k + 2) = o) = cw_b (cw_th u o k ∧ u (25 + 3 * cw_x k + 2) = o) := by
  rw [cw_th_cgq e]
  by_cases q : cw_th u o k
  · obtain ⟨h1, h2, -, -⟩ := cw_thx hI q
    rw [cw_rdq e (p := 25 + 3 * cw_x k + 2) (by omega) (by omega)]
  · exact cw_b_eq ⟨fun z => absurd z.1 q, fun z => absurd z.1 q⟩
theorem cw_2bid {n m : Nat} {u : cw_s} (hI : cw_I n m u) (o k a : Int32) : ¬ (cw_oBid u o k a).1 = -2 := by
  unfold cw_oBid
  by_cases q : (cw_th u o k ∧ 0 ≤ a ∧ a ≤ 20) ∧ cw_open u (cw_x k)
  · rw [cw_it q]
    obtain ⟨h1, h2, -, -⟩ := cw_thx hI q.1.1
    exact cw_r_2 (cw_bidsFor_r _ _ (by rw [cw_no_eq (cw_upn _ _ (by omega))]; exact hI.m.2)) (by decide)
  · rw [cw_ie q]; show ¬ (-9 : Int32) = -2; decide
theorem cw_2rel {n m : Nat} {u : cw_s} (hI : cw_I n m u) (o k : Int32) : ¬ (cw_oRelease u o k).1 = -2 := by
  unfold cw_oRelease
  by_cases q : cw_th u o k ∧ u (25 + 3 * cw_x k + 2) = o
  · rw [cw_it q]
    obtain ⟨h1, h2, -, -⟩ := cw_thx hI q.1
    exact cw_r_2 (cw_half (hI.cos _ h2)) (by decide)
  · rw [cw_ie q]; show ¬ (-9 : Int32) = -2; decide
theorem cw_2off {n m : Nat} {u : cw_s} (hI : cw_I n m u) (o k x : Int32) : ¬ (cw_oOffer u o k x).1 = -2 := by
  unfold cw_oOffer
  by_cases q : cw_swap u o k x ∧ u 205 < 8
  · rw [cw_it q]
    obtain ⟨z, z1, z2, -⟩ := hI.off
    exact cw_r_2 (u := 8) ⟨z, Nat.zero_le _, z1, z2⟩ (by decide)
  · rw [cw_ie q]; show ¬ (-9 : Int32) = -2; decide
theorem cw_year_r {n m : Nat} {u : cw_s} (hI : cw_I n m u) (hB : cw_B n (m + 20)) : cw_r 0 (n * cw_no u) (cw_oYear u).1 ∧ n * cw_no u < 2147483648 := by
  have h6 := hI.m.2
  have hn : n ≤ 100000000 := hB.1
  have e : (cw_oYear u).1 = (cw_fold cw_lapse 0 (cw_no u) (0, u)).1 := by unfold cw_oYear; rfl
  have h7 := Nat.mul_le_mul hn h6
  have h8 := (cw_I_lapse hI hn (cw_no u) (Nat.le_refl _)).2
  rw [← e] at h8
  exact ⟨h8, Nat.lt_of_le_of_lt h7 (by decide)⟩
