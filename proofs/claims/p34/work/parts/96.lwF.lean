/-! POINTS AND COINS ADD UP: kept by each act -/
def pw_D (u : cw_s) : Int32 := u 2 + (u 6 + (u 10 + (u 14 + (u 18 + (u 22 + (u 235 + (u 237 + (-(u 234) + -(u 236)))))))))
def pw_E (u : cw_s) : Int32 := u 4 + (u 8 + (u 12 + (u 16 + (u 20 + (u 24 + -(u 241))))))
def pw_J (u : cw_s) : Prop := pw_D u = 0 ∧ pw_E u = 0
theorem pw_D_cg {u v : cw_s} (h : ∀ p, (p ≤ 22 ∧ p % 4 = 2) ∨ (234 ≤ p ∧ p ≤ 237) → v p = u p) : pw_D v = pw_D u := by
  unfold pw_D
  rw [h 2 (by omega), h 6 (by omega), h 10 (by omega), h 14 (by omega), h 18 (by omega), h 22 (by omega), h 235 (by omega), h 237 (by omega), h 234 (by omega), h 236 (by omega)]
theorem pw_E_cg {u v : cw_s} (h : ∀ p, (1 ≤ p ∧ p ≤ 24 ∧ p % 4 = 0) ∨ p = 241 → v p = u p) : pw_E v = pw_E u := by
  unfold pw_E
  rw [h 4 (by omega), h 8 (by omega), h 12 (by omega), h 16 (by omega), h 20 (by omega), h 24 (by omega), h 241 (by omega)]
theorem pw_D_o (u : cw_s) {p : Nat} (x : Int32) (h : ¬ ((p ≤ 22 ∧ p % 4 = 2) ∨ (234 ≤ p ∧ p ≤ 237))) : pw_D (upd u p x) = pw_D u := pw_D_cg (fun q hq => cw_upn u x (fun z => h (z ▸ hq)))
theorem pw_E_o (u : cw_s) {p : Nat} (x : Int32) (h : ¬ ((1 ≤ p ∧ p ≤ 24 ∧ p % 4 = 0) ∨ p = 241)) : pw_E (upd u p x) = pw_E u := pw_E_cg (fun q hq => cw_upn u x (fun z => h (z ▸ hq)))
theorem pw_J_o {u : cw_s} (h : pw_J u) {p : Nat} (x : Int32) (h1 : ¬ ((p ≤ 22 ∧ p % 4 = 2) ∨ (234 ≤ p ∧ p ≤ 237))) (h2 : ¬ ((1 ≤ p ∧ p ≤ 24 ∧ p % 4 = 0) ∨ p = 241)) : pw_J (upd u p x) := ⟨(pw_D_o u x h1).trans h.1, (pw_E_o u x h2).trans h.2⟩
theorem pw_J_cg {u v : cw_s} (h : pw_J u) (e : ∀ p, (p < 25 ∨ (234 ≤ p ∧ p ≤ 237) ∨ p = 241) → v p = u p) : pw_J v := ⟨(pw_D_cg (fun p hp => e p (by omega))).trans h.1, (pw_E_cg (fun p hp => e p (by omega))).trans h.2⟩
theorem pw_D_pt (u : cw_s) {j : Nat} (hj : j < 6) (d : Int32) : pw_D (upd u (1 + 4 * j + 1) (u (1 + 4 * j + 1) + d)) = pw_D u + d := by
  rcases (show j = 0 ∨ j = 1 ∨ j = 2 ∨ j = 3 ∨ j = 4 ∨ j = 5 by omega) with rfl | rfl | rfl | rfl | rfl | rfl
  all_goals
    unfold pw_D
    simp only [upd, Nat.reduceMul, Nat.reduceAdd, Nat.reduceEqDiff, reduceIte, Int32.neg_add, Int32.sub_eq_add_neg]
    ac_rfl
theorem pw_E_pt (u : cw_s) {j : Nat} (hj : j < 6) (d : Int32) : pw_E (upd u (1 + 4 * j + 3) (u (1 + 4 * j + 3) + d)) = pw_E u + d := by
  rcases (show j = 0 ∨ j = 1 ∨ j = 2 ∨ j = 3 ∨ j = 4 ∨ j = 5 by omega) with rfl | rfl | rfl | rfl | rfl | rfl
  all_goals
    unfold pw_E
    simp only [upd, Nat.reduceMul, Nat.reduceAdd, Nat.reduceEqDiff, reduceIte, Int32.neg_add, Int32.sub_eq_add_neg]
    ac_rfl
theorem pw_D_g (u : cw_s) (d : Int32) : pw_D (upd u 234 (u 234 + d)) = pw_D u + -d := by
  unfold pw_D
  simp only [upd, Nat.reduceMul, Nat.reduceAdd, Nat.reduceEqDiff, reduceIte, Int32.neg_add, Int32.sub_eq_add_neg]
  ac_rfl
theorem pw_D_s (u : cw_s) (d : Int32) : pw_D (upd u 235 (u 235 + d)) = pw_D u + d := by
  unfold pw_D
  simp only [upd, Nat.reduceMul, Nat.reduceAdd, Nat.reduceEqDiff, reduceIte, Int32.neg_add, Int32.sub_eq_add_neg]
  ac_rfl
theorem pw_D_b (u : cw_s) (d : Int32) : pw_D (upd u 236 (u 236 + d)) = pw_D u + -d := by
  unfold pw_D
  simp only [upd, Nat.reduceMul, Nat.reduceAdd, Nat.reduceEqDiff, reduceIte, Int32.neg_add, Int32.sub_eq_add_neg]
  ac_rfl
theorem pw_D_l (u : cw_s) (d : Int32) : pw_D (upd u 237 (u 237 + d)) = pw_D u + d := by
  unfold pw_D
  simp only [upd, Nat.reduceMul, Nat.reduceAdd, Nat.reduceEqDiff, reduceIte, Int32.neg_add, Int32.sub_eq_add_neg]
  ac_rfl
theorem pw_E_c (u : cw_s) (d : Int32) : pw_E (upd u 241 (u 241 + d)) = pw_E u + -d := by
  unfold pw_E
  simp only [upd, Nat.reduceMul, Nat.reduceAdd, Nat.reduceEqDiff, reduceIte, Int32.neg_add, Int32.sub_eq_add_neg]
  ac_rfl

theorem pw_pm (a d : Int32) : a + d + -d = a := by rw [Int32.add_assoc, Int32.add_right_neg, Int32.add_zero]
theorem pw_mp (a d : Int32) : a + -d + d = a := by rw [Int32.add_assoc, Int32.add_left_neg, Int32.add_zero]
theorem pw_D_gives (u : cw_s) {j : Nat} (hj : j < 6) : pw_D (cw_gives u j) = pw_D u := by
  unfold cw_gives
  simp only []
  rw [pw_D_g, pw_D_pt u hj, pw_pm]
theorem pw_E_gives (u : cw_s) {j : Nat} (hj : j < 6) : pw_E (cw_gives u j) = pw_E u := by
  unfold cw_gives
  simp only []
  rw [pw_E_o _ _ (by omega), pw_E_o _ _ (by omega)]
theorem pw_D_spends (u : cw_s) {j : Nat} (hj : j < 6) (p : Int32) : pw_D (cw_spends u j p) = pw_D u := by
  unfold cw_spends
  simp only []
  rw [pw_D_s, Int32.sub_eq_add_neg, pw_D_pt u hj, pw_mp]
theorem pw_E_spends (u : cw_s) {j : Nat} (hj : j < 6) (p : Int32) : pw_E (cw_spends u j p) = pw_E u := by
  unfold cw_spends
  simp only []
  rw [pw_E_o _ _ (by omega), pw_E_o _ _ (by omega)]
theorem pw_J_spends {u : cw_s} (h : pw_J u) {j : Nat} (hj : j < 6) (p : Int32) : pw_J (cw_spends u j p) := ⟨(pw_D_spends u hj p).trans h.1, (pw_E_spends u hj p).trans h.2⟩
theorem pw_J_gives {u : cw_s} (h : pw_J u) {j : Nat} (hj : j < 6) : pw_J (cw_gives u j) := ⟨(pw_D_gives u hj).trans h.1, (pw_E_gives u hj).trans h.2⟩
theorem pw_J_nf {u : cw_s} (h : pw_J u) : pw_J (cw_nf u) := pw_J_cg h (fun p hp => cw_nf_rd u (by omega) (by omega))
theorem pw_th {n m : Nat} {u : cw_s} (hI : cw_I n m u) {o k : Int32} (h : cw_th u o k) : cw_x o < 6 ∧ cw_x k < 20 := by
  obtain ⟨j, rfl, hj⟩ := cw_isO_ix hI.m h.1
  obtain ⟨i, rfl, hi⟩ := cw_isW_ix h.2
  have := hI.m.2
  rw [cw_xn (by omega), cw_xn (by omega)]
  omega
theorem pw_isWx {k : Int32} (h : cw_isW k) : cw_x k < 20 := by
  obtain ⟨i, rfl, hi⟩ := cw_isW_ix h
  rw [cw_xn (by omega)]; exact hi
theorem pw_J_owner {n m : Nat} {u : cw_s} (hI : cw_I n m u) (h : pw_J u) (a : Int32) : pw_J (cw_oOwner u a).2 := by
  unfold cw_oOwner
  by_cases hc : (1 ≤ a ∧ a ≤ 9) ∧ ¬ u 0 = 6
  · rw [cw_it hc]
    have h6 := hI.m.2
    have hlt : cw_no u < 6 := by
      by_cases z : cw_no u = 6
      · exact absurd (by rw [hI.m.1, z]; rfl) hc.2
      · omega
    have hn := hI.nil (cw_no u) (Nat.le_refl _) hlt
    show pw_J (cw_comes u (cw_no u) a)
    unfold cw_comes
    simp only []
    refine pw_J_gives ?_ hlt
    have a1 : pw_J (upd (upd u 0 (u 0 + 1)) (1 + 4 * cw_no u + 0) a) := pw_J_o (pw_J_o h _ (by omega) (by omega)) _ (by omega) (by omega)
    rw [cw_updo (upd (upd u 0 (u 0 + 1)) (1 + 4 * cw_no u + 0) a) (1 + 4 * cw_no u + 1) 0 (by rw [cw_upn _ _ (by omega), cw_upn _ _ (by omega)]; exact hn.2.1)]
    have a2 : pw_J (upd (upd (upd u 0 (u 0 + 1)) (1 + 4 * cw_no u + 0) a) (1 + 4 * cw_no u + 2) 0) := pw_J_o a1 _ (by omega) (by omega)
    rw [cw_updo _ (1 + 4 * cw_no u + 3) 0 (by rw [cw_upn _ _ (by omega), cw_upn _ _ (by omega), cw_upn _ _ (by omega)]; exact hn.2.2.2)]
    exact a2
  · rw [cw_ie hc]; exact h
theorem pw_J_take {n m : Nat} {u : cw_s} (hI : cw_I n m u) (h : pw_J u) (o k : Int32) : pw_J (cw_oTake u o k).2 := by
  unfold cw_oTake
  by_cases hc : cw_th u o k
  · rw [cw_it hc]
    obtain ⟨h1, h2⟩ := pw_th hI hc
    show pw_J (cw_takes u (cw_x o) (cw_x k))
    unfold cw_takes
    split
    · exact pw_J_o (pw_J_spends h h1 _) _ (by omega) (by omega)
    · exact h
  · rw [cw_ie hc]; exact h
theorem pw_J_release {n m : Nat} {u : cw_s} (hI : cw_I n m u) (h : pw_J u) (o k : Int32) : pw_J (cw_oRelease u o k).2 := by
  unfold cw_oRelease
  by_cases hc : cw_th u o k ∧ u (25 + 3 * cw_x k + 2) = o
  · rw [cw_it hc]
    obtain ⟨h1, h2⟩ := pw_th hI hc.1
    show pw_J (cw_releases u (cw_x o) (cw_x k))
    unfold cw_releases
    simp only []
    refine pw_J_o ?_ _ (by omega) (by omega)
    refine ⟨?_, ?_⟩
    · rw [pw_D_b, pw_D_pt u h1, pw_pm]; exact h.1
    · rw [pw_E_o _ _ (by omega), pw_E_o _ _ (by omega)]; exact h.2
  · rw [cw_ie hc]; exact h
theorem pw_J_bid {n m : Nat} {u : cw_s} (hI : cw_I n m u) (h : pw_J u) (o k a : Int32) : pw_J (cw_oBid u o k a).2 := by
  unfold cw_oBid
  by_cases hc : (cw_th u o k ∧ 0 ≤ a ∧ a ≤ 20) ∧ cw_open u (cw_x k)
  · rw [cw_it hc]
    obtain ⟨h1, h2⟩ := pw_th hI hc.1.1
    exact pw_J_o h _ (by omega) (by omega)
  · rw [cw_ie hc]; exact h
theorem pw_J_won {u : cw_s} (h : pw_J u) {j k : Nat} (hj : j < 6) (hk : k < 20) : pw_J (cw_won u k j) := by
  unfold cw_won
  simp only []
  exact pw_J_o (pw_J_o (pw_J_spends h hj _) _ (by omega) (by omega)) _ (by omega) (by omega)
theorem pw_J_settle1 {n m : Nat} {u : cw_s} (hI : cw_I n m u) (h : pw_J u) {k : Nat} (hk : k < 20) : pw_J (cw_settle1 u k) := by
  unfold cw_settle1
  by_cases hc : cw_best u k = -1
  · rw [cw_it hc]; exact h
  · rw [cw_ie hc]; exact pw_J_won h (cw_best_lt hI hk hc) hk
theorem pw_J_noBids {u : cw_s} (h : pw_J u) : pw_J (cw_noBids u) := pw_J_cg h (fun p hp => by rw [cw_noBids_at, if_neg (by omega)])
theorem pw_settles_2 (u : cw_s) : ∀ i, (cw_fold (fun k (x : Int32 × cw_s) => (cw_if (cw_best x.2 k = -1) x.1 (x.1 + 1), cw_settle1 x.2 k)) 0 i (0, u)).2 = cw_before u i := by
  intro i
  induction i with
  | zero => rfl
  | succ i ih =>
    rw [cw_fold0, cw_before_1, ← ih]
theorem pw_settles_st (u : cw_s) : (cw_settles u).2 = cw_noBids (cw_before u 20) := by
  unfold cw_settles
  simp only []
  rw [pw_settles_2]
theorem pw_J_before {n m : Nat} {u : cw_s} (hI : cw_I n m u) (hB : cw_B n (m + 20)) (h : pw_J u) : ∀ i, i ≤ 20 → pw_J (cw_before u i) := by
  intro i
  induction i with
  | zero => intro _; exact h
  | succ i ih =>
    intro hi
    rw [cw_before_1]
    exact pw_J_settle1 (cw_I_before hI hB (by omega)) (ih (by omega)) (by omega)
theorem pw_J_settles {n m : Nat} {u : cw_s} (hI : cw_I n m u) (hB : cw_B n (m + 20)) (h : pw_J u) : pw_J (cw_settles u).2 := by
  rw [pw_settles_st]
  exact pw_J_noBids (pw_J_before hI hB h 20 (Nat.le_refl _))
theorem pw_J_offer {n m : Nat} {u : cw_s} (hI : cw_I n m u) (h : pw_J u) (o k x : Int32) : pw_J (cw_oOffer u o k x).2 := by
  unfold cw_oOffer
  by_cases hc : cw_swap u o k x ∧ u 205 < 8
  · rw [cw_it hc]
    have hq : cw_x (u 205) < 8 := by
      obtain ⟨q, q8, e, -⟩ := hI.off
      have h2 := hc.2
      rw [e] at h2 ⊢
      rw [cw_xn (by omega)]
      rw [cw_lt, cw_ni (by omega)] at h2
      have z : (8 : Int32).toInt = 8 := rfl
      omega
    show pw_J (cw_offd u (cw_x (u 205)) o k x)
    unfold cw_offd
    exact pw_J_o (pw_J_o (pw_J_o (pw_J_o h _ (by omega) (by omega)) _ (by omega) (by omega)) _ (by omega) (by omega)) _ (by omega) (by omega)
  · rw [cw_ie hc]; exact h
theorem pw_J_accept {n m : Nat} {u : cw_s} (hI : cw_I n m u) (h : pw_J u) (k : Int32) : pw_J (cw_oAccept u k).2 := by
  unfold cw_oAccept
  simp only []
  by_cases hk : cw_isK u k
  · rw [cw_it hk]
    have hd : pw_J (cw_drop u (cw_x k) (cw_x (u 205))) := pw_J_cg h (fun p hp => cw_drop_rd u _ _ (by omega) (cw_x_lt hI).1)
    by_cases hs : cw_swap u (u (206 + 3 * cw_x k + 0)) (u (206 + 3 * cw_x k + 1)) (u (206 + 3 * cw_x k + 2))
    · rw [cw_it hs]
      have a1 := pw_isWx hs.1.1.2
      have a2 := pw_isWx hs.2.1
      exact pw_J_nf (pw_J_o (pw_J_o (pw_J_o hd _ (by omega) (by omega)) _ (by omega) (by omega)) _ (by omega) (by omega))
    · rw [cw_ie hs]
      exact pw_J_nf (pw_J_o hd _ (by omega) (by omega))
  · rw [cw_ie hk]; exact h
theorem pw_c_nI {c : Int32} (h : 1 ≤ c ∧ c ≤ 999) : ∃ k, 1 ≤ k ∧ k ≤ 999 ∧ c = nI k := by
  have a := cw_le.mp h.1
  have b := cw_le.mp h.2
  have z1 : (1 : Int32).toInt = 1 := rfl
  have z2 : (999 : Int32).toInt = 999 := rfl
  exact ⟨c.toInt.toNat, by omega, by omega, by apply Int32.toInt_inj.mp; rw [cw_ni (by omega)]; omega⟩
theorem pw_J_upkeep {n m : Nat} {u : cw_s} (hI : cw_I n m u) (h : pw_J u) (c : Int32) : pw_J (cw_oUpkeep u c).2 := by
  unfold cw_oUpkeep
  by_cases hc : (1 ≤ c ∧ c ≤ 999) ∧ ¬ u 0 = 0
  · rw [cw_it hc]
    obtain ⟨k, k1, k9, rfl⟩ := pw_c_nI hc.1
    have h6 := hI.m.2
    have hno : 0 < cw_no u := by
      by_cases z : cw_no u = 0
      · exact absurd (by rw [hI.m.1, z]; rfl) hc.2
      · omega
    have hf := cw_fold_P (f := cw_pays u (nI k)) (fun i x => pw_D x.2 = 0 ∧ pw_E x.2 = cw_fold (fun j x => x + cw_partOf u j (nI k)) 0 i 0) (cw_no u) (0, u) ⟨h.1, h.2⟩ (fun j y hj hy => by
      refine ⟨?_, ?_⟩
      · show pw_D (upd y.2 (1 + 4 * j + 3) _) = 0
        rw [pw_D_o _ _ (by omega)]; exact hy.1
      · show pw_E (upd y.2 (1 + 4 * j + 3) (y.2 (1 + 4 * j + 3) + cw_partOf u j (nI k))) = _
        rw [pw_E_pt _ (by omega), hy.2, cw_fold0]) (cw_no u) (Nat.le_refl _)
    refine ⟨?_, ?_⟩
    · show pw_D (upd _ 241 _) = 0
      rw [pw_D_o _ _ (by omega)]; exact hf.1
    · show pw_E (upd _ 241 (_ + nI k)) = 0
      rw [pw_E_c, hf.2, pw_parts hI k9 hno, Int32.add_right_neg]
  · rw [cw_ie hc]; exact h
theorem pw_J_year {n m : Nat} {u : cw_s} (hI : cw_I n m u) (h : pw_J u) : pw_J (cw_oYear u).2 := by
  have h6 := hI.m.2
  have hf := cw_fold_P (f := cw_lapse) (fun i x => pw_D x.2 + x.1 = 0 ∧ pw_E x.2 = 0) (cw_no u) (0, u) ⟨by rw [Int32.add_zero]; exact h.1, h.2⟩ (fun j y hj hy => by
    unfold cw_lapse
    simp only []
    obtain ⟨b, hb⟩ : ∃ b, b = (if 0 < y.2 (1 + 4 * j + 1) - y.2 232 then y.2 (1 + 4 * j + 1) - y.2 232 else 0) := ⟨_, rfl⟩
    rw [← hb]
    refine ⟨?_, ?_⟩
    · rw [pw_D_gives _ (by omega), Int32.sub_eq_add_neg (y.2 (1 + 4 * j + 1)), pw_D_pt _ (by omega), ← hy.1]
      rw [Int32.add_assoc, ← Int32.add_assoc (-b), Int32.add_comm (-b), Int32.add_assoc y.1, Int32.add_left_neg, Int32.add_zero]
    · rw [pw_E_gives _ (by omega), pw_E_o _ _ (by omega)]; exact hy.2) (cw_no u) (Nat.le_refl _)
  unfold cw_oYear
  simp only []
  generalize cw_fold cw_lapse 0 (cw_no u) (0, u) = r at hf ⊢
  have e : ∀ p, p < 25 ∨ (234 ≤ p ∧ p ≤ 237) ∨ p = 241 → upd (cw_noBids (cw_freed r.2)) 205 0 p = r.2 p := fun p hp => by
    rw [cw_upn _ _ (by omega), cw_noBids_at, if_neg (by omega), cw_freed_at, if_neg (by omega)]
  have eD : pw_D (upd (cw_noBids (cw_freed r.2)) 205 0) = pw_D r.2 := pw_D_cg (fun p hp => e p (by omega))
  have eE : pw_E (upd (cw_noBids (cw_freed r.2)) 205 0) = pw_E r.2 := pw_E_cg (fun p hp => e p (by omega))
  refine pw_J_o ?_ _ (by omega) (by omega)
  refine ⟨?_, ?_⟩
  · rw [pw_D_l, eD]; exact hf.1
  · rw [pw_E_o _ _ (by omega), eE]; exact hf.2
theorem pw_J_stp {e : Int32} {A : cw_A} {r : Int32 × cw_A} (h : pw_J A.1) (h2 : e = 0 → pw_J r.2.1) : pw_J (cw_stp e A r).2.2.1 := by
  by_cases q : e = 0
  · rw [cw_stp0 q]; exact h2 q
  · rw [cw_stp1 q]; exact h
/-- each act keeps what adds up -/
theorem pw_J_run {n m : Nat} {A : cw_A} (hA : cw_IA n m A) (hB : cw_B n (m + 20)) (h : pw_J A.1) (op : pw_Op) : pw_J (pw_run A op).2.2.1 := by
  have hI := hA.1
  obtain ⟨k, a, b, c⟩ := op
  unfold pw_run
  simp only []
  split
  · refine pw_J_stp h (fun _ => ?_)
    show pw_J (cw_nf (cw_does A.1 111 a 0 0).2)
    rw [cw_does_111]; exact pw_J_nf (pw_J_owner hI h _)
  · refine pw_J_stp h (fun _ => ?_)
    show pw_J (upd (cw_nf (cw_does A.1 116 a b 0).2) 240 _)
    rw [cw_does_116]; exact pw_J_o (pw_J_nf (pw_J_take hI h _ _)) _ (by omega) (by omega)
  · refine pw_J_stp h (fun _ => ?_)
    show pw_J (cw_nf (cw_does A.1 114 a b 0).2)
    rw [cw_does_114]; exact pw_J_nf (pw_J_release hI h _ _)
  · refine pw_J_stp h (fun _ => ?_)
    show pw_J (cw_nf (cw_does A.1 97 a 0 0).2)
    rw [cw_does_97]; exact pw_J_nf (pw_J_accept hI h _)
  · refine pw_J_stp h (fun _ => ?_)
    show pw_J (cw_nf (cw_does A.1 117 a 0 0).2)
    rw [cw_does_117]; exact pw_J_nf (pw_J_upkeep hI h _)
  · refine pw_J_stp h (fun e => ?_)
    obtain ⟨j, hj, rfl, hv⟩ := cw_setOk_ix (cw_ifb (by decide) e)
    show pw_J (upd A.1 (231 + cw_x (nI j)) _)
    rw [cw_xn (by omega)]
    exact pw_J_o h _ (by omega) (by omega)
  · refine pw_J_stp h (fun e => ?_)
    show pw_J (cw_nf (cw_does A.1 107 a b 0).2)
    rw [cw_does_107]
    refine pw_J_nf ?_
    unfold cw_oCost
    by_cases hc : cw_isW a ∧ 1 ≤ b ∧ b ≤ 9
    · rw [cw_it hc]
      have := pw_isWx hc.1
      exact pw_J_o h _ (by omega) (by omega)
    · rw [cw_ie hc]; exact h
  · refine pw_J_stp h (fun e => ?_)
    show pw_J (cw_nf (cw_does A.1 115 a (cw_b (b = 1)) 0).2)
    rw [cw_does_115]
    have := pw_isWx (cw_ifb (by decide) e)
    exact pw_J_nf (pw_J_o h _ (by omega) (by omega))
  · refine pw_J_stp h (fun _ => ?_)
    show pw_J (cw_nf (cw_does A.1 98 a b c).2)
    rw [cw_does_98]; exact pw_J_nf (pw_J_bid hI h _ _ _)
  · refine pw_J_stp h (fun _ => ?_)
    show pw_J (cw_nf (cw_does A.1 102 a b c).2)
    rw [cw_does_102]; exact pw_J_nf (pw_J_offer hI h _ _ _)
  · show pw_J (cw_nf (cw_does A.1 101 0 0 0).2)
    rw [cw_does_101]; exact pw_J_nf (pw_J_settles hI hB h)
  · show pw_J (cw_nf (cw_does A.1 121 0 0 0).2)
    rw [cw_does_y _ _ _ _ (by decide) (by decide) (by decide) (by decide) (by decide) (by decide) (by decide) (by decide) (by decide) (by decide)]; exact pw_J_nf (pw_J_year hI h)
theorem pw_IA_run {n m : Nat} {A : cw_A} (hA : cw_IA n m A) (hB : cw_B (n + 21600) (m + 2400)) (op : pw_Op) : cw_IA (n + 21600) (m + 2400) (pw_run A op).2.2 := by
  obtain ⟨k, a, b, c⟩ := op
  unfold pw_run
  simp only []
  split
  · exact ia_owner hA hB _
  · exact ia_take hA hB _ _
  · exact ia_release hA hB _ _
  · exact ia_accept hA hB _
  · exact ia_upkeep hA hB _
  · exact ia_set hA hB _ _
  · exact ia_cost hA hB _ _
  · exact ia_school hA hB _ _ (cw_b_r _)
  · exact ia_bid hA hB _ _ _
  · exact ia_offer hA hB _ _ _
  · exact ia_settle hA hB
  · exact ia_year hA hB
/-! .. what is told, and what is remembered -/
/-- an act: refused, or out of the house alone, and the house before is remembered -/
def pw_shape (F : cw_A → cw_R) : Prop := ∃ (e : cw_s → Int32) (t : cw_s → Int32) (g : cw_s → cw_s), ∀ A : cw_A, (e A.1 = 0 → F A = (0, t A.1, (g A.1, (cw_rem A).2))) ∧ (¬ e A.1 = 0 → F A = (e A.1, 0, A))
theorem pw_sh_stp {F : cw_A → cw_R} {f : Int32 → Int32} (e : cw_s → Int32) (t : cw_s → Int32) (g : cw_s → cw_s) (h : ∀ A, F A = pw_rc f (cw_stp (e A.1) A (t A.1, (g A.1, (cw_rem A).2)))) (h0 : f 0 = 0) (h1 : ∀ x, ¬ x = 0 → ¬ f x = 0) : pw_shape F :=
  ⟨fun u => f (e u), t, g, fun A => ⟨fun z => by
    have z2 : e A.1 = 0 := Classical.byContradiction (fun q => h1 _ q z)
    rw [h A, cw_stp0 z2]
    show (f 0, t A.1, (g A.1, (cw_rem A).2)) = _
    rw [h0], fun z => by
    have z2 : ¬ e A.1 = 0 := fun q => z (by show f (e A.1) = 0; rw [q]; exact h0)
    rw [h A, cw_stp1 z2]; rfl⟩⟩
theorem pw_fA_ne : ∀ x, ¬ x = 0 → ¬ pw_fA x = 0 := fun x h => by unfold pw_fA; rw [if_neg h]; split <;> decide
theorem pw_fB_ne : ∀ x, ¬ x = 0 → ¬ pw_fB x = 0 := fun x h => by unfold pw_fB; rw [if_neg h]; split <;> decide
theorem pw_fC_ne : ∀ x, ¬ x = 0 → ¬ pw_fC x = 0 := fun x h => by unfold pw_fC; rw [if_neg h]; split <;> decide
theorem pw_fD_ne : ∀ x, ¬ x = 0 → ¬ pw_fD x = 0 := fun x h => h
theorem pw_shaped (op : pw_Op) : pw_shape (fun A => pw_run A op) := by
  obtain ⟨k, a, b, c⟩ := op
  unfold pw_run
  simp only []
  split
  · exact pw_sh_stp (fun u => cw_if (1 ≤ a ∧ a ≤ 9) (if u 0 = 6 then 2 else 0) 1) (fun u => (cw_does u 111 a 0 0).1) (fun u => cw_nf (cw_does u 111 a 0 0).2) (fun A => rfl) rfl pw_fA_ne
  · exact pw_sh_stp (fun u => cw_if (cw_th u a b) 0 1) (fun u => (cw_does u 116 a b 0).1) (fun u => upd (cw_nf (cw_does u 116 a b 0).2) 240 ((cw_nf (cw_does u 116 a b 0).2) 240 + (if (cw_does u 116 a b 0).1 ≤ 0 then 0 else 1))) (fun A => rfl) rfl pw_fD_ne
  · exact pw_sh_stp (fun u => cw_if (cw_th u a b) (if u (25 + 3 * cw_x b + 2) = a then 0 else 2) 1) (fun u => (cw_does u 114 a b 0).1) (fun u => cw_nf (cw_does u 114 a b 0).2) (fun A => rfl) rfl pw_fC_ne
  · exact pw_sh_stp (fun u => cw_if (cw_isK u a) 0 1) (fun u => (cw_does u 97 a 0 0).1) (fun u => cw_nf (cw_does u 97 a 0 0).2) (fun A => rfl) rfl pw_fD_ne
  · exact pw_sh_stp (fun u => cw_if (1 ≤ a ∧ a ≤ 999) (if u 0 = 0 then 2 else 0) 1) (fun u => (cw_does u 117 a 0 0).1) (fun u => cw_nf (cw_does u 117 a 0 0).2) (fun A => rfl) rfl pw_fA_ne
  · exact pw_sh_stp (fun u => cw_if (cw_setOk a b) 0 1) (fun u => u (231 + cw_x a)) (fun u => upd u (231 + cw_x a) b) (fun A => rfl) rfl pw_fA_ne
  · exact pw_sh_stp (fun u => cw_if (cw_isW a) (cw_if (1 ≤ b ∧ b ≤ 9) 0 2) 1) (fun u => (cw_does u 107 a b 0).1) (fun u => cw_nf (cw_does u 107 a b 0).2) (fun A => rfl) rfl pw_fB_ne
  · exact pw_sh_stp (fun u => cw_if (cw_isW a) 0 1) (fun u => cw_schools (cw_nf (cw_does u 115 a (cw_b (b = 1)) 0).2)) (fun u => cw_nf (cw_does u 115 a (cw_b (b = 1)) 0).2) (fun A => rfl) rfl pw_fD_ne
  · exact pw_sh_stp (fun u => cw_if (cw_th u a b) (cw_if (0 ≤ c ∧ c ≤ 20) (cw_if (cw_open u (cw_x b)) 0 3) 2) 1) (fun u => (cw_does u 98 a b c).1) (fun u => cw_nf (cw_does u 98 a b c).2) (fun A => rfl) rfl pw_fD_ne
  · exact pw_sh_stp (fun u => cw_if (cw_th u a b ∧ cw_isW c) (cw_if (cw_swap u a b c ∧ ¬ u 205 = 8) 0 2) 1) (fun u => (cw_does u 102 a b c).1) (fun u => cw_nf (cw_does u 102 a b c).2) (fun A => rfl) rfl pw_fC_ne
  · exact ⟨fun _ => 0, fun u => (cw_does u 101 0 0 0).1, fun u => cw_nf (cw_does u 101 0 0 0).2, fun A => ⟨fun _ => rfl, fun q => absurd rfl q⟩⟩ 
  · exact ⟨fun _ => 0, fun u => (cw_does u 121 0 0 0).1, fun u => cw_nf (cw_does u 121 0 0 0).2, fun A => ⟨fun _ => rfl, fun q => absurd rfl q⟩⟩ 
/-- x is the house remembered last -/
def pw_H1 (A : cw_A) (x : cw_s) : Prop := 0 < A.2.1.1 ∧ A.2.1.2 (A.2.1.1 - 1) = x
def pw_H2 (A : cw_A) (x y : cw_s) : Prop := 1 < A.2.1.1 ∧ A.2.1.2 (A.2.1.1 - 1) = x ∧ A.2.1.2 (A.2.1.1 - 2) = y
def pw_un (A : cw_A) : cw_A := (A.2.1.2 (A.2.1.1 - 1), (A.2.1.1 - 1, A.2.1.2), A.2.2)
theorem pw_rem1 {A : cw_A} (h14 : A.2.1.1 ≤ 14) (z : cw_s) : pw_H1 (z, (cw_rem A).2) A.1 := by
  unfold pw_H1 cw_rem
  by_cases q : A.2.1.1 = 14
  · rw [if_pos q]; exact ⟨show 0 < 14 by omega, show (if 14 - 1 = 13 then A.1 else A.2.1.2 (14 - 1 + 1)) = A.1 from if_pos (by omega)⟩
  · rw [if_neg q]; exact ⟨Nat.succ_pos _, if_pos rfl⟩
theorem pw_rem2 {A : cw_A} (h14 : A.2.1.1 ≤ 14) {y : cw_s} (h : pw_H1 A y) (z : cw_s) : pw_H2 (z, (cw_rem A).2) A.1 y := by
  obtain ⟨h0, h1⟩ := h
  unfold pw_H2 cw_rem
  by_cases q : A.2.1.1 = 14
  · rw [if_pos q]
    rw [q] at h1
    exact ⟨show 1 < 14 by omega, show (if 14 - 1 = 13 then A.1 else A.2.1.2 (14 - 1 + 1)) = A.1 from if_pos (by omega), (show (if 14 - 2 = 13 then A.1 else A.2.1.2 (14 - 2 + 1)) = y from (if_neg (by omega)).trans h1)⟩
  · rw [if_neg q]
    refine ⟨by show 1 < A.2.1.1 + 1; omega, if_pos rfl, ?_⟩
    show (if A.2.1.1 + 1 - 2 = A.2.1.1 then A.1 else A.2.1.2 (A.2.1.1 + 1 - 2)) = y
    rw [if_neg (by omega), show A.2.1.1 + 1 - 2 = A.2.1.1 - 1 by omega]; exact h1
theorem pw_un2 {A : cw_A} {x y : cw_s} (h : pw_H2 A x y) : pw_H1 (pw_un A) y ∧ (pw_un A).1 = x := by
  obtain ⟨h0, h1, h2⟩ := h
  refine ⟨⟨by show 0 < A.2.1.1 - 1; omega, ?_⟩, h1⟩
  show A.2.1.2 (A.2.1.1 - 1 - 1) = y
  rw [show A.2.1.1 - 1 - 1 = A.2.1.1 - 2 by omega]; exact h2
theorem pw_un1 {A : cw_A} {x : cw_s} (h : pw_H1 A x) : (pw_un A).1 = x := h.2
theorem pw_un_IA {n m : Nat} {A : cw_A} (h : cw_IA n m A) (h0 : 0 < A.2.1.1) : cw_IA n m (pw_un A) :=
  ⟨h.2.1 _ (by omega), fun i hi => h.2.1 i (by have hi : i < A.2.1.1 - 1 := hi; omega), h.2.2.1, by show A.2.1.1 - 1 ≤ 14; have := h.2.2.2.1; omega, h.2.2.2.2⟩
