/-! POINTS, WEEKS, BIDS, COINS: sums as the law takes them -/
theorem g_joinW1 {X : gw_X} {S : gw_S} {nL k n pc : Nat} {lv : gw_LV} {st : List Value} {w : gw_M} {a : Value} (J : Nat) (VAL : Int32) (R : gw_M → Prop) (B : (∀ v w', v = VAL → R w' → gw_G X S nL k n J lv (.int v :: st) w') → gw_G X S nL k n pc lv (a :: st) w) (K : ∀ w', R w' → gw_G X S nL k n J lv (.int VAL :: st) w') : gw_G X S nL k n pc lv (a :: st) w := B (fun v w' h hR => by rw [h]; exact K w' hR)
theorem g_joinW2 {X : gw_X} {S : gw_S} {nL k n pc : Nat} {lv : gw_LV} {st : List Value} {w : gw_M} {a b : Value} (J : Nat) (VAL : Int32) (R : gw_M → Prop) (B : (∀ v w', v = VAL → R w' → gw_G X S nL k n J lv (.int v :: st) w') → gw_G X S nL k n pc lv (a :: b :: st) w) (K : ∀ w', R w' → gw_G X S nL k n J lv (.int VAL :: st) w') : gw_G X S nL k n pc lv (a :: b :: st) w := B (fun v w' h hR => by rw [h]; exact K w' hR)
theorem g_joinW0 {X : gw_X} {S : gw_S} {nL k n pc : Nat} {lv : gw_LV} {st : List Value} {w : gw_M} (J : Nat) (VAL : Int32) (R : gw_M → Prop) (B : (∀ v w', v = VAL → R w' → gw_G X S nL k n J lv (.int v :: st) w') → gw_G X S nL k n pc lv st w) (K : ∀ w', R w' → gw_G X S nL k n J lv (.int VAL :: st) w') : gw_G X S nL k n pc lv st w := B (fun v w' h hR => by rw [h]; exact K w' hR)
theorem pw_W0 (u : cw_s) {w : Nat} (h : w < 1000) : cw_ofW u (cw_x (nI w)) 0 = u (25 + 3 * w + 0) := by rw [cw_xn h]; rfl
theorem pw_W1 (u : cw_s) {w : Nat} (h : w < 1000) : cw_ofW u (cw_x (nI w)) 1 = u (25 + 3 * w + 1) := by rw [cw_xn h]; rfl
theorem pw_W2 (u : cw_s) {w : Nat} (h : w < 1000) : cw_ofW u (cw_x (nI w)) 2 = u (25 + 3 * w + 2) := by rw [cw_xn h]; rfl
theorem pw_W3 (u : cw_s) {w : Nat} (h : w < 1000) : cw_ofW u (cw_x (nI w)) 3 = cw_bidsFor u w := by rw [cw_xn h]; rfl
theorem pw_W4 (u : cw_s) {w : Nat} (h : w < 1000) : cw_ofW u (cw_x (nI w)) 4 = cw_great u w := by rw [cw_xn h]; rfl
theorem pw_O0 (u : cw_s) {j : Nat} (h : j < 1000) : cw_ofO u (cw_x (nI j)) 0 = u (1 + 4 * j + 0) := by rw [cw_xn h]; rfl
theorem pw_O1 (u : cw_s) {j : Nat} (h : j < 1000) : cw_ofO u (cw_x (nI j)) 1 = u (1 + 4 * j + 1) := by rw [cw_xn h]; rfl
theorem pw_O2 (u : cw_s) {j : Nat} (h : j < 1000) : cw_ofO u (cw_x (nI j)) 2 = cw_held u (nI j) := by rw [cw_xn h]; rfl
theorem pw_O4 (u : cw_s) {j : Nat} (h : j < 1000) : cw_ofO u (cw_x (nI j)) 4 = u (1 + 4 * j + 3) := by rw [cw_xn h]; rfl
theorem pw_O5 (u : cw_s) {j : Nat} (h : j < 1000) : cw_ofO u (cw_x (nI j)) 5 = cw_low u (nI j) := by rw [cw_xn h]; rfl

def pw_SP (u : cw_s) (i : Nat) : Int32 := cw_fold (fun j x => x + u (1 + 4 * j + 1)) 0 i 0
def pw_SH (u : cw_s) (i : Nat) : Int32 := cw_fold (fun j x => x + cw_held u (nI j)) 0 i 0
def pw_SC (u : cw_s) (i : Nat) : Int32 := cw_fold (fun j x => x + u (1 + 4 * j + 3)) 0 i 0
def pw_SB (u : cw_s) (i : Nat) : Int32 := cw_fold (fun j x => x + cw_bidsBy u j) 0 i 0
def pw_ST (u : cw_s) (i : Nat) : Int32 := cw_fold (fun k x => x + cw_bidsFor u k) 0 i 0
noncomputable def pw_it (u : cw_s) (j i : Nat) : Int32 := cw_fold (fun k x => x + cw_b (u (25 + 3 * (19 - k) + 2) = nI j)) 0 i 0
def pw_lw (u : cw_s) (j i : Nat) : Int32 := cw_fold (fun k x => if u (25 + 3 * (19 - k) + 2) = nI j then nI (19 - k) else x) 0 i (-1)
def pw_bd (u : cw_s) (j i : Nat) : Int32 := cw_fold (fun k x => x + (if u (85 + 20 * j + (19 - k)) = -1 then 0 else 1)) 0 i (pw_SB u j)
theorem pw_lw_1 (u : cw_s) (j i : Nat) : pw_lw u j (i + 1) = if u (25 + 3 * (19 - i) + 2) = nI j then nI (19 - i) else pw_lw u j i := cw_fold0 _ i (-1)
theorem pw_it_1 (u : cw_s) (j i : Nat) : pw_it u j (i + 1) = pw_it u j i + cw_b (u (25 + 3 * (19 - i) + 2) = nI j) := cw_fold0 _ i 0
theorem pw_bd_1 (u : cw_s) (j i : Nat) : pw_bd u j (i + 1) = pw_bd u j i + (if u (85 + 20 * j + (19 - i)) = -1 then 0 else 1) := cw_fold0 _ i _
theorem pw_SP_1 (u : cw_s) (i : Nat) : pw_SP u (i + 1) = pw_SP u i + u (1 + 4 * i + 1) := cw_fold0 _ i 0
theorem pw_SH_1 (u : cw_s) (i : Nat) : pw_SH u (i + 1) = pw_SH u i + cw_held u (nI i) := cw_fold0 _ i 0
theorem pw_SC_1 (u : cw_s) (i : Nat) : pw_SC u (i + 1) = pw_SC u i + u (1 + 4 * i + 3) := cw_fold0 _ i 0
theorem pw_ST_1 (u : cw_s) (i : Nat) : pw_ST u (i + 1) = pw_ST u i + cw_bidsFor u i := cw_fold0 _ i 0
/-- twenty numbers, added from either end -/
theorem pw_rev (f : Nat → Int32) : cw_fold (fun k x => x + f (19 - k)) 0 20 0 = cw_fold (fun k x => x + f k) 0 20 0 := by
  simp only [cw_fold, Nat.reduceAdd, Nat.reduceSub]
  ac_rfl
theorem pw_cntb (P : Nat → Prop) [DecidablePred P] (n : Nat) (x : Int32) : cw_fold (fun k x => if P k then x + 1 else x) 0 n x = cw_fold (fun k x => x + cw_b (P k)) 0 n x :=
  cw_fold_congr n 0 x (fun k y _ _ => by
    by_cases h : P k
    · rw [if_pos h, cw_b1 h]
    · rw [if_neg h, cw_bf h, Int32.add_zero])
theorem pw_held (u : cw_s) (o : Int32) : cw_held u o = cw_fold (fun k x => x + cw_b (u (25 + 3 * k + 2) = o)) 0 20 0 := pw_cntb (fun k => u (25 + 3 * k + 2) = o) 20 0
theorem pw_it_20 (u : cw_s) (j : Nat) : pw_it u j 20 = cw_held u (nI j) := by
  rw [pw_held]
  exact pw_rev (fun k => cw_b (u (25 + 3 * k + 2) = nI j))
theorem pw_bd_20 (u : cw_s) (j : Nat) : pw_bd u j 20 = pw_SB u (j + 1) := by
  unfold pw_bd
  rw [cw_fold_sum0 (fun k => if u (85 + 20 * j + (19 - k)) = -1 then 0 else 1) 20, pw_rev (fun k => if u (85 + 20 * j + k) = -1 then 0 else 1)]
  have e : cw_bidsBy u j = cw_fold (fun k z => z + (if u (85 + 20 * j + k) = -1 then 0 else 1)) 0 20 0 := cw_cnt_sum (fun k => u (85 + 20 * j + k) = -1) 20 0
  rw [← e]
  exact (cw_fold0 (fun j x => x + cw_bidsBy u j) j 0).symm
theorem pw_bid_lt {n m : Nat} {u : cw_s} (hI : cw_I n m u) {j k : Nat} (hj : j < 6) (hk : k < 20) : (u (85 + 20 * j + k) < 0 ↔ u (85 + 20 * j + k) = -1) ∧ ¬ 21 ≤ u (85 + 20 * j + k) := by
  have z0 : (0 : Int32).toInt = 0 := rfl
  have z1 : (-1 : Int32).toInt = -1 := rfl
  have z2 : (21 : Int32).toInt = 21 := rfl
  rcases hI.bid j k hj hk with e | ⟨a, a0, a20, e⟩
  · rw [e]; exact ⟨⟨fun _ => rfl, fun _ => by decide⟩, by decide⟩
  · rw [e]
    refine ⟨⟨fun q => ?_, fun q => ?_⟩, fun q => ?_⟩
    · rw [cw_lt, cw_ni (by omega)] at q; omega
    · have q := congrArg Int32.toInt q
      rw [cw_ni (by omega)] at q; omega
    · rw [cw_le, cw_ni (by omega)] at q; omega
theorem pw_why {n m : Nat} {u : cw_s} (hI : cw_I n m u) {j k : Nat} (hk : k < 20) : cw_hind u j k = 0 ↔ u (25 + 3 * k + 1) = 0 ∧ u (25 + 3 * k + 2) = -1 ∧ ¬ u 233 ≤ cw_held u (nI j) ∧ ¬ u (1 + 4 * j + 1) < u (25 + 3 * k + 0) := by
  unfold cw_hind
  obtain ⟨a, a0, a1, e⟩ := hI.sch k hk
  by_cases h1 : u (25 + 3 * k + 1) = 1
  · rw [if_pos h1]
    exact ⟨fun q => absurd q (by decide), fun q => absurd (h1.symm.trans q.1) (by decide)⟩
  · rw [if_neg h1]
    have ha : a = 0 := by
      rcases (show a = 0 ∨ a = 1 by omega) with z | z
      · exact z
      · exact absurd (by rw [e, z]; rfl) h1
    have e0 : u (25 + 3 * k + 1) = 0 := by rw [e, ha]; rfl
    by_cases h2 : u (25 + 3 * k + 2) = -1
    · rw [if_neg (fun z => z h2)]
      by_cases h3 : cw_held u (nI j) < u 233
      · rw [if_pos h3]
        by_cases h4 : u (1 + 4 * j + 1) < u (25 + 3 * k + 0)
        · rw [if_pos h4]; exact ⟨fun q => absurd q (by decide), fun q => absurd h4 q.2.2.2⟩
        · rw [if_neg h4]; exact ⟨fun _ => ⟨e0, h2, Int32.not_le.mpr h3, h4⟩, fun _ => rfl⟩
      · rw [if_neg h3]; exact ⟨fun q => absurd q (by decide), fun q => absurd (Int32.not_le.mp q.2.2.1) h3⟩
    · rw [if_pos h2]; exact ⟨fun q => absurd q (by decide), fun q => absurd q.2.1 h2⟩
theorem pw_pts0 {n m : Nat} {u : cw_s} (hI : cw_I n m u) (hn : n < 2147483648) {j : Nat} (hj : j < 6) : ¬ u (1 + 4 * j + 1) < 0 := by
  have := (hI.pts j hj).toInt hn
  rw [cw_lt]
  have z0 : (0 : Int32).toInt = 0 := rfl
  omega
theorem pw_hol {n m : Nat} {u : cw_s} (hI : cw_I n m u) {k : Nat} (hk : k < 20) : ¬ u 0 ≤ u (25 + 3 * k + 2) := by
  obtain ⟨h0, h6⟩ := hI.no
  rw [cw_le, h0]
  rcases hI.hol k hk with e | ⟨j, hj, e⟩
  · rw [e]
    have z1 : (-1 : Int32).toInt = -1 := rfl
    omega
  · rw [e, cw_ni (by omega)]; omega
/-- bids there are where one is the greatest -/
theorem pw_bids_great {n m : Nat} {u : cw_s} (hI : cw_I n m u) {k : Nat} (hk : k < 20) : cw_bidsFor u k ≤ 0 ↔ cw_great u k < 0 := by
  have h6 := hI.m.2
  have z0 : (0 : Int32).toInt = 0 := rfl
  have z1 : (-1 : Int32).toInt = -1 := rfl
  have h := cw_fold_P (f := fun o (x : Int32 × Int32) => ((if u (85 + 20 * o + k) = -1 then x.1 else x.1 + 1), (if x.2 < u (85 + 20 * o + k) then u (85 + 20 * o + k) else x.2))) (fun i x => (0 ≤ x.1.toInt ∧ x.1.toInt ≤ (i : Int)) ∧ (-1 ≤ x.2.toInt ∧ x.2.toInt ≤ 20) ∧ (x.1.toInt ≤ 0 ↔ x.2.toInt < 0)) (cw_no u) (0, -1) ⟨by rw [z0]; omega, by rw [z1]; omega, by rw [z0, z1]; omega⟩ (fun j y hj ⟨⟨a, a2⟩, ⟨b1, b2⟩, b3⟩ => by
    rcases hI.bid j k (by omega) hk with e | ⟨c, c0, c20, e⟩
    · simp only [e]
      rw [if_pos trivial, if_neg (by rw [cw_lt, z1]; omega)]
      exact ⟨⟨a, by omega⟩, ⟨b1, b2⟩, b3⟩
    · have hne : ¬ nI c = -1 := fun q => by
        have q := congrArg Int32.toInt q
        rw [cw_ni (by omega)] at q; omega
      simp only [e]
      rw [if_neg hne]
      have e1 : (y.1 + 1).toInt = y.1.toInt + 1 := by
        rw [Int32.toInt_add]
        have z1' : (1 : Int32).toInt = 1 := rfl
        rw [z1', Int.bmod_eq_of_le (by omega) (by omega)]
      rw [e1]
      by_cases q : y.2 < nI c
      · rw [if_pos q, cw_ni (by omega)]
        exact ⟨⟨by omega, by omega⟩, ⟨by omega, by omega⟩, by omega⟩
      · rw [if_neg q]
        rw [cw_lt, cw_ni (by omega)] at q
        exact ⟨⟨by omega, by omega⟩, ⟨b1, b2⟩, by omega⟩) (cw_no u) (Nat.le_refl _)
  have e1 : (cw_fold (fun o (x : Int32 × Int32) => ((if u (85 + 20 * o + k) = -1 then x.1 else x.1 + 1), (if x.2 < u (85 + 20 * o + k) then u (85 + 20 * o + k) else x.2))) 0 (cw_no u) (0, -1)) = (cw_bidsFor u k, cw_great u k) := by
    unfold cw_bidsFor cw_great
    generalize cw_no u = N
    induction N with
    | zero => rfl
    | succ N ih => rw [cw_fold0, cw_fold0, cw_fold0, ih]
  rw [e1] at h
  rw [cw_le, cw_lt, z0]
  exact h.2.2
theorem pw_six (f : Nat → Int32) (N : Nat) (h6 : N ≤ 6) (h : ∀ j, N ≤ j → j < 6 → f j = 0) : cw_fold (fun j x => x + f j) 0 N 0 = f 0 + (f 1 + (f 2 + (f 3 + (f 4 + f 5)))) := by
  rw [← cw_fold_id (f := fun j x => x + f j) N 6 h6 0 (fun j h1 h2 => by rw [h j h1 h2, Int32.add_zero])]
  simp only [cw_fold, Nat.reduceAdd, Int32.zero_add]
  ac_rfl
theorem pw_points {n m : Nat} {u : cw_s} (hI : cw_I n m u) (hJ : pw_J u) : pw_SP u (cw_no u) = u 234 - u 235 + u 236 - u 237 := by
  have e := pw_six (fun j => u (1 + 4 * j + 1)) (cw_no u) hI.m.2 (fun j h1 h2 => (hI.nil j h1 h2).2.1)
  have d := hJ.1
  unfold pw_D at d
  have e2 : pw_SP u (cw_no u) = u 2 + (u 6 + (u 10 + (u 14 + (u 18 + u 22)))) := e
  have k : u 2 + (u 6 + (u 10 + (u 14 + (u 18 + u 22)))) = u 234 - u 235 + u 236 - u 237 + (u 2 + (u 6 + (u 10 + (u 14 + (u 18 + (u 22 + (u 235 + (u 237 + (-(u 234) + -(u 236)))))))))) := by
    rw [Int32.sub_eq_add_neg, Int32.sub_eq_add_neg]
    have r : u 234 + -u 235 + u 236 + -u 237 + (u 2 + (u 6 + (u 10 + (u 14 + (u 18 + (u 22 + (u 235 + (u 237 + (-u 234 + -u 236))))))))) = (u 2 + (u 6 + (u 10 + (u 14 + (u 18 + u 22))))) + ((u 234 + -u 234) + ((u 235 + -u 235) + ((u 236 + -u 236) + (u 237 + -u 237)))) := by ac_rfl
    rw [r, Int32.add_right_neg, Int32.add_right_neg, Int32.add_right_neg, Int32.add_right_neg, Int32.add_zero, Int32.add_zero, Int32.add_zero, Int32.add_zero]
  rw [d, Int32.add_zero] at k
  rw [e2]; exact k
theorem pw_coins {n m : Nat} {u : cw_s} (hI : cw_I n m u) (hJ : pw_J u) : pw_SC u (cw_no u) = u 241 := by
  have e := pw_six (fun j => u (1 + 4 * j + 3)) (cw_no u) hI.m.2 (fun j h1 h2 => (hI.nil j h1 h2).2.2.2)
  have d := hJ.2
  unfold pw_E at d
  have e2 : pw_SC u (cw_no u) = u 4 + (u 8 + (u 12 + (u 16 + (u 20 + u 24)))) := e
  have k : u 4 + (u 8 + (u 12 + (u 16 + (u 20 + u 24)))) = u 241 + (u 4 + (u 8 + (u 12 + (u 16 + (u 20 + (u 24 + -(u 241))))))) := by
    have r : u 241 + (u 4 + (u 8 + (u 12 + (u 16 + (u 20 + (u 24 + -u 241)))))) = (u 4 + (u 8 + (u 12 + (u 16 + (u 20 + u 24))))) + (u 241 + -u 241) := by ac_rfl
    rw [r, Int32.add_right_neg, Int32.add_zero]
  rw [d, Int32.add_zero] at k
  rw [e2]; exact k
theorem pw_bids {n m : Nat} {u : cw_s} (hI : cw_I n m u) : pw_SB u (cw_no u) = cw_allBids u := by
  rw [← cw_allBids_eq hI]
  exact (cw_fold_id (f := fun j x => x + cw_bidsBy u j) (cw_no u) 6 hI.m.2 0 (fun j h1 h2 => by
    have e : cw_bidsBy u j = 0 := by
      unfold cw_bidsBy
      have := cw_fold_P (f := fun k x => if u (85 + 20 * j + k) = -1 then x else x + 1) (fun _ (x : Int32) => x = 0) 20 0 rfl (fun k y hk hy => by
        show (if u (85 + 20 * j + k) = -1 then y else y + 1) = 0
        rw [if_pos (hI.nob j k h1 h2 hk)]; exact hy) 20 (Nat.le_refl _)
      exact this
    show _ + cw_bidsBy u j = _
    rw [e, Int32.add_zero])).symm
theorem pw_one (a : Int32) (N : Nat) (hN : N ≤ 6) (h : a = -1 ∨ ∃ j, j < N ∧ a = nI j) : cw_fold (fun j x => x + cw_b (a = nI j)) 0 N 0 + cw_b (a = -1) = 1 := by
  have key : ∀ M, M ≤ 6 → cw_fold (fun j x => x + cw_b (a = nI j)) 0 M 0 = cw_b (∃ j, j < M ∧ a = nI j) := by
    intro M
    induction M with
    | zero => intro _; exact (cw_bf (fun ⟨j, hj, _⟩ => absurd hj (Nat.not_lt_zero _))).symm
    | succ M ih =>
      intro hM
      rw [cw_fold0, ih (by omega)]
      show cw_b (∃ j, j < M ∧ a = nI j) + cw_b (a = nI M) = _
      by_cases q : a = nI M
      · have nq : ¬ ∃ j, j < M ∧ a = nI j := by
          rintro ⟨j, hj, e⟩
          have := (nI_eq (a := M) (b := j) (by omega) (by omega)).mp (q.symm.trans e)
          omega
        rw [cw_bf nq, cw_b1 q, cw_b1 ⟨M, by omega, q⟩]; rfl
      · rw [cw_bf q, Int32.add_zero]
        refine cw_b_eq ⟨fun ⟨j, hj, e⟩ => ⟨j, by omega, e⟩, fun ⟨j, hj, e⟩ => ⟨j, ?_, e⟩⟩
        by_cases z : j = M
        · exact absurd (z ▸ e) q
        · omega
  rw [key N hN]
  rcases h with e | e
  · have nq : ¬ ∃ j, j < N ∧ a = nI j := by
      rintro ⟨j, hj, e2⟩
      have := congrArg Int32.toInt (e.symm.trans e2)
      rw [cw_ni (by omega)] at this
      have z1 : (-1 : Int32).toInt = -1 := rfl
      omega
    rw [cw_bf nq, cw_b1 e]; rfl
  · have nq : ¬ a = -1 := by
      intro z
      obtain ⟨j, hj, e2⟩ := e
      have := congrArg Int32.toInt (z.symm.trans e2)
      rw [cw_ni (by omega)] at this
      have z1 : (-1 : Int32).toInt = -1 := rfl
      omega
    rw [cw_b1 e, cw_bf nq]; rfl
theorem pw_weeks {n m : Nat} {u : cw_s} (hI : cw_I n m u) : pw_SH u (cw_no u) + cw_held u (-1) = 20 := by
  have e1 : pw_SH u (cw_no u) = cw_fold (fun j x => x + cw_fold (fun k z => z + cw_b (u (25 + 3 * k + 2) = nI j)) 0 20 0) 0 (cw_no u) 0 := cw_fold_congr _ 0 0 (fun j y _ _ => by rw [pw_held])
  rw [e1, cw_fold_swap (fun j k => cw_b (u (25 + 3 * k + 2) = nI j)) 20, pw_held, ← cw_fold_add]
  rw [cw_fold_congr (g := fun _ y => y + 1) 20 0 0 (fun k y _ hk => by rw [pw_one _ _ hI.m.2 (hI.hol k (by omega))])]
  rfl
theorem pw_ex {A B : cw_A} {n m : Nat} {w : gw_M} (e : B.1 = A.1) (h : cw_IA n m B) (hr : cw_RC B w) : ∃ T, cw_IA n m (A.1, T) ∧ cw_RC (A.1, T) w := ⟨B.2, by rw [← e]; exact h, by rw [← e]; exact hr⟩
theorem pw_nle (a b c : Nat) : ¬ (1 + nI a + nI b : Int32) < 0 ∨ 1000 ≤ a ∨ 1000 ≤ b := by
  by_cases ha : 1000 ≤ a
  · exact Or.inr (Or.inl ha)
  by_cases hb : 1000 ≤ b
  · exact Or.inr (Or.inr hb)
  refine Or.inl ?_
  have e : (1 + nI a + nI b : Int32) = nI (1 + a + b) := by
    rw [← nI_add, ← nI_add]; rfl
  rw [e, cw_lt, nI_toInt (by omega)]
  have z0 : (0 : Int32).toInt = 0 := rfl
  omega
theorem pw_set2 {n m : Nat} {u : cw_s} (hI : cw_I n m u) : cw_setOk 2 (u (231 + cw_x 2)) := by
  have e : cw_x (2 : Int32) = 2 := rfl
  rw [e]
  obtain ⟨a, a1, a10, e2⟩ := hI.set2
  rw [e2]
  refine Or.inr (Or.inr ⟨rfl, ?_⟩)
  have := pw_in (l := 1) (u := 10) a1 a10 (by omega)
  exact this

set_option maxHeartbeats 8000000 in
set_option maxRecDepth 100000 in
theorem ok_L_most (A : cw_A) {n m : Nat} (hA : cw_IA n m A) (hB : cw_B (n + 43200) (m + 4800)) : gw_Ok yL_most cL_most 3 (some .int) sC 13 [.ref 252] (fun w => cw_RC A w) (fun _ vr w1 => vr = some (.int (A.1 233)) ∧ ∃ T, cw_IA (n + 43200) (m + 4800) (A.1, T) ∧ cw_RC (A.1, T) w1) := by
  refine gw_of (by decide) (Nat.le_of_ble_eq_true rfl) ?_
  intro X w h C F
  have hI := hA.1
  have hA1 : cw_IA (n + 21600) (m + 2400) (upd A.1 (231 + cw_x 2) 1, (cw_rem A).2) := by
    have q := ia_set hA (cw_B_le2 hB (by omega) (by omega)) 2 1
    unfold sp_set at q
    rw [cw_stp0 (cw_it (show cw_setOk 2 1 from Or.inr (Or.inr ⟨rfl, by decide, by decide⟩)))] at q
    exact q
  have hA2 : cw_IA (n + 43200) (m + 4800) (upd (upd A.1 (231 + cw_x 2) 1, (cw_rem A).2).1 (231 + cw_x 2) (A.1 (231 + cw_x 2)), (cw_rem (upd A.1 (231 + cw_x 2) 1, (cw_rem A).2)).2) := by
    have q := ia_set hA1 (cw_B_le2 hB (by omega) (by omega)) 2 (A.1 (231 + cw_x 2))
    unfold sp_set at q
    rw [cw_stp0 (cw_it (pw_set2 hI))] at q
    exact q.mono (by omega) (by omega)
  have H1 : pw_H1 (upd A.1 (231 + cw_x 2) 1, (cw_rem A).2) A.1 := pw_rem1 hA.2.2.2.1 _
  have H2 : pw_H2 (upd (upd A.1 (231 + cw_x 2) 1, (cw_rem A).2).1 (231 + cw_x 2) (A.1 (231 + cw_x 2)), (cw_rem (upd A.1 (231 + cw_x 2) 1, (cw_rem A).2)).2) (upd A.1 (231 + cw_x 2) 1, (cw_rem A).2).1 A.1 := pw_rem2 hA1.2.2.2.1 H1 _
  have H3 := pw_un2 H2
  have hA3 : cw_IA (n + 43200) (m + 4800) (pw_un (upd (upd A.1 (231 + cw_x 2) 1, (cw_rem A).2).1 (231 + cw_x 2) (A.1 (231 + cw_x 2)), (cw_rem (upd A.1 (231 + cw_x 2) 1, (cw_rem A).2)).2)) := pw_un_IA hA2 (Nat.lt_of_succ_lt H2.1)
  have hA4 : cw_IA (n + 43200) (m + 4800) (pw_un (pw_un (upd (upd A.1 (231 + cw_x 2) 1, (cw_rem A).2).1 (231 + cw_x 2) (A.1 (231 + cw_x 2)), (cw_rem (upd A.1 (231 + cw_x 2) 1, (cw_rem A).2)).2))) := pw_un_IA hA3 H3.1.1
  have e4 : (pw_un (pw_un (upd (upd A.1 (231 + cw_x 2) 1, (cw_rem A).2).1 (231 + cw_x 2) (A.1 (231 + cw_x 2)), (cw_rem (upd A.1 (231 + cw_x 2) 1, (cw_rem A).2)).2))).1 = A.1 := pw_un1 H3.1
  have hbig : ¬ (1000 ≤ (upd (upd A.1 (231 + cw_x 2) 1, (cw_rem A).2).1 (231 + cw_x 2) (A.1 (231 + cw_x 2)), (cw_rem (upd A.1 (231 + cw_x 2) 1, (cw_rem A).2)).2).2.1.1 - 1 ∨ 1000 ≤ (pw_un (upd (upd A.1 (231 + cw_x 2) 1, (cw_rem A).2).1 (231 + cw_x 2) (A.1 (231 + cw_x 2)), (cw_rem (upd A.1 (231 + cw_x 2) 1, (cw_rem A).2)).2)).2.1.1 - 1) := by
    have a := hA2.2.2.2.1
    have b := hA3.2.2.2.1
    omega
  refine g_aload_n C rfl dL_most_0 ?_
  refine g_iconst (v := 2) C (by decide) dL_most_1 ?_
  refine g_iconst (v := 1) C (by decide) dL_most_2 ?_
  refine g_call C (ok_X6_set A hA 2 1 (Or.inr (Or.inr ⟨rfl, by decide, by decide⟩))) my_X6_set vi_L_27 (by decide) ⟨Nat.le_refl _, Nat.le_refl _⟩ rfl rfl rfl (Nat.le_of_ble_eq_true rfl) dL_most_3 rfl (h) (fun v_3 w_3 hp_3 => ?_)
  obtain ⟨rfl, hr3⟩ := hp_3
  skip
  refine g_istore_n C (by decide) dL_most_6 ?_
  refine g_aload_n C rfl dL_most_7 ?_
  refine g_iconst (v := 2) C (by decide) dL_most_8 ?_
  refine g_iload_n C rfl dL_most_9 ?_
  refine g_call C (ok_X6_set (upd A.1 (231 + cw_x 2) 1, (cw_rem A).2) hA1 2 (A.1 (231 + cw_x 2)) (pw_set2 hI)) my_X6_set vi_L_27 (by decide) ⟨Nat.le_refl _, Nat.le_refl _⟩ rfl rfl rfl (Nat.le_of_ble_eq_true rfl) dL_most_10 rfl (hr3) (fun v_10 w_10 hp_10 => ?_)
  obtain ⟨rfl, hr10⟩ := hp_10
  refine g_top (show _ = (1 : Int32) from cw_ups A.1 (231 + cw_x 2) 1) ?_
  refine g_aload_n C rfl dL_most_13 ?_
  refine g_call C (ok_X6_undo (upd (upd A.1 (231 + cw_x 2) 1, (cw_rem A).2).1 (231 + cw_x 2) (A.1 (231 + cw_x 2)), (cw_rem (upd A.1 (231 + cw_x 2) 1, (cw_rem A).2)).2) hA2 (Nat.pos_iff_ne_zero.mp (Nat.lt_of_succ_lt H2.1))) my_X6_undo vi_L_50 (by decide) ⟨Nat.le_refl _, Nat.le_refl _⟩ rfl rfl rfl (Nat.le_of_ble_eq_true rfl) dL_most_14 rfl (hr10) (fun v_14 w_14 hp_14 => ?_)
  obtain ⟨rfl, hr14⟩ := hp_14
  refine g_iadd C dL_most_17 ?_
  refine g_aload_n C rfl dL_most_18 ?_
  refine g_call C (ok_X6_undo (pw_un (upd (upd A.1 (231 + cw_x 2) 1, (cw_rem A).2).1 (231 + cw_x 2) (A.1 (231 + cw_x 2)), (cw_rem (upd A.1 (231 + cw_x 2) 1, (cw_rem A).2)).2)) hA3 (Nat.pos_iff_ne_zero.mp H3.1.1)) my_X6_undo vi_L_50 (by decide) ⟨Nat.le_refl _, Nat.le_refl _⟩ rfl rfl rfl (Nat.le_of_ble_eq_true rfl) dL_most_19 rfl (hr14) (fun v_19 w_19 hp_19 => ?_)
  obtain ⟨rfl, hr19⟩ := hp_19
  refine g_iadd C dL_most_22 ?_
  refine g_istore_n C (by decide) dL_most_23 ?_
  refine g_iload_n C rfl dL_most_24 ?_
  refine g_if_ge (tgt := 32) C (by decide) dL_most_25 (fun c_25 => ?_) (fun c_25 => absurd (Int32.not_lt.mp ((pw_nle _ _ 0).resolve_right hbig)) c_25)
  refine g_iload_n C rfl dL_most_32 ?_
  refine g_iret C F dL_most_33 ?_
  exact ⟨rfl, pw_ex e4 hA4 hr19⟩

set_option maxHeartbeats 8000000 in
set_option maxRecDepth 100000 in
theorem ok_L_areSums (A : cw_A) {n m : Nat} (hA : cw_IA n m A) (hB : cw_B (n + 43200) (m + 4800)) (hJ : pw_J A.1) : gw_Ok yL_areSums cL_areSums 12 (some .boolean) sC 14 [.ref 252] (fun w => cw_RC A w) (fun _ vr w1 => vr = some (.int 1) ∧ ∃ T, cw_IA (n + 43200) (m + 4800) (A.1, T) ∧ cw_RC (A.1, T) w1) := by
  refine gw_of (by decide) (Nat.le_of_ble_eq_true rfl) ?_
  intro X w h C F
  have hI := hA.1
  have h6 := hI.m.2
  have hn9 : n < 2147483648 := by have := hB.1; omega
  have hoff : ¬ 8 < A.1 205 := by
    obtain ⟨q, q8, e, -⟩ := hI.off
    rw [e, cw_lt, cw_ni (by omega)]
    have z : (8 : Int32).toInt = 8 := rfl
    omega
  refine g_iconst (v := 0) C (by decide) dL_areSums_0 ?_
  refine g_istore_n C (by decide) dL_areSums_1 ?_
  refine g_iconst (v := 0) C (by decide) dL_areSums_2 ?_
  refine g_istore_n C (by decide) dL_areSums_3 ?_
  refine g_iconst (v := 0) C (by decide) dL_areSums_4 ?_
  refine g_istore_n C (by decide) dL_areSums_5 ?_
  refine g_iconst (v := 0) C (by decide) dL_areSums_6 ?_
  refine g_istore C (by decide) dL_areSums_7 ?_
  refine g_aload_n C rfl dL_areSums_9 ?_
  refine g_callS C (ok_L_most A hA hB) my_L_most si_L_85 (by decide) ⟨Nat.le_refl _, Nat.le_refl _⟩ rfl (Nat.le_of_ble_eq_true rfl) dL_areSums_10 rfl (h) (fun v_10 w_10 hp_10 => ?_)
  obtain ⟨rfl, T, hT, hr10⟩ := hp_10
  skip
  refine g_istore C (by decide) dL_areSums_13 ?_
  refine g_iconst (v := 1) C (by decide) dL_areSums_15 ?_
  refine g_istore C (by decide) dL_areSums_16 ?_
  refine g_iconst (v := 0) C (by decide) dL_areSums_18 ?_
  refine g_istore C (by decide) dL_areSums_19 ?_
  refine g_sub rfl (g_for (α := Unit) (cw_no A.1) (fun i1 x1 => [(0, .ref 252), (1, .int (pw_SP A.1 i1)), (2, .int (pw_SH A.1 i1)), (3, .int (pw_SC A.1 i1)), (4, .int (pw_SB A.1 i1)), (5, .int (A.1 233)), (6, .int 1), (7, .int (nI i1))]) (fun i1 x1 w1 => cw_RC (A.1, T) w1) 0 () _ (Nat.zero_le _) (hr10) (fun i1 x1 w1 hi1 hR1 ih1 => ?_) (fun x1 w1 hR1 => ?_))
  · skip
    have hi1 := hi1
    refine g_iload C rfl dL_areSums_21 ?_
    refine g_aload_n C rfl dL_areSums_23 ?_
    refine g_iconst (v := 0) C (by decide) dL_areSums_24 ?_
    refine g_call C (ok_X6_about (A.1, T) hT 0 (by decide)) my_X6_about vi_L_59 (by decide) ⟨Nat.le_refl _, Nat.le_refl _⟩ rfl rfl rfl (Nat.le_of_ble_eq_true rfl) dL_areSums_25 rfl (hR1) (fun v_25 w_25 hp_25 => ?_)
    obtain ⟨rfl, hr25⟩ := hp_25
    refine g_top (show _ = nI (cw_no A.1) from hI.m.1) ?_
    refine g_cmp_ge (tgt := 297) C (by decide) dL_areSums_28 (fun c_28 => absurd c_28 (pw_nge hi1 (by omega))) (fun c_28 => ?_)
    refine g_iconst (v := 0) C (by decide) dL_areSums_31 ?_
    refine g_istore C (by decide) dL_areSums_32 ?_
    refine g_iconst (v := (-1)) C (by decide) dL_areSums_34 ?_
    refine g_istore C (by decide) dL_areSums_35 ?_
    refine g_bipush (v := 19) C (by decide) dL_areSums_37 ?_
    refine g_istore C (by decide) dL_areSums_39 ?_
    refine g_sub rfl (g_for (α := Unit) 20 (fun i2 x2 => [(0, .ref 252), (1, .int (pw_SP A.1 i1)), (2, .int (pw_SH A.1 i1)), (3, .int (pw_SC A.1 i1)), (4, .int (pw_bd A.1 i1 i2)), (5, .int (A.1 233)), (6, .int 1), (7, .int (nI i1)), (8, .int (pw_it A.1 i1 i2)), (9, .int (pw_lw A.1 i1 i2)), (10, .int (19 - nI i2))]) (fun i2 x2 w2 => cw_RC (A.1, T) w2) 0 () _ (Nat.zero_le _) (hr25) (fun i2 x2 w2 hi2 hR2 ih2 => ?_) (fun x2 w2 hR2 => ?_))
    · have h19 : (19 : Int32) - nI i2 = nI (19 - i2) := cw_19 (by omega)
      refine g_sub (lv' := [(0, .ref 252), (1, .int (pw_SP A.1 i1)), (2, .int (pw_SH A.1 i1)), (3, .int (pw_SC A.1 i1)), (4, .int (pw_bd A.1 i1 i2)), (5, .int (A.1 233)), (6, .int 1), (7, .int (nI i1)), (8, .int (pw_it A.1 i1 i2)), (9, .int (pw_lw A.1 i1 i2)), (10, .int (nI (19 - i2)))]) (by rw [← h19]; rfl) ?_
      refine g_iload C rfl dL_areSums_41 ?_
      refine g_if_lt (tgt := 220) C (by decide) dL_areSums_43 (fun c_43 => absurd c_43 (by rw [cw_lt, cw_ni (by omega)]; have z : (0 : Int32).toInt = 0 := rfl; omega)) (fun c_43 => ?_)
      refine g_aload_n C rfl dL_areSums_46 ?_
      refine g_iload C rfl dL_areSums_47 ?_
      refine g_iconst (v := 2) C (by decide) dL_areSums_49 ?_
      refine g_call C (ok_X6_weekOf (A.1, T) hT (nI (19 - i2)) 2 (cw_isW_nI (by omega)) (by decide)) my_X6_weekOf vi_L_79 (by decide) ⟨Nat.le_refl _, Nat.le_refl _⟩ rfl rfl rfl (Nat.le_of_ble_eq_true rfl) dL_areSums_50 rfl (hR2) (fun v_50 w_50 hp_50 => ?_)
      obtain ⟨rfl, hr50⟩ := hp_50
      refine g_top (pw_W2 A.1 (by omega)) ?_
      refine g_iload C rfl dL_areSums_53 ?_
      refine g_join2 63 (cw_b (A.1 (25 + 3 * (19 - i2) + 2) = nI i1)) (fun k_63 => ?_) ?_
      · refine g_cmp_ne (tgt := 62) C (by decide) dL_areSums_55 (fun c_55 => ?_) (fun c_55 => ?_)
        · refine g_iconst (v := 0) C (by decide) dL_areSums_62 ?_
          exact k_63 _ ((cw_bf c_55).symm)
        · refine g_iconst (v := 1) C (by decide) dL_areSums_58 ?_
          refine g_goto (tgt := 63) C (by decide) dL_areSums_59 ?_
          exact k_63 _ ((cw_b1 c_55).symm)
      refine g_istore C (by decide) dL_areSums_63 ?_
      refine g_iload C rfl dL_areSums_65 ?_
      refine g_iload C rfl dL_areSums_67 ?_
      refine g_join1 77 (cw_b (A.1 (25 + 3 * (19 - i2) + 2) = nI i1)) (fun k_77 => ?_) ?_
      · refine g_if_eq (tgt := 76) C (by decide) dL_areSums_69 (fun c_69 => ?_) (fun c_69 => ?_)
        · refine g_iconst (v := 0) C (by decide) dL_areSums_76 ?_
          exact k_77 _ (c_69.symm)
        · refine g_iconst (v := 1) C (by decide) dL_areSums_72 ?_
          refine g_goto (tgt := 77) C (by decide) dL_areSums_73 ?_
          exact k_77 _ ((cw_b1 (cw_bn c_69)).symm)
      refine g_iadd C dL_areSums_77 ?_
      refine g_istore C (by decide) dL_areSums_78 ?_
      refine g_iload C rfl dL_areSums_80 ?_
      refine g_join1 92 (pw_lw A.1 i1 (i2 + 1)) (fun k_92 => ?_) ?_
      · refine g_if_eq (tgt := 90) C (by decide) dL_areSums_82 (fun c_82 => ?_) (fun c_82 => ?_)
        · refine g_iload C rfl dL_areSums_90 ?_
          exact k_92 _ (((pw_lw_1 A.1 i1 i2).trans (if_neg (cw_b0.mp c_82))).symm)
        · refine g_iload C rfl dL_areSums_85 ?_
          refine g_goto (tgt := 92) C (by decide) dL_areSums_87 ?_
          exact k_92 _ (((pw_lw_1 A.1 i1 i2).trans (if_pos (cw_bn c_82))).symm)
      refine g_istore C (by decide) dL_areSums_92 ?_
      refine g_iload C rfl dL_areSums_94 ?_
      refine g_aload_n C rfl dL_areSums_96 ?_
      refine g_iload C rfl dL_areSums_97 ?_
      refine g_iload C rfl dL_areSums_99 ?_
      refine g_call C (ok_X6_bidOf (A.1, T) hT (nI i1) (nI (19 - i2)) ⟨cw_isO_nI hI.m hi1, cw_isW_nI (by omega)⟩) my_X6_bidOf vi_L_89 (by decide) ⟨Nat.le_refl _, Nat.le_refl _⟩ rfl rfl rfl (Nat.le_of_ble_eq_true rfl) dL_areSums_101 rfl (hr50) (fun v_101 w_101 hp_101 => ?_)
      obtain ⟨rfl, hr101⟩ := hp_101
      refine g_top (show _ = A.1 (85 + 20 * i1 + (19 - i2)) by rw [cw_xn (by omega), cw_xn (by omega)]) ?_
      refine g_join1 112 (if A.1 (85 + 20 * i1 + (19 - i2)) = -1 then 0 else 1) (fun k_112 => ?_) ?_
      · refine g_if_lt (tgt := 111) C (by decide) dL_areSums_104 (fun c_104 => ?_) (fun c_104 => ?_)
        · refine g_iconst (v := 0) C (by decide) dL_areSums_111 ?_
          exact k_112 _ ((if_pos ((pw_bid_lt hI (j := i1) (k := 19 - i2) (by omega) (by omega)).1.mp c_104)).symm)
        · refine g_iconst (v := 1) C (by decide) dL_areSums_107 ?_
          refine g_goto (tgt := 112) C (by decide) dL_areSums_108 ?_
          exact k_112 _ ((if_neg (fun q => c_104 ((pw_bid_lt hI (j := i1) (k := 19 - i2) (by omega) (by omega)).1.mpr q))).symm)
      refine g_iadd C dL_areSums_112 ?_
      refine g_istore C (by decide) dL_areSums_113 ?_
      refine g_iload C rfl dL_areSums_115 ?_
      refine g_if_eq (tgt := 211) C (by decide) dL_areSums_117 (fun c_117 => absurd c_117 (by decide)) (fun c_117 => ?_)
      refine g_aload_n C rfl dL_areSums_120 ?_
      refine g_iload C rfl dL_areSums_121 ?_
      refine g_iload C rfl dL_areSums_123 ?_
      refine g_call C (ok_X6_bidOf (A.1, T) hT (nI i1) (nI (19 - i2)) ⟨cw_isO_nI hI.m hi1, cw_isW_nI (by omega)⟩) my_X6_bidOf vi_L_89 (by decide) ⟨Nat.le_refl _, Nat.le_refl _⟩ rfl rfl rfl (Nat.le_of_ble_eq_true rfl) dL_areSums_125 rfl (hr101) (fun v_125 w_125 hp_125 => ?_)
      obtain ⟨rfl, hr125⟩ := hp_125
      refine g_top (show _ = A.1 (85 + 20 * i1 + (19 - i2)) by rw [cw_xn (by omega), cw_xn (by omega)]) ?_
      refine g_bipush (v := 21) C (by decide) dL_areSums_128 ?_
      refine g_cmp_ge (tgt := 211) C (by decide) dL_areSums_130 (fun c_130 => absurd c_130 ((pw_bid_lt hI (j := i1) (k := 19 - i2) (by omega) (by omega)).2)) (fun c_130 => ?_)
      refine g_aload_n C rfl dL_areSums_133 ?_
      refine g_iload C rfl dL_areSums_134 ?_
      refine g_iload C rfl dL_areSums_136 ?_
      refine g_call C (ok_X6_why (A.1, T) hT (nI i1) (nI (19 - i2)) ⟨cw_isO_nI hI.m hi1, cw_isW_nI (by omega)⟩) my_X6_why vi_L_92 (by decide) ⟨Nat.le_refl _, Nat.le_refl _⟩ rfl rfl rfl (Nat.le_of_ble_eq_true rfl) dL_areSums_138 rfl (hr125) (fun v_138 w_138 hp_138 => ?_)
      obtain ⟨rfl, hr138⟩ := hp_138
      refine g_top (show _ = cw_hind A.1 i1 (19 - i2) by rw [cw_xn (by omega), cw_xn (by omega)]) ?_
      refine g_join1 149 (cw_b (cw_hind A.1 i1 (19 - i2) = 0)) (fun k_149 => ?_) ?_
      · refine g_if_ne (tgt := 148) C (by decide) dL_areSums_141 (fun c_141 => ?_) (fun c_141 => ?_)
        · refine g_iconst (v := 0) C (by decide) dL_areSums_148 ?_
          exact k_149 _ ((cw_bf c_141).symm)
        · refine g_iconst (v := 1) C (by decide) dL_areSums_144 ?_
          refine g_goto (tgt := 149) C (by decide) dL_areSums_145 ?_
          exact k_149 _ ((cw_b1 c_141).symm)
      refine g_aload_n C rfl dL_areSums_149 ?_
      refine g_iload C rfl dL_areSums_150 ?_
      refine g_iconst (v := 1) C (by decide) dL_areSums_152 ?_
      refine g_call C (ok_X6_weekOf (A.1, T) hT (nI (19 - i2)) 1 (cw_isW_nI (by omega)) (by decide)) my_X6_weekOf vi_L_79 (by decide) ⟨Nat.le_refl _, Nat.le_refl _⟩ rfl rfl rfl (Nat.le_of_ble_eq_true rfl) dL_areSums_153 rfl (hr138) (fun v_153 w_153 hp_153 => ?_)
      obtain ⟨rfl, hr153⟩ := hp_153
      refine g_top (pw_W1 A.1 (by omega)) ?_
      refine g_joinW1 204 (cw_b (cw_hind A.1 i1 (19 - i2) = 0)) (cw_RC (A.1, T)) (fun k_204 => ?_) (fun w204j h204j => ?_)
      · refine g_if_ne (tgt := 203) C (by decide) dL_areSums_156 (fun c_156 => ?_) (fun c_156 => ?_)
        · refine g_iconst (v := 0) C (by decide) dL_areSums_203 ?_
          exact k_204 _ _ ((cw_bf (fun q => c_156 ((pw_why hI (j := i1) (k := 19 - i2) (by omega)).mp q).1)).symm) hr153
        · refine g_aload_n C rfl dL_areSums_159 ?_
          refine g_iload C rfl dL_areSums_160 ?_
          refine g_iconst (v := 2) C (by decide) dL_areSums_162 ?_
          refine g_call C (ok_X6_weekOf (A.1, T) hT (nI (19 - i2)) 2 (cw_isW_nI (by omega)) (by decide)) my_X6_weekOf vi_L_79 (by decide) ⟨Nat.le_refl _, Nat.le_refl _⟩ rfl rfl rfl (Nat.le_of_ble_eq_true rfl) dL_areSums_163 rfl (hr153) (fun v_163 w_163 hp_163 => ?_)
          obtain ⟨rfl, hr163⟩ := hp_163
          refine g_top (pw_W2 A.1 (by omega)) ?_
          refine g_iconst (v := (-1)) C (by decide) dL_areSums_166 ?_
          refine g_cmp_ne (tgt := 203) C (by decide) dL_areSums_167 (fun c_167 => ?_) (fun c_167 => ?_)
          · refine g_iconst (v := 0) C (by decide) dL_areSums_203 ?_
            exact k_204 _ _ ((cw_bf (fun q => c_167 ((pw_why hI (j := i1) (k := 19 - i2) (by omega)).mp q).2.1)).symm) hr163
          · refine g_aload_n C rfl dL_areSums_170 ?_
            refine g_iload C rfl dL_areSums_171 ?_
            refine g_iconst (v := 2) C (by decide) dL_areSums_173 ?_
            refine g_call C (ok_X6_ownerOf (A.1, T) hT (nI i1) 2 (cw_isO_nI hI.m hi1) (by decide)) my_X6_ownerOf vi_L_66 (by decide) ⟨Nat.le_refl _, Nat.le_refl _⟩ rfl rfl rfl (Nat.le_of_ble_eq_true rfl) dL_areSums_174 rfl (hr163) (fun v_174 w_174 hp_174 => ?_)
            obtain ⟨rfl, hr174⟩ := hp_174
            refine g_top (pw_O2 A.1 (by omega)) ?_
            refine g_iload C rfl dL_areSums_177 ?_
            refine g_cmp_ge (tgt := 203) C (by decide) dL_areSums_179 (fun c_179 => ?_) (fun c_179 => ?_)
            · refine g_iconst (v := 0) C (by decide) dL_areSums_203 ?_
              exact k_204 _ _ ((cw_bf (fun q => ((pw_why hI (j := i1) (k := 19 - i2) (by omega)).mp q).2.2.1 c_179)).symm) hr174
            · refine g_aload_n C rfl dL_areSums_182 ?_
              refine g_iload C rfl dL_areSums_183 ?_
              refine g_iconst (v := 1) C (by decide) dL_areSums_185 ?_
              refine g_call C (ok_X6_ownerOf (A.1, T) hT (nI i1) 1 (cw_isO_nI hI.m hi1) (by decide)) my_X6_ownerOf vi_L_66 (by decide) ⟨Nat.le_refl _, Nat.le_refl _⟩ rfl rfl rfl (Nat.le_of_ble_eq_true rfl) dL_areSums_186 rfl (hr174) (fun v_186 w_186 hp_186 => ?_)
              obtain ⟨rfl, hr186⟩ := hp_186
              refine g_top (pw_O1 A.1 (by omega)) ?_
              refine g_aload_n C rfl dL_areSums_189 ?_
              refine g_iload C rfl dL_areSums_190 ?_
              refine g_iconst (v := 0) C (by decide) dL_areSums_192 ?_
              refine g_call C (ok_X6_weekOf (A.1, T) hT (nI (19 - i2)) 0 (cw_isW_nI (by omega)) (by decide)) my_X6_weekOf vi_L_79 (by decide) ⟨Nat.le_refl _, Nat.le_refl _⟩ rfl rfl rfl (Nat.le_of_ble_eq_true rfl) dL_areSums_193 rfl (hr186) (fun v_193 w_193 hp_193 => ?_)
              obtain ⟨rfl, hr193⟩ := hp_193
              refine g_top (pw_W0 A.1 (by omega)) ?_
              refine g_cmp_lt (tgt := 203) C (by decide) dL_areSums_196 (fun c_196 => ?_) (fun c_196 => ?_)
              · refine g_iconst (v := 0) C (by decide) dL_areSums_203 ?_
                exact k_204 _ _ ((cw_bf (fun q => ((pw_why hI (j := i1) (k := 19 - i2) (by omega)).mp q).2.2.2 c_196)).symm) hr193
              · refine g_iconst (v := 1) C (by decide) dL_areSums_199 ?_
                refine g_goto (tgt := 204) C (by decide) dL_areSums_200 ?_
                exact k_204 _ _ ((cw_b1 ((pw_why hI (j := i1) (k := 19 - i2) (by omega)).mpr ⟨c_156, c_167, c_179, c_196⟩)).symm) hr193
      refine g_cmp_ne (tgt := 211) C (by decide) dL_areSums_204 (fun c_204 => absurd (rfl) c_204) (fun c_204 => ?_)
      refine g_iconst (v := 1) C (by decide) dL_areSums_207 ?_
      refine g_goto (tgt := 212) C (by decide) dL_areSums_208 ?_
      refine g_istore C (by decide) dL_areSums_212 ?_
      refine g_iinc (v := 19 - nI (i2 + 1)) C rfl (cw_191 (by omega)) (by decide) dL_areSums_214 ?_
      refine g_goto (tgt := 41) C (by decide) dL_areSums_217 ?_
      exact g_sub (by rw [pw_it_1, pw_bd_1]; rfl) (ih2 () _ h204j)
    skip
    refine g_iload C rfl dL_areSums_41 ?_
    refine g_if_lt (tgt := 220) C (by decide) dL_areSums_43 (fun c_43 => ?_) (fun c_43 => absurd (by decide) c_43)
    refine g_iload_n C rfl dL_areSums_220 ?_
    refine g_aload_n C rfl dL_areSums_221 ?_
    refine g_iload C rfl dL_areSums_222 ?_
    refine g_iconst (v := 1) C (by decide) dL_areSums_224 ?_
    refine g_call C (ok_X6_ownerOf (A.1, T) hT (nI i1) 1 (cw_isO_nI hI.m hi1) (by decide)) my_X6_ownerOf vi_L_66 (by decide) ⟨Nat.le_refl _, Nat.le_refl _⟩ rfl rfl rfl (Nat.le_of_ble_eq_true rfl) dL_areSums_225 rfl (hR2) (fun v_225 w_225 hp_225 => ?_)
    obtain ⟨rfl, hr225⟩ := hp_225
    refine g_top (pw_O1 A.1 (by omega)) ?_
    refine g_iadd C dL_areSums_228 ?_
    refine g_istore_n C (by decide) dL_areSums_229 ?_
    refine g_iload_n C rfl dL_areSums_230 ?_
    refine g_iload C rfl dL_areSums_231 ?_
    refine g_iadd C dL_areSums_233 ?_
    refine g_istore_n C (by decide) dL_areSums_234 ?_
    refine g_iload_n C rfl dL_areSums_235 ?_
    refine g_aload_n C rfl dL_areSums_236 ?_
    refine g_iload C rfl dL_areSums_237 ?_
    refine g_iconst (v := 4) C (by decide) dL_areSums_239 ?_
    refine g_call C (ok_X6_ownerOf (A.1, T) hT (nI i1) 4 (cw_isO_nI hI.m hi1) (by decide)) my_X6_ownerOf vi_L_66 (by decide) ⟨Nat.le_refl _, Nat.le_refl _⟩ rfl rfl rfl (Nat.le_of_ble_eq_true rfl) dL_areSums_240 rfl (hr225) (fun v_240 w_240 hp_240 => ?_)
    obtain ⟨rfl, hr240⟩ := hp_240
    refine g_top (pw_O4 A.1 (by omega)) ?_
    refine g_iadd C dL_areSums_243 ?_
    refine g_istore_n C (by decide) dL_areSums_244 ?_
    refine g_iload C rfl dL_areSums_245 ?_
    refine g_if_eq (tgt := 288) C (by decide) dL_areSums_247 (fun c_247 => absurd c_247 (by decide)) (fun c_247 => ?_)
    refine g_aload_n C rfl dL_areSums_250 ?_
    refine g_iload C rfl dL_areSums_251 ?_
    refine g_iconst (v := 1) C (by decide) dL_areSums_253 ?_
    refine g_call C (ok_X6_ownerOf (A.1, T) hT (nI i1) 1 (cw_isO_nI hI.m hi1) (by decide)) my_X6_ownerOf vi_L_66 (by decide) ⟨Nat.le_refl _, Nat.le_refl _⟩ rfl rfl rfl (Nat.le_of_ble_eq_true rfl) dL_areSums_254 rfl (hr240) (fun v_254 w_254 hp_254 => ?_)
    obtain ⟨rfl, hr254⟩ := hp_254
    refine g_top (pw_O1 A.1 (by omega)) ?_
    refine g_if_lt (tgt := 288) C (by decide) dL_areSums_257 (fun c_257 => absurd c_257 (pw_pts0 hI hn9 (by omega))) (fun c_257 => ?_)
    refine g_iload C rfl dL_areSums_260 ?_
    refine g_aload_n C rfl dL_areSums_262 ?_
    refine g_iload C rfl dL_areSums_263 ?_
    refine g_iconst (v := 2) C (by decide) dL_areSums_265 ?_
    refine g_call C (ok_X6_ownerOf (A.1, T) hT (nI i1) 2 (cw_isO_nI hI.m hi1) (by decide)) my_X6_ownerOf vi_L_66 (by decide) ⟨Nat.le_refl _, Nat.le_refl _⟩ rfl rfl rfl (Nat.le_of_ble_eq_true rfl) dL_areSums_266 rfl (hr254) (fun v_266 w_266 hp_266 => ?_)
    obtain ⟨rfl, hr266⟩ := hp_266
    refine g_top (pw_O2 A.1 (by omega)) ?_
    refine g_cmp_ne (tgt := 288) C (by decide) dL_areSums_269 (fun c_269 => absurd (pw_it_20 A.1 i1) c_269) (fun c_269 => ?_)
    refine g_iload C rfl dL_areSums_272 ?_
    refine g_aload_n C rfl dL_areSums_274 ?_
    refine g_iload C rfl dL_areSums_275 ?_
    refine g_iconst (v := 5) C (by decide) dL_areSums_277 ?_
    refine g_call C (ok_X6_ownerOf (A.1, T) hT (nI i1) 5 (cw_isO_nI hI.m hi1) (by decide)) my_X6_ownerOf vi_L_66 (by decide) ⟨Nat.le_refl _, Nat.le_refl _⟩ rfl rfl rfl (Nat.le_of_ble_eq_true rfl) dL_areSums_278 rfl (hr266) (fun v_278 w_278 hp_278 => ?_)
    obtain ⟨rfl, hr278⟩ := hp_278
    refine g_top (pw_O5 A.1 (by omega)) ?_
    refine g_cmp_ne (tgt := 288) C (by decide) dL_areSums_281 (fun c_281 => absurd (rfl) c_281) (fun c_281 => ?_)
    refine g_iconst (v := 1) C (by decide) dL_areSums_284 ?_
    refine g_goto (tgt := 289) C (by decide) dL_areSums_285 ?_
    refine g_istore C (by decide) dL_areSums_289 ?_
    refine g_iinc (v := nI (i1 + 1)) C rfl (nI_1 i1) (by decide) dL_areSums_291 ?_
    refine g_goto (tgt := 21) C (by decide) dL_areSums_294 ?_
    exact g_sub (by rw [pw_it_20, pw_bd_20, pw_SP_1, pw_SH_1, pw_SC_1]; rfl) (ih1 () _ hr278)
  skip
  refine g_iload C rfl dL_areSums_21 ?_
  refine g_aload_n C rfl dL_areSums_23 ?_
  refine g_iconst (v := 0) C (by decide) dL_areSums_24 ?_
  refine g_call C (ok_X6_about (A.1, T) hT 0 (by decide)) my_X6_about vi_L_59 (by decide) ⟨Nat.le_refl _, Nat.le_refl _⟩ rfl rfl rfl (Nat.le_of_ble_eq_true rfl) dL_areSums_25 rfl (hR1) (fun v_25 w_25 hp_25 => ?_)
  obtain ⟨rfl, hr25⟩ := hp_25
  refine g_top (show _ = nI (cw_no A.1) from hI.m.1) ?_
  refine g_cmp_ge (tgt := 297) C (by decide) dL_areSums_28 (fun c_28 => ?_) (fun c_28 => absurd (Int32.le_refl _) c_28)
  refine g_iconst (v := 0) C (by decide) dL_areSums_297 ?_
  refine g_istore C (by decide) dL_areSums_298 ?_
  refine g_iconst (v := 0) C (by decide) dL_areSums_300 ?_
  refine g_istore C (by decide) dL_areSums_301 ?_
  refine g_sub rfl (g_for (α := Unit) 20 (fun i3 x3 => [(0, .ref 252), (1, .int (pw_SP A.1 (cw_no A.1))), (2, .int (pw_SH A.1 (cw_no A.1))), (3, .int (pw_SC A.1 (cw_no A.1))), (4, .int (pw_SB A.1 (cw_no A.1))), (6, .int 1), (7, .int (pw_ST A.1 i3)), (8, .int (nI i3))]) (fun i3 x3 w3 => cw_RC (A.1, T) w3) 0 () _ (Nat.zero_le _) (hr25) (fun i3 x3 w3 hi3 hR3 ih3 => ?_) (fun x3 w3 hR3 => ?_))
  · skip
    refine g_iload C rfl dL_areSums_303 ?_
    refine g_bipush (v := 20) C (by decide) dL_areSums_305 ?_
    refine g_cmp_ge (tgt := 388) C (by decide) dL_areSums_307 (fun c_307 => absurd c_307 (nI_ge hi3 (by decide))) (fun c_307 => ?_)
    refine g_iload C rfl dL_areSums_310 ?_
    refine g_aload_n C rfl dL_areSums_312 ?_
    refine g_iload C rfl dL_areSums_313 ?_
    refine g_iconst (v := 3) C (by decide) dL_areSums_315 ?_
    refine g_call C (ok_X6_weekOf (A.1, T) hT (nI i3) 3 (cw_isW_nI (by omega)) (by decide)) my_X6_weekOf vi_L_79 (by decide) ⟨Nat.le_refl _, Nat.le_refl _⟩ rfl rfl rfl (Nat.le_of_ble_eq_true rfl) dL_areSums_316 rfl (hR3) (fun v_316 w_316 hp_316 => ?_)
    obtain ⟨rfl, hr316⟩ := hp_316
    refine g_top (pw_W3 A.1 (by omega)) ?_
    refine g_iadd C dL_areSums_319 ?_
    refine g_istore C (by decide) dL_areSums_320 ?_
    refine g_iload C rfl dL_areSums_322 ?_
    refine g_if_eq (tgt := 379) C (by decide) dL_areSums_324 (fun c_324 => absurd c_324 (by decide)) (fun c_324 => ?_)
    refine g_aload_n C rfl dL_areSums_327 ?_
    refine g_iload C rfl dL_areSums_328 ?_
    refine g_iconst (v := 2) C (by decide) dL_areSums_330 ?_
    refine g_call C (ok_X6_weekOf (A.1, T) hT (nI i3) 2 (cw_isW_nI (by omega)) (by decide)) my_X6_weekOf vi_L_79 (by decide) ⟨Nat.le_refl _, Nat.le_refl _⟩ rfl rfl rfl (Nat.le_of_ble_eq_true rfl) dL_areSums_331 rfl (hr316) (fun v_331 w_331 hp_331 => ?_)
    obtain ⟨rfl, hr331⟩ := hp_331
    refine g_top (pw_W2 A.1 (by omega)) ?_
    refine g_aload_n C rfl dL_areSums_334 ?_
    refine g_iconst (v := 0) C (by decide) dL_areSums_335 ?_
    refine g_call C (ok_X6_about (A.1, T) hT 0 (by decide)) my_X6_about vi_L_59 (by decide) ⟨Nat.le_refl _, Nat.le_refl _⟩ rfl rfl rfl (Nat.le_of_ble_eq_true rfl) dL_areSums_336 rfl (hr331) (fun v_336 w_336 hp_336 => ?_)
    obtain ⟨rfl, hr336⟩ := hp_336
    refine g_top (show _ = A.1 0 from rfl) ?_
    refine g_cmp_ge (tgt := 379) C (by decide) dL_areSums_339 (fun c_339 => absurd c_339 (pw_hol hI (by omega))) (fun c_339 => ?_)
    refine g_aload_n C rfl dL_areSums_342 ?_
    refine g_iload C rfl dL_areSums_343 ?_
    refine g_iconst (v := 3) C (by decide) dL_areSums_345 ?_
    refine g_call C (ok_X6_weekOf (A.1, T) hT (nI i3) 3 (cw_isW_nI (by omega)) (by decide)) my_X6_weekOf vi_L_79 (by decide) ⟨Nat.le_refl _, Nat.le_refl _⟩ rfl rfl rfl (Nat.le_of_ble_eq_true rfl) dL_areSums_346 rfl (hr336) (fun v_346 w_346 hp_346 => ?_)
    obtain ⟨rfl, hr346⟩ := hp_346
    refine g_top (pw_W3 A.1 (by omega)) ?_
    refine g_join1 357 (cw_b (¬ cw_bidsFor A.1 i3 ≤ 0)) (fun k_357 => ?_) ?_
    · refine g_if_le (tgt := 356) C (by decide) dL_areSums_349 (fun c_349 => ?_) (fun c_349 => ?_)
      · refine g_iconst (v := 0) C (by decide) dL_areSums_356 ?_
        exact k_357 _ ((cw_bf (fun q => q c_349)).symm)
      · refine g_iconst (v := 1) C (by decide) dL_areSums_352 ?_
        refine g_goto (tgt := 357) C (by decide) dL_areSums_353 ?_
        exact k_357 _ ((cw_b1 c_349).symm)
    refine g_aload_n C rfl dL_areSums_357 ?_
    refine g_iload C rfl dL_areSums_358 ?_
    refine g_iconst (v := 4) C (by decide) dL_areSums_360 ?_
    refine g_call C (ok_X6_weekOf (A.1, T) hT (nI i3) 4 (cw_isW_nI (by omega)) (by decide)) my_X6_weekOf vi_L_79 (by decide) ⟨Nat.le_refl _, Nat.le_refl _⟩ rfl rfl rfl (Nat.le_of_ble_eq_true rfl) dL_areSums_361 rfl (hr346) (fun v_361 w_361 hp_361 => ?_)
    obtain ⟨rfl, hr361⟩ := hp_361
    refine g_top (pw_W4 A.1 (by omega)) ?_
    refine g_join1 372 (cw_b (¬ cw_bidsFor A.1 i3 ≤ 0)) (fun k_372 => ?_) ?_
    · refine g_if_lt (tgt := 371) C (by decide) dL_areSums_364 (fun c_364 => ?_) (fun c_364 => ?_)
      · refine g_iconst (v := 0) C (by decide) dL_areSums_371 ?_
        exact k_372 _ ((cw_bf (fun q => q ((pw_bids_great hI (k := i3) (by omega)).mpr c_364))).symm)
      · refine g_iconst (v := 1) C (by decide) dL_areSums_367 ?_
        refine g_goto (tgt := 372) C (by decide) dL_areSums_368 ?_
        exact k_372 _ ((cw_b1 (fun q => c_364 ((pw_bids_great hI (k := i3) (by omega)).mp q))).symm)
    refine g_cmp_ne (tgt := 379) C (by decide) dL_areSums_372 (fun c_372 => absurd (rfl) c_372) (fun c_372 => ?_)
    refine g_iconst (v := 1) C (by decide) dL_areSums_375 ?_
    refine g_goto (tgt := 380) C (by decide) dL_areSums_376 ?_
    refine g_istore C (by decide) dL_areSums_380 ?_
    refine g_iinc (v := nI (i3 + 1)) C rfl (nI_1 i3) (by decide) dL_areSums_382 ?_
    refine g_goto (tgt := 303) C (by decide) dL_areSums_385 ?_
    exact g_sub (by rw [pw_ST_1]; rfl) (ih3 () _ hr361)
  skip
  refine g_iload C rfl dL_areSums_303 ?_
  refine g_bipush (v := 20) C (by decide) dL_areSums_305 ?_
  refine g_cmp_ge (tgt := 388) C (by decide) dL_areSums_307 (fun c_307 => ?_) (fun c_307 => absurd (by decide) c_307)
  refine g_iload C rfl dL_areSums_388 ?_
  refine g_if_eq (tgt := 486) C (by decide) dL_areSums_390 (fun c_390 => absurd c_390 (by decide)) (fun c_390 => ?_)
  refine g_iload_n C rfl dL_areSums_393 ?_
  refine g_aload_n C rfl dL_areSums_394 ?_
  refine g_bipush (v := 7) C (by decide) dL_areSums_395 ?_
  refine g_call C (ok_X6_about (A.1, T) hT 7 (by decide)) my_X6_about vi_L_59 (by decide) ⟨Nat.le_refl _, Nat.le_refl _⟩ rfl rfl rfl (Nat.le_of_ble_eq_true rfl) dL_areSums_397 rfl (hR3) (fun v_397 w_397 hp_397 => ?_)
  obtain ⟨rfl, hr397⟩ := hp_397
  refine g_top (show _ = cw_points A.1 from rfl) ?_
  refine g_cmp_ne (tgt := 486) C (by decide) dL_areSums_400 (fun c_400 => absurd (rfl) c_400) (fun c_400 => ?_)
  refine g_iload_n C rfl dL_areSums_403 ?_
  refine g_aload_n C rfl dL_areSums_404 ?_
  refine g_iconst (v := 3) C (by decide) dL_areSums_405 ?_
  refine g_call C (ok_X6_about (A.1, T) hT 3 (by decide)) my_X6_about vi_L_59 (by decide) ⟨Nat.le_refl _, Nat.le_refl _⟩ rfl rfl rfl (Nat.le_of_ble_eq_true rfl) dL_areSums_406 rfl (hr397) (fun v_406 w_406 hp_406 => ?_)
  obtain ⟨rfl, hr406⟩ := hp_406
  refine g_top (show _ = A.1 234 from rfl) ?_
  refine g_aload_n C rfl dL_areSums_409 ?_
  refine g_iconst (v := 4) C (by decide) dL_areSums_410 ?_
  refine g_call C (ok_X6_about (A.1, T) hT 4 (by decide)) my_X6_about vi_L_59 (by decide) ⟨Nat.le_refl _, Nat.le_refl _⟩ rfl rfl rfl (Nat.le_of_ble_eq_true rfl) dL_areSums_411 rfl (hr406) (fun v_411 w_411 hp_411 => ?_)
  obtain ⟨rfl, hr411⟩ := hp_411
  refine g_top (show _ = A.1 235 from rfl) ?_
  refine g_isub C dL_areSums_414 ?_
  refine g_aload_n C rfl dL_areSums_415 ?_
  refine g_iconst (v := 5) C (by decide) dL_areSums_416 ?_
  refine g_call C (ok_X6_about (A.1, T) hT 5 (by decide)) my_X6_about vi_L_59 (by decide) ⟨Nat.le_refl _, Nat.le_refl _⟩ rfl rfl rfl (Nat.le_of_ble_eq_true rfl) dL_areSums_417 rfl (hr411) (fun v_417 w_417 hp_417 => ?_)
  obtain ⟨rfl, hr417⟩ := hp_417
  refine g_top (show _ = A.1 236 from rfl) ?_
  refine g_iadd C dL_areSums_420 ?_
  refine g_aload_n C rfl dL_areSums_421 ?_
  refine g_bipush (v := 6) C (by decide) dL_areSums_422 ?_
  refine g_call C (ok_X6_about (A.1, T) hT 6 (by decide)) my_X6_about vi_L_59 (by decide) ⟨Nat.le_refl _, Nat.le_refl _⟩ rfl rfl rfl (Nat.le_of_ble_eq_true rfl) dL_areSums_424 rfl (hr417) (fun v_424 w_424 hp_424 => ?_)
  obtain ⟨rfl, hr424⟩ := hp_424
  refine g_top (show _ = A.1 237 from rfl) ?_
  refine g_isub C dL_areSums_427 ?_
  refine g_cmp_ne (tgt := 486) C (by decide) dL_areSums_428 (fun c_428 => absurd (pw_points hI hJ) c_428) (fun c_428 => ?_)
  refine g_iload_n C rfl dL_areSums_431 ?_
  refine g_aload_n C rfl dL_areSums_432 ?_
  refine g_iconst (v := 2) C (by decide) dL_areSums_433 ?_
  refine g_call C (ok_X6_about (A.1, T) hT 2 (by decide)) my_X6_about vi_L_59 (by decide) ⟨Nat.le_refl _, Nat.le_refl _⟩ rfl rfl rfl (Nat.le_of_ble_eq_true rfl) dL_areSums_434 rfl (hr424) (fun v_434 w_434 hp_434 => ?_)
  obtain ⟨rfl, hr434⟩ := hp_434
  refine g_top (show _ = cw_held A.1 (-1) from rfl) ?_
  refine g_iadd C dL_areSums_437 ?_
  refine g_bipush (v := 20) C (by decide) dL_areSums_438 ?_
  refine g_cmp_ne (tgt := 486) C (by decide) dL_areSums_440 (fun c_440 => absurd (pw_weeks hI) c_440) (fun c_440 => ?_)
  refine g_iload_n C rfl dL_areSums_443 ?_
  refine g_aload_n C rfl dL_areSums_444 ?_
  refine g_bipush (v := 13) C (by decide) dL_areSums_445 ?_
  refine g_call C (ok_X6_about (A.1, T) hT 13 (by decide)) my_X6_about vi_L_59 (by decide) ⟨Nat.le_refl _, Nat.le_refl _⟩ rfl rfl rfl (Nat.le_of_ble_eq_true rfl) dL_areSums_447 rfl (hr434) (fun v_447 w_447 hp_447 => ?_)
  obtain ⟨rfl, hr447⟩ := hp_447
  refine g_top (show _ = A.1 241 from rfl) ?_
  refine g_cmp_ne (tgt := 486) C (by decide) dL_areSums_450 (fun c_450 => absurd (pw_coins hI hJ) c_450) (fun c_450 => ?_)
  refine g_iload C rfl dL_areSums_453 ?_
  refine g_aload_n C rfl dL_areSums_455 ?_
  refine g_bipush (v := 8) C (by decide) dL_areSums_456 ?_
  refine g_call C (ok_X6_about (A.1, T) hT 8 (by decide)) my_X6_about vi_L_59 (by decide) ⟨Nat.le_refl _, Nat.le_refl _⟩ rfl rfl rfl (Nat.le_of_ble_eq_true rfl) dL_areSums_458 rfl (hr447) (fun v_458 w_458 hp_458 => ?_)
  obtain ⟨rfl, hr458⟩ := hp_458
  refine g_top (show _ = cw_allBids A.1 from rfl) ?_
  refine g_cmp_ne (tgt := 486) C (by decide) dL_areSums_461 (fun c_461 => absurd (pw_bids hI) c_461) (fun c_461 => ?_)
  refine g_iload C rfl dL_areSums_464 ?_
  refine g_iload C rfl dL_areSums_466 ?_
  refine g_cmp_ne (tgt := 486) C (by decide) dL_areSums_468 (fun c_468 => absurd ((pw_bids hI).symm) c_468) (fun c_468 => ?_)
  refine g_aload_n C rfl dL_areSums_471 ?_
  refine g_bipush (v := 9) C (by decide) dL_areSums_472 ?_
  refine g_call C (ok_X6_about (A.1, T) hT 9 (by decide)) my_X6_about vi_L_59 (by decide) ⟨Nat.le_refl _, Nat.le_refl _⟩ rfl rfl rfl (Nat.le_of_ble_eq_true rfl) dL_areSums_474 rfl (hr458) (fun v_474 w_474 hp_474 => ?_)
  obtain ⟨rfl, hr474⟩ := hp_474
  refine g_top (show _ = A.1 205 from rfl) ?_
  refine g_bipush (v := 8) C (by decide) dL_areSums_477 ?_
  refine g_cmp_gt (tgt := 486) C (by decide) dL_areSums_479 (fun c_479 => absurd c_479 (hoff)) (fun c_479 => ?_)
  refine g_iconst (v := 1) C (by decide) dL_areSums_482 ?_
  refine g_goto (tgt := 487) C (by decide) dL_areSums_483 ?_
  refine g_zret C F (rfl) dL_areSums_487 ?_
  exact ⟨rfl, T, hT, hr474⟩

