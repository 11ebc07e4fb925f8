/-! WHAT HOLDS OF A HOUSE AT ALL TIMES: it stays so -/
theorem cw_r.mono {l u l' u' : Nat} {a : Int32} (h : cw_r l u a) (h1 : l' ≤ l) (h2 : u ≤ u') : cw_r l' u' a := by
  obtain ⟨k, a1, a2, a3⟩ := h; exact ⟨k, by omega, by omega, a3⟩
theorem cw_r_add {a b c d : Nat} {x y : Int32} (h1 : cw_r a b x) (h2 : cw_r c d y) : cw_r (a + c) (b + d) (x + y) := by
  obtain ⟨k, a1, a2, rfl⟩ := h1; obtain ⟨l, b1, b2, rfl⟩ := h2
  exact ⟨k + l, by omega, by omega, nI_add k l⟩
theorem cw_r_mul {b d : Nat} {x y : Int32} (h1 : cw_r 0 b x) (h2 : cw_r 0 d y) : cw_r 0 (b * d) (x * y) := by
  obtain ⟨k, a1, a2, rfl⟩ := h1; obtain ⟨l, b1, b2, rfl⟩ := h2
  exact ⟨k * l, by omega, Nat.mul_le_mul a2 b2, pk_mul k l⟩
theorem cw_r_sub {b : Nat} {x y : Int32} (h1 : cw_r 0 b x) (hb : b < 1073741824) (hy : 0 ≤ y.toInt) (h2 : y.toInt ≤ x.toInt) : cw_r 0 b (x - y) := by
  obtain ⟨k, a1, a2, rfl⟩ := h1
  have e1 : (nI k).toInt = (k : Int) := nI_toInt (by omega)
  have e2 : y = nI y.toInt.toNat := by
    apply Int32.toInt_inj.mp; rw [nI_toInt (by omega)]; omega
  have hl : y.toInt.toNat ≤ k := by rw [e1] at h2; omega
  generalize y.toInt.toNat = l at e2 hl
  subst e2
  refine ⟨k - l, by omega, by omega, ?_⟩
  apply Int32.toInt_inj.mp
  rw [pk_sub_toInt (by omega) (by omega), nI_toInt (by omega)]; omega
theorem cw_no_eq {t t' : cw_s} (h : t' 0 = t 0) : cw_no t' = cw_no t := by unfold cw_no; rw [h]
theorem cw_I.mono {n m n' m' : Nat} {t : cw_s} (h : cw_I n m t) (h1 : n ≤ n') (h2 : m ≤ m') : cw_I n' m' t :=
  ⟨h.m, h.nil, h.nob, h.sha, fun j hj => (h.pts j hj).mono (Nat.le_refl _) h1, fun j hj => (h.won j hj).mono (Nat.le_refl _) h2, h.cos, h.sch, h.hol, h.bid, h.off, h.set0, h.set1, h.set2⟩
theorem cw_I_upd {n m : Nat} {t : cw_s} (h : cw_I n m t) {k : Nat} {x : Int32} (k0 : k ≠ 0) (kf : k < 205 ∨ 230 ≤ k)
    (hs : ∀ j, j < 6 → k = 1 + 4 * j + 0 → j < cw_no t ∧ cw_r 1 9 x) (hp : ∀ j, j < 6 → k = 1 + 4 * j + 1 → j < cw_no t ∧ cw_r 0 n x) (hw : ∀ j, j < 6 → k = 1 + 4 * j + 2 → j < cw_no t ∧ cw_r 0 m x) (hd : ∀ j, j < 6 → k = 1 + 4 * j + 3 → j < cw_no t)
    (hc : ∀ i, i < 20 → k = 25 + 3 * i + 0 → cw_r 1 9 x) (hq : ∀ i, i < 20 → k = 25 + 3 * i + 1 → cw_r 0 1 x) (hh : ∀ i, i < 20 → k = 25 + 3 * i + 2 → x = -1 ∨ ∃ j, j < cw_no t ∧ x = nI j)
    (hb : ∀ j i, j < 6 → i < 20 → k = 85 + 20 * j + i → x = -1 ∨ (j < cw_no t ∧ cw_r 0 20 x)) (h0 : k = 231 → cw_r 1 20 x) (h1 : k = 232 → cw_r 0 20 x) (h2 : k = 233 → cw_r 1 10 x) : cw_I n m (upd t k x) := by
  have e0 : upd t k x 0 = t 0 := cw_upn t x (Ne.symm k0)
  have en : cw_no (upd t k x) = cw_no t := cw_no_eq e0
  have h6 := h.m.2
  have U : ∀ i, (i = k ∧ upd t k x i = x) ∨ (i ≠ k ∧ upd t k x i = t i) := fun i => by
    by_cases q : i = k
    · exact Or.inl ⟨q, by rw [q, cw_ups]⟩
    · exact Or.inr ⟨q, cw_upn t x q⟩
  refine ⟨⟨by rw [e0, en]; exact h.m.1, by rw [en]; exact h6⟩, fun j a b => ?_, fun j i a b c => ?_, fun j a => ?_, fun j a => ?_, fun j a => ?_, fun i a => ?_, fun i a => ?_, fun i a => ?_, fun j i a b => ?_, ?_, ?_, ?_, ?_⟩
  · rw [en] at a
    have hn := h.nil j a b
    refine ⟨?_, ?_, ?_, ?_⟩
    · rcases U (1 + 4 * j + 0) with ⟨q, e⟩ | ⟨q, e⟩
      · exact absurd (hs j b q.symm).1 (by omega)
      · rw [e]; exact hn.1
    · rcases U (1 + 4 * j + 1) with ⟨q, e⟩ | ⟨q, e⟩
      · exact absurd (hp j b q.symm).1 (by omega)
      · rw [e]; exact hn.2.1
    · rcases U (1 + 4 * j + 2) with ⟨q, e⟩ | ⟨q, e⟩
      · exact absurd (hw j b q.symm).1 (by omega)
      · rw [e]; exact hn.2.2.1
    · rcases U (1 + 4 * j + 3) with ⟨q, e⟩ | ⟨q, e⟩
      · exact absurd (hd j b q.symm) (by omega)
      · rw [e]; exact hn.2.2.2
  · rw [en] at a
    rcases U (85 + 20 * j + i) with ⟨q, e⟩ | ⟨q, e⟩
    · rw [e]; rcases hb j i b c q.symm with z | z
      · exact z
      · exact absurd z.1 (by omega)
    · rw [e]; exact h.nob j i a b c
  · rw [en] at a
    rcases U (1 + 4 * j + 0) with ⟨q, e⟩ | ⟨q, e⟩
    · rw [e]; exact (hs j (by omega) q.symm).2
    · rw [e]; exact h.sha j a
  · rcases U (1 + 4 * j + 1) with ⟨q, e⟩ | ⟨q, e⟩
    · rw [e]; exact (hp j a q.symm).2
    · rw [e]; exact h.pts j a
  · rcases U (1 + 4 * j + 2) with ⟨q, e⟩ | ⟨q, e⟩
    · rw [e]; exact (hw j a q.symm).2
    · rw [e]; exact h.won j a
  · rcases U (25 + 3 * i + 0) with ⟨q, e⟩ | ⟨q, e⟩
    · rw [e]; exact hc i a q.symm
    · rw [e]; exact h.cos i a
  · rcases U (25 + 3 * i + 1) with ⟨q, e⟩ | ⟨q, e⟩
    · rw [e]; exact hq i a q.symm
    · rw [e]; exact h.sch i a
  · rw [en]
    rcases U (25 + 3 * i + 2) with ⟨q, e⟩ | ⟨q, e⟩
    · rw [e]; exact hh i a q.symm
    · rw [e]; exact h.hol i a
  · rcases U (85 + 20 * j + i) with ⟨q, e⟩ | ⟨q, e⟩
    · rw [e]; rcases hb j i a b q.symm with z | z
      · exact Or.inl z
      · exact Or.inr z.2
    · rw [e]; exact h.bid j i a b
  · obtain ⟨q, q8, qe, qa⟩ := h.off
    refine ⟨q, q8, by rw [cw_upn t x (by omega)]; exact qe, fun i hi => ?_⟩
    rw [en, cw_upn t x (by omega), cw_upn t x (by omega), cw_upn t x (by omega)]
    exact qa i hi
  · rcases U 231 with ⟨q, e⟩ | ⟨q, e⟩
    · rw [e]; exact h0 q.symm
    · rw [e]; exact h.set0
  · rcases U 232 with ⟨q, e⟩ | ⟨q, e⟩
    · rw [e]; exact h1 q.symm
    · rw [e]; exact h.set1
  · rcases U 233 with ⟨q, e⟩ | ⟨q, e⟩
    · rw [e]; exact h2 q.symm
    · rw [e]; exact h.set2

theorem cw_I_tot {n m : Nat} {t : cw_s} (h : cw_I n m t) {k : Nat} {x : Int32} (hk : 234 ≤ k ∨ k = 230) : cw_I n m (upd t k x) := (cw_I_upd h (by omega) (by omega) (by intros; omega) (by intros; omega) (by intros; omega) (by intros; omega) (by intros; omega) (by intros; omega) (by intros; omega) (by intros; omega) (by intros; omega) (by intros; omega) (by intros; omega))
theorem cw_I_pts {n m : Nat} {t : cw_s} (h : cw_I n m t) {j : Nat} {x : Int32} (hj : j < cw_no t) (hx : cw_r 0 n x) : cw_I n m (upd t (1 + 4 * j + 1) x) := by
  have h6 := h.m.2
  exact (cw_I_upd h (by omega) (by omega) (by intros; omega) (fun i _ e => by obtain rfl : i = j := (by omega); exact ⟨hj, hx⟩) (by intros; omega) (by intros; omega) (by intros; omega) (by intros; omega) (by intros; omega) (by intros; omega) (by intros; omega) (by intros; omega) (by intros; omega))
theorem cw_I_won {n m : Nat} {t : cw_s} (h : cw_I n m t) {j : Nat} {x : Int32} (hj : j < cw_no t) (hx : cw_r 0 m x) : cw_I n m (upd t (1 + 4 * j + 2) x) := by
  have h6 := h.m.2
  exact (cw_I_upd h (by omega) (by omega) (by intros; omega) (by intros; omega) (fun i _ e => by obtain rfl : i = j := (by omega); exact ⟨hj, hx⟩) (by intros; omega) (by intros; omega) (by intros; omega) (by intros; omega) (by intros; omega) (by intros; omega) (by intros; omega) (by intros; omega))
theorem cw_I_paid {n m : Nat} {t : cw_s} (h : cw_I n m t) {j : Nat} {x : Int32} (hj : j < cw_no t) : cw_I n m (upd t (1 + 4 * j + 3) x) := by
  have h6 := h.m.2
  exact (cw_I_upd h (by omega) (by omega) (by intros; omega) (by intros; omega) (by intros; omega) (fun i _ e => by obtain rfl : i = j := (by omega); exact hj) (by intros; omega) (by intros; omega) (by intros; omega) (by intros; omega) (by intros; omega) (by intros; omega) (by intros; omega))
theorem cw_I_cos {n m : Nat} {t : cw_s} (h : cw_I n m t) {k : Nat} {x : Int32} (hk : k < 20) (hx : cw_r 1 9 x) : cw_I n m (upd t (25 + 3 * k + 0) x) := (cw_I_upd h (by omega) (by omega) (by intros; omega) (by intros; omega) (by intros; omega) (by intros; omega) (fun _ _ _ => hx) (by intros; omega) (by intros; omega) (by intros; omega) (by intros; omega) (by intros; omega) (by intros; omega))
theorem cw_I_sch {n m : Nat} {t : cw_s} (h : cw_I n m t) {k : Nat} {x : Int32} (hk : k < 20) (hx : cw_r 0 1 x) : cw_I n m (upd t (25 + 3 * k + 1) x) := (cw_I_upd h (by omega) (by omega) (by intros; omega) (by intros; omega) (by intros; omega) (by intros; omega) (by intros; omega) (fun _ _ _ => hx) (by intros; omega) (by intros; omega) (by intros; omega) (by intros; omega) (by intros; omega))
theorem cw_I_hol {n m : Nat} {t : cw_s} (h : cw_I n m t) {k : Nat} {x : Int32} (hk : k < 20) (hx : x = -1 ∨ ∃ j, j < cw_no t ∧ x = nI j) : cw_I n m (upd t (25 + 3 * k + 2) x) := (cw_I_upd h (by omega) (by omega) (by intros; omega) (by intros; omega) (by intros; omega) (by intros; omega) (by intros; omega) (by intros; omega) (fun _ _ _ => hx) (by intros; omega) (by intros; omega) (by intros; omega) (by intros; omega))
theorem cw_I_bid {n m : Nat} {t : cw_s} (h : cw_I n m t) {j k : Nat} {x : Int32} (hj : j < cw_no t) (hk : k < 20) (hx : x = -1 ∨ cw_r 0 20 x) : cw_I n m (upd t (85 + 20 * j + k) x) := by
  have h6 := h.m.2
  exact (cw_I_upd h (by omega) (by omega) (by intros; omega) (by intros; omega) (by intros; omega) (by intros; omega) (by intros; omega) (by intros; omega) (by intros; omega) (fun i z _ _ e => by obtain rfl : i = j := (by omega); exact hx.imp id (fun q => ⟨hj, q⟩)) (by intros; omega) (by intros; omega) (by intros; omega))
theorem cw_I_set0 {n m : Nat} {t : cw_s} (h : cw_I n m t) {x : Int32} (hx : cw_r 1 20 x) : cw_I n m (upd t 231 x) := (cw_I_upd h (by omega) (by omega) (by intros; omega) (by intros; omega) (by intros; omega) (by intros; omega) (by intros; omega) (by intros; omega) (by intros; omega) (by intros; omega) (fun _ => hx) (by intros; omega) (by intros; omega))
theorem cw_I_set1 {n m : Nat} {t : cw_s} (h : cw_I n m t) {x : Int32} (hx : cw_r 0 20 x) : cw_I n m (upd t 232 x) := (cw_I_upd h (by omega) (by omega) (by intros; omega) (by intros; omega) (by intros; omega) (by intros; omega) (by intros; omega) (by intros; omega) (by intros; omega) (by intros; omega) (by intros; omega) (fun _ => hx) (by intros; omega))
theorem cw_I_set2 {n m : Nat} {t : cw_s} (h : cw_I n m t) {x : Int32} (hx : cw_r 1 10 x) : cw_I n m (upd t 233 x) := (cw_I_upd h (by omega) (by omega) (by intros; omega) (by intros; omega) (by intros; omega) (by intros; omega) (by intros; omega) (by intros; omega) (by intros; omega) (by intros; omega) (by intros; omega) (by intros; omega) (fun _ => hx))
/-- few enough for ints -/
def cw_B (n m : Nat) : Prop := n ≤ 100000000 ∧ m ≤ 100000000
theorem cw_I_gives {n m : Nat} {t : cw_s} (h : cw_I n m t) {j : Nat} (hj : j < cw_no t) : cw_I (n + 180) m (cw_gives t j) := by
  have h6 := h.m.2
  unfold cw_gives
  refine cw_I_tot (cw_I_pts (h.mono (Nat.le_add_right n 180) (Nat.le_refl m)) hj ?_) (by omega)
  exact cw_r_add (h.pts j (by omega)) (cw_r_mul (b := 20) (d := 9) (h.set0.mono (by omega) (by omega)) ((h.sha j hj).mono (by omega) (by omega)))
theorem cw_I_spends {n m : Nat} {t : cw_s} (h : cw_I n m t) (hn : cw_B n m) {j : Nat} {p : Int32} (hj : j < cw_no t) (h0 : 0 ≤ p.toInt) (hp : ¬ t (1 + 4 * j + 1) < p) : cw_I n m (cw_spends t j p) := by
  have h6 := h.m.2
  unfold cw_spends
  refine cw_I_tot (cw_I_pts h hj ?_) (by omega)
  refine cw_r_sub (h.pts j (by omega)) (by have := hn.1; omega) h0 ?_
  rw [cw_lt] at hp; omega
theorem cw_no_spends (t : cw_s) (j : Nat) (p : Int32) (hj : j < 6) : cw_no (cw_spends t j p) = cw_no t := cw_no_eq (by unfold cw_spends; simp only [upd]; rw [if_neg (by omega), if_neg (by omega)])
theorem cw_hind0 {t : cw_s} {j k : Nat} (h : cw_hind t j k = 0) : ¬ t (25 + 3 * k + 1) = 1 ∧ t (25 + 3 * k + 2) = -1 ∧ cw_held t (nI j) < t 233 ∧ ¬ t (1 + 4 * j + 1) < t (25 + 3 * k + 0) := by
  unfold cw_hind at h
  split at h
  · exact absurd h (by decide)
  · next h1 =>
    split at h
    · exact absurd h (by decide)
    · next h2 =>
      split at h
      · next h3 =>
        split at h
        · exact absurd h (by decide)
        · next h4 => exact ⟨h1, Decidable.not_not.mp h2, h3, h4⟩
      · exact absurd h (by decide)
theorem cw_I_takes {n m : Nat} {t : cw_s} (h : cw_I n m t) (hn : cw_B n m) {j k : Nat} (hj : j < cw_no t) (hk : k < 20) : cw_I n m (cw_takes t j k) := by
  have h6 := h.m.2
  unfold cw_takes
  split
  · next q =>
    refine cw_I_hol (cw_I_spends h hn hj ?_ (cw_hind0 q).2.2.2) hk (Or.inr ⟨j, by rw [cw_no_spends _ _ _ (by omega)]; exact hj, rfl⟩)
    have := ((h.cos k hk).toInt (by decide)).1; omega
  · exact h
