/-! COMMANDS KEEP WHAT HOLDS OF A HOUSE -/
theorem cw_rofa {a : Int32} {l u : Nat} (hl : (Int32.ofNat l).toInt = (l : Int)) (hu : (Int32.ofNat u).toInt = (u : Int)) (h1 : Int32.ofNat l ≤ a) (h2 : a ≤ Int32.ofNat u) (hlt : u < 2147483648) : cw_r l u a :=
  cw_r.of (by rw [cw_le, hl] at h1; exact h1) (by rw [cw_le, hu] at h2; exact h2) hlt

theorem cw_no_nI {s : cw_s} {q : Nat} (h : s 0 = nI q) (hq : q < 1000) : cw_no s = q := by unfold cw_no; rw [h]; exact nI_clamp (by omega)
theorem cw_I_in {n m : Nat} {s : cw_s} (h : cw_I n m s) (h6 : cw_no s < 6) {a : Int32} (ha : cw_r 1 9 a) : cw_I n m (upd (upd s 0 (s 0 + 1)) (1 + 4 * cw_no s + 0) a) ∧ cw_no (upd (upd s 0 (s 0 + 1)) (1 + 4 * cw_no s + 0) a) = cw_no s + 1 := by
  have hm := h.m
  have hnil := h.nil
  have hnob := h.nob
  have hsha := h.sha
  have hhol := h.hol
  have hoff := h.off
  generalize hq : cw_no s = q at *
  have e0 : upd (upd s 0 (s 0 + 1)) (1 + 4 * q + 0) a 0 = nI (q + 1) := by
    rw [cw_upn _ _ (by omega), cw_ups]
    have z := hm.1
    rw [hq] at z
    rw [z, nI_1]
  have en : cw_no (upd (upd s 0 (s 0 + 1)) (1 + 4 * q + 0) a) = q + 1 := cw_no_nI e0 (by omega)
  have r : ∀ p, p ≠ 0 → p ≠ 1 + 4 * q + 0 → upd (upd s 0 (s 0 + 1)) (1 + 4 * q + 0) a p = s p := fun p h1 h2 => by rw [cw_upn _ _ h2, cw_upn _ _ h1]
  refine ⟨⟨⟨by rw [e0, en], by rw [en]; omega⟩, fun j x y => ?_, fun j i x y z => ?_, fun j x => ?_, fun j x => ?_, fun j x => ?_, fun i x => ?_, fun i x => ?_, fun i x => ?_, fun j i x y => ?_, ?_, ?_, ?_, ?_⟩, en⟩
  · rw [en] at x; rw [r _ (by omega) (by omega), r _ (by omega) (by omega), r _ (by omega) (by omega), r _ (by omega) (by omega)]; exact hnil j (by omega) y
  · rw [en] at x; rw [r _ (by omega) (by omega)]; exact hnob j i (by omega) y z
  · rw [en] at x
    by_cases c : j = q
    · rw [c, cw_ups]; exact ha
    · rw [r _ (by omega) (by omega)]; exact hsha j (by omega)
  · rw [r _ (by omega) (by omega)]; exact h.pts j x
  · rw [r _ (by omega) (by omega)]; exact h.won j x
  · rw [r _ (by omega) (by omega)]; exact h.cos i x
  · rw [r _ (by omega) (by omega)]; exact h.sch i x
  · rw [en, r _ (by omega) (by omega)]; exact (hhol i x).imp id (fun ⟨j, a1, a2⟩ => ⟨j, by omega, a2⟩)
  · rw [r _ (by omega) (by omega)]; exact h.bid j i x y
  · obtain ⟨z, q8, qe, qa⟩ := hoff
    refine ⟨z, q8, by rw [r _ (by omega) (by omega)]; exact qe, fun i hi => ?_⟩
    rw [en, r _ (by omega) (by omega), r _ (by omega) (by omega), r _ (by omega) (by omega)]
    obtain ⟨⟨j, a1, a2⟩, b, c⟩ := qa i hi
    exact ⟨⟨j, by omega, a2⟩, b, c⟩
  · rw [r _ (by omega) (by omega)]; exact h.set0
  · rw [r _ (by omega) (by omega)]; exact h.set1
  · rw [r _ (by omega) (by omega)]; exact h.set2
theorem cw_I_off0 {n m : Nat} {s : cw_s} (h : cw_I n m s) : cw_I n m (upd s 205 0) := by
  have e : ∀ p, p ≠ 205 → upd s 205 0 p = s p := fun p hp => cw_upn s 0 hp
  have en : cw_no (upd s 205 0) = cw_no s := cw_no_eq (e 0 (by omega))
  have h6 := h.m.2
  refine ⟨⟨by rw [e 0 (by omega), en]; exact h.m.1, by rw [en]; exact h6⟩, fun j a b => ?_, fun j i a b c => ?_, fun j a => ?_, fun j a => ?_, fun j a => ?_, fun i a => ?_, fun i a => ?_, fun i a => ?_, fun j i a b => ?_, ⟨0, by omega, by rw [cw_ups]; rfl, fun i hi => absurd hi (Nat.not_lt_zero i)⟩, ?_, ?_, ?_⟩
  · rw [en] at a; rw [e _ (by omega), e _ (by omega), e _ (by omega), e _ (by omega)]; exact h.nil j a b
  · rw [en] at a; rw [e _ (by omega)]; exact h.nob j i a b c
  · rw [en] at a; rw [e _ (by omega)]; exact h.sha j a
  · rw [e _ (by omega)]; exact h.pts j a
  · rw [e _ (by omega)]; exact h.won j a
  · rw [e _ (by omega)]; exact h.cos i a
  · rw [e _ (by omega)]; exact h.sch i a
  · rw [en, e _ (by omega)]; exact h.hol i a
  · rw [e _ (by omega)]; exact h.bid j i a b
  · rw [e _ (by omega)]; exact h.set0
  · rw [e _ (by omega)]; exact h.set1
  · rw [e _ (by omega)]; exact h.set2
theorem cw_I_freed {n m : Nat} {s : cw_s} (h : cw_I n m s) : cw_I n m (cw_freed s) := by
  have := cw_fold_P (f := fun k (s : cw_s) => upd s (25 + 3 * k + 2) (-1)) (fun _ x => cw_I n m x) 20 s h (fun j y hj hy => cw_I_hol hy hj (Or.inl rfl)) 20 (Nat.le_refl _)
  exact this
theorem cw_I_offd {n m : Nat} {s : cw_s} (h : cw_I n m s) {o k x : Int32} (hs : cw_swap s o k x) (h8 : cw_x (s 205) < 8) : cw_I n m (cw_offd s (cw_x (s 205)) o k x) := by
  have hx := cw_x_lt h
  obtain ⟨q, q8, qe, qa⟩ := h.off
  have hq : cw_x (s 205) = q := by rw [qe, cw_xn (by omega)]
  rw [hq] at h8 ⊢
  obtain ⟨j, ej, hj⟩ := cw_isO_ix h.m hs.1.1.1
  obtain ⟨i1, e1, h1⟩ := cw_isW_ix hs.1.1.2
  obtain ⟨i2, e2, h2⟩ := cw_isW_ix hs.2.1
  have e : ∀ p, p ≠ 205 → (p < 206 + 3 * q ∨ 206 + 3 * q + 3 ≤ p) → cw_offd s q o k x p = s p := fun p a b => by
    unfold cw_offd; rw [cw_upn _ _ (by omega), cw_upn _ _ (by omega), cw_upn _ _ (by omega), cw_upn _ _ (by omega)]
  have en : cw_no (cw_offd s q o k x) = cw_no s := cw_no_eq (e 0 (by omega) (by omega))
  have h6 := h.m.2
  refine ⟨⟨by rw [e 0 (by omega) (by omega), en]; exact h.m.1, by rw [en]; exact h6⟩, fun j a b => ?_, fun j i a b c => ?_, fun j a => ?_, fun j a => ?_, fun j a => ?_, fun i a => ?_, fun i a => ?_, fun i a => ?_, fun j i a b => ?_, ⟨q + 1, by omega, ?_, fun i hi => ?_⟩, ?_, ?_, ?_⟩
  · rw [en] at a; rw [e _ (by omega) (by omega), e _ (by omega) (by omega), e _ (by omega) (by omega), e _ (by omega) (by omega)]; exact h.nil j a b
  · rw [en] at a; rw [e _ (by omega) (by omega)]; exact h.nob j i a b c
  · rw [en] at a; rw [e _ (by omega) (by omega)]; exact h.sha j a
  · rw [e _ (by omega) (by omega)]; exact h.pts j a
  · rw [e _ (by omega) (by omega)]; exact h.won j a
  · rw [e _ (by omega) (by omega)]; exact h.cos i a
  · rw [e _ (by omega) (by omega)]; exact h.sch i a
  · rw [en, e _ (by omega) (by omega)]; exact h.hol i a
  · rw [e _ (by omega) (by omega)]; exact h.bid j i a b
  · unfold cw_offd; rw [cw_upn _ _ (by omega), cw_upn _ _ (by omega), cw_upn _ _ (by omega), cw_ups, qe]; exact nI_1 q
  · rw [en]
    by_cases c : i = q
    · rw [c]
      refine ⟨⟨j, hj, ?_⟩, ⟨i1, h1, ?_⟩, ⟨i2, h2, ?_⟩⟩
      · unfold cw_offd; rw [cw_upn _ _ (by omega), cw_upn _ _ (by omega), cw_ups]; exact ej
      · unfold cw_offd; rw [cw_upn _ _ (by omega), cw_ups]; exact e1
      · unfold cw_offd; rw [cw_ups]; exact e2
    · rw [e _ (by omega) (by omega), e _ (by omega) (by omega), e _ (by omega) (by omega)]; exact qa i (by omega)
  · rw [e _ (by omega) (by omega)]; exact h.set0
  · rw [e _ (by omega) (by omega)]; exact h.set1
  · rw [e _ (by omega) (by omega)]; exact h.set2
theorem cw_I_lapse {n m : Nat} {s : cw_s} (h : cw_I n m s) (hn : n ≤ 100000000) : ∀ i, i ≤ cw_no s → (cw_I (n + 180) m (cw_fold cw_lapse 0 i (0, s)).2 ∧ (∀ j, i ≤ j → j < 6 → cw_r 0 n ((cw_fold cw_lapse 0 i (0, s)).2 (1 + 4 * j + 1))) ∧ (cw_fold cw_lapse 0 i (0, s)).2 0 = s 0) ∧ cw_r 0 (n * i) (cw_fold cw_lapse 0 i (0, s)).1 := by
  have h6 := h.m.2
  intro i
  induction i with
  | zero => intro _; exact ⟨⟨h.mono (Nat.le_add_right _ _) (Nat.le_refl _), fun j _ hj => h.pts j hj, rfl⟩, ⟨0, by omega, by omega, rfl⟩⟩
  | succ i ih =>
    intro hi
    obtain ⟨⟨a1, a2, a3⟩, a4⟩ := ih (by omega)
    rw [cw_fold0]
    generalize cw_fold cw_lapse 0 i (0, s) = x at a1 a2 a3 a4 ⊢
    have en : cw_no x.2 = cw_no s := cw_no_eq a3
    have hp := (a2 i (Nat.le_refl _) (by omega)).toInt (by omega)
    have hs := (a1.set1).toInt (by decide)
    have hd := cw_sub0 (a := x.2 (1 + 4 * i + 1)) (b := x.2 232) (by omega) (by omega) (by omega) (by omega)
    have hb : 0 ≤ (if 0 < x.2 (1 + 4 * i + 1) - x.2 232 then x.2 (1 + 4 * i + 1) - x.2 232 else 0).toInt ∧ (if 0 < x.2 (1 + 4 * i + 1) - x.2 232 then x.2 (1 + 4 * i + 1) - x.2 232 else 0).toInt ≤ (x.2 (1 + 4 * i + 1)).toInt := by
      have z : (0 : Int32).toInt = 0 := rfl
      split
      · next q => rw [cw_lt, z] at q; omega
      · rw [z]; omega
    have r0 := cw_r_sub (a2 i (Nat.le_refl _) (by omega)) (by omega) hb.1 hb.2
    refine ⟨⟨?_, fun j hj hj6 => ?_, ?_⟩, ?_⟩
    · have g1 := cw_I_pts (j := i) (x := x.2 (1 + 4 * i + 1) - (if 0 < x.2 (1 + 4 * i + 1) - x.2 232 then x.2 (1 + 4 * i + 1) - x.2 232 else 0)) a1 (by rw [en]; omega) (r0.mono (Nat.le_refl _) (Nat.le_add_right _ _))
      have e1 : cw_no (upd x.2 (1 + 4 * i + 1) (x.2 (1 + 4 * i + 1) - (if 0 < x.2 (1 + 4 * i + 1) - x.2 232 then x.2 (1 + 4 * i + 1) - x.2 232 else 0))) = cw_no s := (cw_no_eq (cw_upn _ _ (by omega))).trans en
      show cw_I _ _ (cw_gives _ i)
      unfold cw_gives
      refine cw_I_tot (cw_I_pts g1 (by rw [e1]; omega) ?_) (by omega)
      rw [cw_ups]
      exact cw_r_add r0 (cw_r_mul (b := 20) (d := 9) (g1.set0.mono (by omega) (by omega)) ((g1.sha i (by rw [e1]; omega)).mono (by omega) (by omega)))
    · show cw_r 0 n (cw_gives _ i _)
      unfold cw_gives
      rw [cw_upn _ _ (by omega), cw_upn _ _ (by omega), cw_upn _ _ (by omega)]
      exact a2 j (by omega) hj6
    · have e9 : (cw_lapse i x).2 0 = x.2 0 := by
        unfold cw_lapse cw_gives
        simp only [upd]
        rw [if_neg (by omega), if_neg (by omega), if_neg (by omega)]
      rw [e9]; exact a3
    · show cw_r 0 (n * (i + 1)) (x.1 + _)
      refine (cw_r_add a4 (c := 0) (d := n) (cw_r.of (by omega) (by omega) (by omega))).mono (by omega) ?_
      rw [Nat.mul_succ]; exact Nat.le_refl _
theorem cw_B_le2 {n m n' m' : Nat} (h : cw_B n m) (hn : n' ≤ n) (hm : m' ≤ m) : cw_B n' m' := ⟨Nat.le_trans hn h.1, Nat.le_trans hm h.2⟩
theorem cw_I_does {n m : Nat} {s : cw_s} (h : cw_I n m s) (hB : cw_B (n + 180) (m + 20)) (l a b c : Int32) (h115 : l = 115 → cw_isW a ∧ cw_r 0 1 b) : cw_I (n + 180) (m + 20) (cw_does s l a b c).2 := by
  have h6 := h.m.2
  have hBn : cw_B n m := cw_B_le2 hB (by omega) (by omega)
  have keep : ∀ {t : cw_s}, cw_I n m t → cw_I (n + 180) (m + 20) t := fun ht => ht.mono (Nat.le_add_right _ _) (Nat.le_add_right _ _)
  unfold cw_does
  split
  · unfold cw_oOwner
    by_cases q : (1 ≤ a ∧ a ≤ 9) ∧ ¬ s 0 = 6
    · rw [cw_it q]
      have hlt : cw_no s < 6 := by
        rcases Nat.lt_or_ge (cw_no s) 6 with z | z
        · exact z
        · exact absurd (by rw [h.m.1, show cw_no s = 6 by omega]; rfl) q.2
      show cw_I _ _ (cw_comes s (cw_no s) a)
      rw [cw_comes_eq h hlt]
      obtain ⟨g1, g2⟩ := cw_I_in h hlt (a := a) (cw_r.of (cw_le.mp q.1.1) (cw_le.mp q.1.2) (by decide))
      exact (cw_I_gives g1 (by rw [g2]; omega)).mono (Nat.le_refl _) (Nat.le_add_right _ _)
    · rw [cw_ie q]; exact keep h
  split
  · unfold cw_oCost
    by_cases q : cw_isW a ∧ 1 ≤ b ∧ b ≤ 9
    · rw [cw_it q]
      obtain ⟨i, rfl, hi⟩ := cw_isW_ix q.1
      rw [cw_xn (by omega)]
      exact keep (cw_I_cos h hi (cw_r.of (cw_le.mp q.2.1) (cw_le.mp q.2.2) (by decide)))
    · rw [cw_ie q]; exact keep h
  split
  · next hl =>
    obtain ⟨i, rfl, hi⟩ := cw_isW_ix (h115 hl).1
    rw [cw_xn (by omega)]
    exact keep (cw_I_sch h hi (h115 hl).2)
  split
  · unfold cw_oTake
    by_cases q : cw_th s a b
    · rw [cw_it q]
      obtain ⟨h1, h2, -, -⟩ := cw_thx h q
      exact keep (cw_I_takes h hBn h1 h2)
    · rw [cw_ie q]; exact keep h
  split
  · unfold cw_oBid
    by_cases r : (cw_th s a b ∧ 0 ≤ c ∧ c ≤ 20) ∧ cw_open s (cw_x b)
    · rw [cw_it r]
      obtain ⟨h1, h2, -, -⟩ := cw_thx h r.1.1
      exact keep (cw_I_bid h h1 h2 (Or.inr (cw_r.of (cw_le.mp r.1.2.1) (cw_le.mp r.1.2.2) (by decide))))
    · rw [cw_ie r]; exact keep h
  split
  · have g := cw_I_settles h (cw_B_le2 hB (by omega) (by omega)) 20 (Nat.le_refl _)
    exact (cw_I_noBids g).mono (Nat.le_add_right _ _) (Nat.le_refl _)
  split
  · unfold cw_oRelease
    by_cases r : cw_th s a b ∧ s (25 + 3 * cw_x b + 2) = a
    · rw [cw_it r]
      obtain ⟨h1, h2, -, -⟩ := cw_thx h r.1
      show cw_I _ _ (cw_releases s (cw_x a) (cw_x b))
      unfold cw_releases
      have g : cw_I (n + 4) m s := h.mono (Nat.le_add_right _ _) (Nat.le_refl _)
      exact (cw_I_hol (cw_I_tot (cw_I_pts g h1 (cw_r_add (h.pts _ (by omega)) (cw_half (h.cos _ h2)))) (by omega)) h2 (Or.inl rfl)).mono (by omega) (Nat.le_add_right _ _)
    · rw [cw_ie r]; exact keep h
  split
  · unfold cw_oOffer
    by_cases q : cw_swap s a b c ∧ s 205 < 8
    · rw [cw_it q]
      have hx := cw_x_lt h
      have h8 : cw_x (s 205) < 8 := by
        have z := q.2
        rw [hx.2, cw_lt, cw_ni (by omega)] at z
        have y : (8 : Int32).toInt = 8 := rfl
        omega
      exact keep (cw_I_offd h q.1 h8)
    · rw [cw_ie q]; exact keep h
  split
  · unfold cw_oAccept
    simp only []
    by_cases q : cw_isK s a
    · rw [cw_it q]
      obtain ⟨k, rfl, hk⟩ := cw_isK_ix h q
      have hx := cw_x_lt h
      rw [cw_xn (show k < 1000 by omega)]
      obtain ⟨⟨j0, hj0, he0⟩, ⟨k1, hk1, he1⟩, ⟨k2, hk2, he2⟩⟩ := h.offs hk
      rw [he1, he2, cw_xn (show k1 < 1000 by omega), cw_xn (show k2 < 1000 by omega)]
      have ed := cw_I_drop h hk
      have en : cw_no (cw_drop s k (cw_x (s 205))) = cw_no s := cw_no_eq (cw_drop_rd s k _ (by omega) hx.1)
      by_cases r : cw_swap s (s (206 + 3 * k + 0)) (nI k1) (nI k2)
      · rw [cw_it r]
        refine keep (cw_I_cg ?_ (cw_nf_nf _))
        refine cw_I_tot (cw_I_hol (cw_I_hol ed hk1 ?_) hk2 (Or.inr ⟨j0, by rw [cw_no_eq (cw_upn _ _ (by omega)), en]; exact hj0, he0⟩)) (by omega)
        rw [en]; exact h.hol k2 hk2
      · rw [cw_ie r]
        exact keep (cw_I_cg (cw_I_tot ed (by omega)) (cw_nf_nf _))
    · rw [cw_ie q]; exact keep h
  split
  · unfold cw_oUpkeep
    by_cases q : (1 ≤ a ∧ a ≤ 999) ∧ ¬ s 0 = 0
    · rw [cw_it q]
      have z1 : (1 : Int32).toInt = 1 := rfl
      have z2 : (999 : Int32).toInt = 999 := rfl
      have g := (cw_pays_ok h (c := a) (by have := cw_le.mp q.1.1; omega) (by have := cw_le.mp q.1.2; omega) (cw_no s) (Nat.le_refl _)).1
      exact keep (cw_I_tot g (by omega))
    · rw [cw_ie q]; exact keep h
  · unfold cw_oYear
    have g := (cw_I_lapse h (by have := hB.1; omega) (cw_no s) (Nat.le_refl _)).1.1
    exact (cw_I_tot (cw_I_tot (cw_I_off0 (cw_I_noBids (cw_I_freed g))) (by omega)) (by omega)).mono (Nat.le_refl _) (Nat.le_add_right _ _)
