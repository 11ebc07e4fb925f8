/-! MOST AT ONCE, by moving: the mathematics -/
/-- an owner that could take a week -/
def cw_ed (t : cw_s) (o k : Nat) : Prop := o < cw_no t ∧ cw_hind t o k = 0
def cw_mat (t : cw_s) (M : Nat → Int32) : Prop := (∀ k, k < 20 → M k = -1 ∨ ∃ o, o < 6 ∧ M k = nI o ∧ cw_ed t o k) ∧ ∀ k l o, k < 20 → l < 20 → o < 6 → M k = nI o → M l = nI o → k = l
/-- a set of weeks, all taken, out of which their takers cannot be moved -/
def cw_cl (t : cw_s) (M : Nat → Int32) (K : Nat → Prop) : Prop := ∀ k, k < 20 → K k → ∃ o, o < 6 ∧ M k = nI o ∧ ∀ l, l < 20 → cw_ed t o l → K l
/-- how many below n -/
noncomputable def cw_cn (P : Nat → Prop) : Nat → Nat
  | 0 => 0
  | n + 1 => cw_cn P n + cw_if (P n) 1 0
theorem cw_cn_mono {P Q : Nat → Prop} : ∀ n, (∀ k, k < n → P k → Q k) → cw_cn P n ≤ cw_cn Q n := by
  intro n
  induction n with
  | zero => intro _; exact Nat.le_refl _
  | succ n ih =>
    intro h
    have h1 := ih (fun k hk => h k (by omega))
    show cw_cn P n + cw_if (P n) 1 0 ≤ cw_cn Q n + cw_if (Q n) 1 0
    by_cases p : P n
    · rw [cw_it p, cw_it (h n (by omega) p)]; omega
    · rw [cw_ie p]; omega
theorem cw_cn_cg {P Q : Nat → Prop} (n : Nat) (h : ∀ k, k < n → (P k ↔ Q k)) : cw_cn P n = cw_cn Q n :=
  Nat.le_antisymm (cw_cn_mono n (fun k hk => (h k hk).mp)) (cw_cn_mono n (fun k hk => (h k hk).mpr))
theorem cw_cn_1 {P Q : Nat → Prop} {w : Nat} : ∀ n, w < n → ¬ P w → (∀ k, k < n → (Q k ↔ P k ∨ k = w)) → cw_cn Q n = cw_cn P n + 1 := by
  intro n
  induction n with
  | zero => intro h; exact absurd h (Nat.not_lt_zero _)
  | succ n ih =>
    intro hw hp h
    show cw_cn Q n + cw_if (Q n) 1 0 = cw_cn P n + cw_if (P n) 1 0 + 1
    by_cases e : w = n
    · subst e
      have e1 : cw_cn Q w = cw_cn P w := cw_cn_cg w (fun k hk => (h k (by omega)).trans ⟨fun z => z.resolve_right (by omega), Or.inl⟩)
      rw [e1, cw_it ((h w (by omega)).mpr (Or.inr rfl)), cw_ie hp]
    · have e1 := ih (by omega) hp (fun k hk => h k (by omega))
      rw [e1]
      by_cases p : P n
      · rw [cw_it p, cw_it ((h n (by omega)).mpr (Or.inl p))]
      · rw [cw_ie p, cw_ie (fun z => ((h n (by omega)).mp z).elim p (fun y => e y.symm))]
/-- the set of the takers of the weeks below n -/
theorem cw_pop_ps : ∀ S : Fin 64, ∀ j : Fin 6, S.val.testBit j.val = false → cw_pop (S.val + 2 ^ j.val) = cw_pop S.val + 1 ∧ S.val + 2 ^ j.val < 64 ∧ ∀ i : Fin 6, (S.val + 2 ^ j.val).testBit i.val = (S.val.testBit i.val || decide (i = j)) := by decide +kernel
theorem cw_pop_ms : ∀ S : Fin 64, ∀ j : Fin 6, S.val.testBit j.val = true → cw_pop (S.val - 2 ^ j.val) + 1 = cw_pop S.val ∧ ∀ i : Fin 6, (S.val - 2 ^ j.val).testBit i.val = (S.val.testBit i.val && decide (i ≠ j)) := by decide +kernel
theorem cw_pop_6 : ∀ S : Fin 64, cw_pop S.val ≤ 6 := by decide +kernel
theorem cw_nI_in {a b : Nat} (ha : a < 6) (hb : b < 6) (h : nI a = nI b) : a = b := (nI_eq (by omega) (by omega)).mp h
theorem cw_nI_m {a : Nat} (ha : a < 6) : ¬ nI a = -1 := fun z => nI_pos (n := a) (by omega) (by rw [z]; decide)
theorem cw_mat_S {t : cw_s} {M : Nat → Int32} (h : cw_mat t M) : ∀ n, n ≤ 20 → ∃ S, S < 64 ∧ cw_rch t n S ∧ cw_pop S = cw_cn (fun k => ¬ M k = -1) n ∧ ∀ j, j < 6 → (S.testBit j = true ↔ ∃ k, k < n ∧ M k = nI j) := by
  intro n
  induction n with
  | zero => intro _; exact ⟨0, by decide, rfl, rfl, fun j _ => ⟨fun z => by rw [Nat.zero_testBit] at z; exact absurd z (by decide), fun ⟨k, hk, _⟩ => absurd hk (Nat.not_lt_zero _)⟩⟩
  | succ n ih =>
    intro hn
    obtain ⟨S, h1, h2, h3, h4⟩ := ih (by omega)
    rcases h.1 n (by omega) with e | ⟨o, ho, e, he⟩
    · refine ⟨S, h1, Or.inl h2, ?_, fun j hj => ?_⟩
      · show _ = cw_cn _ n + cw_if (¬ M n = -1) 1 0
        rw [cw_ie (fun z => z e), h3]; rfl
      · rw [h4 j hj]
        exact ⟨fun ⟨k, a, b⟩ => ⟨k, by omega, b⟩, fun ⟨k, a, b⟩ => ⟨k, by
          rcases Nat.lt_or_ge k n with q | q
          · exact q
          · obtain rfl : k = n := by omega
            rw [e] at b; exact absurd b.symm (cw_nI_m hj), b⟩⟩
    · have hb : S.testBit o = false := by
        cases q : S.testBit o with
        | false => rfl
        | true =>
          obtain ⟨k, a, b⟩ := (h4 o ho).mp q
          exact absurd (h.2 k n o (by omega) (by omega) ho b e) (by omega)
      obtain ⟨p1, p2, p3⟩ := cw_pop_ps ⟨S, h1⟩ ⟨o, ho⟩ hb
      refine ⟨S + 2 ^ o, p2, Or.inr ⟨o, he.1, ?_, ?_, he.2⟩, ?_, fun j hj => ?_⟩
      · have := p3 ⟨o, ho⟩
        simp only [decide_true, Bool.or_true] at this
        exact this
      · rw [Nat.add_sub_cancel]; exact h2
      · show cw_pop (S + 2 ^ o) = cw_cn _ n + cw_if (¬ M n = -1) 1 0
        rw [cw_it (fun z => cw_nI_m ho (e.symm.trans z))]
        exact p1.trans (by rw [h3])
      · have p4 := p3 ⟨j, hj⟩
        have p4 : (S + 2 ^ o).testBit j = (S.testBit j || decide ((⟨j, hj⟩ : Fin 6) = ⟨o, ho⟩)) := p4
        rw [p4, Bool.or_eq_true, h4 j hj, decide_eq_true_eq]
        constructor
        · rintro (⟨k, a, b⟩ | q)
          · exact ⟨k, by omega, b⟩
          · exact ⟨n, by omega, by rw [e, (Fin.mk.inj_iff.mp q)]⟩
        · rintro ⟨k, a, b⟩
          rcases Nat.lt_or_ge k n with q | q
          · exact Or.inl ⟨k, q, b⟩
          · obtain rfl : k = n := by omega
            exact Or.inr (Fin.mk.injEq .. ▸ cw_nI_in hj ho (b.symm.trans e))
theorem cw_mat_6 {t : cw_s} {M : Nat → Int32} (h : cw_mat t M) : cw_cn (fun k => ¬ M k = -1) 20 ≤ 6 := by
  obtain ⟨S, h1, -, h3, -⟩ := cw_mat_S h 20 (Nat.le_refl _)
  rw [← h3]; exact cw_pop_6 ⟨S, h1⟩
/-- how many of a set are of a kind -/
noncomputable def cw_pk (P : Nat → Prop) (S : Nat) : Nat := cw_cn (fun j => S.testBit j = true ∧ P j) 6
theorem cw_pk_s {P : Nat → Prop} {S : Nat} (hS : S < 64) {o : Nat} (ho : o < 6) (h : S.testBit o = true) : cw_pk P S = cw_pk P (S - 2 ^ o) + cw_if (P o) 1 0 := by
  have p := (cw_pop_ms ⟨S, hS⟩ ⟨o, ho⟩ h).2
  have p : ∀ i, i < 6 → ((S - 2 ^ o).testBit i = true ↔ S.testBit i = true ∧ ¬ i = o) := fun i hi => by
    have e : (S - 2 ^ o).testBit i = (S.testBit i && decide ((⟨i, hi⟩ : Fin 6) ≠ ⟨o, ho⟩)) := p ⟨i, hi⟩
    rw [e, Bool.and_eq_true, decide_eq_true_eq]
    exact and_congr Iff.rfl ⟨fun a b => a (Fin.mk.injEq .. ▸ b), fun a b => a (Fin.mk.inj_iff.mp b)⟩
  unfold cw_pk
  by_cases q : P o
  · rw [cw_it q]
    exact cw_cn_1 (w := o) 6 ho (fun z => ((p o ho).mp z.1).2 rfl) (fun k hk => ⟨fun z => by
      by_cases e : k = o
      · exact Or.inr e
      · exact Or.inl ⟨(p k hk).mpr ⟨z.1, e⟩, z.2⟩, fun z => z.elim (fun y => ⟨((p k hk).mp y.1).1, y.2⟩) (fun y => by rw [y]; exact ⟨h, q⟩)⟩)
  · rw [cw_ie q]
    exact cw_cn_cg 6 (fun k hk => ⟨fun z => ⟨(p k hk).mpr ⟨z.1, fun e => q (e ▸ z.2)⟩, z.2⟩, fun z => ⟨((p k hk).mp z.1).1, z.2⟩⟩)
theorem cw_cover {t : cw_s} {K O : Nat → Prop} (hno : cw_no t ≤ 6) (hc : ∀ o k, k < 20 → cw_ed t o k → K k ∨ O o) : ∀ n, n ≤ 20 → ∀ S, S < 64 → cw_rch t n S → cw_pop S ≤ cw_cn K n + cw_pk O S := by
  intro n
  induction n with
  | zero =>
    intro _ S _ h
    have h : S = 0 := h
    subst h
    exact Nat.zero_le _
  | succ n ih =>
    intro hn S hS h
    show cw_pop S ≤ cw_cn K n + cw_if (K n) 1 0 + cw_pk O S
    rcases h with h | ⟨o, ho, hb, h, hh⟩
    · have := ih (by omega) S hS h
      omega
    · have ho6 : o < 6 := by omega
      obtain ⟨e1, -⟩ := cw_pop_ms ⟨S, hS⟩ ⟨o, ho6⟩ hb
      have e1 : cw_pop (S - 2 ^ o) + 1 = cw_pop S := e1
      have e2 := ih (by omega) (S - 2 ^ o) (Nat.lt_of_le_of_lt (Nat.sub_le _ _) hS) h
      have e3 := cw_pk_s (P := O) hS ho6 hb
      rcases hc o n (by omega) ⟨ho, hh⟩ with q | q
      · rw [cw_it q]; omega
      · rw [cw_it q] at e3; omega
/-- takers that are told by their weeks -/
theorem cw_cn_P {M : Nat → Int32} {P : Nat → Prop} : ∀ n, cw_cn (fun j => ∃ k, k < n ∧ P k ∧ M k = nI j) 6 ≤ cw_cn (fun k => P k ∧ ¬ M k = -1) n := by
  intro n
  induction n with
  | zero =>
    have : cw_cn (fun j => ∃ k, k < 0 ∧ P k ∧ M k = nI j) 6 = cw_cn (fun _ => False) 6 := cw_cn_cg 6 (fun j _ => ⟨fun ⟨k, a, _⟩ => Nat.not_lt_zero _ a, False.elim⟩)
    rw [this]
    show 0 + cw_if False 1 0 + cw_if False 1 0 + cw_if False 1 0 + cw_if False 1 0 + cw_if False 1 0 + cw_if False 1 0 ≤ 0
    rw [cw_ie (fun z => z)]
    exact Nat.le_refl _
  | succ n ih =>
    show _ ≤ cw_cn (fun k => P k ∧ ¬ M k = -1) n + cw_if (P n ∧ ¬ M n = -1) 1 0
    by_cases q : ∃ j, j < 6 ∧ P n ∧ M n = nI j ∧ ¬ ∃ k, k < n ∧ P k ∧ M k = nI j
    · obtain ⟨j, hj, hp, e, hno⟩ := q
      rw [cw_it ⟨hp, fun z => cw_nI_m hj (e.symm.trans z)⟩]
      have := cw_cn_1 (P := fun j => ∃ k, k < n ∧ P k ∧ M k = nI j) (Q := fun j => ∃ k, k < n + 1 ∧ P k ∧ M k = nI j) (w := j) 6 hj hno (fun i hi => ⟨fun ⟨k, a, b, d⟩ => by
        rcases Nat.lt_or_ge k n with z | z
        · exact Or.inl ⟨k, z, b, d⟩
        · obtain rfl : k = n := by omega
          exact Or.inr (cw_nI_in hi hj (d.symm.trans e)), fun z => z.elim (fun ⟨k, a, b⟩ => ⟨k, by omega, b⟩) (fun y => ⟨n, by omega, hp, by rw [y]; exact e⟩)⟩)
      rw [this]; omega
    · have := cw_cn_cg (P := fun j => ∃ k, k < n + 1 ∧ P k ∧ M k = nI j) (Q := fun j => ∃ k, k < n ∧ P k ∧ M k = nI j) 6 (fun i hi => ⟨fun ⟨k, a, b, d⟩ => by
        rcases Nat.lt_or_ge k n with z | z
        · exact ⟨k, z, b, d⟩
        · obtain rfl : k = n := by omega
          exact Classical.byContradiction (fun y => q ⟨i, hi, b, d, y⟩), fun ⟨k, a, b⟩ => ⟨k, by omega, b⟩⟩)
      rw [this]; omega
theorem cw_cn_or {P Q : Nat → Prop} : ∀ n, cw_cn P n + cw_cn (fun k => ¬ P k ∧ Q k) n = cw_cn (fun k => P k ∨ Q k) n := by
  intro n
  induction n with
  | zero => rfl
  | succ n ih =>
    show cw_cn P n + cw_if (P n) 1 0 + (cw_cn (fun k => ¬ P k ∧ Q k) n + cw_if (¬ P n ∧ Q n) 1 0) = cw_cn (fun k => P k ∨ Q k) n + cw_if (P n ∨ Q n) 1 0
    rw [← ih]
    by_cases p : P n
    · rw [cw_it p, cw_it (Or.inl p), cw_ie (fun z => z.1 p)]; omega
    · by_cases q : Q n
      · rw [cw_ie p, cw_it (Or.inr q), cw_it ⟨p, q⟩]; omega
      · rw [cw_ie p, cw_ie (fun (z : ¬ P n ∧ Q n) => q z.2), cw_ie (fun (z : P n ∨ Q n) => z.elim p q)]; omega
theorem cw_most_eq {t : cw_s} {c : Nat} (hc : c ≤ 6) (h1 : ∃ S, S < 64 ∧ cw_rch t 20 S ∧ cw_pop S = c) (h2 : ∀ S, S < 64 → cw_rch t 20 S → cw_pop S ≤ c) : cw_most t = nI c := by
  have key := cw_fold_P (f := fun S x => cw_if (cw_rch t 20 S ∧ x < nI (cw_pop S)) (nI (cw_pop S)) x) (fun i (x : Int32) => ∃ a, a ≤ c ∧ x = nI a ∧ ∀ S, S < i → cw_rch t 20 S → cw_pop S ≤ a) 64 0 ⟨0, Nat.zero_le _, rfl, fun S h => absurd h (Nat.not_lt_zero _)⟩ (fun j y hj hy => by
    obtain ⟨a, ha, rfl, hs⟩ := hy
    have h6 := cw_pop_6 ⟨j, hj⟩
    have h6 : cw_pop j ≤ 6 := h6
    by_cases q : cw_rch t 20 j ∧ nI a < nI (cw_pop j)
    · refine ⟨cw_pop j, h2 j hj q.1, cw_it q, fun S hS hr => ?_⟩
      have lt := (cw_nlt (a := a) (b := cw_pop j) (by omega) (by omega)).mp q.2
      rcases Nat.lt_or_ge S j with z | z
      · have := hs S z hr; omega
      · obtain rfl : S = j := by omega
        exact Nat.le_refl _
    · refine ⟨a, ha, cw_ie q, fun S hS hr => ?_⟩
      rcases Nat.lt_or_ge S j with z | z
      · exact hs S z hr
      · obtain rfl : S = j := by omega
        exact Nat.le_of_not_lt (fun y => q ⟨hr, (cw_nlt (a := a) (b := cw_pop S) (by omega) (by omega)).mpr y⟩))
  obtain ⟨a, ha, e, hs⟩ := key 64 (Nat.le_refl _)
  obtain ⟨S, hS, hr, hp⟩ := h1
  have := hs S hS hr
  show cw_fold _ 0 64 0 = nI c
  rw [e]
  congr 1
  omega
/-- behind all owners: as many as weeks that are taken -/
theorem cw_moved {t : cw_s} {M : Nat → Int32} {K : Nat → Prop} (hno : cw_no t ≤ 6) (h : cw_mat t M) (hK : cw_cl t M K) (hd : ∀ o, o < 6 → (∃ k, k < 20 ∧ M k = nI o) ∨ ∀ l, l < 20 → cw_ed t o l → K l) : cw_most t = nI (cw_cn (fun k => ¬ M k = -1) 20) := by
  refine cw_most_eq (cw_mat_6 h) ?_ (fun S hS hr => ?_)
  · obtain ⟨S, h1, h2, h3, -⟩ := cw_mat_S h 20 (Nat.le_refl _)
    exact ⟨S, h1, h2, h3⟩
  · have e1 := cw_cover (t := t) (K := fun k => k < 20 ∧ K k) (O := fun j => ∃ k, k < 20 ∧ ¬ K k ∧ M k = nI j) hno (fun o k hk he => by
      have ho6 : o < 6 := by have := he.1; omega
      by_cases q : K k
      · exact Or.inl ⟨hk, q⟩
      · refine Or.inr ?_
        rcases hd o ho6 with ⟨l, hl, e⟩ | z
        · by_cases p : K l
          · obtain ⟨j, hj, e2, hj2⟩ := hK l hl p
            obtain rfl : o = j := cw_nI_in ho6 hj (e.symm.trans e2)
            exact absurd (hj2 k hk he) q
          · exact ⟨l, hl, p, e⟩
        · exact absurd (z k hk he) q) 20 (Nat.le_refl _) S hS hr
    have e2 : cw_pk (fun j => ∃ k, k < 20 ∧ ¬ K k ∧ M k = nI j) S ≤ cw_cn (fun k => ¬ K k ∧ ¬ M k = -1) 20 :=
      Nat.le_trans (cw_cn_mono 6 (fun k _ z => z.2)) (cw_cn_P (M := M) (P := fun k => ¬ K k) 20)
    have e3 := cw_cn_or (P := K) (Q := fun k => ¬ M k = -1) 20
    have e4 : cw_cn (fun k => k < 20 ∧ K k) 20 = cw_cn K 20 := cw_cn_cg 20 (fun k hk => ⟨fun z => z.2, fun z => ⟨hk, z⟩⟩)
    have e5 : cw_cn (fun k => K k ∨ ¬ M k = -1) 20 = cw_cn (fun k => ¬ M k = -1) 20 := cw_cn_cg 20 (fun k hk => ⟨fun z => z.elim (fun y => by
      obtain ⟨j, hj, e, -⟩ := hK k hk y
      exact fun z => cw_nI_m hj (e.symm.trans z)) id, Or.inr⟩)
    omega
/-- an owner has found a week (T: what was tried before) -/
def cw_fnd (t : cw_s) (M M' : Nat → Int32) (T : Nat → Prop) (o : Nat) : Prop :=
  (∀ k, k < 20 → T k → M' k = M k) ∧
  (∀ k, k < 20 → M' k = -1 ∨ ∃ j, j < 6 ∧ M' k = nI j ∧ cw_ed t j k) ∧
  (∀ k l j, k < 20 → l < 20 → j < 6 → ¬ T k → ¬ T l → M' k = nI j → M' l = nI j → k = l) ∧
  (∀ k j, k < 20 → j < 6 → ¬ T k → M' k = nI j → j = o ∨ ∃ l, l < 20 ∧ ¬ T l ∧ M l = nI j) ∧
  (∀ j, j < 6 → (j = o ∨ ∃ l, l < 20 ∧ ¬ T l ∧ M l = nI j) → ∃ k, k < 20 ∧ ¬ T k ∧ M' k = nI j) ∧
  (∃ b, b < 20 ∧ M b = -1 ∧ ∀ k, k < 20 → (M' k = -1 ↔ M k = -1 ∧ ¬ k = b)) ∧
  ∀ K, cw_cl t M K → (∃ k, k < 20 ∧ cw_ed t o k ∧ ¬ K k) ∧ ∀ k, k < 20 → K k → M' k = M k
/-- it has found none (T': what is tried then) -/
def cw_nfd (t : cw_s) (M : Nat → Int32) (T T' : Nat → Prop) (o : Nat) : Prop :=
  (∀ k, k < 20 → T k → T' k) ∧ (∀ k, k < 20 → cw_ed t o k → T' k) ∧
  ∀ k, k < 20 → T' k → T k ∨ ∃ j, j < 6 ∧ M k = nI j ∧ ∀ l, l < 20 → cw_ed t j l → T' l
/-- while it looks: the weeks below i are through -/
def cw_lkg (t : cw_s) (M : Nat → Int32) (T T' : Nat → Prop) (o i : Nat) : Prop :=
  (∀ k, k < 20 → T k → T' k) ∧ (∀ k, k < i → cw_ed t o k → T' k) ∧
  ∀ k, k < 20 → T' k → T k ∨ ∃ j, j < 6 ∧ M k = nI j ∧ ∀ l, l < 20 → cw_ed t j l → T' l
theorem cw_lkg_0 {t : cw_s} {M : Nat → Int32} {T : Nat → Prop} {o : Nat} : cw_lkg t M T T o 0 := ⟨fun _ _ h => h, fun k h => absurd h (Nat.not_lt_zero _), fun k _ h => Or.inl h⟩
theorem cw_lkg_s {t : cw_s} {M : Nat → Int32} {T T' : Nat → Prop} {o i : Nat} (h : cw_lkg t M T T' o i) (hi : cw_ed t o i → T' i) : cw_lkg t M T T' o (i + 1) :=
  ⟨h.1, fun k hk he => by
    rcases Nat.lt_or_ge k i with q | q
    · exact h.2.1 k q he
    · obtain rfl : k = i := by omega
      exact hi he, h.2.2⟩
/-- a week whose taker could not be moved -/
theorem cw_lkg_n {t : cw_s} {M : Nat → Int32} {T T1 T2 : Nat → Prop} {o i j : Nat} (hi : i < 20) (h : cw_lkg t M T T1 o i) (hj : j < 6) (hM : M i = nI j) (h2 : cw_nfd t M (fun k => T1 k ∨ k = i) T2 j) : cw_lkg t M T T2 o (i + 1) :=
  ⟨fun k hk z => h2.1 k hk (Or.inl (h.1 k hk z)), fun k hk he => by
    rcases Nat.lt_or_ge k i with q | q
    · exact h2.1 k (by omega) (Or.inl (h.2.1 k q he))
    · exact h2.1 k (by omega) (Or.inr (by omega)), fun k hk z => by
    rcases h2.2.2 k hk z with (y | y) | y
    · rcases h.2.2 k hk y with x | ⟨j', a, b, d⟩
      · exact Or.inl x
      · exact Or.inr ⟨j', a, b, fun l hl he => h2.1 l hl (Or.inl (d l hl he))⟩
    · subst y
      exact Or.inr ⟨j, hj, hM, h2.2.1⟩
    · exact Or.inr y⟩
/-- a free week -/
theorem cw_fnd_0 {t : cw_s} {M : Nat → Int32} {T T1 : Nat → Prop} {o i : Nat} (hm : cw_mat t M) (ho : o < 6) (hT : ∀ k, k < 20 → M k = nI o → T k) (hi : i < 20) (h : cw_lkg t M T T1 o i) (h1 : ¬ T1 i) (he : cw_ed t o i) (hM : M i = -1) : cw_fnd t M (upd M i (nI o)) T o := by
  have hTi : ¬ T i := fun z => h1 (h.1 i hi z)
  refine ⟨fun k hk z => cw_upn _ _ (fun q => hTi (q ▸ z)), fun k hk => ?_, fun k l j hk hl hj a b e1 e2 => ?_, fun k j hk hj a e => ?_, fun j hj a => ?_, ⟨i, hi, hM, fun k hk => ?_⟩, fun K hK => ⟨⟨i, hi, he, fun z => ?_⟩, fun k hk z => cw_upn _ _ (fun q => ?_)⟩⟩
  · by_cases q : k = i
    · subst q; rw [cw_ups]; exact Or.inr ⟨o, ho, rfl, he⟩
    · rw [cw_upn _ _ q]; exact hm.1 k hk
  · by_cases q : k = i
    · by_cases r : l = i
      · rw [q, r]
      · rw [q, cw_ups] at e1
        rw [cw_upn _ _ r, ← e1] at e2
        exact absurd (hT l hl e2) b
    · rw [cw_upn _ _ q] at e1
      by_cases r : l = i
      · rw [r, cw_ups] at e2
        rw [← e2] at e1
        exact absurd (hT k hk e1) a
      · rw [cw_upn _ _ r] at e2
        exact hm.2 k l j hk hl hj e1 e2
  · by_cases q : k = i
    · rw [q, cw_ups] at e
      exact Or.inl (cw_nI_in hj ho e.symm)
    · rw [cw_upn _ _ q] at e
      exact Or.inr ⟨k, hk, a, e⟩
  · rcases a with rfl | ⟨l, hl, a, e⟩
    · exact ⟨i, hi, hTi, cw_ups _ _ _⟩
    · have q : ¬ l = i := fun q => by rw [q, hM] at e; exact cw_nI_m hj e.symm
      exact ⟨l, hl, a, by rw [cw_upn _ _ q]; exact e⟩
  · by_cases q : k = i
    · subst q; rw [cw_ups]; exact ⟨fun z => absurd z (cw_nI_m ho), fun z => absurd rfl z.2⟩
    · rw [cw_upn _ _ q]; exact ⟨fun z => ⟨z, q⟩, fun z => z.1⟩
  · obtain ⟨j, hj, e, -⟩ := hK i hi z
    exact cw_nI_m hj (e.symm.trans hM)
  · subst q
    obtain ⟨j, hj, e, -⟩ := hK k hk z
    exact cw_nI_m hj (e.symm.trans hM)
/-- the taker of a week moves -/
theorem cw_fnd_m {t : cw_s} {M M' : Nat → Int32} {T T1 : Nat → Prop} {o i j : Nat} (hm : cw_mat t M) (ho : o < 6) (hT : ∀ k, k < 20 → M k = nI o → T k) (hi : i < 20) (h : cw_lkg t M T T1 o i) (h1 : ¬ T1 i) (he : cw_ed t o i) (hj : j < 6) (hM : M i = nI j) (h2 : cw_fnd t M M' (fun k => T1 k ∨ k = i) j) : cw_fnd t M (upd M' i (nI o)) T o := by
  obtain ⟨f1, f2, f3, f4, f7, ⟨b, hb, hMb, f5⟩, f6⟩ := h2
  have hTi : ¬ T i := fun z => h1 (h.1 i hi z)
  have hoj : ¬ o = j := fun q => hTi (hT i hi (by rw [hM, q]))
  have old : ∀ k, k < 20 → ¬ k = i → T1 k → upd M' i (nI o) k = M k := fun k hk q z => by rw [cw_upn _ _ q]; exact f1 k hk (Or.inl z)
  have cls : ∀ k l j', k < 20 → l < 20 → j' < 6 → ¬ k = i → ¬ l = i → T1 k → ¬ T1 l → M k = nI j' → M' l = nI j' → False := fun k l j' hk hl hj' qk ql z1 z2 e1 e2 => by
    rcases f4 l j' hl hj' (fun y => y.elim z2 ql) e2 with rfl | ⟨l2, hl2, y, e3⟩
    · exact qk (hm.2 k i j' hk hi hj' e1 hM)
    · obtain rfl := hm.2 k l2 j' hk hl2 hj' e1 e3
      exact y (Or.inl z1)
  have noo : ∀ k, k < 20 → ¬ k = i → ¬ T k → ¬ upd M' i (nI o) k = nI o := fun k hk q a e => by
    by_cases z : T1 k
    · rw [old k hk q z] at e; exact a (hT k hk e)
    · rw [cw_upn _ _ q] at e
      rcases f4 k o hk ho (fun y => y.elim z q) e with y | ⟨l, hl, y, e3⟩
      · exact hoj y
      · exact y (Or.inl (h.1 l hl (hT l hl e3)))
  refine ⟨fun k hk z => ?_, fun k hk => ?_, fun k l j' hk hl hj' a c e1 e2 => ?_, fun k j' hk hj' a e => ?_, fun j' hj' a => ?_, ⟨b, hb, hMb, fun k hk => ?_⟩, fun K hK => ?_⟩
  · have q : ¬ k = i := fun q => hTi (q ▸ z)
    exact old k hk q (h.1 k hk z)
  · by_cases q : k = i
    · subst q; rw [cw_ups]; exact Or.inr ⟨o, ho, rfl, he⟩
    · rw [cw_upn _ _ q]; exact f2 k hk
  · by_cases q : k = i
    · by_cases r : l = i
      · rw [q, r]
      · rw [q, cw_ups] at e1
        rw [← e1] at e2
        exact absurd e2 (noo l hl r c)
    · by_cases r : l = i
      · rw [r, cw_ups] at e2
        rw [← e2] at e1
        exact absurd e1 (noo k hk q a)
      · by_cases z1 : T1 k
        · by_cases z2 : T1 l
          · rw [old k hk q z1] at e1
            rw [old l hl r z2] at e2
            exact hm.2 k l j' hk hl hj' e1 e2
          · rw [old k hk q z1] at e1
            rw [cw_upn _ _ r] at e2
            exact (cls k l j' hk hl hj' q r z1 z2 e1 e2).elim
        · by_cases z2 : T1 l
          · rw [cw_upn _ _ q] at e1
            rw [old l hl r z2] at e2
            exact (cls l k j' hl hk hj' r q z2 z1 e2 e1).elim
          · rw [cw_upn _ _ q] at e1
            rw [cw_upn _ _ r] at e2
            exact f3 k l j' hk hl hj' (fun y => y.elim z1 q) (fun y => y.elim z2 r) e1 e2
  · by_cases q : k = i
    · rw [q, cw_ups] at e
      exact Or.inl (cw_nI_in hj' ho e.symm)
    · by_cases z : T1 k
      · rw [old k hk q z] at e
        exact Or.inr ⟨k, hk, a, e⟩
      · rw [cw_upn _ _ q] at e
        rcases f4 k j' hk hj' (fun y => y.elim z q) e with rfl | ⟨l, hl, y, e3⟩
        · exact Or.inr ⟨i, hi, hTi, hM⟩
        · exact Or.inr ⟨l, hl, fun x => y (Or.inl (h.1 l hl x)), e3⟩
  · have use : (∃ k, k < 20 ∧ ¬ (T1 k ∨ k = i) ∧ M' k = nI j') → ∃ k, k < 20 ∧ ¬ T k ∧ upd M' i (nI o) k = nI j' := fun ⟨k, hk, z, e⟩ => ⟨k, hk, fun y => z (Or.inl (h.1 k hk y)), by rw [cw_upn _ _ (fun q => z (Or.inr q))]; exact e⟩
    rcases a with rfl | ⟨l, hl, a, e⟩
    · exact ⟨i, hi, hTi, cw_ups _ _ _⟩
    · by_cases q : l = i
      · exact use (f7 j' hj' (Or.inl (cw_nI_in hj' hj (by rw [← e, q, hM]))))
      · by_cases z : T1 l
        · exact ⟨l, hl, a, by rw [old l hl q z]; exact e⟩
        · exact use (f7 j' hj' (Or.inr ⟨l, hl, fun y => y.elim z q, e⟩))
  · by_cases q : k = i
    · subst q; rw [cw_ups]
      exact ⟨fun z => absurd z (cw_nI_m ho), fun z => absurd (hM.symm.trans z.1) (cw_nI_m hj)⟩
    · rw [cw_upn _ _ q]; exact f5 k hk
  · obtain ⟨⟨k2, hk2, he2, hn2⟩, g⟩ := f6 K hK
    have hKi : ¬ K i := fun z => by
      obtain ⟨j', hj', e, hcl⟩ := hK i hi z
      obtain rfl : j = j' := cw_nI_in hj hj' (hM.symm.trans e)
      exact hn2 (hcl k2 hk2 he2)
    exact ⟨⟨i, hi, he, hKi⟩, fun k hk z => by
      have q : ¬ k = i := fun q => by rw [q] at z; exact hKi z
      rw [cw_upn _ _ q]; exact g k hk z⟩
/-- what holds between the owners -/
def cw_kuh (t : cw_s) (M : Nat → Int32) (i c : Nat) : Prop :=
  cw_mat t M ∧ c = cw_cn (fun k => ¬ M k = -1) 20 ∧ (∀ k j, k < 20 → j < 6 → M k = nI j → j < i) ∧ ∃ K, cw_cl t M K ∧ ∀ o, o < i → (∃ k, k < 20 ∧ M k = nI o) ∨ ∀ l, l < 20 → cw_ed t o l → K l
theorem cw_kuh_0 {t : cw_s} {M : Nat → Int32} (h : ∀ k, k < 20 → M k = -1) : cw_kuh t M 0 0 := by
  refine ⟨⟨fun k hk => Or.inl (h k hk), fun k l o hk _ ho e _ => absurd ((h k hk).symm.trans e).symm (cw_nI_m ho)⟩, ?_, fun k j hk hj e => absurd ((h k hk).symm.trans e).symm (cw_nI_m hj), fun _ => False, fun k _ z => z.elim, fun o z => absurd z (Nat.not_lt_zero _)⟩
  have e : cw_cn (fun k => ¬ M k = -1) 20 = cw_cn (fun _ => False) 20 := cw_cn_cg 20 (fun k hk => ⟨fun z => z (h k hk), False.elim⟩)
  have z : ∀ n, cw_cn (fun _ => False) n = 0 := by
    intro n
    induction n with
    | zero => rfl
    | succ n ih =>
      show cw_cn (fun _ => False) n + cw_if False 1 0 = 0
      rw [ih, cw_ie (fun z => z)]
  rw [e, z]
theorem cw_kuh_y {t : cw_s} {M M' : Nat → Int32} {T : Nat → Prop} {i c : Nat} (hi : i < 6) (h : cw_kuh t M i c) (hT : ∀ k, k < 20 → ¬ T k) (hf : cw_fnd t M M' T i) : cw_kuh t M' (i + 1) (c + 1) := by
  obtain ⟨hm, hc, hl, K, hK, hd⟩ := h
  obtain ⟨f1, f2, f3, f4, f7, ⟨b, hb, hMb, f5⟩, f6⟩ := hf
  have keep : ∀ k, k < 20 → K k → M' k = M k := (f6 K hK).2
  refine ⟨⟨f2, fun k l o hk hl ho e1 e2 => f3 k l o hk hl ho (hT k hk) (hT l hl) e1 e2⟩, ?_, fun k j hk hj e => ?_, K, fun k hk z => ?_, fun o ho => ?_⟩
  · rw [hc]
    exact (cw_cn_1 (w := b) 20 hb (fun z => z hMb) (fun k hk => by
      rw [f5 k hk]
      constructor
      · intro z
        by_cases q : k = b
        · exact Or.inr q
        · exact Or.inl (fun y => z ⟨y, q⟩)
      · rintro (z | z) y
        · exact z y.1
        · exact y.2 z)).symm
  · rcases f4 k j hk hj (hT k hk) e with rfl | ⟨l, hl2, -, e2⟩
    · omega
    · have := hl l j hl2 hj e2; omega
  · obtain ⟨j, hj, e, y⟩ := hK k hk z
    exact ⟨j, hj, (keep k hk z).trans e, y⟩
  · have go : (o = i ∨ ∃ l, l < 20 ∧ ¬ T l ∧ M l = nI o) → ∃ k, k < 20 ∧ M' k = nI o := fun z => by
      obtain ⟨k, hk, -, e⟩ := f7 o (by omega) z
      exact ⟨k, hk, e⟩
    rcases Nat.lt_or_ge o i with q | q
    · rcases hd o q with ⟨k, hk, e⟩ | z
      · exact Or.inl (go (Or.inr ⟨k, hk, hT k hk, e⟩))
      · exact Or.inr z
    · exact Or.inl (go (Or.inl (by omega)))
theorem cw_kuh_n {t : cw_s} {M : Nat → Int32} {T T' : Nat → Prop} {i c : Nat} (hi : i < 6) (h : cw_kuh t M i c) (hT : ∀ k, k < 20 → ¬ T k) (hf : cw_nfd t M T T' i) : cw_kuh t M (i + 1) c := by
  obtain ⟨hm, hc, hl, K, hK, hd⟩ := h
  obtain ⟨g1, g2, g3⟩ := hf
  refine ⟨hm, hc, fun k j hk hj e => by have := hl k j hk hj e; omega, fun k => K k ∨ T' k, fun k hk z => ?_, fun o ho => ?_⟩
  · rcases z with z | z
    · obtain ⟨j, hj, e, y⟩ := hK k hk z
      exact ⟨j, hj, e, fun l hl he => Or.inl (y l hl he)⟩
    · rcases g3 k hk z with y | ⟨j, hj, e, y⟩
      · exact absurd y (hT k hk)
      · exact ⟨j, hj, e, fun l hl he => Or.inr (y l hl he)⟩
  · rcases Nat.lt_or_ge o i with q | q
    · rcases hd o q with z | z
      · exact Or.inl z
      · exact Or.inr (fun l hl he => Or.inl (z l hl he))
    · obtain rfl : o = i := by omega
      exact Or.inr (fun l hl he => Or.inr (g2 l hl he))
/-- the classes' way over sets -/
theorem cw_rch_grw {t : cw_s} {k : Nat} {x : Int64} (hno : cw_no t ≤ 6) (hx : ∀ S, S < 64 → (cw_lb x S ↔ cw_rch t k S)) {T : Nat} (hT : T < 64) : cw_rch t (k + 1) T ↔ cw_lb x T ∨ cw_grw t k x 6 T := by
  rw [cw_rch1, hx T hT]
  constructor
  · rintro (h | ⟨o, ho, hb, h, hh⟩)
    · exact Or.inl h
    · have ho6 : o < 6 := by omega
      obtain ⟨b1, b2⟩ := cw_bit hT ho6 hb
      have hS : T - 2 ^ o < 64 := Nat.lt_of_le_of_lt (Nat.sub_le _ _) hT
      refine Or.inr ⟨o, ho6, ⟨ho, hh⟩, T - 2 ^ o, hS, (hx _ hS).mpr h, ?_⟩
      have e : (T - 2 ^ o) ||| 2 ^ o = T - 2 ^ o + 2 ^ o := (cw_tb7 ⟨T - 2 ^ o, hS⟩ ⟨o, ho6⟩).2 b1
      rw [e]; omega
  · rintro (h | ⟨o, ho6, ⟨ho, hh⟩, S, hS, hl, e⟩)
    · exact Or.inl h
    · cases q : S.testBit o with
      | true =>
        have e2 : S ||| 2 ^ o = S := (cw_tb7 ⟨S, hS⟩ ⟨o, ho6⟩).1 q
        rw [e, e2]; exact Or.inl ((hx S hS).mp hl)
      | false =>
        have e2 : S ||| 2 ^ o = S + 2 ^ o := (cw_tb7 ⟨S, hS⟩ ⟨o, ho6⟩).2 q
        rw [e, e2]
        exact Or.inr ⟨o, ho, (cw_bit2 hS ho6 q).1, by rw [Nat.add_sub_cancel]; exact (hx S hS).mp hl, hh⟩
