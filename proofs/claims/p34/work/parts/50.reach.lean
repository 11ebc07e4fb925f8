/-! MOST AT ONCE -/
/-- after k weeks the set S of owners can be served -/
def cw_rch (s : cw_s) : Nat → Nat → Prop
  | 0, S => S = 0
  | k + 1, S => cw_rch s k S ∨ ∃ o, o < cw_no s ∧ S.testBit o = true ∧ cw_rch s k (S - 2 ^ o) ∧ cw_hind s o k = 0
/-- how many are in a set -/
def cw_pop (S : Nat) : Nat := S % 2 + S / 2 % 2 + S / 4 % 2 + S / 8 % 2 + S / 16 % 2 + S / 32 % 2
noncomputable def cw_most (s : cw_s) : Int32 := cw_fold (fun S x => cw_if (cw_rch s 20 S ∧ x < nI (cw_pop S)) (nI (cw_pop S)) x) 0 64 0
noncomputable def sp_could (A : cw_A) (k : Int32) : cw_R := cw_stp (cw_if (0 ≤ k ∧ k ≤ 1) 0 1) A (cw_most A.1, A)
/-- t sets from above are done -/
def cw_ru (s : cw_s) (k t S : Nat) : Prop := cw_rch s k S ∨ ∃ o, o < cw_no s ∧ S.testBit o = true ∧ cw_rch s k (S - 2 ^ o) ∧ cw_hind s o k = 0 ∧ 64 ≤ S - 2 ^ o + t
/-- and of the next one's owners j -/
def cw_rq (s : cw_s) (k t j S : Nat) : Prop := cw_rch s k S ∨ ∃ o, o < cw_no s ∧ S.testBit o = true ∧ cw_rch s k (S - 2 ^ o) ∧ cw_hind s o k = 0 ∧ (64 ≤ S - 2 ^ o + t ∨ (S - 2 ^ o + t = 63 ∧ o < j))
def cw_can (s : cw_s) (k i j : Nat) : Prop := i.testBit j = false ∧ cw_hind s j k = 0
theorem cw_tb1 : ∀ S : Fin 64, ∀ j : Fin 6, S.val.testBit j.val = true → (S.val - 2 ^ j.val).testBit j.val = false ∧ 2 ^ j.val ≤ S.val := by decide +kernel
theorem cw_tb2 : ∀ S : Fin 64, ∀ j : Fin 6, S.val.testBit j.val = false → (S.val + 2 ^ j.val).testBit j.val = true ∧ S.val + 2 ^ j.val < 64 := by decide +kernel
theorem cw_tb3 : ∀ S : Fin 64, ∀ j : Fin 6, ((nI S.val >>> (nI j.val &&& 31)) &&& 1) = (if S.val.testBit j.val then 1 else 0) := by decide +kernel
theorem cw_tb4 : ∀ S : Fin 64, ∀ j : Fin 6, S.val.testBit j.val = false → (nI S.val ||| ((1 : Int32) <<< (nI j.val &&& 31))) = nI (S.val + 2 ^ j.val) := by decide +kernel
theorem cw_tb5 : ∀ S : Fin 64, ((nI S.val &&& 1) + ((nI S.val >>> ((1 : Int32) &&& 31)) &&& 1) + ((nI S.val >>> ((2 : Int32) &&& 31)) &&& 1) + ((nI S.val >>> ((3 : Int32) &&& 31)) &&& 1) + ((nI S.val >>> ((4 : Int32) &&& 31)) &&& 1) + ((nI S.val >>> ((5 : Int32) &&& 31)) &&& 1)) = nI (cw_pop S.val) := by decide +kernel
theorem cw_bit {S j : Nat} (hS : S < 64) (hj : j < 6) (h : S.testBit j = true) : (S - 2 ^ j).testBit j = false ∧ 2 ^ j ≤ S := cw_tb1 ⟨S, hS⟩ ⟨j, hj⟩ h
theorem cw_bit2 {S j : Nat} (hS : S < 64) (hj : j < 6) (h : S.testBit j = false) : (S + 2 ^ j).testBit j = true ∧ S + 2 ^ j < 64 := cw_tb2 ⟨S, hS⟩ ⟨j, hj⟩ h
theorem cw_bit3 {S j : Nat} (hS : S < 64) (hj : j < 6) : ((nI S >>> (nI j &&& 31)) &&& 1) = cw_b (S.testBit j = true) := by
  rw [cw_tb3 ⟨S, hS⟩ ⟨j, hj⟩]
  by_cases q : S.testBit j = true
  · rw [if_pos q, cw_b1 q]
  · rw [if_neg q, cw_bf q]
theorem cw_bit4 {S j : Nat} (hS : S < 64) (hj : j < 6) (h : S.testBit j = false) : (nI S ||| ((1 : Int32) <<< (nI j &&& 31))) = nI (S + 2 ^ j) := cw_tb4 ⟨S, hS⟩ ⟨j, hj⟩ h
theorem cw_rch0 (s : cw_s) (S : Nat) : cw_rch s 0 S ↔ S = 0 := Iff.rfl
theorem cw_rch1 (s : cw_s) (k S : Nat) : cw_rch s (k + 1) S ↔ cw_rch s k S ∨ ∃ o, o < cw_no s ∧ S.testBit o = true ∧ cw_rch s k (S - 2 ^ o) ∧ cw_hind s o k = 0 := Iff.rfl
theorem cw_ru0 (s : cw_s) (k : Nat) {S : Nat} (hS : S < 64) : cw_ru s k 0 S ↔ cw_rch s k S :=
  ⟨fun h => by
    rcases h with h | ⟨o, -, -, -, -, h⟩
    · exact h
    · have := Nat.sub_le S (2 ^ o); omega, Or.inl⟩
theorem cw_ru64 (s : cw_s) (k S : Nat) : cw_ru s k 64 S ↔ cw_rch s (k + 1) S :=
  ⟨fun h => by
    rcases h with h | ⟨o, a, b, c, d, -⟩
    · exact Or.inl h
    · exact Or.inr ⟨o, a, b, c, d⟩, fun h => by
    rcases h with h | ⟨o, a, b, c, d⟩
    · exact Or.inl h
    · exact Or.inr ⟨o, a, b, c, d, by omega⟩⟩
theorem cw_rq0 (s : cw_s) (k t S : Nat) : cw_rq s k t 0 S ↔ cw_ru s k t S :=
  ⟨fun h => by
    rcases h with h | ⟨o, a, b, c, d, e⟩
    · exact Or.inl h
    · exact Or.inr ⟨o, a, b, c, d, by omega⟩, fun h => by
    rcases h with h | ⟨o, a, b, c, d, e⟩
    · exact Or.inl h
    · exact Or.inr ⟨o, a, b, c, d, Or.inl e⟩⟩
theorem cw_rqN (s : cw_s) (k t S : Nat) : cw_rq s k t (cw_no s) S ↔ cw_ru s k (t + 1) S :=
  ⟨fun h => by
    rcases h with h | ⟨o, a, b, c, d, e⟩
    · exact Or.inl h
    · exact Or.inr ⟨o, a, b, c, d, by omega⟩, fun h => by
    rcases h with h | ⟨o, a, b, c, d, e⟩
    · exact Or.inl h
    · exact Or.inr ⟨o, a, b, c, d, by omega⟩⟩
/-- the next set itself -/
theorem cw_rqi (s : cw_s) (k : Nat) {t j : Nat} (ht : t < 64) (hno : cw_no s ≤ 6) : cw_rq s k t j (63 - t) ↔ cw_rch s k (63 - t) :=
  ⟨fun h => by
    rcases h with h | ⟨o, a, b, c, d, e⟩
    · exact h
    · have q := (cw_bit (S := 63 - t) (by omega) (by omega : o < 6) b).2
      have q2 : 0 < 2 ^ o := Nat.two_pow_pos o
      omega, Or.inl⟩
/-- a set that cannot be served helps none -/
theorem cw_rqx (s : cw_s) (k : Nat) {t j S : Nat} (ht : t < 64) (h0 : ¬ cw_rch s k (63 - t)) : cw_rq s k t j S ↔ cw_ru s k (t + 1) S :=
  ⟨fun h => by
    rcases h with h | ⟨o, a, b, c, d, e⟩
    · exact Or.inl h
    · exact Or.inr ⟨o, a, b, c, d, by omega⟩, fun h => by
    rcases h with h | ⟨o, a, b, c, d, e⟩
    · exact Or.inl h
    · refine Or.inr ⟨o, a, b, c, d, ?_⟩
      by_cases q : 64 ≤ S - 2 ^ o + t
      · exact Or.inl q
      · exact absurd (by rw [show 63 - t = S - 2 ^ o by omega]; exact c) h0⟩
theorem cw_rqs (s : cw_s) (k : Nat) {t j S : Nat} (ht : t < 64) (hj : j < cw_no s) (hno : cw_no s ≤ 6) (hS : S < 64) (h1 : cw_rch s k (63 - t)) : cw_rq s k t (j + 1) S ↔ cw_rq s k t j S ∨ (cw_can s k (63 - t) j ∧ S = 63 - t + 2 ^ j) := by
  constructor
  · intro h
    rcases h with h | ⟨o, a, b, c, d, e⟩
    · exact Or.inl (Or.inl h)
    · obtain ⟨q1, q2⟩ := cw_bit hS (by omega : o < 6) b
      by_cases q : o = j ∧ S - 2 ^ o + t = 63
      · obtain ⟨rfl, q⟩ := q
        have q3 : 63 - t = S - 2 ^ o := by omega
        exact Or.inr ⟨⟨by rw [q3]; exact q1, d⟩, by omega⟩
      · exact Or.inl (Or.inr ⟨o, a, b, c, d, by omega⟩)
  · intro h
    rcases h with (h | ⟨o, a, b, c, d, e⟩) | ⟨⟨c1, c2⟩, rfl⟩
    · exact Or.inl h
    · exact Or.inr ⟨o, a, b, c, d, by omega⟩
    · obtain ⟨q1, q2⟩ := cw_bit2 (S := 63 - t) (by omega) (by omega : j < 6) c1
      refine Or.inr ⟨j, hj, q1, ?_, c2, ?_⟩
      · rw [Nat.add_sub_cancel]; exact h1
      · rw [Nat.add_sub_cancel]; omega
theorem cw_rch_cg {s' s : cw_s} (e : cw_eq s' s) (hno : cw_no s ≤ 6) : ∀ k, k ≤ 20 → ∀ S, cw_rch s' k S ↔ cw_rch s k S := by
  intro k
  induction k with
  | zero => intro _ S; exact Iff.rfl
  | succ k ih =>
    intro hk S
    rw [cw_rch1, cw_rch1, ih (by omega) S]
    refine or_congr Iff.rfl (exists_congr fun o => ?_)
    rw [cw_no_cg e]
    refine and_congr_right fun ho => and_congr Iff.rfl ?_
    rw [ih (by omega), cw_hind_cg e (by omega) (by omega)]
theorem cw_most_cg {s' s : cw_s} (e : cw_eq s' s) (hno : cw_no s ≤ 6) : cw_most s' = cw_most s := by
  unfold cw_most
  congr 1
  funext S x
  rw [propext (cw_rch_cg e hno 20 (Nat.le_refl _) S)]
theorem cw_63 {i : Nat} (h : i ≤ 63) : (63 : Int32) - nI i = nI (63 - i) := by
  apply Int32.toInt_inj.mp
  rw [cw_ni (by omega)]
  have := pk_sub_toInt (a := 63) (b := i) (by omega) (by omega)
  have e : nI 63 = (63 : Int32) := rfl
  rw [← e, this]; omega
theorem cw_631 {i : Nat} (h : i ≤ 63) : nI (63 - i) + Int32.ofInt (-1) = 63 - nI (i + 1) := by
  rw [← cw_63 h, ← nI_1 i]
  have e : Int32.ofInt (-1) = -1 := rfl
  rw [e, Int32.sub_eq_add_neg, Int32.sub_eq_add_neg, Int32.neg_add, Int32.add_assoc, Int32.sub_eq_add_neg]
theorem cw_s6a {w : gw_M} {i : Nat} {v : Int32} {P : Nat → Prop} (h : ∀ S, S < i → w 6 S = cw_b (P S)) (hv : v = cw_b (P i)) : ∀ S, S < i + 1 → gw_set w 6 i v 6 S = cw_b (P S) := by
  intro S hS
  rw [gw_set_self]
  by_cases q : S = i
  · subst q; rw [cw_ups]; exact hv
  · rw [cw_upn _ _ q]; exact h S (by omega)
theorem cw_s6b {w : gw_M} {i : Nat} {P Q : Nat → Prop} (h : ∀ S, S < 64 → w 6 S = cw_b (P S)) (hq : ∀ S, S < 64 → (Q S ↔ P S ∨ S = i)) : ∀ S, S < 64 → gw_set w 6 i 1 6 S = cw_b (Q S) := by
  intro S hS
  rw [gw_set_self]
  by_cases q : S = i
  · subst q; rw [cw_ups, cw_b1 ((hq S hS).mpr (Or.inr rfl))]
  · rw [cw_upn _ _ q, h S hS]
    exact cw_b_eq ⟨fun p => (hq S hS).mpr (Or.inl p), fun p => ((hq S hS).mp p).resolve_right q⟩
