/-! THE WHOLE STATE, as both sides have it: the house, what is remembered, what is saved, the text -/
abbrev cw_A : Type := cw_s × (Nat × (Nat → cw_s)) × (Nat → Option cw_s) × (Nat × (Nat → Int32))
def cw_row (f : Nat → Int32) (b : Nat) : cw_s := fun k => f (b + k)
theorem cw_row_nf {f g : Nat → Int32} {a b : Nat} (h : ∀ k, k < 242 → f (a + k) = g (b + k)) : cw_nf (cw_row f a) = cw_nf (cw_row g b) := cw_nf_ext (h 205 (by omega)) (fun p hp _ => h p hp)
theorem cw_nf_cg {s t : cw_s} (h : ∀ k, k < 242 → s k = t k) : cw_nf s = cw_nf t := cw_nf_ext (h 205 (by omega)) (fun p hp _ => h p hp)
/-- which slots are kept, as the reference's bits -/
def cw_kb (sl : Nat → Option cw_s) : Nat := (if (sl 0).isSome then 1 else 0) + (if (sl 1).isSome then 2 else 0)
/-- the reference's world holds A -/
def cw_RM (A : cw_A) (w : gw_M) : Prop :=
  cw_nf (w 1) = A.1 ∧ (w 0 4 = nI A.2.1.1 ∧ A.2.1.1 ≤ 14 ∧ ∀ i, i < A.2.1.1 → cw_nf (cw_row (w 3) (242 * i)) = A.2.1.2 i) ∧
  (w 0 6 = nI (cw_kb A.2.2.1) ∧ ∀ i, i < 2 → ∀ v, A.2.2.1 i = some v → cw_nf (cw_row (w 4) (242 * i)) = v) ∧
  (w 0 8 = nI A.2.2.2.1 ∧ A.2.2.2.1 ≤ 120 ∧ ∀ i, i < A.2.2.2.1 → w 5 i = A.2.2.2.2 i)
theorem cw_RM.cg {A : cw_A} {w w1 : gw_M} (h : cw_RM A w) (h1 : cw_nf (w1 1) = cw_nf (w 1)) (h3 : w1 3 = w 3) (h4 : w1 4 = w 4) (h5 : w1 5 = w 5) (f4 : w1 0 4 = w 0 4) (f6 : w1 0 6 = w 0 6) (f8 : w1 0 8 = w 0 8) : cw_RM A w1 := by
  obtain ⟨a, ⟨b1, b2, b3⟩, ⟨c1, c2⟩, d1, d2, d3⟩ := h
  exact ⟨h1.trans a, ⟨f4.trans b1, b2, fun i hi => by rw [h3]; exact b3 i hi⟩, ⟨f6.trans c1, fun i hi v hv => by rw [h4]; exact c2 i hi v hv⟩, f8.trans d1, d2, fun i hi => by rw [h5]; exact d3 i hi⟩
theorem cw_RM.house {A : cw_A} {w w1 : gw_M} {u : cw_s} (h : cw_RM A w) (h1 : cw_nf (w1 1) = u) (h3 : w1 3 = w 3) (h4 : w1 4 = w 4) (h5 : w1 5 = w 5) (f4 : w1 0 4 = w 0 4) (f6 : w1 0 6 = w 0 6) (f8 : w1 0 8 = w 0 8) : cw_RM (u, A.2) w1 := by
  obtain ⟨a, ⟨b1, b2, b3⟩, ⟨c1, c2⟩, d1, d2, d3⟩ := h
  exact ⟨h1, ⟨f4.trans b1, b2, fun i hi => by rw [h3]; exact b3 i hi⟩, ⟨f6.trans c1, fun i hi v hv => by rw [h4]; exact c2 i hi v hv⟩, f8.trans d1, d2, fun i hi => by rw [h5]; exact d3 i hi⟩
/-- a state more is remembered -/
def cw_rem (A : cw_A) : cw_A := (A.1, if A.2.1.1 = 14 then (14, fun i => if i = 13 then A.1 else A.2.1.2 (i + 1)) else (A.2.1.1 + 1, fun i => if i = A.2.1.1 then A.1 else A.2.1.2 i), A.2.2)
/-- invariants of all that is there -/
def cw_IA (n m : Nat) (A : cw_A) : Prop := cw_I n m A.1 ∧ (∀ i, i < A.2.1.1 → cw_I n m (A.2.1.2 i)) ∧ (∀ i v, i < 2 → A.2.2.1 i = some v → cw_I n m v) ∧ A.2.1.1 ≤ 14 ∧ A.2.2.2.1 ≤ 120 ∧ ∀ i, i < A.2.2.2.1 → cw_r 0 255 (A.2.2.2.2 i)
/-- invariants speak of what counts alone -/
theorem cw_I_cg {n m : Nat} {t t' : cw_s} (h : cw_I n m t) (e : cw_nf t' = cw_nf t) : cw_I n m t' := by
  have r : ∀ p, (p < 206 ∨ 230 ≤ p) → p < 242 → t' p = t p := fun p h1 h2 => by rw [← cw_nf_rd t' h1 h2, e, cw_nf_rd t h1 h2]
  have en : cw_no t' = cw_no t := cw_no_eq (r 0 (by omega) (by omega))
  have h6 := h.m.2
  refine ⟨⟨by rw [r 0 (by omega) (by omega), en]; exact h.m.1, by rw [en]; exact h6⟩, fun j a b => ?_, fun j i a b c => ?_, fun j a => ?_, fun j a => ?_, fun j a => ?_, fun i a => ?_, fun i a => ?_, fun i a => ?_, fun j i a b => ?_, ?_, ?_, ?_, ?_⟩
  · rw [en] at a; rw [r _ (by omega) (by omega), r _ (by omega) (by omega), r _ (by omega) (by omega), r _ (by omega) (by omega)]; exact h.nil j a b
  · rw [en] at a; rw [r _ (by omega) (by omega)]; exact h.nob j i a b c
  · rw [en] at a; rw [r _ (by omega) (by omega)]; exact h.sha j a
  · rw [r _ (by omega) (by omega)]; exact h.pts j a
  · rw [r _ (by omega) (by omega)]; exact h.won j a
  · rw [r _ (by omega) (by omega)]; exact h.cos i a
  · rw [r _ (by omega) (by omega)]; exact h.sch i a
  · rw [en, r _ (by omega) (by omega)]; exact h.hol i a
  · rw [r _ (by omega) (by omega)]; exact h.bid j i a b
  · obtain ⟨q, q8, qe, qa⟩ := h.off
    have e5 : t' 205 = t 205 := r 205 (by omega) (by omega)
    refine ⟨q, q8, e5.trans qe, fun i hi => ?_⟩
    have rr : ∀ z, z < 3 → t' (206 + 3 * i + z) = t (206 + 3 * i + z) := fun z hz => by
      have e1 : cw_nf t' (206 + 3 * i + z) = t' (206 + 3 * i + z) := by unfold cw_nf; rw [e5, qe, cw_xn (by omega), if_pos (by omega)]
      have e2 : cw_nf t (206 + 3 * i + z) = t (206 + 3 * i + z) := by unfold cw_nf; rw [qe, cw_xn (by omega), if_pos (by omega)]
      rw [← e1, e, e2]
    rw [en, rr 0 (by omega), rr 1 (by omega), rr 2 (by omega)]; exact qa i hi
  · rw [r _ (by omega) (by omega)]; exact h.set0
  · rw [r _ (by omega) (by omega)]; exact h.set1
  · rw [r _ (by omega) (by omega)]; exact h.set2
theorem cw_I_nf {n m : Nat} {t : cw_s} (h : cw_I n m (cw_nf t)) : cw_I n m t := cw_I_cg h (cw_nf_nf t).symm
theorem cw_ix (a b c : Nat) : nI a * nI b + nI c = nI (a * b + c) := by rw [pk_mul, nI_add]
theorem cw_if0 {P Q : Prop} [Decidable Q] : cw_if P (if Q then (2 : Int32) else 0) 1 = 0 ↔ P ∧ ¬ Q := by
  by_cases h : P
  · rw [cw_it h]
    by_cases q : Q
    · rw [if_pos q]; exact ⟨fun e => absurd e (by decide), fun e => absurd q e.2⟩
    · rw [if_neg q]; exact ⟨fun _ => ⟨h, q⟩, fun _ => rfl⟩
  · rw [cw_ie h]; exact ⟨fun e => absurd e (by decide), fun e => absurd e.1 h⟩
theorem cw_if1 {P Q : Prop} : cw_if P (cw_if Q (0 : Int32) 2) 1 = 0 ↔ P ∧ Q := by
  by_cases h : P
  · rw [cw_it h]
    by_cases q : Q
    · rw [cw_it q]; exact ⟨fun _ => ⟨h, q⟩, fun _ => rfl⟩
    · rw [cw_ie q]; exact ⟨fun e => absurd e (by decide), fun e => absurd e.2 q⟩
  · rw [cw_ie h]; exact ⟨fun e => absurd e (by decide), fun e => absurd e.1 h⟩
theorem cw_if2 {P Q : Prop} [Decidable Q] : cw_if P (if Q then (0 : Int32) else 2) 1 = 0 ↔ P ∧ Q := by
  by_cases h : P
  · rw [cw_it h]
    by_cases q : Q
    · rw [if_pos q]; exact ⟨fun _ => ⟨h, q⟩, fun _ => rfl⟩
    · rw [if_neg q]; exact ⟨fun e => absurd e (by decide), fun e => absurd e.2 q⟩
  · rw [cw_ie h]; exact ⟨fun e => absurd e (by decide), fun e => absurd e.1 h⟩
theorem cw_if3 {P Q R : Prop} : cw_if P (cw_if Q (cw_if R (0 : Int32) 3) 2) 1 = 0 ↔ (P ∧ Q) ∧ R := by
  by_cases h : P
  · rw [cw_it h]
    by_cases q : Q
    · rw [cw_it q]
      by_cases r : R
      · rw [cw_it r]; exact ⟨fun _ => ⟨⟨h, q⟩, r⟩, fun _ => rfl⟩
      · rw [cw_ie r]; exact ⟨fun e => absurd e (by decide), fun e => absurd e.2 r⟩
    · rw [cw_ie q]; exact ⟨fun e => absurd e (by decide), fun e => absurd e.1.2 q⟩
  · rw [cw_ie h]; exact ⟨fun e => absurd e (by decide), fun e => absurd e.1.1 h⟩
