/-! THE TEXT OF THE CLASS: its cells: itself, signs, values -/
def sT : gw_S := (3, fun i => match i with
  | 0 => .inr (3, [some 1, none, none, none, some 2, none])
  | 1 => .inl (2, 120, fun j => j)
  | _ => .inl (0, 3, fun j => j))

def cw_TX (tx : Nat → Int32) (len : Nat) (w : gw_M) : Prop := w 0 1 = nI len ∧ len ≤ 120 ∧ ∀ i, i < len → w 1 i = tx i
def cw_TS (tx : Nat → Int32) (len : Nat) (g : cw_sg) (w : gw_M) : Prop := cw_TX tx len w ∧ w 0 2 = nI g.2 ∧ w 0 3 = cw_bi g.1 ∧ g.2 ≤ 120
noncomputable def cw_sgn (tx : Nat → Int32) (len p : Nat) : Int32 := cw_if (p < len) (tx p) (-1)
theorem cw_TX.set {tx : Nat → Int32} {len : Nat} {w : gw_M} (h : cw_TX tx len w) {k : Nat} {x : Int32} (hk : k ≠ 1) : cw_TX tx len (gw_set w 0 k x) :=
  ⟨by rw [gw_set_self, cw_upn _ _ (Ne.symm hk)]; exact h.1, h.2.1, fun i hi => by rw [gw_set_ne _ _ _ _ (by decide)]; exact h.2.2 i hi⟩
theorem cw_TX.cg {tx : Nat → Int32} {len : Nat} {w w1 : gw_M} (h : cw_TX tx len w) (h1 : w1 1 = w 1) (h2 : w1 0 1 = w 0 1) : cw_TX tx len w1 := ⟨h2.trans h.1, h.2.1, fun i hi => by rw [h1]; exact h.2.2 i hi⟩
theorem cw_nle {a b : Nat} (ha : a < 1000) (hb : b < 1000) : nI a ≤ nI b ↔ a ≤ b := by rw [cw_le, cw_ni ha, cw_ni hb]; omega
theorem cw_nlt {a b : Nat} (ha : a < 1000) (hb : b < 1000) : nI a < nI b ↔ a < b := by rw [cw_lt, cw_ni ha, cw_ni hb]; omega

theorem cw_bi0 {b : Bool} (h : cw_bi b = 0) : b = false := by
  cases b
  · rfl
  · exact absurd h (by decide)
