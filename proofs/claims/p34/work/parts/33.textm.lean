/-! THE TEXT, read character by character -/
def cw_bi (b : Bool) : Int32 := if b then 1 else 0
abbrev cw_sg : Type := Bool × Nat
def cw_is (tx : Nat → Int32) (len : Nat) (lo hi : Int32) (g : cw_sg) : Prop := g.1 = false ∧ g.2 < len ∧ lo ≤ tx g.2 ∧ tx g.2 ≤ hi
noncomputable def cw_take (tx : Nat → Int32) (len : Nat) (lo hi : Int32) (g : cw_sg) : Int32 × cw_sg := cw_if (cw_is tx len lo hi g) (tx g.2 - lo, (false, g.2 + 1)) (0, (true, g.2))
noncomputable def cw_week (tx : Nat → Int32) (len : Nat) (g : cw_sg) : Int32 × cw_sg :=
  (10 * (cw_take tx len 48 49 g).1 + (cw_take tx len 48 57 (cw_take tx len 48 49 g).2).1, (cw_take tx len 48 57 (cw_take tx len 48 49 g).2).2)
noncomputable def cw_extra (tx : Nat → Int32) (len : Nat) (g : cw_sg) : Int32 × cw_sg :=
  (10 * (cw_take tx len 48 50 g).1 + (cw_take tx len 48 (if (cw_take tx len 48 50 g).1 = 2 then 48 else 57) (cw_take tx len 48 50 g).2).1, (cw_take tx len 48 (if (cw_take tx len 48 50 g).1 = 2 then 48 else 57) (cw_take tx len 48 50 g).2).2)
noncomputable def cw_two (tx : Nat → Int32) (len : Nat) (g : cw_sg) : cw_sg := (cw_take tx len 48 57 (cw_take tx len 48 57 g).2).2
noncomputable def cw_coins (tx : Nat → Int32) (len : Nat) (g : cw_sg) : Int32 × cw_sg :=
  if (cw_take tx len 48 57 g).1 + (cw_take tx len 48 57 (cw_take tx len 48 57 g).2).1 = 0 then (1 + (cw_take tx len 49 57 (cw_two tx len g)).1, (cw_take tx len 49 57 (cw_two tx len g)).2)
  else (100 * (cw_take tx len 48 57 g).1 + 10 * (cw_take tx len 48 57 (cw_take tx len 48 57 g).2).1 + (cw_take tx len 48 57 (cw_two tx len g)).1, (cw_take tx len 48 57 (cw_two tx len g)).2)
def cw_isL (c : Int32) : Prop := c = 111 ∨ c = 107 ∨ c = 115 ∨ c = 116 ∨ c = 98 ∨ c = 101 ∨ c = 114 ∨ c = 102 ∨ c = 97 ∨ c = 117 ∨ c = 121
def cw_plus (tx : Nat → Int32) (len : Nat) (g : cw_sg) : Prop := g.2 < len ∧ tx g.2 = 43
noncomputable def cw_sign (tx : Nat → Int32) (len : Nat) (g : cw_sg) : cw_sg := cw_if (cw_plus tx len g) (cw_take tx len 43 43 g).2 (cw_take tx len 45 45 g).2
/-- a command read at p: how it goes on, its numbers -/
noncomputable def cw_cmd (tx : Nat → Int32) (len p : Nat) : cw_sg × Int32 × Int32 × Int32 :=
  let g : cw_sg := (false, p + 1)
  let l := tx p
  if l = 111 then ((cw_take tx len 49 57 g).2, 1 + (cw_take tx len 49 57 g).1, 0, 0)
  else if l = 107 then ((cw_take tx len 49 57 (cw_week tx len g).2).2, (cw_week tx len g).1, 1 + (cw_take tx len 49 57 (cw_week tx len g).2).1, 0)
  else if l = 115 then (cw_sign tx len (cw_week tx len g).2, (cw_week tx len g).1, cw_b (cw_plus tx len (cw_week tx len g).2), 0)
  else if l = 116 ∨ l = 114 then ((cw_week tx len (cw_take tx len 48 53 g).2).2, (cw_take tx len 48 53 g).1, (cw_week tx len (cw_take tx len 48 53 g).2).1, 0)
  else if l = 98 then ((cw_extra tx len (cw_week tx len (cw_take tx len 48 53 g).2).2).2, (cw_take tx len 48 53 g).1, (cw_week tx len (cw_take tx len 48 53 g).2).1, (cw_extra tx len (cw_week tx len (cw_take tx len 48 53 g).2).2).1)
  else if l = 102 then ((cw_week tx len (cw_week tx len (cw_take tx len 48 53 g).2).2).2, (cw_take tx len 48 53 g).1, (cw_week tx len (cw_take tx len 48 53 g).2).1, (cw_week tx len (cw_week tx len (cw_take tx len 48 53 g).2).2).1)
  else if l = 97 then ((cw_take tx len 48 55 g).2, (cw_take tx len 48 55 g).1, 0, 0)
  else if l = 117 then ((cw_coins tx len g).2, (cw_coins tx len g).1, 0, 0)
  else if l = 101 ∨ l = 121 then (g, 0, 0, 0)
  else ((true, p), 0, 0, 0)
theorem cw_take_le (tx : Nat → Int32) (len : Nat) (lo hi : Int32) (g : cw_sg) (hl : len ≤ 120) (hg : g.2 ≤ 120) : (cw_take tx len lo hi g).2.2 ≤ 120 := by
  unfold cw_take
  by_cases q : cw_is tx len lo hi g
  · rw [cw_it q]; have := q.2.1; show g.2 + 1 ≤ 120; omega
  · rw [cw_ie q]; exact hg
theorem cw_week_le (tx : Nat → Int32) (len : Nat) (g : cw_sg) (hl : len ≤ 120) (hg : g.2 ≤ 120) : (cw_week tx len g).2.2 ≤ 120 := cw_take_le _ _ _ _ _ hl (cw_take_le _ _ _ _ _ hl hg)
theorem cw_extra_le (tx : Nat → Int32) (len : Nat) (g : cw_sg) (hl : len ≤ 120) (hg : g.2 ≤ 120) : (cw_extra tx len g).2.2 ≤ 120 := cw_take_le _ _ _ _ _ hl (cw_take_le _ _ _ _ _ hl hg)
/-- the text of a world of the reference -/
def cw_tx (tx : Nat → Int32) (len : Nat) (w : gw_M) : Prop := w 0 8 = nI len ∧ len ≤ 120 ∧ ∀ i, i < len → w 5 i = tx i
def cw_T (w : gw_M) (g : cw_sg) : gw_M := gw_set (gw_set w 0 13 (nI g.2)) 0 14 (cw_bi g.1)
theorem cw_T_0 (w : gw_M) (g : cw_sg) (k : Nat) : cw_T w g 0 k = if k = 14 then cw_bi g.1 else if k = 13 then nI g.2 else w 0 k := by
  unfold cw_T gw_set
  by_cases a : k = 14
  · simp [a]
  · by_cases b : k = 13 <;> simp [a, b]
theorem cw_T_q (w : gw_M) (g : cw_sg) {q : Nat} (h : q ≠ 0) : cw_T w g q = w q := by
  unfold cw_T; rw [gw_set_ne _ _ _ _ h, gw_set_ne _ _ _ _ h]
theorem cw_M_ext {w v : gw_M} (h0 : ∀ k, w 0 k = v 0 k) (hq : ∀ q, q ≠ 0 → w q = v q) : w = v := by
  funext q
  by_cases c : q = 0
  · rw [c]; funext k; exact h0 k
  · exact hq q c
theorem cw_T_in {w : gw_M} {g : cw_sg} (h1 : w 0 13 = nI g.2) (h2 : w 0 14 = cw_bi g.1) : w = cw_T w g :=
  cw_M_ext (fun k => by
    rw [cw_T_0]
    by_cases a : k = 14
    · rw [if_pos a, a]; exact h2
    · rw [if_neg a]
      by_cases b : k = 13
      · rw [if_pos b, b]; exact h1
      · rw [if_neg b]) (fun q hq => (cw_T_q w g hq).symm)
theorem cw_T13 {w B : gw_M} {g : cw_sg} (h : w = cw_T B g) : w 0 13 = nI g.2 := by rw [h, cw_T_0]; rfl
theorem cw_T14 {w B : gw_M} {g : cw_sg} (h : w = cw_T B g) : w 0 14 = cw_bi g.1 := by rw [h, cw_T_0]; rfl
theorem cw_Tk {w B : gw_M} {g : cw_sg} {k : Nat} (h : w = cw_T B g) (hk : k ≠ 14 ∧ k ≠ 13) : w 0 k = B 0 k := by rw [h, cw_T_0, if_neg hk.1, if_neg hk.2]
theorem cw_Tq {w B : gw_M} {g : cw_sg} {q : Nat} (h : w = cw_T B g) (hq : q ≠ 0) : w q = B q := by rw [h, cw_T_q _ _ hq]
theorem cw_Ttx {tx : Nat → Int32} {len : Nat} {w B : gw_M} {g : cw_sg} (h : w = cw_T B g) (ht : cw_tx tx len B) : cw_tx tx len w :=
  ⟨(cw_Tk h (by decide)).trans ht.1, ht.2.1, fun i hi => by rw [cw_Tq h (by decide)]; exact ht.2.2 i hi⟩
theorem cw_Tc {w B w1 : gw_M} {g g' : cw_sg} (h : w = cw_T B g) (h1 : w1 = cw_T w g') : w1 = cw_T B g' := by
  rw [h1, h]
  exact cw_M_ext (fun k => by
    rw [cw_T_0, cw_T_0, cw_T_0]
    by_cases a : k = 14
    · rw [if_pos a, if_pos a]
    · rw [if_neg a, if_neg a, if_neg a]
      by_cases b : k = 13
      · rw [if_pos b, if_pos b]
      · rw [if_neg b, if_neg b, if_neg b]) (fun q hq => by rw [cw_T_q _ _ hq, cw_T_q _ _ hq, cw_T_q _ _ hq])
theorem cw_T_put {w B : gw_M} {g : cw_sg} {k : Nat} {x : Int32} (h : w = cw_T B g) (hk : k ≠ 14 ∧ k ≠ 13) : gw_set w 0 k x = cw_T (gw_set B 0 k x) g := by
  rw [h]
  exact cw_M_ext (fun i => by
    rw [cw_T_0]
    by_cases c : i = k
    · subst c; rw [if_neg hk.1, if_neg hk.2, gw_set_self, gw_set_self, cw_ups, cw_ups]
    · rw [gw_set_self, cw_upn _ _ c, cw_T_0, gw_set_self, cw_upn _ _ c]) (fun q hq => by rw [gw_set_ne _ _ _ _ hq, cw_T_q _ _ hq, cw_T_q _ _ hq, gw_set_ne _ _ _ _ hq])
theorem cw_T_p13 {w B : gw_M} {g : cw_sg} {p : Nat} (h : w = cw_T B g) : gw_set w 0 13 (nI p) = cw_T B (g.1, p) := by
  rw [h]
  exact cw_M_ext (fun i => by
    rw [cw_T_0, gw_set_self]
    by_cases c : i = 13
    · subst c; rw [cw_ups]; rfl
    · rw [cw_upn _ _ c, cw_T_0, if_neg c, if_neg c]) (fun q hq => by rw [gw_set_ne _ _ _ _ hq, cw_T_q _ _ hq, cw_T_q _ _ hq])
theorem cw_T_p14 {w B : gw_M} {g : cw_sg} {b : Bool} (h : w = cw_T B g) : gw_set w 0 14 (cw_bi b) = cw_T B (b, g.2) := by
  rw [h]
  exact cw_M_ext (fun i => by
    rw [cw_T_0, gw_set_self]
    by_cases c : i = 14
    · subst c; rw [cw_ups]; rfl
    · rw [cw_upn _ _ c, cw_T_0, if_neg c, if_neg c]) (fun q hq => by rw [gw_set_ne _ _ _ _ hq, cw_T_q _ _ hq, cw_T_q _ _ hq])
theorem cw_tx_set {tx : Nat → Int32} {len k : Nat} {w : gw_M} {x : Int32} (h : cw_tx tx len w) (hk : k ≠ 8) : cw_tx tx len (gw_set w 0 k x) :=
  ⟨by rw [gw_set_self, cw_upn _ _ (Ne.symm hk)]; exact h.1, h.2.1, fun i hi => by rw [gw_set_ne _ _ _ _ (by decide)]; exact h.2.2 i hi⟩
theorem cw_bi_n {b : Bool} (h : ¬ cw_bi b = 0) : b = true := by
  cases b
  · exact absurd rfl h
  · rfl
theorem cw_bi_0 {b : Bool} (h : cw_bi b = 0) : b = false := by
  cases b
  · rfl
  · exact absurd h (by decide)
theorem cw_bi_nar (b : Bool) : narrow .boolean (.int (cw_bi b)) = .int (cw_bi b) := by cases b <;> rfl
theorem cw_bi_fit (b : Bool) : fits .boolean (.int (cw_bi b)) = true := by cases b <;> rfl
