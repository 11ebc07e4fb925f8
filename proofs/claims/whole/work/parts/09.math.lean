/-! THE HOUSE AS ONE ROW OF NUMBERS (the reference's), and what is done to it -/
def cw_fold {α : Type} (f : Nat → α → α) : Nat → Nat → α → α
  | _, 0, x => x
  | i, n + 1, x => cw_fold f (i + 1) n (f i x)
abbrev cw_s : Type := Nat → Int32
def cw_S (w : gw_M) (s : cw_s) : gw_M := fun q => if q = 1 then s else w q
theorem cw_S1 (w : gw_M) (s : cw_s) : cw_S w s 1 = s := by simp [cw_S]
theorem cw_Sne (w : gw_M) (s : cw_s) {q : Nat} (h : q ≠ 1) : cw_S w s q = w q := by simp [cw_S, h]
theorem cw_SS (w : gw_M) (s t : cw_s) : cw_S (cw_S w s) t = cw_S w t := by
  funext q; simp only [cw_S]; split <;> rfl
theorem cw_Sw (w : gw_M) : cw_S w (w 1) = w := by
  funext q; simp only [cw_S]; split
  · next h => rw [h]
  · rfl
theorem cw_set1 (w : gw_M) (k : Nat) (x : Int32) : gw_set w 1 k x = cw_S w (upd (w 1) k x) := by
  funext q; simp only [cw_S]; split
  · next h => rw [h, gw_set_self]
  · next h => exact gw_set_ne _ _ _ _ h
def cw_in (v a b : Int32) : Int32 := if a ≤ v ∧ v ≤ b then 1 else 0
def cw_isO (s : cw_s) (o : Int32) : Prop := 0 ≤ o ∧ o ≤ s 0 - 1
def cw_isW (k : Int32) : Prop := 0 ≤ k ∧ k ≤ 19
def cw_th (s : cw_s) (o k : Int32) : Prop := cw_isO s o ∧ cw_isW k
def cw_held (s : cw_s) (o : Int32) : Int32 := cw_fold (fun k x => if s (25 + 3 * k + 2) = o then x + 1 else x) 0 20 0
def cw_gives (s : cw_s) (j : Nat) : cw_s :=
  let p := s 231 * s (1 + 4 * j + 0)
  let s1 := upd s (1 + 4 * j + 1) (s (1 + 4 * j + 1) + p)
  upd s1 234 (s1 234 + p)
def cw_spends (s : cw_s) (j : Nat) (p : Int32) : cw_s :=
  let s1 := upd s (1 + 4 * j + 1) (s (1 + 4 * j + 1) - p)
  upd s1 235 (s1 235 + p)
def cw_hind (s : cw_s) (j k : Nat) : Int32 :=
  if s (25 + 3 * k + 1) = 1 then 1 else if ¬ s (25 + 3 * k + 2) = -1 then 2 else if cw_held s (nI j) < s 233 then (if s (1 + 4 * j + 1) < s (25 + 3 * k + 0) then 4 else 0) else 3
def cw_comes (s : cw_s) (j : Nat) (sh : Int32) : cw_s :=
  let s1 := upd s 0 (s 0 + 1)
  let s2 := upd s1 (1 + 4 * j + 0) sh
  let s3 := upd s2 (1 + 4 * j + 1) 0
  let s4 := upd s3 (1 + 4 * j + 2) 0
  let s5 := upd s4 (1 + 4 * j + 3) 0
  cw_gives s5 j
def cw_schools (s : cw_s) : Int32 := cw_fold (fun k x => x + s (25 + 3 * k + 1)) 0 20 0
def cw_takes (s : cw_s) (j k : Nat) : cw_s := if cw_hind s j k = 0 then upd (cw_spends s j (s (25 + 3 * k + 0))) (25 + 3 * k + 2) (nI j) else s
def cw_releases (s : cw_s) (j k : Nat) : cw_s :=
  let p := s (25 + 3 * k + 0) / 2
  let s1 := upd s (1 + 4 * j + 1) (s (1 + 4 * j + 1) + p)
  let s2 := upd s1 236 (s1 236 + p)
  upd s2 (25 + 3 * k + 2) (-1)
def cw_no (s : cw_s) : Nat := (s 0).toNatClampNeg
def cw_bidsFor (s : cw_s) (k : Nat) : Int32 := cw_fold (fun o x => if s (85 + 20 * o + k) = -1 then x else x + 1) 0 (cw_no s) 0
/-- how many owners there are: a number up to 6 -/
def cw_m (s : cw_s) : Prop := s 0 = nI (cw_no s) ∧ cw_no s ≤ 6
