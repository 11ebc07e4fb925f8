/-! THE HOUSE AS ONE ROW OF NUMBERS (the reference's), and what is done to it -/
def cw_fold {α : Type} (f : Nat → α → α) : Nat → Nat → α → α
  | _, 0, x => x
  | i, n + 1, x => cw_fold f (i + 1) n (f i x)
abbrev cw_s : Type := Nat → Int32
def cw_S (w : gw_M) (s : cw_s) : gw_M := fun q => if q = 1 then s else w q
theorem cw_S1 (w : gw_M) (s : cw_s) : cw_S w s 1 = s := by simp [cw_S]
theorem cw_Sne (w : gw_M) (s : cw_s) {q : Nat} (h : q ≠ 1) : cw_S w s q = w q := by simp [cw_S, h]
theorem cw_SS (w : gw_M) (s t : cw_s) : cw_S (cw_S w s) t = cw_S w t := by
  funext q; simp only [cw_S]; split <;> rfl
theorem cw_Sw (w : gw_M) : cw_S w (w 1) = w := by
  funext q; simp only [cw_S]; split
  · next h => rw [h]
  · rfl
theorem cw_set1 (w : gw_M) (k : Nat) (x : Int32) : gw_set w 1 k x = cw_S w (upd (w 1) k x) := by
  funext q; simp only [cw_S]; split
  · next h => rw [h, gw_set_self]
  · next h => exact gw_set_ne _ _ _ _ h
noncomputable def cw_b (P : Prop) : Int32 := @ite _ P (Classical.propDecidable P) 1 0
theorem cw_b1 {P : Prop} (h : P) : cw_b P = 1 := by unfold cw_b; exact if_pos h
theorem cw_bf {P : Prop} (h : ¬ P) : cw_b P = 0 := by unfold cw_b; exact if_neg h
theorem cw_b0 {P : Prop} : cw_b P = 0 ↔ ¬ P := by
  by_cases h : P
  · rw [cw_b1 h]; exact ⟨fun q => absurd q (by decide), fun q => absurd h q⟩
  · rw [cw_bf h]; exact ⟨fun _ => h, fun _ => rfl⟩
theorem cw_bn {P : Prop} (h : ¬ cw_b P = 0) : P := by
  by_cases q : P
  · exact q
  · exact absurd (cw_bf q) h
theorem cw_b_eq {P Q : Prop} (h : P ↔ Q) : cw_b P = cw_b Q := by rw [propext h]
theorem cw_bz (P : Prop) : narrow .boolean (.int (cw_b P)) = .int (cw_b P) := by
  by_cases h : P
  · rw [cw_b1 h]; rfl
  · rw [cw_bf h]; rfl
def cw_isO (s : cw_s) (o : Int32) : Prop := 0 ≤ o ∧ o ≤ s 0 - 1
def cw_isW (k : Int32) : Prop := 0 ≤ k ∧ k ≤ 19
def cw_th (s : cw_s) (o k : Int32) : Prop := cw_isO s o ∧ cw_isW k
def cw_held (s : cw_s) (o : Int32) : Int32 := cw_fold (fun k x => if s (25 + 3 * k + 2) = o then x + 1 else x) 0 20 0
def cw_gives (s : cw_s) (j : Nat) : cw_s :=
  let p := s 231 * s (1 + 4 * j + 0)
  let s1 := upd s (1 + 4 * j + 1) (s (1 + 4 * j + 1) + p)
  upd s1 234 (s1 234 + p)
def cw_spends (s : cw_s) (j : Nat) (p : Int32) : cw_s :=
  let s1 := upd s (1 + 4 * j + 1) (s (1 + 4 * j + 1) - p)
  upd s1 235 (s1 235 + p)
def cw_hind (s : cw_s) (j k : Nat) : Int32 :=
  if s (25 + 3 * k + 1) = 1 then 1 else if ¬ s (25 + 3 * k + 2) = -1 then 2 else if cw_held s (nI j) < s 233 then (if s (1 + 4 * j + 1) < s (25 + 3 * k + 0) then 4 else 0) else 3
def cw_comes (s : cw_s) (j : Nat) (sh : Int32) : cw_s :=
  let s1 := upd s 0 (s 0 + 1)
  let s2 := upd s1 (1 + 4 * j + 0) sh
  let s3 := upd s2 (1 + 4 * j + 1) 0
  let s4 := upd s3 (1 + 4 * j + 2) 0
  let s5 := upd s4 (1 + 4 * j + 3) 0
  cw_gives s5 j
def cw_schools (s : cw_s) : Int32 := cw_fold (fun k x => x + s (25 + 3 * k + 1)) 0 20 0
def cw_takes (s : cw_s) (j k : Nat) : cw_s := if cw_hind s j k = 0 then upd (cw_spends s j (s (25 + 3 * k + 0))) (25 + 3 * k + 2) (nI j) else s
def cw_releases (s : cw_s) (j k : Nat) : cw_s :=
  let p := s (25 + 3 * k + 0) / 2
  let s1 := upd s (1 + 4 * j + 1) (s (1 + 4 * j + 1) + p)
  let s2 := upd s1 236 (s1 236 + p)
  upd s2 (25 + 3 * k + 2) (-1)
def cw_no (s : cw_s) : Nat := (s 0).toNatClampNeg
def cw_bidsFor (s : cw_s) (k : Nat) : Int32 := cw_fold (fun o x => if s (85 + 20 * o + k) = -1 then x else x + 1) 0 (cw_no s) 0
/-- how many owners there are: a number up to 6 -/
def cw_m (s : cw_s) : Prop := s 0 = nI (cw_no s) ∧ cw_no s ≤ 6
theorem cw_setS (w : gw_M) (s : cw_s) (k : Nat) (x : Int32) : gw_set (cw_S w s) 1 k x = cw_S w (upd s k x) := by
  rw [cw_set1, cw_SS, cw_S1]
theorem cw_isO_ix {s : cw_s} (hm : cw_m s) {o : Int32} (h : cw_isO s o) : ∃ j, o = nI j ∧ j < cw_no s := by
  obtain ⟨h0, h6⟩ := hm
  obtain ⟨h1, h2⟩ := h
  rw [h0] at h2
  rw [Int32.le_iff_toInt_le] at h1 h2
  have e0 : (0 : Int32).toInt = 0 := rfl
  have e1 : (nI (cw_no s) - 1).toInt = (cw_no s : Int) - 1 := by
    have := pk_sub_toInt (a := cw_no s) (b := 1) (by omega) (by decide)
    exact this
  refine ⟨o.toInt.toNat, ?_, by omega⟩
  apply Int32.toInt_inj.mp
  rw [nI_toInt (by omega)]
  omega
theorem cw_isW_ix {k : Int32} (h : cw_isW k) : ∃ j, k = nI j ∧ j < 20 := by
  obtain ⟨h1, h2⟩ := h
  rw [Int32.le_iff_toInt_le] at h1 h2
  have e0 : (0 : Int32).toInt = 0 := rfl
  have e1 : (19 : Int32).toInt = 19 := rfl
  refine ⟨k.toInt.toNat, ?_, by omega⟩
  apply Int32.toInt_inj.mp
  rw [nI_toInt (by omega)]
  omega
def cw_canWin (s : cw_s) (j k : Nat) : Prop := ¬ s (85 + 20 * j + k) = -1 ∧ cw_held s (nI j) < s 233 ∧ ¬ s (1 + 4 * j + 1) < s (25 + 3 * k + 0) + s (85 + 20 * j + k)
def cw_better (s : cw_s) (j i k : Nat) : Prop :=
  let a := s (85 + 20 * j + k) - s (85 + 20 * i + k)
  let b := if a = 0 then s (1 + 4 * i + 2) - s (1 + 4 * j + 2) else a
  let c := if b = 0 then s (1 + 4 * j + 0) - s (1 + 4 * i + 0) else b
  ¬ c ≤ 0
def cw_begins (s : cw_s) : cw_s :=
  let s1 := cw_fold (fun k s => upd s k 0) 0 242 s
  let s2 := cw_fold (fun k s => upd (upd s (25 + 3 * k + 0) 3) (25 + 3 * k + 2) (-1)) 0 20 s1
  let s3 := cw_fold (fun k s => upd s (85 + k) (-1)) 0 120 s2
  upd (upd (upd s3 231 4) 232 5) 233 3
def cw_noBids (s : cw_s) : cw_s := cw_fold (fun k s => upd s (85 + k) (-1)) 0 120 s
def cw_shares (s : cw_s) : Int32 := cw_fold (fun o x => x + s (1 + 4 * o + 0)) 0 (cw_no s) 0
noncomputable def cw_if {α : Sort _} (P : Prop) (a b : α) : α := @ite α P (Classical.propDecidable P) a b
theorem cw_it {α : Sort _} {P : Prop} {a b : α} (h : P) : cw_if P a b = a := by unfold cw_if; exact if_pos h
theorem cw_ie {α : Sort _} {P : Prop} {a b : α} (h : ¬ P) : cw_if P a b = b := by unfold cw_if; exact if_neg h
theorem cw_ifd {α : Sort _} (P : Prop) [i : Decidable P] (a b : α) : cw_if P a b = if P then a else b := by
  by_cases h : P
  · rw [cw_it h, if_pos h]
  · rw [cw_ie h, if_neg h]
