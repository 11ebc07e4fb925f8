/-! WHAT HOLDS OF A HOUSE AT ALL TIMES -/
def cw_x (o : Int32) : Nat := o.toNatClampNeg
theorem cw_xn {j : Nat} (h : j < 1000) : cw_x (nI j) = j := nI_clamp (by omega)
/-- a is a number from l to u -/
def cw_r (l u : Nat) (a : Int32) : Prop := ∃ k, l ≤ k ∧ k ≤ u ∧ a = nI k
def cw_I (n m : Nat) (t : cw_s) : Prop :=
  cw_m t ∧
  (∀ j, cw_no t ≤ j → j < 6 → t (1 + 4 * j + 0) = 0 ∧ t (1 + 4 * j + 1) = 0 ∧ t (1 + 4 * j + 2) = 0 ∧ t (1 + 4 * j + 3) = 0) ∧
  (∀ j k, cw_no t ≤ j → j < 6 → k < 20 → t (85 + 20 * j + k) = -1) ∧
  (∀ j, j < cw_no t → cw_r 1 9 (t (1 + 4 * j + 0))) ∧
  (∀ j, j < 6 → cw_r 0 n (t (1 + 4 * j + 1))) ∧
  (∀ j, j < 6 → cw_r 0 m (t (1 + 4 * j + 2))) ∧
  (∀ k, k < 20 → cw_r 1 9 (t (25 + 3 * k + 0))) ∧
  (∀ k, k < 20 → cw_r 0 1 (t (25 + 3 * k + 1))) ∧
  (∀ k, k < 20 → t (25 + 3 * k + 2) = -1 ∨ ∃ j, j < cw_no t ∧ t (25 + 3 * k + 2) = nI j) ∧
  (∀ j k, j < 6 → k < 20 → t (85 + 20 * j + k) = -1 ∨ cw_r 0 20 (t (85 + 20 * j + k))) ∧
  (∃ q, q ≤ 8 ∧ t 205 = nI q ∧ ∀ i, i < q → (∃ j, j < cw_no t ∧ t (206 + 3 * i + 0) = nI j) ∧ (∃ k, k < 20 ∧ t (206 + 3 * i + 1) = nI k) ∧ (∃ k, k < 20 ∧ t (206 + 3 * i + 2) = nI k)) ∧
  cw_r 1 20 (t 231) ∧ cw_r 0 20 (t 232) ∧ cw_r 1 10 (t 233)
theorem cw_I.m {n m : Nat} {t : cw_s} (h : cw_I n m t) : cw_m t := h.1
theorem cw_I.nil {n m : Nat} {t : cw_s} (h : cw_I n m t) : (∀ j, cw_no t ≤ j → j < 6 → t (1 + 4 * j + 0) = 0 ∧ t (1 + 4 * j + 1) = 0 ∧ t (1 + 4 * j + 2) = 0 ∧ t (1 + 4 * j + 3) = 0) := h.2.1
theorem cw_I.nob {n m : Nat} {t : cw_s} (h : cw_I n m t) : (∀ j k, cw_no t ≤ j → j < 6 → k < 20 → t (85 + 20 * j + k) = -1) := h.2.2.1
theorem cw_I.sha {n m : Nat} {t : cw_s} (h : cw_I n m t) : (∀ j, j < cw_no t → cw_r 1 9 (t (1 + 4 * j + 0))) := h.2.2.2.1
theorem cw_I.pts {n m : Nat} {t : cw_s} (h : cw_I n m t) : (∀ j, j < 6 → cw_r 0 n (t (1 + 4 * j + 1))) := h.2.2.2.2.1
theorem cw_I.won {n m : Nat} {t : cw_s} (h : cw_I n m t) : (∀ j, j < 6 → cw_r 0 m (t (1 + 4 * j + 2))) := h.2.2.2.2.2.1
theorem cw_I.cos {n m : Nat} {t : cw_s} (h : cw_I n m t) : (∀ k, k < 20 → cw_r 1 9 (t (25 + 3 * k + 0))) := h.2.2.2.2.2.2.1
theorem cw_I.sch {n m : Nat} {t : cw_s} (h : cw_I n m t) : (∀ k, k < 20 → cw_r 0 1 (t (25 + 3 * k + 1))) := h.2.2.2.2.2.2.2.1
theorem cw_I.hol {n m : Nat} {t : cw_s} (h : cw_I n m t) : (∀ k, k < 20 → t (25 + 3 * k + 2) = -1 ∨ ∃ j, j < cw_no t ∧ t (25 + 3 * k + 2) = nI j) := h.2.2.2.2.2.2.2.2.1
theorem cw_I.bid {n m : Nat} {t : cw_s} (h : cw_I n m t) : (∀ j k, j < 6 → k < 20 → t (85 + 20 * j + k) = -1 ∨ cw_r 0 20 (t (85 + 20 * j + k))) := h.2.2.2.2.2.2.2.2.2.1
theorem cw_I.off {n m : Nat} {t : cw_s} (h : cw_I n m t) : (∃ q, q ≤ 8 ∧ t 205 = nI q ∧ ∀ i, i < q → (∃ j, j < cw_no t ∧ t (206 + 3 * i + 0) = nI j) ∧ (∃ k, k < 20 ∧ t (206 + 3 * i + 1) = nI k) ∧ (∃ k, k < 20 ∧ t (206 + 3 * i + 2) = nI k)) := h.2.2.2.2.2.2.2.2.2.2.1
theorem cw_I.set0 {n m : Nat} {t : cw_s} (h : cw_I n m t) : cw_r 1 20 (t 231) := h.2.2.2.2.2.2.2.2.2.2.2.1
theorem cw_I.set1 {n m : Nat} {t : cw_s} (h : cw_I n m t) : cw_r 0 20 (t 232) := h.2.2.2.2.2.2.2.2.2.2.2.2.1
theorem cw_I.set2 {n m : Nat} {t : cw_s} (h : cw_I n m t) : cw_r 1 10 (t 233) := h.2.2.2.2.2.2.2.2.2.2.2.2.2
theorem cw_r.toInt {l u : Nat} {a : Int32} (h : cw_r l u a) (hu : u < 2147483648) : (l : Int) ≤ a.toInt ∧ a.toInt ≤ (u : Int) := by
  obtain ⟨k, h1, h2, rfl⟩ := h
  rw [nI_toInt (by omega)]; omega
theorem cw_r.of {l u : Nat} {a : Int32} (h1 : (l : Int) ≤ a.toInt) (h2 : a.toInt ≤ (u : Int)) (hu : u < 2147483648) : cw_r l u a := by
  refine ⟨a.toInt.toNat, by omega, by omega, ?_⟩
  apply Int32.toInt_inj.mp
  rw [nI_toInt (by omega)]; omega
theorem cw_lt {a b : Int32} : a < b ↔ a.toInt < b.toInt := Int32.lt_iff_toInt_lt
theorem cw_le {a b : Int32} : a ≤ b ↔ a.toInt ≤ b.toInt := Int32.le_iff_toInt_le
theorem cw_eqi {a b : Int32} : a = b ↔ a.toInt = b.toInt := Int32.toInt_inj.symm
theorem cw_isO_lt {t : cw_s} (hm : cw_m t) {o : Int32} : cw_isO t o ↔ 0 ≤ o ∧ o < t 0 := by
  obtain ⟨h0, h6⟩ := hm
  have e1 : (t 0 - 1).toInt = (cw_no t : Int) - 1 := by
    rw [h0]; exact pk_sub_toInt (a := cw_no t) (b := 1) (by omega) (by decide)
  have e2 : (t 0).toInt = (cw_no t : Int) := by rw [h0]; exact nI_toInt (by omega)
  unfold cw_isO
  rw [cw_le, cw_le, cw_lt, e1, e2]
  constructor <;> rintro ⟨h1, h2⟩ <;> exact ⟨h1, by omega⟩
theorem cw_isO_6 {t : cw_s} (hm : cw_m t) {o : Int32} (h : o < t 0) : o < 6 := by
  obtain ⟨h0, h6⟩ := hm
  have e2 : (t 0).toInt = (cw_no t : Int) := by rw [h0]; exact nI_toInt (by omega)
  rw [cw_lt] at h ⊢
  rw [e2] at h
  have : (6 : Int32).toInt = 6 := rfl
  omega
theorem cw_isW_lt {k : Int32} : cw_isW k ↔ 0 ≤ k ∧ k < 20 := by
  unfold cw_isW
  rw [cw_le, cw_le, cw_lt]
  have e1 : (19 : Int32).toInt = 19 := rfl
  have e2 : (20 : Int32).toInt = 20 := rfl
  rw [e1, e2]
  constructor <;> rintro ⟨h1, h2⟩ <;> exact ⟨h1, by omega⟩
theorem cw_isO_nI {t : cw_s} (hm : cw_m t) {j : Nat} (h : j < cw_no t) : cw_isO t (nI j) := by
  rw [cw_isO_lt hm, hm.1, cw_le, cw_lt, nI_toInt (by have := hm.2; omega), nI_toInt (by have := hm.2; omega)]
  have : (0 : Int32).toInt = 0 := rfl
  omega
theorem cw_isW_nI {k : Nat} (h : k < 20) : cw_isW (nI k) := by
  rw [cw_isW_lt, cw_le, cw_lt, nI_toInt (by omega)]
  have : (0 : Int32).toInt = 0 := rfl
  have : (20 : Int32).toInt = 20 := rfl
  omega
theorem cw_isO_no {t : cw_s} (hm : cw_m t) {j : Nat} (h : ¬ j < cw_no t) (hj : j < 6) : ¬ cw_isO t (nI j) := by
  rw [cw_isO_lt hm, hm.1, cw_le, cw_lt, nI_toInt (by omega), nI_toInt (by have := hm.2; omega)]
  omega
theorem cw_updo (t : cw_s) (k : Nat) (x : Int32) (h : t k = x) : upd t k x = t := by
  funext j; unfold upd; split
  · next q => rw [q, h]
  · rfl
theorem cw_upd2 (t : cw_s) (k : Nat) (x y : Int32) : upd (upd t k x) k y = upd t k y := by
  funext j; unfold upd; split <;> rfl
theorem cw_updc (t : cw_s) {k i : Nat} (x y : Int32) (h : k ≠ i) : upd (upd t k x) i y = upd (upd t i y) k x := by
  funext j; unfold upd
  by_cases h1 : j = i
  · rw [if_pos h1, if_neg (by omega), if_pos h1]
  · rw [if_neg h1, if_neg h1]
theorem cw_upn (t : cw_s) {k i : Nat} (x : Int32) (h : i ≠ k) : upd t k x i = t i := by unfold upd; rw [if_neg h]
theorem cw_ups (t : cw_s) (k : Nat) (x : Int32) : upd t k x k = x := by unfold upd; rw [if_pos rfl]
/-! THE ACTIONS, for any numbers: what is answered (-9 for what is refused), the house then -/
noncomputable def cw_oOwner (t : cw_s) (a : Int32) : Int32 × cw_s := cw_if ((1 ≤ a ∧ a ≤ 9) ∧ ¬ t 0 = 6) (t 0, cw_comes t (cw_no t) a) (-9, t)
noncomputable def cw_oCost (t : cw_s) (k a : Int32) : Int32 × cw_s := cw_if (cw_isW k ∧ 1 ≤ a ∧ a ≤ 9) (t (25 + 3 * cw_x k + 0), upd t (25 + 3 * cw_x k + 0) a) (-9, t)
noncomputable def cw_oTake (t : cw_s) (o k : Int32) : Int32 × cw_s := cw_if (cw_th t o k) (cw_hind t (cw_x o) (cw_x k), cw_takes t (cw_x o) (cw_x k)) (-9, t)
/-- .. what cannot be taken is counted -/
noncomputable def cw_oTakeR (t : cw_s) (o k : Int32) : Int32 × cw_s := cw_if (cw_th t o k) (cw_hind t (cw_x o) (cw_x k), if cw_hind t (cw_x o) (cw_x k) = 0 then cw_takes t (cw_x o) (cw_x k) else upd t 240 (t 240 + 1)) (-9, t)
def cw_open (t : cw_s) (k : Nat) : Prop := t (25 + 3 * k + 1) = 1 ∧ t (25 + 3 * k + 2) = -1
noncomputable def cw_oBid (t : cw_s) (o k a : Int32) : Int32 × cw_s := cw_if ((cw_th t o k ∧ 0 ≤ a ∧ a ≤ 20) ∧ cw_open t (cw_x k)) (cw_bidsFor (upd t (85 + 20 * cw_x o + cw_x k) a) (cw_x k), upd t (85 + 20 * cw_x o + cw_x k) a) (-9, t)
noncomputable def cw_oRelease (t : cw_s) (o k : Int32) : Int32 × cw_s := cw_if (cw_th t o k ∧ t (25 + 3 * cw_x k + 2) = o) (t (25 + 3 * cw_x k + 0) / 2, cw_releases t (cw_x o) (cw_x k)) (-9, t)
/-- REFUSED of the class for NO of the reference -/
def cw_re (v : Int32) : Int32 := if v = -9 then -2 else v
theorem cw_ren {v : Int32} (h : ¬ v = -9) : cw_re v = v := if_neg h
theorem cw_re9 : cw_re (-9) = -2 := rfl
theorem cw_I.no {n m : Nat} {t : cw_s} (h : cw_I n m t) : (t 0).toInt = (cw_no t : Int) ∧ cw_no t ≤ 6 := by
  obtain ⟨h0, h6⟩ := h.m
  exact ⟨by rw [h0]; exact nI_toInt (by omega), h6⟩
theorem cw_ni {j : Nat} (h : j < 1000) : (nI j).toInt = (j : Int) := nI_toInt (by omega)



/-! WHAT IS TOLD OF A HOUSE -/
def cw_bidsBy (t : cw_s) (j : Nat) : Int32 := cw_fold (fun k x => if t (85 + 20 * j + k) = -1 then x else x + 1) 0 20 0
def cw_allBids (t : cw_s) : Int32 := cw_fold (fun k x => x + cw_bidsFor t k) 0 20 0
def cw_great (t : cw_s) (k : Nat) : Int32 := cw_fold (fun j x => if x < t (85 + 20 * j + k) then t (85 + 20 * j + k) else x) 0 (cw_no t) (-1)
def cw_low (t : cw_s) (o : Int32) : Int32 := cw_fold (fun k x => if t (25 + 3 * (19 - k) + 2) = o then nI (19 - k) else x) 0 20 (-1)
def cw_points (t : cw_s) : Int32 := cw_fold (fun j x => x + t (1 + 4 * j + 1)) 0 (cw_no t) 0
noncomputable def cw_best (t : cw_s) (k : Nat) : Int32 := cw_if (cw_open t k) (cw_fold (fun j x => cw_if (cw_canWin t j k ∧ (x = -1 ∨ cw_better t j (cw_x x) k)) (nI j) x) 0 (cw_no t) (-1)) (-1)
noncomputable def cw_won (t : cw_s) (k j : Nat) : cw_s :=
  let s1 := cw_spends t j (t (25 + 3 * k + 0) + t (85 + 20 * j + k))
  let s2 := upd s1 (1 + 4 * j + 2) (s1 (1 + 4 * j + 2) + 1)
  upd s2 (25 + 3 * k + 2) (nI j)
noncomputable def cw_settle1 (t : cw_s) (k : Nat) : cw_s := cw_if (cw_best t k = -1) t (cw_won t k (cw_x (cw_best t k)))
noncomputable def cw_settles (t : cw_s) : Int32 × cw_s :=
  let r := cw_fold (fun k (x : Int32 × cw_s) => (cw_if (cw_best x.2 k = -1) x.1 (x.1 + 1), cw_settle1 x.2 k)) 0 20 (0, t)
  (r.1, cw_noBids r.2)
theorem cw_fold_id {α : Type} {f : Nat → α → α} (N M : Nat) (h : N ≤ M) (x : α) (hf : ∀ j, N ≤ j → j < M → f j (cw_fold f 0 N x) = cw_fold f 0 N x) : cw_fold f 0 M x = cw_fold f 0 N x := by
  obtain ⟨m, rfl⟩ := Nat.le.dest h
  rw [cw_fold_app, Nat.zero_add]
  have key : ∀ n i, N ≤ i → i + n ≤ N + m → cw_fold f i n (cw_fold f 0 N x) = cw_fold f 0 N x := by
    intro n
    induction n with
    | zero => intro i _ _; rfl
    | succ n ih =>
      intro i h1 h2
      show cw_fold f (i + 1) n (f i _) = _
      rw [hf i h1 (by omega)]
      exact ih (i + 1) (by omega) (by omega)
  exact key m N (Nat.le_refl _) (Nat.le_refl _)
theorem cw_fold_P {α : Type} {f : Nat → α → α} (P : Nat → α → Prop) (N : Nat) (x : α) (h0 : P 0 x) (hs : ∀ j y, j < N → P j y → P (j + 1) (f j y)) : ∀ i, i ≤ N → P i (cw_fold f 0 i x) := by
  intro i
  induction i with
  | zero => intro _; exact h0
  | succ i ih => intro h; rw [cw_fold0]; exact hs i _ (by omega) (ih (by omega))
