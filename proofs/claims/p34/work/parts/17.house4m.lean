/-! OFFERS, UPKEEP, YEARS -/
def cw_swap (t : cw_s) (o k x : Int32) : Prop := (cw_th t o k ∧ t (25 + 3 * cw_x k + 2) = o) ∧ cw_isW x ∧ ¬ t (25 + 3 * cw_x x + 2) = -1 ∧ ¬ t (25 + 3 * cw_x x + 2) = o
def cw_offd (t : cw_s) (q : Nat) (o k x : Int32) : cw_s := upd (upd (upd (upd t 205 (t 205 + 1)) (206 + 3 * q + 0) o) (206 + 3 * q + 1) k) (206 + 3 * q + 2) x
noncomputable def cw_oOffer (t : cw_s) (o k x : Int32) : Int32 × cw_s := cw_if (cw_swap t o k x ∧ t 205 < 8) (t 205, cw_offd t (cw_x (t 205)) o k x) (-9, t)
/-- an offer less: those behind it move up -/
def cw_drop (t : cw_s) (k q : Nat) : cw_s := fun p => if p = 205 then nI (q - 1) else if 206 + 3 * k ≤ p ∧ p < 206 + 3 * (q - 1) then t (p + 3) else t p
/-- what is behind the offers is nothing -/
def cw_nf (t : cw_s) : cw_s := fun p => if p < 242 ∧ ¬ (206 + 3 * cw_x (t 205) ≤ p ∧ p < 230) then t p else 0
noncomputable def cw_oAccept (t : cw_s) (k : Int32) : Int32 × cw_s :=
  let a := 206 + 3 * cw_x k
  let d := cw_drop t (cw_x k) (cw_x (t 205))
  cw_if (cw_isK t k) (cw_if (cw_swap t (t (a + 0)) (t (a + 1)) (t (a + 2)))
    (1, cw_nf (upd (upd (upd d (25 + 3 * cw_x (t (a + 1)) + 2) (t (25 + 3 * cw_x (t (a + 2)) + 2))) (25 + 3 * cw_x (t (a + 2)) + 2) (t (a + 0))) 238 (t 238 + 1)))
    (0, cw_nf (upd d 239 (t 239 + 1)))) (-9, t)
def cw_md (x y : Int32) : Int32 := x - x / y * y
def cw_ahead (t : cw_s) (j : Nat) (c : Int32) (i : Nat) (p : Int32 × Int32) : Int32 × Int32 :=
  (p.1 - c * t (1 + 4 * i + 0) / cw_shares t, if cw_md (c * t (1 + 4 * j + 0)) (cw_shares t) < cw_md (c * t (1 + 4 * i + 0)) (cw_shares t) ∨ (cw_md (c * t (1 + 4 * i + 0)) (cw_shares t) = cw_md (c * t (1 + 4 * j + 0)) (cw_shares t) ∧ i < j) then p.2 + 1 else p.2)
def cw_partOf (t : cw_s) (j : Nat) (c : Int32) : Int32 :=
  let r := cw_fold (cw_ahead t j c) 0 (cw_no t) (c, 0)
  c * t (1 + 4 * j + 0) / cw_shares t + (if r.2 < r.1 then 1 else 0)
def cw_pays (t : cw_s) (c : Int32) (j : Nat) (p : Int32 × cw_s) : Int32 × cw_s := (if p.1 < cw_partOf t j c then cw_partOf t j c else p.1, upd p.2 (1 + 4 * j + 3) (p.2 (1 + 4 * j + 3) + cw_partOf t j c))
noncomputable def cw_oUpkeep (t : cw_s) (c : Int32) : Int32 × cw_s := cw_if ((1 ≤ c ∧ c ≤ 999) ∧ ¬ t 0 = 0) (let r := cw_fold (cw_pays t c) 0 (cw_no t) (0, t); (r.1, upd r.2 241 (r.2 241 + c))) (-9, t)
def cw_lapse (j : Nat) (p : Int32 × cw_s) : Int32 × cw_s :=
  let a := p.2 (1 + 4 * j + 1) - p.2 232
  let b := if 0 < a then a else 0
  (p.1 + b, cw_gives (upd p.2 (1 + 4 * j + 1) (p.2 (1 + 4 * j + 1) - b)) j)
def cw_freed (t : cw_s) : cw_s := cw_fold (fun k s => upd s (25 + 3 * k + 2) (-1)) 0 20 t
def cw_oYear (t : cw_s) : Int32 × cw_s :=
  let r := cw_fold cw_lapse 0 (cw_no t) (0, t)
  let s3 := upd (cw_noBids (cw_freed r.2)) 205 0
  let s4 := upd s3 237 (s3 237 + r.1)
  (r.1, upd s4 230 (s4 230 + 1))
theorem cw_freed_at (t : cw_s) (k : Nat) : cw_freed t k = if 25 ≤ k ∧ k < 85 ∧ (k - 25) % 3 = 2 then -1 else t k := by
  unfold cw_freed
  have := cw_fold_P (f := fun k (s : cw_s) => upd s (25 + 3 * k + 2) (-1)) (fun i s => s k = if 25 ≤ k ∧ k < 25 + 3 * i ∧ (k - 25) % 3 = 2 then -1 else t k) 20 t (by rw [if_neg (by omega)]) (fun j y _ hy => by
    show upd y (25 + 3 * j + 2) (-1) k = _
    unfold upd
    by_cases c : k = 25 + 3 * j + 2
    · rw [if_pos c, if_pos (by omega)]
    · rw [if_neg c, hy]
      by_cases c2 : 25 ≤ k ∧ k < 25 + 3 * j ∧ (k - 25) % 3 = 2
      · rw [if_pos c2, if_pos (by omega)]
      · rw [if_neg c2, if_neg (by omega)]) 20 (Nat.le_refl _)
  exact this
theorem cw_x_lt {t : cw_s} {n m : Nat} (h : cw_I n m t) : cw_x (t 205) ≤ 8 ∧ t 205 = nI (cw_x (t 205)) := by
  obtain ⟨q, h1, h2, h3⟩ := h.offn
  rw [h2, cw_xn (by omega)]; exact ⟨h1, rfl⟩
theorem cw_nf_rd (t : cw_s) {p : Nat} (h : p < 206 ∨ 230 ≤ p) (h2 : p < 242) : cw_nf t p = t p := by
  unfold cw_nf; rw [if_pos ⟨h2, by omega⟩]
theorem cw_nf_no (t : cw_s) : cw_no (cw_nf t) = cw_no t := cw_no_eq (cw_nf_rd t (by omega) (by omega))
theorem cw_nf_upd (t : cw_s) {p : Nat} (x : Int32) (h : p < 205 ∨ 230 ≤ p) (h2 : p < 242) : cw_nf (upd t p x) = upd (cw_nf t) p x := by
  funext k
  have e : upd t p x 205 = t 205 := cw_upn t x (by omega)
  unfold cw_nf
  rw [e]
  by_cases c : k = p
  · rw [c, cw_ups, cw_ups, if_pos ⟨h2, by omega⟩]
  · rw [cw_upn _ _ c, cw_upn _ _ c]
theorem cw_nf_nf (t : cw_s) : cw_nf (cw_nf t) = cw_nf t := by
  funext k
  have e : cw_nf t 205 = t 205 := cw_nf_rd t (by omega) (by omega)
  show (if k < 242 ∧ ¬ (206 + 3 * cw_x (cw_nf t 205) ≤ k ∧ k < 230) then cw_nf t k else 0) = cw_nf t k
  rw [e]
  by_cases c : k < 242 ∧ ¬ (206 + 3 * cw_x (t 205) ≤ k ∧ k < 230)
  · rw [if_pos c]
  · rw [if_neg c]; unfold cw_nf; rw [if_neg c]
theorem cw_mdn {x y : Int32} (hx : 0 ≤ x.toInt) (hx2 : x.toInt ≤ 1000000) (hy : 0 < y.toInt) (hy2 : y.toInt ≤ 1000000) : (cw_md x y).toInt = x.toInt % y.toInt ∧ (x / y).toInt = x.toInt / y.toInt := by
  have e1 : (x / y).toInt = x.toInt / y.toInt := by
    rw [Int32.toInt_div, Int.tdiv_eq_ediv_of_nonneg hx]
    have h1 : 0 ≤ x.toInt / y.toInt := Int.ediv_nonneg hx (by omega)
    have h2 : x.toInt / y.toInt ≤ x.toInt := Int.ediv_le_self _ hx
    exact Int.bmod_eq_of_le (by omega) (by omega)
  refine ⟨?_, e1⟩
  unfold cw_md
  have h1 : 0 ≤ x.toInt / y.toInt := Int.ediv_nonneg hx (by omega)
  have h3 : x.toInt / y.toInt * y.toInt ≤ x.toInt := Int.ediv_mul_le _ (by omega)
  have h4 : 0 ≤ x.toInt / y.toInt * y.toInt := Int.mul_nonneg h1 (by omega)
  have e2 : (x / y * y).toInt = x.toInt / y.toInt * y.toInt := by
    rw [Int32.toInt_mul, e1]; exact Int.bmod_eq_of_le (by omega) (by omega)
  rw [cw_sub0 (by omega) (by omega) (by omega) (by omega), e2]
  have := Int.emod_def x.toInt y.toInt
  rw [Int.mul_comm] at this
  omega
theorem cw_shares_r {n m : Nat} {t : cw_s} (h : cw_I n m t) : cw_r (cw_no t) 54 (cw_shares t) := by
  have h6 := h.m.2
  have := cw_fold_P (f := fun o x => x + t (1 + 4 * o + 0)) (fun i x => cw_r i (9 * i) x) (cw_no t) 0 ⟨0, Nat.le_refl _, Nat.le_refl _, rfl⟩ (fun j y hj hy => (cw_r_add hy (h.sha j hj)).mono (by omega) (by omega)) (cw_no t) (Nat.le_refl _)
  exact cw_r.mono this (Nat.le_refl _) (by omega)
theorem cw_prod_r {n m : Nat} {t : cw_s} (h : cw_I n m t) {c : Int32} (h1 : 0 ≤ c.toInt) (h2 : c.toInt ≤ 999) {j : Nat} (hj : j < 6) : 0 ≤ (c * t (1 + 4 * j + 0)).toInt ∧ (c * t (1 + 4 * j + 0)).toInt ≤ 10000 := by
  have hs : cw_r 0 9 (t (1 + 4 * j + 0)) := by
    rcases Nat.lt_or_ge j (cw_no t) with q | q
    · exact (h.sha j q).mono (by omega) (by omega)
    · rw [(h.nil j q hj).1]; exact ⟨0, by omega, by omega, rfl⟩
  have := (cw_r_mul (cw_r.of (l := 0) (u := 999) h1 h2 (by decide)) hs).toInt (by decide)
  omega
theorem cw_partOf_nil {n m : Nat} {t : cw_s} (h : cw_I n m t) {c : Int32} (h1 : 0 ≤ c.toInt) (h2 : c.toInt ≤ 999) {j : Nat} (hj : j < cw_no t) (i : Nat) (hi : cw_no t ≤ i) (h6 : i < 6) (p : Int32 × Int32) : cw_ahead t j c i p = p := by
  have h6' := h.m.2
  have z := (h.nil i hi h6).1
  have hs := (cw_shares_r h).toInt (by decide)
  have hp := cw_prod_r h h1 h2 (j := j) (by omega)
  have hm := (cw_mdn hp.1 (by omega) (y := cw_shares t) (by omega) (by omega)).1
  have hge : 0 ≤ (cw_md (c * t (1 + 4 * j + 0)) (cw_shares t)).toInt := by rw [hm]; exact Int.emod_nonneg _ (by omega)
  have e0 : c * t (1 + 4 * i + 0) = 0 := by rw [z]; exact Int32.mul_zero
  have e1 : (0 : Int32) / cw_shares t = 0 := Int32.zero_div
  have e2 : cw_md 0 (cw_shares t) = 0 := by unfold cw_md; rw [e1, Int32.zero_mul]; rfl
  unfold cw_ahead
  rw [e0, e1, e2, if_neg (by
    rintro (q | ⟨-, q⟩)
    · rw [cw_lt] at q; have : (0 : Int32).toInt = 0 := rfl; omega
    · omega), Int32.sub_zero]
theorem cw_partOf_r {n m : Nat} {t : cw_s} (h : cw_I n m t) {c : Int32} (h1 : 0 ≤ c.toInt) (h2 : c.toInt ≤ 999) {j : Nat} (hj : j < cw_no t) : cw_r 0 10001 (cw_partOf t j c) := by
  have h6' := h.m.2
  have hs := (cw_shares_r h).toInt (by decide)
  have hp := cw_prod_r h h1 h2 (j := j) (by omega)
  have hd := (cw_mdn hp.1 (by omega) (y := cw_shares t) (by omega) (by omega)).2
  have d1 : 0 ≤ (c * t (1 + 4 * j + 0)).toInt / (cw_shares t).toInt := Int.ediv_nonneg hp.1 (by omega)
  have d2 : (c * t (1 + 4 * j + 0)).toInt / (cw_shares t).toInt ≤ (c * t (1 + 4 * j + 0)).toInt := Int.ediv_le_self _ hp.1
  have r1 : cw_r 0 10000 (c * t (1 + 4 * j + 0) / cw_shares t) := cw_r.of (by rw [hd]; exact d1) (by rw [hd]; omega) (by decide)
  unfold cw_partOf
  refine (cw_r_add (c := 0) (d := 1) r1 ?_).mono (by omega) (by omega)
  split
  · exact ⟨1, by omega, by omega, rfl⟩
  · exact ⟨0, by omega, by omega, rfl⟩
