/-! PARTS, YEARS, OFFERS THAT GO: what the class writes -/
theorem cw_partOf_cg {t t' : cw_s} (h0 : t' 0 = t 0) (hno : cw_no t ≤ 6) (hs : ∀ q, q < 6 → t' (1 + 4 * q + 0) = t (1 + 4 * q + 0)) {j : Nat} (hj : j < 6) (c : Int32) : cw_partOf t' j c = cw_partOf t j c := by
  have en : cw_no t' = cw_no t := cw_no_eq h0
  have es : cw_shares t' = cw_shares t := by
    unfold cw_shares; rw [en]
    exact cw_fold_congr _ 0 0 (fun i y _ h2 => by rw [hs i (by omega)])
  unfold cw_partOf
  rw [en, es, hs j hj]
  have : cw_fold (cw_ahead t' j c) 0 (cw_no t) (c, 0) = cw_fold (cw_ahead t j c) 0 (cw_no t) (c, 0) := cw_fold_congr _ 0 _ (fun i y _ h2 => by
    unfold cw_ahead; rw [es, hs i (by omega), hs j hj])
  rw [this]
theorem cw_pays_ok {n m : Nat} {t : cw_s} (h : cw_I n m t) {c : Int32} (h1 : 0 ≤ c.toInt) (h2 : c.toInt ≤ 999) : ∀ i, i ≤ cw_no t → cw_I n m (cw_fold (cw_pays t c) 0 i (0, t)).2 ∧ (cw_fold (cw_pays t c) 0 i (0, t)).2 0 = t 0 ∧ (∀ q, q < 6 → (cw_fold (cw_pays t c) 0 i (0, t)).2 (1 + 4 * q + 0) = t (1 + 4 * q + 0)) ∧ cw_r 0 10001 (cw_fold (cw_pays t c) 0 i (0, t)).1 := by
  have h6 := h.m.2
  exact cw_fold_P (fun i x => cw_I n m x.2 ∧ x.2 0 = t 0 ∧ (∀ q, q < 6 → x.2 (1 + 4 * q + 0) = t (1 + 4 * q + 0)) ∧ cw_r 0 10001 x.1) (cw_no t) (0, t) ⟨h, rfl, fun _ _ => rfl, ⟨0, by omega, by omega, rfl⟩⟩ (fun j y hj ⟨a, b, e, d⟩ => by
    refine ⟨cw_I_paid a (by rw [cw_no_eq b]; exact hj), (cw_upn y.2 (i := 0) (k := 1 + 4 * j + 3) (y.2 (1 + 4 * j + 3) + cw_partOf t j c) (by omega)).trans b, fun q hq => (cw_upn y.2 (i := 1 + 4 * q + 0) (k := 1 + 4 * j + 3) (y.2 (1 + 4 * j + 3) + cw_partOf t j c) (by omega)).trans (e q hq), ?_⟩
    show cw_r 0 10001 (if y.1 < cw_partOf t j c then cw_partOf t j c else y.1)
    split
    · exact cw_partOf_r h h1 h2 hj
    · exact d)
/-- what one pays, nothing for who isn't there -/
noncomputable def cw_part (t : cw_s) (j : Nat) (c : Int32) : Int32 := cw_if (j < cw_no t) (cw_partOf t j c) 0
theorem cw_pays_min {n m : Nat} {t : cw_s} (h : cw_I n m t) {c : Int32} (h1 : 0 ≤ c.toInt) (h2 : c.toInt ≤ 999) {i : Nat} (hi : i < 6) : (if (cw_fold (cw_pays t c) 0 (min i (cw_no t)) (0, t)).1 < cw_part t i c then cw_part t i c else (cw_fold (cw_pays t c) 0 (min i (cw_no t)) (0, t)).1, upd (cw_fold (cw_pays t c) 0 (min i (cw_no t)) (0, t)).2 (1 + 4 * i + 3) ((cw_fold (cw_pays t c) 0 (min i (cw_no t)) (0, t)).2 (1 + 4 * i + 3) + cw_part t i c)) = cw_fold (cw_pays t c) 0 (min (i + 1) (cw_no t)) (0, t) := by
  by_cases q : i < cw_no t
  · rw [show min i (cw_no t) = i by omega, show min (i + 1) (cw_no t) = i + 1 by omega, cw_fold0, cw_part, cw_it q]; rfl
  · rw [show min i (cw_no t) = cw_no t by omega, show min (i + 1) (cw_no t) = cw_no t by omega, cw_part, cw_ie q]
    obtain ⟨-, -, -, hr⟩ := cw_pays_ok h h1 h2 (cw_no t) (Nat.le_refl _)
    rw [if_neg (by rw [cw_lt]; have := (hr.toInt (by decide)).1; have z : (0 : Int32).toInt = 0 := rfl; omega), Int32.add_zero, cw_updo _ _ _ rfl]
/-- what the class has done before it goes through the owners, at a year's end -/
def cw_yM (t s : cw_s) : cw_s := fun k => if k = 230 then t 230 + 1 else if k = 205 then 0 else if 85 ≤ k ∧ k < 205 then -1 else if 25 ≤ k ∧ k < 85 ∧ (k - 25) % 3 = 2 then -1 else s k
theorem cw_yM_0 (t : cw_s) : upd (cw_noBids (cw_freed (upd t 230 (t 230 + 1)))) 205 0 = cw_yM t t := by
  funext k
  unfold cw_yM
  by_cases c1 : k = 205
  · rw [c1, cw_ups]; rfl
  rw [cw_upn _ _ c1, cw_noBids_at, cw_freed_at]
  by_cases c2 : k = 230
  · rw [c2, if_neg (by omega), if_neg (by omega), cw_ups]; rfl
  rw [if_neg c2, if_neg c1, cw_upn _ _ c2]
theorem cw_yM_upd (t s : cw_s) {k : Nat} (x : Int32) (h : k ≠ 230 ∧ k ≠ 205 ∧ ¬ (85 ≤ k ∧ k < 205) ∧ ¬ (25 ≤ k ∧ k < 85 ∧ (k - 25) % 3 = 2)) : cw_yM t (upd s k x) = upd (cw_yM t s) k x := by
  funext i
  by_cases c : i = k
  · rw [c, cw_ups]; unfold cw_yM; rw [if_neg h.1, if_neg h.2.1, if_neg h.2.2.1, if_neg h.2.2.2, cw_ups]
  · rw [cw_upn _ _ c]; unfold cw_yM; rw [cw_upn _ _ c]
theorem cw_yM_rd (t s : cw_s) {k : Nat} (h : k ≠ 230 ∧ k ≠ 205 ∧ ¬ (85 ≤ k ∧ k < 205) ∧ ¬ (25 ≤ k ∧ k < 85 ∧ (k - 25) % 3 = 2)) : cw_yM t s k = s k := by
  unfold cw_yM; rw [if_neg h.1, if_neg h.2.1, if_neg h.2.2.1, if_neg h.2.2.2]
theorem cw_yM_lapse (t : cw_s) {j : Nat} (hj : j < 6) (p : Int32 × cw_s) : cw_lapse j (p.1, cw_yM t p.2) = ((cw_lapse j p).1, cw_yM t (cw_lapse j p).2) := by
  have u1 : ∀ s x, cw_yM t (upd s (1 + 4 * j + 1) x) = upd (cw_yM t s) (1 + 4 * j + 1) x := fun s x => cw_yM_upd t s x (by omega)
  have u2 : ∀ s x, cw_yM t (upd s 234 x) = upd (cw_yM t s) 234 x := fun s x => cw_yM_upd t s x (by omega)
  have r1 : ∀ s, cw_yM t s (1 + 4 * j + 1) = s (1 + 4 * j + 1) := fun s => cw_yM_rd t s (by omega)
  have r0 : ∀ s, cw_yM t s (1 + 4 * j + 0) = s (1 + 4 * j + 0) := fun s => cw_yM_rd t s (by omega)
  have r2 : ∀ s, cw_yM t s 231 = s 231 := fun s => cw_yM_rd t s (by omega)
  have r3 : ∀ s, cw_yM t s 232 = s 232 := fun s => cw_yM_rd t s (by omega)
  have r4 : ∀ s, cw_yM t s 234 = s 234 := fun s => cw_yM_rd t s (by omega)
  have q0 : ∀ (s : cw_s) x, upd s (1 + 4 * j + 1) x (1 + 4 * j + 0) = s (1 + 4 * j + 0) := fun s x => cw_upn s x (by omega)
  have q1 : ∀ (s : cw_s) x, upd s (1 + 4 * j + 1) x 231 = s 231 := fun s x => cw_upn s x (by omega)
  have q2 : ∀ (s : cw_s) x, upd s (1 + 4 * j + 1) x 234 = s 234 := fun s x => cw_upn s x (by omega)
  simp only [cw_lapse, cw_gives, u1, u2, r1, r0, r2, r3, r4, q0, q1, q2, cw_ups]
theorem cw_yM_fold (t : cw_s) (i : Nat) (hi : i ≤ 6) : cw_fold cw_lapse 0 i (0, cw_yM t t) = ((cw_fold cw_lapse 0 i (0, t)).1, cw_yM t (cw_fold cw_lapse 0 i (0, t)).2) := by
  induction i with
  | zero => rfl
  | succ i ih => rw [cw_fold0, cw_fold0, ih (by omega)]; exact cw_yM_lapse t (by omega) _
theorem cw_lapse_keep (t : cw_s) (k : Nat) (hk : k ≠ 234) (i : Nat) (hi : ∀ j, j < i → k ≠ 1 + 4 * j + 1) : (cw_fold cw_lapse 0 i (0, t)).2 k = t k := by
  induction i with
  | zero => rfl
  | succ i ih =>
    rw [cw_fold0]
    show cw_gives (upd _ (1 + 4 * i + 1) _) i k = _
    unfold cw_gives
    rw [cw_upn _ _ hk, cw_upn _ _ (hi i (by omega)), cw_upn _ _ (hi i (by omega))]
    exact ih (fun j hj => hi j (by omega))
theorem cw_year_eq {n m : Nat} {t : cw_s} (h : cw_I n m t) : (let r := cw_fold cw_lapse 0 (cw_no t) (0, cw_yM t t); (r.1, upd r.2 237 (r.2 237 + r.1))) = cw_oYear t := by
  have h6 := h.m.2
  simp only []
  rw [cw_yM_fold t _ h6]
  unfold cw_oYear
  simp only []
  have e230 : (cw_fold cw_lapse 0 (cw_no t) (0, t)).2 230 = t 230 := cw_lapse_keep t 230 (by omega) _ (fun j hj => by omega)
  congr 1
  funext k
  have z : ∀ (s : cw_s) (k : Nat), upd (cw_noBids (cw_freed s)) 205 0 k = if k = 205 then 0 else if 85 ≤ k ∧ k < 205 then -1 else if 25 ≤ k ∧ k < 85 ∧ (k - 25) % 3 = 2 then -1 else s k := fun s k => by
    by_cases c : k = 205
    · rw [c, cw_ups]; rfl
    · rw [cw_upn _ _ c, cw_noBids_at, cw_freed_at, if_neg c]
  by_cases c1 : k = 230
  · rw [c1, cw_ups, cw_upn _ _ (by omega), cw_upn _ _ (by omega), z, if_neg (by omega), if_neg (by omega), if_neg (by omega), e230]; rfl
  by_cases c2 : k = 237
  · rw [c2, cw_ups, cw_upn _ _ (by omega), cw_ups, cw_yM_rd _ _ (by omega), z, if_neg (by omega), if_neg (by omega), if_neg (by omega)]
  rw [cw_upn _ _ c2, cw_upn _ _ c1, cw_upn _ _ c2, z]
  unfold cw_yM
  rw [if_neg c1]
theorem cw_lapse_nil {n m : Nat} {t : cw_s} (h : cw_I n m t) {i : Nat} (h1 : cw_no t ≤ i) (h2 : i < 6) : cw_lapse i (cw_fold cw_lapse 0 (cw_no t) (0, cw_yM t t)) = cw_fold cw_lapse 0 (cw_no t) (0, cw_yM t t) := by
  have h6 := h.m.2
  have e : ∀ k, k ≠ 234 → (∀ j, j < cw_no t → k ≠ 1 + 4 * j + 1) → (cw_fold cw_lapse 0 (cw_no t) (0, cw_yM t t)).2 k = cw_yM t t k := fun k a b => cw_lapse_keep _ k a _ b
  have e0 : (cw_fold cw_lapse 0 (cw_no t) (0, cw_yM t t)).2 (1 + 4 * i + 0) = 0 := by rw [e _ (by omega) (fun j hj => by omega), cw_yM_rd _ _ (by omega)]; exact (h.nil i h1 h2).1
  have e1 : (cw_fold cw_lapse 0 (cw_no t) (0, cw_yM t t)).2 (1 + 4 * i + 1) = 0 := by rw [e _ (by omega) (fun j hj => by omega), cw_yM_rd _ _ (by omega)]; exact (h.nil i h1 h2).2.1
  have e2 : (cw_fold cw_lapse 0 (cw_no t) (0, cw_yM t t)).2 232 = t 232 := by rw [e _ (by omega) (fun j hj => by omega), cw_yM_rd _ _ (by omega)]
  generalize cw_fold cw_lapse 0 (cw_no t) (0, cw_yM t t) = x at e0 e1 e2 ⊢
  have hb : ¬ 0 < x.2 (1 + 4 * i + 1) - x.2 232 := by
    rw [e1, e2, cw_lt]
    obtain ⟨a, -, a2, a3⟩ := h.set1
    rw [a3, cw_sub0 (by decide) (by decide) (by rw [cw_ni (by omega)]; omega) (by rw [cw_ni (by omega)]; omega), cw_ni (by omega)]
    have z : (0 : Int32).toInt = 0 := rfl
    omega
  unfold cw_lapse cw_gives
  simp only []
  rw [if_neg hb, Int32.add_zero, Int32.sub_zero, cw_updo x.2 (1 + 4 * i + 1) _ rfl, e0, Int32.mul_zero, Int32.add_zero, cw_updo x.2 (1 + 4 * i + 1) _ rfl, Int32.add_zero, cw_updo x.2 234 _ rfl]
theorem cw_lapse_min {n m : Nat} {t : cw_s} (h : cw_I n m t) {i : Nat} (hi : i < 6) : cw_lapse i (cw_fold cw_lapse 0 (min i (cw_no t)) (0, cw_yM t t)) = cw_fold cw_lapse 0 (min (i + 1) (cw_no t)) (0, cw_yM t t) := by
  by_cases q : i < cw_no t
  · rw [show min i (cw_no t) = i by omega, show min (i + 1) (cw_no t) = i + 1 by omega, cw_fold0]
  · rw [show min i (cw_no t) = cw_no t by omega, show min (i + 1) (cw_no t) = cw_no t by omega]
    exact cw_lapse_nil h (by omega) hi
/-- offers k and on moved up, so far as i -/
def cw_dr (t : cw_s) (k q i : Nat) : cw_s := fun p => if p = 205 then nI (q - 1) else if 206 + 3 * k ≤ p ∧ p < 206 + 3 * i then t (p + 3) else t p
theorem cw_dr_0 (t : cw_s) (k q : Nat) (hq : 0 < q) (h : t 205 = nI q) : upd t 205 (t 205 - 1) = cw_dr t k q k := by
  funext p
  unfold upd cw_dr
  by_cases c : p = 205
  · rw [if_pos c, if_pos c, h]
    apply Int32.toInt_inj.mp
    obtain ⟨q, rfl⟩ : ∃ z, q = z + 1 := ⟨q - 1, by omega⟩
    rw [← nI_1 q, Int32.add_sub_cancel]; rfl
  · rw [if_neg c, if_neg c, if_neg (by omega)]
theorem cw_dr_1 (t : cw_s) (k q i : Nat) (hk : k ≤ i) : (let s0 := upd (cw_dr t k q i) (206 + 3 * i + 0) (cw_dr t k q i (206 + 3 * (i + 1) + 0)); let s1 := upd s0 (206 + 3 * i + 1) (s0 (206 + 3 * (i + 1) + 1)); upd s1 (206 + 3 * i + 2) (s1 (206 + 3 * (i + 1) + 2))) = cw_dr t k q (i + 1) := by
  simp only []
  rw [cw_upn _ _ (show 206 + 3 * (i + 1) + 1 ≠ 206 + 3 * i + 0 by omega), cw_upn _ _ (show 206 + 3 * (i + 1) + 2 ≠ 206 + 3 * i + 1 by omega), cw_upn _ _ (show 206 + 3 * (i + 1) + 2 ≠ 206 + 3 * i + 0 by omega)]
  have r : ∀ z, z < 3 → cw_dr t k q i (206 + 3 * (i + 1) + z) = t (206 + 3 * (i + 1) + z) := fun z hz => by unfold cw_dr; rw [if_neg (by omega), if_neg (by omega)]
  rw [r 0 (by omega), r 1 (by omega), r 2 (by omega)]
  funext p
  unfold upd
  by_cases c2 : p = 206 + 3 * i + 2
  · rw [if_pos c2]; unfold cw_dr; rw [if_neg (by omega), if_pos (by omega)]; congr 1; omega
  rw [if_neg c2]
  by_cases c1 : p = 206 + 3 * i + 1
  · rw [if_pos c1]; unfold cw_dr; rw [if_neg (by omega), if_pos (by omega)]; congr 1; omega
  rw [if_neg c1]
  by_cases c0 : p = 206 + 3 * i + 0
  · rw [if_pos c0]; unfold cw_dr; rw [if_neg (by omega), if_pos (by omega)]; congr 1; omega
  rw [if_neg c0]
  unfold cw_dr
  by_cases c : p = 205
  · rw [if_pos c, if_pos c]
  · rw [if_neg c, if_neg c]
    by_cases d : 206 + 3 * k ≤ p ∧ p < 206 + 3 * i
    · rw [if_pos d, if_pos (by omega)]
    · rw [if_neg d, if_neg (by omega)]
theorem cw_drop_rd (t : cw_s) (k q : Nat) {p : Nat} (h : p < 205 ∨ 230 ≤ p) (hq : q ≤ 8) : cw_drop t k q p = t p := by
  unfold cw_drop; rw [if_neg (by omega), if_neg (by omega)]
theorem cw_I_drop {n m : Nat} {t : cw_s} (h : cw_I n m t) {k : Nat} (hk : k < cw_x (t 205)) : cw_I n m (cw_drop t k (cw_x (t 205))) := by
  have hx := cw_x_lt h
  have e : ∀ p, (p < 205 ∨ 230 ≤ p) → cw_drop t k (cw_x (t 205)) p = t p := fun p hp => cw_drop_rd t k _ hp hx.1
  have en : cw_no (cw_drop t k (cw_x (t 205))) = cw_no t := cw_no_eq (e 0 (by omega))
  have h6 := h.m.2
  refine ⟨⟨by rw [e 0 (by omega), en]; exact h.m.1, by rw [en]; exact h6⟩, fun j a b => ?_, fun j i a b c => ?_, fun j a => ?_, fun j a => ?_, fun j a => ?_, fun i a => ?_, fun i a => ?_, fun i a => ?_, fun j i a b => ?_, ?_, ?_, ?_, ?_⟩
  · rw [en] at a; rw [e _ (by omega), e _ (by omega), e _ (by omega), e _ (by omega)]; exact h.nil j a b
  · rw [en] at a; rw [e _ (by omega)]; exact h.nob j i a b c
  · rw [en] at a; rw [e _ (by omega)]; exact h.sha j a
  · rw [e _ (by omega)]; exact h.pts j a
  · rw [e _ (by omega)]; exact h.won j a
  · rw [e _ (by omega)]; exact h.cos i a
  · rw [e _ (by omega)]; exact h.sch i a
  · rw [en, e _ (by omega)]; exact h.hol i a
  · rw [e _ (by omega)]; exact h.bid j i a b
  · obtain ⟨q, q8, qe, qa⟩ := h.off
    have hqx : cw_x (t 205) = q := by rw [qe, cw_xn (by omega)]
    rw [hqx] at hk ⊢
    refine ⟨q - 1, by omega, by unfold cw_drop; rw [if_pos rfl], fun i hi => ?_⟩
    have en' : cw_no (cw_drop t k q) = cw_no t := by rw [← hqx]; exact en
    rw [en']
    by_cases c : k ≤ i
    · have r : ∀ z, z < 3 → cw_drop t k q (206 + 3 * i + z) = t (206 + 3 * (i + 1) + z) := fun z hz => by unfold cw_drop; rw [if_neg (by omega), if_pos (by omega)]; congr 1; omega
      rw [r 0 (by omega), r 1 (by omega), r 2 (by omega)]; exact qa (i + 1) (by omega)
    · have r : ∀ z, z < 3 → cw_drop t k q (206 + 3 * i + z) = t (206 + 3 * i + z) := fun z hz => by unfold cw_drop; rw [if_neg (by omega), if_neg (by omega)]
      rw [r 0 (by omega), r 1 (by omega), r 2 (by omega)]; exact qa i (by omega)
  · rw [e _ (by omega)]; exact h.set0
  · rw [e _ (by omega)]; exact h.set1
  · rw [e _ (by omega)]; exact h.set2
/-- a house without owners -/
def cw_new : cw_s := fun k => if 25 ≤ k ∧ k < 85 then (if (k - 25) % 3 = 0 then 3 else if (k - 25) % 3 = 1 then 0 else -1) else if 85 ≤ k ∧ k < 205 then -1 else if k = 231 then 4 else if k = 232 then 5 else if k = 233 then 3 else 0
theorem cw_swap_cg {t t' : cw_s} (h0 : t' 0 = t 0) (hh : ∀ k, k < 20 → t' (25 + 3 * k + 2) = t (25 + 3 * k + 2)) (o k x : Int32) : cw_swap t' o k x ↔ cw_swap t o k x := by
  unfold cw_swap cw_th cw_isO
  rw [h0]
  have e : ∀ z, cw_isW z → t' (25 + 3 * cw_x z + 2) = t (25 + 3 * cw_x z + 2) := fun z hz => by
    obtain ⟨j, rfl, hj⟩ := cw_isW_ix hz
    rw [cw_xn (by omega)]; exact hh j hj
  constructor
  · rintro ⟨⟨⟨a, b⟩, d⟩, f, g⟩; rw [e k b] at d; rw [e x f] at g; exact ⟨⟨⟨a, b⟩, d⟩, f, g⟩
  · rintro ⟨⟨⟨a, b⟩, d⟩, f, g⟩; rw [← e k b] at d; rw [← e x f] at g; exact ⟨⟨⟨a, b⟩, d⟩, f, g⟩
