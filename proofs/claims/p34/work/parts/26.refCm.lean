/-! FOR THE REFERENCE'S OFFERS -/
theorem cw_nf_ext {a b : cw_s} (h5 : a 205 = b 205) (h : ∀ p, p < 242 → ¬ (206 + 3 * cw_x (b 205) ≤ p ∧ p < 230) → a p = b p) : cw_nf a = cw_nf b := by
  funext p
  unfold cw_nf
  rw [h5]
  by_cases c : p < 242 ∧ ¬ (206 + 3 * cw_x (b 205) ≤ p ∧ p < 230)
  · rw [if_pos c, if_pos c]; exact h p c.1 c.2
  · rw [if_neg c, if_neg c]
theorem cw_acc (s : cw_s) (k q : Nat) (hk : k < q) (hq : q ≤ 8) {A B C : Nat} (x y z : Int32) (hA : A < 205 ∨ 230 ≤ A) (hB : B < 205 ∨ 230 ≤ B) (hC : C < 205 ∨ 230 ≤ C) :
    cw_nf (upd (cw_sh (upd (upd (upd s A x) B y) C z) (206 + 3 * k) 227) 205 (nI (q - 1))) = cw_nf (upd (upd (upd (cw_drop s k q) A x) B y) C z) := by
  have e5 : upd (upd (upd (cw_drop s k q) A x) B y) C z 205 = nI (q - 1) := by
    rw [cw_upn _ _ (by omega), cw_upn _ _ (by omega), cw_upn _ _ (by omega)]; rfl
  refine cw_nf_ext (by rw [cw_ups, e5]) (fun p hp hs => ?_)
  rw [e5, cw_xn (by omega)] at hs
  by_cases c5 : p = 205
  · rw [c5, cw_ups, e5]
  rw [cw_upn _ _ c5]
  by_cases c : p < 205 ∨ 230 ≤ p
  · have e : cw_sh (upd (upd (upd s A x) B y) C z) (206 + 3 * k) 227 p = upd (upd (upd s A x) B y) C z p := by
      unfold cw_sh; rw [if_neg (by omega)]
    rw [e]
    unfold upd
    rw [cw_drop_rd s k q c hq]
  · have r : ∀ t : cw_s, ∀ i, (205 ≤ i ∧ i < 230) → upd (upd (upd t A x) B y) C z i = t i := fun t i hi => by
      rw [cw_upn _ _ (by omega), cw_upn _ _ (by omega), cw_upn _ _ (by omega)]
    rw [r _ p (by omega)]
    unfold cw_sh cw_drop
    rw [if_neg c5]
    by_cases d : 206 + 3 * k ≤ p
    · rw [if_pos (by omega), if_pos (by omega), r _ _ (by omega)]
    · rw [if_neg (by omega), if_neg (by omega), r _ _ (by omega)]
theorem hr_gen {w B : gw_M} {s : cw_s} (h : w = cw_S B s) : ∃ T, T = s ∧ w = cw_S B T := ⟨s, rfl, h⟩
theorem cw_sub_1 {q : Nat} (h : 0 < q) : nI q - 1 = nI (q - 1) := by
  obtain ⟨q, rfl⟩ : ∃ z, q = z + 1 := ⟨q - 1, by omega⟩
  rw [← nI_1 q, Int32.add_sub_cancel]; rfl
/-- a command of the reference, whatever its letter -/
noncomputable def cw_does (s : cw_s) (l a b c : Int32) : Int32 × cw_s :=
  if l = 111 then cw_oOwner s a else if l = 107 then cw_oCost s a b else if l = 115 then (s (25 + 3 * cw_x a + 1), upd s (25 + 3 * cw_x a + 1) b) else if l = 116 then cw_oTake s a b else if l = 98 then cw_oBid s a b c else if l = 101 then cw_settles s else if l = 114 then cw_oRelease s a b else if l = 102 then cw_oOffer s a b c else if l = 97 then cw_oAccept s a else if l = 117 then cw_oUpkeep s a else cw_oYear s
theorem cw_does_y (s : cw_s) {l : Int32} (a b c : Int32) (h1 : ¬ l = 111) (h2 : ¬ l = 107) (h3 : ¬ l = 115) (h4 : ¬ l = 116) (h5 : ¬ l = 98) (h6 : ¬ l = 101) (h7 : ¬ l = 114) (h8 : ¬ l = 102) (h9 : ¬ l = 97) (h10 : ¬ l = 117) : cw_does s l a b c = cw_oYear s := by
  unfold cw_does
  rw [if_neg h1, if_neg h2, if_neg h3, if_neg h4, if_neg h5, if_neg h6, if_neg h7, if_neg h8, if_neg h9, if_neg h10]
