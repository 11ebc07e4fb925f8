/-! NUMBERS READ BY THE CLASS AND BY THE REFERENCE -/
def cw_ch (tx : Nat → Int32) (len : Nat) : Prop := ∀ i, i < len → cw_r 0 255 (tx i)
theorem cw_nsub {a b : Nat} (h : b ≤ a) (ha : a < 1000) : nI a - nI b = nI (a - b) := by
  apply Int32.toInt_inj.mp
  rw [pk_sub_toInt (by omega) (by omega), cw_ni (by omega)]; omega
theorem cw_bad_iff {op a b V c : Nat} (hop : op ≤ 100) (h1 : 1 ≤ op) (ha : a ≤ 999) (hb : b ≤ 999) (hV : V ≤ 99) (hc : c ≤ 255) : cw_bad (nI a) (nI b) (nI op) (nI c - 48) (nI V * 10 + (nI c - 48)) ↔ ¬ (48 ≤ c ∧ c ≤ 57 ∧ (10 * V + (c - 48)) * op ≤ b ∧ a ≤ (10 * V + (c - 48)) * op + op - 1) := by
  have z48 : (48 : Int32) = nI 48 := rfl
  have z10 : (10 : Int32) = nI 10 := rfl
  have z9 : (9 : Int32).toInt = 9 := rfl
  have z0 : (0 : Int32).toInt = 0 := rfl
  have ed : (nI c - 48).toInt = (c : Int) - 48 := by rw [z48]; exact pk_sub_toInt (by omega) (by omega)
  by_cases q : 48 ≤ c ∧ c ≤ 57
  · have e1 : nI c - 48 = nI (c - 48) := by rw [z48]; exact cw_nsub q.1 (by omega)
    have e2 : nI V * 10 + nI (c - 48) = nI (10 * V + (c - 48)) := by rw [z10, pk_mul, nI_add, Nat.mul_comm]
    have hm : (10 * V + (c - 48)) * op ≤ 999 * 100 := Nat.mul_le_mul (by omega) hop
    have h7 : 1 ≤ (10 * V + (c - 48)) * op + op := by omega
    have e4 : nI ((10 * V + (c - 48)) * op + op) - 1 = nI ((10 * V + (c - 48)) * op + op - 1) := by
      apply Int32.toInt_inj.mp
      rw [show (1 : Int32) = nI 1 from rfl, pk_sub_toInt (by omega) (by omega), nI_toInt (by omega)]; omega
    unfold cw_bad
    rw [e1, e2, pk_mul, nI_add, e4, cw_lt, cw_lt, cw_lt, cw_lt, cw_ni (show c - 48 < 1000 by omega), z0, z9, cw_ni (show b < 1000 by omega), cw_ni (show a < 1000 by omega), nI_toInt (by omega), nI_toInt (by omega)]
    omega
  · constructor
    · exact fun _ z => q ⟨z.1, z.2.1⟩
    · intro _
      unfold cw_bad
      by_cases r : 48 ≤ c
      · exact Or.inr (Or.inl (by rw [cw_lt, ed, z9]; omega))
      · exact Or.inl (by rw [cw_lt, ed, z0]; omega)
/-- a digit: the class's checks are the reference's bounds -/
theorem cw_dig {tx : Nat → Int32} {len : Nat} (hx : cw_ch tx len) {g : cw_sg} (hg : g.1 = false) {op a b V lo hi : Nat} (hop : op ≤ 100) (h1 : 1 ≤ op) (ha : a ≤ 999) (hb : b ≤ 999) (hV : V ≤ 99) (hh : hi ≤ 9) (hl : lo ≤ 9)
    (he : ∀ e, e ≤ 9 → ((10 * V + e) * op ≤ b ∧ a ≤ (10 * V + e) * op + op - 1 ↔ lo ≤ e ∧ e ≤ hi)) :
    (∃ e, lo ≤ e ∧ e ≤ hi ∧ cw_take tx len (nI (48 + lo)) (nI (48 + hi)) g = (nI (e - lo), (false, g.2 + 1)) ∧ ¬ cw_bad (nI a) (nI b) (nI op) (cw_sgn tx len g.2 - 48) (nI V * 10 + (cw_sgn tx len g.2 - 48)) ∧ nI V * 10 + (cw_sgn tx len g.2 - 48) = nI (10 * V + e)) ∨
    (cw_take tx len (nI (48 + lo)) (nI (48 + hi)) g = (0, (true, g.2)) ∧ cw_bad (nI a) (nI b) (nI op) (cw_sgn tx len g.2 - 48) (nI V * 10 + (cw_sgn tx len g.2 - 48))) := by
  by_cases hp : g.2 < len
  · obtain ⟨c, -, hc, ec⟩ := hx g.2 hp
    have es : cw_sgn tx len g.2 = nI c := by rw [cw_sgn, cw_it hp, ec]
    have hbad := cw_bad_iff hop h1 ha hb hV hc
    have his : cw_is tx len (nI (48 + lo)) (nI (48 + hi)) g ↔ 48 + lo ≤ c ∧ c ≤ 48 + hi := by
      unfold cw_is
      rw [ec, cw_nle (by omega) (by omega), cw_nle (by omega) (by omega)]
      exact ⟨fun z => z.2.2, fun z => ⟨hg, hp, z⟩⟩
    rw [es]
    by_cases q : 48 + lo ≤ c ∧ c ≤ 48 + hi
    · have z48 : (48 : Int32) = nI 48 := rfl
      have z10 : (10 : Int32) = nI 10 := rfl
      refine Or.inl ⟨c - 48, by omega, by omega, ?_, ?_, ?_⟩
      · unfold cw_take
        rw [cw_it (his.mpr q), ec, cw_nsub (by omega) (by omega), show c - (48 + lo) = c - 48 - lo by omega]
      · rw [hbad]
        refine fun z => z ⟨by omega, by omega, ?_⟩
        exact (he (c - 48) (by omega)).mpr ⟨by omega, by omega⟩
      · rw [z48, cw_nsub (by omega) (by omega), z10, pk_mul, nI_add, Nat.mul_comm]
    · refine Or.inr ⟨?_, ?_⟩
      · unfold cw_take
        rw [cw_ie (fun z => q (his.mp z))]
      · rw [hbad]
        intro z
        have := (he (c - 48) (by omega)).mp z.2.2
        omega
  · refine Or.inr ⟨?_, ?_⟩
    · unfold cw_take
      rw [cw_ie (fun z => hp z.2.1)]
    · exact Classical.byContradiction (fun z => hp (cw_bad_lt z))
theorem cw_tf : ¬ (true = false) := by decide
theorem cw_take_w (tx : Nat → Int32) (len : Nat) (lo hi : Int32) (p : Nat) : cw_take tx len lo hi (true, p) = (0, (true, p)) := by
  unfold cw_take
  rw [cw_ie (fun z => cw_tf z.1)]

theorem cw_num_s {tx : Nat → Int32} {len : Nat} {least most : Int32} {D i : Nat} {g : cw_sg} {x : cw_sg × Int32} (h : cw_num tx len least most D g i = x) : cw_num tx len least most D g (i + 1) = cw_if (x.1.1 = false) (cw_if (cw_bad least most (nI (10 ^ (D - (i + 1)))) (cw_sgn tx len x.1.2 - 48) (x.2 * 10 + (cw_sgn tx len x.1.2 - 48))) ((true, x.1.2), x.2 * 10 + (cw_sgn tx len x.1.2 - 48)) ((false, x.1.2 + 1), x.2 * 10 + (cw_sgn tx len x.1.2 - 48))) x := by
  rw [cw_num_1, h]
theorem cw_num_0 (tx : Nat → Int32) (len : Nat) (least most : Int32) (D : Nat) (g : cw_sg) : cw_num tx len least most D g 0 = (g, 0) := rfl
theorem cw_num_t {tx : Nat → Int32} {len : Nat} {least most : Int32} {D i p : Nat} {g : cw_sg} {v : Int32} (h : cw_num tx len least most D g i = ((true, p), v)) : cw_num tx len least most D g (i + 1) = ((true, p), v) := by
  rw [cw_num_s h, cw_ie cw_tf]
/-- one digit more of a number -/
theorem cw_dig2 {tx : Nat → Int32} {len : Nat} (hx : cw_ch tx len) {D i p : Nat} {g : cw_sg} {a b V lo hi : Nat} (hop : D - (i + 1) ≤ 2) (ha : a ≤ 999) (hb : b ≤ 999) (hV : V ≤ 99) (hh : hi ≤ 9) (hl : lo ≤ 9)
    (h : cw_num tx len (nI a) (nI b) D g i = ((false, p), nI V))
    (he : ∀ e, e ≤ 9 → ((10 * V + e) * 10 ^ (D - (i + 1)) ≤ b ∧ a ≤ (10 * V + e) * 10 ^ (D - (i + 1)) + 10 ^ (D - (i + 1)) - 1 ↔ lo ≤ e ∧ e ≤ hi)) :
    (∃ e, lo ≤ e ∧ e ≤ hi ∧ cw_take tx len (nI (48 + lo)) (nI (48 + hi)) (false, p) = (nI (e - lo), (false, p + 1)) ∧ cw_num tx len (nI a) (nI b) D g (i + 1) = ((false, p + 1), nI (10 * V + e))) ∨
    (cw_take tx len (nI (48 + lo)) (nI (48 + hi)) (false, p) = (0, (true, p)) ∧ ∃ v, cw_num tx len (nI a) (nI b) D g (i + 1) = ((true, p), v)) := by
  have hp10 : 10 ^ (D - (i + 1)) ≤ 100 ∧ 1 ≤ 10 ^ (D - (i + 1)) := by
    generalize D - (i + 1) = k at hop
    have : k = 0 ∨ k = 1 ∨ k = 2 := by omega
    rcases this with rfl | rfl | rfl <;> decide
  have hs := cw_num_s h
  rcases cw_dig hx (g := (false, p)) rfl hp10.1 hp10.2 ha hb hV hh hl he with ⟨e, e1, e2, e3, e4, e5⟩ | ⟨e3, e4⟩
  · refine Or.inl ⟨e, e1, e2, e3, ?_⟩
    rw [hs, cw_it rfl, cw_ie e4]
    show ((false, p + 1), _) = _
    rw [e5]
  · exact Or.inr ⟨e3, _, by rw [hs, cw_it rfl, cw_it e4]⟩
theorem cw_num1 {tx : Nat → Int32} {len : Nat} (hx : cw_ch tx len) (g : cw_sg) {a b : Nat} (hb : b ≤ 9) (ha : a ≤ 9) :
    (cw_num tx len (nI a) (nI b) 1 g 1).1 = (cw_take tx len (nI (48 + a)) (nI (48 + b)) g).2 ∧ ((cw_take tx len (nI (48 + a)) (nI (48 + b)) g).2.1 = false → (cw_num tx len (nI a) (nI b) 1 g 1).2 = nI a + (cw_take tx len (nI (48 + a)) (nI (48 + b)) g).1) := by
  obtain ⟨gw, p⟩ := g
  cases gw with
  | true => rw [cw_num_t (cw_num_0 _ _ _ _ _ _), cw_take_w]; exact ⟨rfl, fun z => absurd z cw_tf⟩
  | false =>
    rcases cw_dig2 hx (D := 1) (i := 0) (V := 0) (lo := a) (hi := b) (by omega) (by omega) (by omega) (by omega) hb ha (cw_num_0 tx len (nI a) (nI b) 1 (false, p)) (fun e he => by show (10 * 0 + e) * 1 ≤ b ∧ a ≤ (10 * 0 + e) * 1 + 1 - 1 ↔ _; omega) with ⟨e, e1, e2, e3, e4⟩ | ⟨e3, v, e4⟩
    · rw [e3, e4]; exact ⟨rfl, fun _ => by show nI (10 * 0 + e) = nI a + nI (e - a); rw [nI_add, show 10 * 0 + e = a + (e - a) by omega]⟩
    · rw [e3, e4]; exact ⟨rfl, fun z => absurd z cw_tf⟩
