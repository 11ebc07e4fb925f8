def cw_K (tx : Nat → Int32) (len : Nat) (g : cw_sg) (c : Nat) (v : Int32) (w w1 : gw_M) : Prop := cw_TS tx len g w1 ∧ w1 0 5 = nI (c + 1) ∧ w1 1 = w 1 ∧ (∀ k, k ≠ c → w1 2 k = w 2 k) ∧ (g.1 = false → w1 2 c = v)
theorem cw_Kn {tx : Nat → Int32} {len : Nat} {g g2 : cw_sg} {c : Nat} {v v2 : Int32} {w w1 : gw_M} (a : cw_TS tx len g w1) (b : w1 0 5 = nI (c + 1)) (d : w1 2 = upd (w 2) c v) (e : w1 1 = w 1) (hg : g = g2) (hv : g2.1 = false → v = v2) : cw_K tx len g2 c v2 w w1 := by
  subst hg
  exact ⟨a, b, e, fun k hk => by rw [d, cw_upn _ _ hk], fun z => by rw [d, cw_ups, hv z]⟩
theorem cw_sign_1 {tx : Nat → Int32} {len : Nat} {g : cw_sg} (hg : g.1 = false) (h : cw_sgn tx len g.2 = 43) : cw_plus tx len g ∧ cw_sign tx len g = (false, g.2 + 1) := by
  have hp : g.2 < len := Classical.byContradiction (fun q => by rw [cw_sgn, cw_ie q] at h; exact absurd h (by decide))
  rw [cw_sgn, cw_it hp] at h
  refine ⟨⟨hp, h⟩, ?_⟩
  unfold cw_sign cw_take
  rw [cw_it ⟨hp, h⟩, cw_it ⟨hg, hp, by rw [h]; decide, by rw [h]; decide⟩]
theorem cw_sign_2 {tx : Nat → Int32} {len : Nat} {g : cw_sg} (hg : g.1 = false) (h : cw_sgn tx len g.2 = 45) : ¬ cw_plus tx len g ∧ cw_sign tx len g = (false, g.2 + 1) := by
  have hp : g.2 < len := Classical.byContradiction (fun q => by rw [cw_sgn, cw_ie q] at h; exact absurd h (by decide))
  rw [cw_sgn, cw_it hp] at h
  have hn : ¬ cw_plus tx len g := fun q => by rw [q.2] at h; exact absurd h (by decide)
  refine ⟨hn, ?_⟩
  unfold cw_sign cw_take
  rw [cw_ie hn, cw_it ⟨hg, hp, by rw [h]; decide, by rw [h]; decide⟩]
theorem cw_sign_3 {tx : Nat → Int32} {len : Nat} {g : cw_sg} (h1 : ¬ cw_sgn tx len g.2 = 43) (h2 : ¬ cw_sgn tx len g.2 = 45) : cw_sign tx len g = (true, g.2) := by
  have hn : ¬ cw_plus tx len g := fun q => h1 (by rw [cw_sgn, cw_it q.1, q.2])
  unfold cw_sign cw_take
  rw [cw_ie hn, cw_ie (fun q => h2 ?_)]
  rw [cw_sgn, cw_it q.2.1]
  have z1 := cw_le.mp q.2.2.1
  have z2 := cw_le.mp q.2.2.2
  apply Int32.toInt_inj.mp
  omega
theorem cw_sign_w {tx : Nat → Int32} {len : Nat} {g : cw_sg} (hg : ¬ g.1 = false) : cw_sign tx len g = g := by
  obtain ⟨gw, p⟩ := g
  cases gw with
  | false => exact absurd rfl hg
  | true =>
    unfold cw_sign
    rw [cw_take_w, cw_take_w]
    by_cases q : cw_plus tx len (true, p)
    · rw [cw_it q]
    · rw [cw_ie q]
