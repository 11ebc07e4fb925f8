theorem cw_numW {tx : Nat → Int32} {len : Nat} (hx : cw_ch tx len) (g : cw_sg) : (cw_num tx len 0 19 2 g 2).1 = (cw_week tx len g).2 ∧ ((cw_week tx len g).2.1 = false → (cw_num tx len 0 19 2 g 2).2 = (cw_week tx len g).1) := by
  obtain ⟨gw, p⟩ := g
  cases gw with
  | true =>
    unfold cw_week
    rw [cw_num_t (cw_num_t (cw_num_0 _ _ _ _ _ _)), cw_take_w]
    simp only []
    rw [cw_take_w]
    exact ⟨rfl, fun z => absurd z cw_tf⟩
  | false =>
    rcases cw_dig2 hx (D := 2) (i := 0) (V := 0) (lo := 0) (hi := 1) (a := 0) (b := 19) (by omega) (by omega) (by omega) (by omega) (by omega) (by omega) (cw_num_0 tx len (nI 0) (nI 19) 2 (false, p)) (fun e he => by show (10 * 0 + e) * 10 ≤ 19 ∧ 0 ≤ (10 * 0 + e) * 10 + 10 - 1 ↔ _; omega) with ⟨e, e1, e2, e3, e4⟩ | ⟨e3, v, e4⟩
    · rcases cw_dig2 hx (D := 2) (i := 1) (V := 10 * 0 + e) (lo := 0) (hi := 9) (a := 0) (b := 19) (by omega) (by omega) (by omega) (by omega) (by omega) (by omega) e4 (fun f hf => by show (10 * (10 * 0 + e) + f) * 1 ≤ 19 ∧ 0 ≤ (10 * (10 * 0 + e) + f) * 1 + 1 - 1 ↔ _; omega) with ⟨f, f1, f2, f3, f4⟩ | ⟨f3, v, f4⟩
      · have a3 : cw_take tx len 48 49 (false, p) = (nI e, (false, p + 1)) := e3
        have b3 : cw_take tx len 48 57 (false, p + 1) = (nI f, (false, p + 1 + 1)) := f3
        have b4 : cw_num tx len 0 19 2 (false, p) 2 = ((false, p + 1 + 1), nI (10 * (10 * 0 + e) + f)) := f4
        unfold cw_week
        rw [b4, a3]
        simp only []
        rw [b3]
        exact ⟨rfl, fun _ => by show nI (10 * (10 * 0 + e) + f) = nI 10 * nI e + nI f; rw [pk_mul, nI_add, show 10 * (10 * 0 + e) + f = 10 * e + f by omega]⟩
      · have a3 : cw_take tx len 48 49 (false, p) = (nI e, (false, p + 1)) := e3
        have b3 : cw_take tx len 48 57 (false, p + 1) = (0, (true, p + 1)) := f3
        have b4 : cw_num tx len 0 19 2 (false, p) 2 = ((true, p + 1), v) := f4
        unfold cw_week
        rw [b4, a3]
        simp only []
        rw [b3]
        exact ⟨rfl, fun z => absurd z cw_tf⟩
    · have a3 : cw_take tx len 48 49 (false, p) = (0, (true, p)) := e3
      have b4 : cw_num tx len 0 19 2 (false, p) 2 = ((true, p), v) := cw_num_t e4
      unfold cw_week
      rw [b4, a3]
      simp only []
      rw [cw_take_w]
      exact ⟨rfl, fun z => absurd z cw_tf⟩
theorem cw_numE {tx : Nat → Int32} {len : Nat} (hx : cw_ch tx len) (g : cw_sg) : (cw_num tx len 0 20 2 g 2).1 = (cw_extra tx len g).2 ∧ ((cw_extra tx len g).2.1 = false → (cw_num tx len 0 20 2 g 2).2 = (cw_extra tx len g).1) := by
  obtain ⟨gw, p⟩ := g
  cases gw with
  | true =>
    unfold cw_extra
    rw [cw_num_t (cw_num_t (cw_num_0 _ _ _ _ _ _)), cw_take_w]
    simp only []
    rw [cw_take_w]
    exact ⟨rfl, fun z => absurd z cw_tf⟩
  | false =>
    rcases cw_dig2 hx (D := 2) (i := 0) (V := 0) (lo := 0) (hi := 2) (a := 0) (b := 20) (by omega) (by omega) (by omega) (by omega) (by omega) (by omega) (cw_num_0 tx len (nI 0) (nI 20) 2 (false, p)) (fun e he => by show (10 * 0 + e) * 10 ≤ 20 ∧ 0 ≤ (10 * 0 + e) * 10 + 10 - 1 ↔ _; omega) with ⟨e, e1, e2, e3, e4⟩ | ⟨e3, v, e4⟩
    · have hif : (if nI e = 2 then (48 : Int32) else 57) = nI (48 + (if e = 2 then 0 else 9)) := by
        have : e = 0 ∨ e = 1 ∨ e = 2 := by omega
        rcases this with rfl | rfl | rfl <;> decide
      rcases cw_dig2 hx (D := 2) (i := 1) (V := 10 * 0 + e) (lo := 0) (hi := if e = 2 then 0 else 9) (a := 0) (b := 20) (by omega) (by omega) (by omega) (by omega) (by split <;> omega) (by omega) e4 (fun f hf => by show (10 * (10 * 0 + e) + f) * 1 ≤ 20 ∧ 0 ≤ (10 * (10 * 0 + e) + f) * 1 + 1 - 1 ↔ _; split <;> omega) with ⟨f, f1, f2, f3, f4⟩ | ⟨f3, v, f4⟩
      · have a3 : cw_take tx len 48 50 (false, p) = (nI e, (false, p + 1)) := e3
        have b3 : cw_take tx len 48 (nI (48 + (if e = 2 then 0 else 9))) (false, p + 1) = (nI f, (false, p + 1 + 1)) := f3
        have b4 : cw_num tx len 0 20 2 (false, p) 2 = ((false, p + 1 + 1), nI (10 * (10 * 0 + e) + f)) := f4
        unfold cw_extra
        rw [b4, a3]
        simp only []
        rw [hif, b3]
        exact ⟨rfl, fun _ => by show nI (10 * (10 * 0 + e) + f) = nI 10 * nI e + nI f; rw [pk_mul, nI_add, show 10 * (10 * 0 + e) + f = 10 * e + f by omega]⟩
      · have a3 : cw_take tx len 48 50 (false, p) = (nI e, (false, p + 1)) := e3
        have b3 : cw_take tx len 48 (nI (48 + (if e = 2 then 0 else 9))) (false, p + 1) = (0, (true, p + 1)) := f3
        have b4 : cw_num tx len 0 20 2 (false, p) 2 = ((true, p + 1), v) := f4
        unfold cw_extra
        rw [b4, a3]
        simp only []
        rw [hif, b3]
        exact ⟨rfl, fun z => absurd z cw_tf⟩
    · have a3 : cw_take tx len 48 50 (false, p) = (0, (true, p)) := e3
      have b4 : cw_num tx len 0 20 2 (false, p) 2 = ((true, p), v) := cw_num_t e4
      unfold cw_extra
      rw [b4, a3]
      simp only []
      rw [cw_take_w]
      exact ⟨rfl, fun z => absurd z cw_tf⟩
theorem cw_coins_w {tx : Nat → Int32} {len p : Nat} {g : cw_sg} (h : (cw_take tx len 48 57 (cw_take tx len 48 57 g).2).2 = (true, p)) : (cw_coins tx len g).2 = (true, p) := by
  unfold cw_coins cw_two
  rw [h, cw_take_w, cw_take_w]
  split <;> rfl
theorem cw_numC {tx : Nat → Int32} {len : Nat} (hx : cw_ch tx len) (g : cw_sg) : (cw_num tx len 1 999 3 g 3).1 = (cw_coins tx len g).2 ∧ ((cw_coins tx len g).2.1 = false → (cw_num tx len 1 999 3 g 3).2 = (cw_coins tx len g).1) := by
  obtain ⟨gw, p⟩ := g
  have bad : ∀ {q : Nat} {v : Int32}, cw_num tx len 1 999 3 (gw, p) 3 = ((true, q), v) → (cw_coins tx len (gw, p)).2 = (true, q) → (cw_num tx len 1 999 3 (gw, p) 3).1 = (cw_coins tx len (gw, p)).2 ∧ ((cw_coins tx len (gw, p)).2.1 = false → (cw_num tx len 1 999 3 (gw, p) 3).2 = (cw_coins tx len (gw, p)).1) := fun h1 h2 => by
    rw [h1, h2]; exact ⟨rfl, fun z => absurd z cw_tf⟩
  cases gw with
  | true => exact bad (cw_num_t (cw_num_t (cw_num_t (cw_num_0 _ _ _ _ _ _)))) (cw_coins_w (by rw [cw_take_w, cw_take_w]))
  | false =>
    rcases cw_dig2 hx (D := 3) (i := 0) (V := 0) (lo := 0) (hi := 9) (a := 1) (b := 999) (by omega) (by omega) (by omega) (by omega) (by omega) (by omega) (cw_num_0 tx len (nI 1) (nI 999) 3 (false, p)) (fun e he => by show (10 * 0 + e) * 100 ≤ 999 ∧ 1 ≤ (10 * 0 + e) * 100 + 100 - 1 ↔ _; omega) with ⟨e, e1, e2, e3, e4⟩ | ⟨e3, v, e4⟩
    · have a3 : cw_take tx len 48 57 (false, p) = (nI e, (false, p + 1)) := e3
      rcases cw_dig2 hx (D := 3) (i := 1) (V := 10 * 0 + e) (lo := 0) (hi := 9) (a := 1) (b := 999) (by omega) (by omega) (by omega) (by omega) (by omega) (by omega) e4 (fun f hf => by show (10 * (10 * 0 + e) + f) * 10 ≤ 999 ∧ 1 ≤ (10 * (10 * 0 + e) + f) * 10 + 10 - 1 ↔ _; omega) with ⟨f, f1, f2, f3, f4⟩ | ⟨f3, v, f4⟩
      · have b3 : cw_take tx len 48 57 (false, p + 1) = (nI f, (false, p + 1 + 1)) := f3
        have hz : nI e + nI f = 0 ↔ e + f = 0 := by rw [nI_add, cw_z0, cw_ni (by omega)]; omega
        rcases cw_dig2 hx (D := 3) (i := 2) (V := 10 * (10 * 0 + e) + f) (lo := if e + f = 0 then 1 else 0) (hi := 9) (a := 1) (b := 999) (by omega) (by omega) (by omega) (by omega) (by omega) (by split <;> omega) f4 (fun d hd => by show (10 * (10 * (10 * 0 + e) + f) + d) * 1 ≤ 999 ∧ 1 ≤ (10 * (10 * (10 * 0 + e) + f) + d) * 1 + 1 - 1 ↔ _; split <;> omega) with ⟨d, d1, d2, d3, d4⟩ | ⟨d3, v, d4⟩
        · have c4 : cw_num tx len 1 999 3 (false, p) 3 = ((false, p + 1 + 1 + 1), nI (10 * (10 * (10 * 0 + e) + f) + d)) := d4
          unfold cw_coins cw_two
          rw [c4, a3]
          simp only []
          rw [b3]
          simp only []
          by_cases q : e + f = 0
          · rw [if_pos (hz.mpr q)]
            rw [if_pos q] at d1 d3
            have c3 : cw_take tx len 49 57 (false, p + 1 + 1) = (nI (d - 1), (false, p + 1 + 1 + 1)) := d3
            rw [c3]
            exact ⟨rfl, fun _ => by show nI (10 * (10 * (10 * 0 + e) + f) + d) = nI 1 + nI (d - 1); rw [nI_add, show 10 * (10 * (10 * 0 + e) + f) + d = 1 + (d - 1) by omega]⟩
          · rw [if_neg (fun z => q (hz.mp z))]
            rw [if_neg q] at d1 d3
            have c3 : cw_take tx len 48 57 (false, p + 1 + 1) = (nI d, (false, p + 1 + 1 + 1)) := d3
            rw [c3]
            exact ⟨rfl, fun _ => by show nI (10 * (10 * (10 * 0 + e) + f) + d) = nI 100 * nI e + nI 10 * nI f + nI d; rw [pk_mul, pk_mul, nI_add, nI_add, show 10 * (10 * (10 * 0 + e) + f) + d = 100 * e + 10 * f + d by omega]⟩
        · refine bad (q := p + 1 + 1) (v := v) d4 ?_
          unfold cw_coins cw_two
          rw [a3]
          simp only []
          rw [b3]
          simp only []
          by_cases q : e + f = 0
          · rw [if_pos (hz.mpr q)]
            rw [if_pos q] at d3
            have c3 : cw_take tx len 49 57 (false, p + 1 + 1) = (0, (true, p + 1 + 1)) := d3
            rw [c3]
          · rw [if_neg (fun z => q (hz.mp z))]
            rw [if_neg q] at d3
            have c3 : cw_take tx len 48 57 (false, p + 1 + 1) = (0, (true, p + 1 + 1)) := d3
            rw [c3]
      · have b3 : cw_take tx len 48 57 (false, p + 1) = (0, (true, p + 1)) := f3
        exact bad (q := p + 1) (v := v) (cw_num_t f4) (cw_coins_w (by rw [a3]; simp only []; rw [b3]))
    · have a3 : cw_take tx len 48 57 (false, p) = (0, (true, p)) := e3
      exact bad (q := p) (v := v) (cw_num_t (cw_num_t e4)) (cw_coins_w (by rw [a3]; simp only []; rw [cw_take_w]))
