theorem cw_01n {x : Int32} (h : cw_r 0 1 x) (hn : ¬ x = 1) : 0 = x := by
  obtain ⟨k, -, h1, rfl⟩ := h
  have : k = 0 ∨ k = 1 := by omega
  rcases this with rfl | rfl
  · rfl
  · exact absurd rfl hn
