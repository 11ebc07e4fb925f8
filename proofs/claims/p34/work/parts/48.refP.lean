theorem cw_tn_0 {r : Int32} (h : cw_md r 16 = 0) : cw_tl r = 111 ∧ cw_ta r = 1 + cw_md (r / 16) 9 ∧ cw_tb r = cw_md (r / 16 / 8) 20 ∧ cw_tc r = cw_md (r / 16 / 256) 20 := by
  exact ⟨by unfold cw_tl; simp only [h]; simp, by unfold cw_ta; simp only [h]; simp, by unfold cw_tb; simp only [h]; simp, by unfold cw_tc; simp only [h]; simp⟩
theorem cw_tn_1 {r : Int32} (h : cw_md r 16 = 1) : cw_tl r = 107 ∧ cw_ta r = cw_md (r / 16) 20 ∧ cw_tb r = 1 + cw_md (r / 16 / 32) 9 ∧ cw_tc r = cw_md (r / 16 / 256) 20 := by
  exact ⟨by unfold cw_tl; simp only [h]; simp, by unfold cw_ta; simp only [h]; simp, by unfold cw_tb; simp only [h]; simp, by unfold cw_tc; simp only [h]; simp⟩
theorem cw_tn_2 {r : Int32} (h : cw_md r 16 = 2) : cw_tl r = 115 ∧ cw_ta r = cw_md (r / 16) 20 ∧ cw_tb r = cw_md (r / 16 / 32) 2 ∧ cw_tc r = cw_md (r / 16 / 256) 20 := by
  exact ⟨by unfold cw_tl; simp only [h]; simp, by unfold cw_ta; simp only [h]; simp, by unfold cw_tb; simp only [h]; simp, by unfold cw_tc; simp only [h]; simp⟩
theorem cw_tn_9 {r : Int32} (h : cw_md r 16 = 9) : cw_tl r = 101 ∧ cw_ta r = cw_md (r / 16) 6 ∧ cw_tb r = cw_md (r / 16 / 8) 20 ∧ cw_tc r = cw_md (r / 16 / 256) 20 := by
  exact ⟨by unfold cw_tl; simp only [h]; simp, by unfold cw_ta; simp only [h]; simp, by unfold cw_tb; simp only [h]; simp, by unfold cw_tc; simp only [h]; simp⟩
theorem cw_tn_10 {r : Int32} (h : cw_md r 16 = 10) : cw_tl r = 114 ∧ cw_ta r = cw_md (r / 16) 6 ∧ cw_tb r = cw_md (r / 16 / 8) 20 ∧ cw_tc r = cw_md (r / 16 / 256) 20 := by
  exact ⟨by unfold cw_tl; simp only [h]; simp, by unfold cw_ta; simp only [h]; simp, by unfold cw_tb; simp only [h]; simp, by unfold cw_tc; simp only [h]; simp⟩
theorem cw_tn_11 {r : Int32} (h : cw_md r 16 = 11) : cw_tl r = 102 ∧ cw_ta r = cw_md (r / 16) 6 ∧ cw_tb r = cw_md (r / 16 / 8) 20 ∧ cw_tc r = cw_md (r / 16 / 256) 20 := by
  exact ⟨by unfold cw_tl; simp only [h]; simp, by unfold cw_ta; simp only [h]; simp, by unfold cw_tb; simp only [h]; simp, by unfold cw_tc; simp only [h]; simp⟩
theorem cw_tn_12 {r : Int32} (h : cw_md r 16 = 12) : cw_tl r = 102 ∧ cw_ta r = cw_md (r / 16) 6 ∧ cw_tb r = cw_md (r / 16 / 8) 20 ∧ cw_tc r = cw_md (r / 16 / 256) 20 := by
  exact ⟨by unfold cw_tl; simp only [h]; simp, by unfold cw_ta; simp only [h]; simp, by unfold cw_tb; simp only [h]; simp, by unfold cw_tc; simp only [h]; simp⟩
theorem cw_tn_13 {r : Int32} (h : cw_md r 16 = 13) : cw_tl r = 97 ∧ cw_ta r = cw_md (r / 16) 8 ∧ cw_tb r = cw_md (r / 16 / 8) 20 ∧ cw_tc r = cw_md (r / 16 / 256) 20 := by
  exact ⟨by unfold cw_tl; simp only [h]; simp, by unfold cw_ta; simp only [h]; simp, by unfold cw_tb; simp only [h]; simp, by unfold cw_tc; simp only [h]; simp⟩
theorem cw_tn_14 {r : Int32} (h : cw_md r 16 = 14) : cw_tl r = 117 ∧ cw_ta r = 1 + cw_md (r / 16) 999 ∧ cw_tb r = cw_md (r / 16 / 8) 20 ∧ cw_tc r = cw_md (r / 16 / 256) 20 := by
  exact ⟨by unfold cw_tl; simp only [h]; simp, by unfold cw_ta; simp only [h]; simp, by unfold cw_tb; simp only [h]; simp, by unfold cw_tc; simp only [h]; simp⟩
theorem cw_tn_d {r : Int32} (h : (cw_md r 16).toInt < 0 ∨ 14 < (cw_md r 16).toInt) : cw_tl r = 121 ∧ cw_ta r = cw_md (r / 16) 6 ∧ cw_tb r = cw_md (r / 16 / 8) 20 ∧ cw_tc r = cw_md (r / 16 / 256) 20 := by
  have e : ∀ v : Int32, 0 ≤ v.toInt → v.toInt ≤ 14 → ¬ cw_md r 16 = v := fun v h1 h2 q => by rw [q] at h; omega
  have n0 := e 0 (by decide) (by decide)
  have n1 := e 1 (by decide) (by decide)
  have n2 := e 2 (by decide) (by decide)
  have n3 := e 3 (by decide) (by decide)
  have n4 := e 4 (by decide) (by decide)
  have n5 := e 5 (by decide) (by decide)
  have n6 := e 6 (by decide) (by decide)
  have n7 := e 7 (by decide) (by decide)
  have n8 := e 8 (by decide) (by decide)
  have n9 := e 9 (by decide) (by decide)
  have n10 := e 10 (by decide) (by decide)
  have n11 := e 11 (by decide) (by decide)
  have n12 := e 12 (by decide) (by decide)
  have n13 := e 13 (by decide) (by decide)
  have n14 := e 14 (by decide) (by decide)
  exact ⟨by unfold cw_tl; simp [n0, n1, n2, n3, n4, n5, n6, n7, n8, n9, n10, n11, n12, n13, n14], by unfold cw_ta; simp [n0, n1, n2, n3, n4, n5, n6, n7, n8, n9, n10, n11, n12, n13, n14], by unfold cw_tb; simp [n0, n1, n2, n3, n4, n5, n6, n7, n8, n9, n10, n11, n12, n13, n14], by unfold cw_tc; simp [n0, n1, n2, n3, n4, n5, n6, n7, n8, n9, n10, n11, n12, n13, n14]⟩
theorem cw_tn_3 {r : Int32} (h : cw_md r 16 = 3) : cw_tl r = 116 ∧ cw_ta r = cw_md (r / 16) 6 ∧ cw_tb r = cw_md (r / 16 / 8) 20 ∧ cw_tc r = cw_md (r / 16 / 256) 20 := by
  exact ⟨by unfold cw_tl; simp only [h]; simp, by unfold cw_ta; simp only [h]; simp, by unfold cw_tb; simp only [h]; simp, by unfold cw_tc; simp only [h]; simp⟩
theorem cw_tn_4 {r : Int32} (h : cw_md r 16 = 4) : cw_tl r = 116 ∧ cw_ta r = cw_md (r / 16) 6 ∧ cw_tb r = cw_md (r / 16 / 8) 20 ∧ cw_tc r = cw_md (r / 16 / 256) 20 := by
  exact ⟨by unfold cw_tl; simp only [h]; simp, by unfold cw_ta; simp only [h]; simp, by unfold cw_tb; simp only [h]; simp, by unfold cw_tc; simp only [h]; simp⟩
theorem cw_tn_5 {r : Int32} (h : cw_md r 16 = 5) : cw_tl r = 116 ∧ cw_ta r = cw_md (r / 16) 6 ∧ cw_tb r = cw_md (r / 16 / 8) 20 ∧ cw_tc r = cw_md (r / 16 / 256) 20 := by
  exact ⟨by unfold cw_tl; simp only [h]; simp, by unfold cw_ta; simp only [h]; simp, by unfold cw_tb; simp only [h]; simp, by unfold cw_tc; simp only [h]; simp⟩
theorem cw_tn_6 {r : Int32} (h : cw_md r 16 = 6) : cw_tl r = 116 ∧ cw_ta r = cw_md (r / 16) 6 ∧ cw_tb r = cw_md (r / 16 / 8) 20 ∧ cw_tc r = cw_md (r / 16 / 256) 20 := by
  exact ⟨by unfold cw_tl; simp only [h]; simp, by unfold cw_ta; simp only [h]; simp, by unfold cw_tb; simp only [h]; simp, by unfold cw_tc; simp only [h]; simp⟩
theorem cw_tn_7 {r : Int32} (h : cw_md r 16 = 7) : cw_tl r = 98 ∧ cw_ta r = cw_md (r / 16) 6 ∧ cw_tb r = cw_md (r / 16 / 8) 20 ∧ cw_tc r = cw_md (r / 16 / 256) 21 := by
  exact ⟨by unfold cw_tl; simp only [h]; simp, by unfold cw_ta; simp only [h]; simp, by unfold cw_tb; simp only [h]; simp, by unfold cw_tc; simp only [h]; simp⟩
theorem cw_tn_8 {r : Int32} (h : cw_md r 16 = 8) : cw_tl r = 98 ∧ cw_ta r = cw_md (r / 16) 6 ∧ cw_tb r = cw_md (r / 16 / 8) 20 ∧ cw_tc r = cw_md (r / 16 / 256) 21 := by
  exact ⟨by unfold cw_tl; simp only [h]; simp, by unfold cw_ta; simp only [h]; simp, by unfold cw_tb; simp only [h]; simp, by unfold cw_tc; simp only [h]; simp⟩
