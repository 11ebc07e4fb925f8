def cw_bg (a b : Nat) : cw_s := fun k => if 25 ≤ k ∧ k < 25 + 3 * a then (if (k - 25) % 3 = 0 then 3 else if (k - 25) % 3 = 1 then 0 else -1) else if 85 ≤ k ∧ k < 85 + b then -1 else 0
theorem cw_bg_w (a : Nat) (ha : a < 20) (k : Nat) (x : cw_s) (h : ∀ k, k < 242 → x k = cw_bg a 0 k) (hk : k < 242) : upd (upd x (25 + 3 * a + 0) 3) (25 + 3 * a + 2) (-1) k = cw_bg (a + 1) 0 k := by
  unfold upd
  by_cases c2 : k = 25 + 3 * a + 2
  · rw [if_pos c2]; unfold cw_bg; rw [if_pos (by omega), if_neg (by omega), if_neg (by omega)]
  rw [if_neg c2]
  by_cases c0 : k = 25 + 3 * a + 0
  · rw [if_pos c0]; unfold cw_bg; rw [if_pos (by omega), if_pos (by omega)]
  rw [if_neg c0, h k hk]
  unfold cw_bg
  by_cases c : 25 ≤ k ∧ k < 25 + 3 * a
  · rw [if_pos c, if_pos (show 25 ≤ k ∧ k < 25 + 3 * (a + 1) by omega)]
  · rw [if_neg c, if_neg (show ¬ (85 ≤ k ∧ k < 85 + 0) by omega)]
    by_cases d : k = 25 + 3 * a + 1
    · rw [if_pos (show 25 ≤ k ∧ k < 25 + 3 * (a + 1) by omega), if_neg (by omega), if_pos (by omega)]
    · rw [if_neg (show ¬ (25 ≤ k ∧ k < 25 + 3 * (a + 1)) by omega)]
theorem cw_bg_b (b : Nat) (hb : b < 120) (k : Nat) (x : cw_s) (h : ∀ k, k < 242 → x k = cw_bg 20 b k) (hk : k < 242) : upd x (85 + b) (-1) k = cw_bg 20 (b + 1) k := by
  unfold upd
  by_cases c : k = 85 + b
  · rw [if_pos c]; unfold cw_bg; rw [if_neg (by omega), if_pos (by omega)]
  · rw [if_neg c, h k hk]; unfold cw_bg
    by_cases d : 25 ≤ k ∧ k < 25 + 3 * 20
    · rw [if_pos d, if_pos d]
    · rw [if_neg d, if_neg d]
      by_cases e : 85 ≤ k ∧ k < 85 + b
      · rw [if_pos e, if_pos (by omega)]
      · rw [if_neg e, if_neg (by omega)]
theorem cw_bg_new (x : cw_s) (h : ∀ k, k < 242 → x k = cw_bg 20 120 k) : cw_nf (upd (upd (upd x 231 4) 232 5) 233 3) = cw_new := by
  have e : ∀ k, k < 242 → upd (upd (upd x 231 4) 232 5) 233 3 k = cw_new k := fun k hk => by
    unfold upd
    by_cases c3 : k = 233
    · rw [if_pos c3, c3]; rfl
    by_cases c2 : k = 232
    · rw [if_neg c3, if_pos c2, c2]; rfl
    by_cases c1 : k = 231
    · rw [if_neg c3, if_neg c2, if_pos c1, c1]; rfl
    rw [if_neg c3, if_neg c2, if_neg c1, h k hk]
    unfold cw_bg cw_new
    by_cases d : 25 ≤ k ∧ k < 85
    · rw [if_pos (by omega), if_pos d]
    · rw [if_neg (by omega), if_neg d]
      by_cases f : 85 ≤ k ∧ k < 205
      · rw [if_pos (by omega), if_pos f]
      · rw [if_neg (by omega), if_neg f, if_neg c1, if_neg c2, if_neg c3]
  funext p
  have e5 : upd (upd (upd x 231 4) 232 5) 233 3 205 = 0 := by rw [e 205 (by decide)]; rfl
  unfold cw_nf
  rw [e5]
  by_cases c : p < 242 ∧ ¬ (206 + 3 * cw_x 0 ≤ p ∧ p < 230)
  · rw [if_pos c]; exact e p c.1
  · rw [if_neg c]
    have z : cw_x 0 = 0 := rfl
    rw [z] at c
    unfold cw_new
    rw [if_neg (by omega), if_neg (by omega), if_neg (by omega), if_neg (by omega), if_neg (by omega)]
def cw_sh (T : cw_s) (a i : Nat) : cw_s := fun p => if a ≤ p ∧ p < i then T (p + 3) else T p
theorem cw_sh_1 (T : cw_s) (a i : Nat) (h : a ≤ i) : upd (cw_sh T a i) i (cw_sh T a i (i + 3)) = cw_sh T a (i + 1) := by
  funext p; unfold upd cw_sh
  by_cases c : p = i
  · rw [if_pos c, if_neg (by omega), if_pos (by omega), c]
  · rw [if_neg c]
    by_cases d : a ≤ p ∧ p < i
    · rw [if_pos d, if_pos (by omega)]
    · rw [if_neg d, if_neg (by omega)]
theorem cw_sh_0 (T : cw_s) (a : Nat) : cw_sh T a a = T := by funext p; unfold cw_sh; rw [if_neg (by omega)]

theorem cw_start (s : cw_s) (k : Nat) : (-1 : Int32) = cw_if (cw_open s k) (cw_fold (fun j x => cw_if (cw_canWin s j k ∧ (x = -1 ∨ cw_better s j (cw_x x) k)) (nI j) x) 0 0 (-1)) (-1) := by
  by_cases q : cw_open s k
  · rw [cw_it q]; rfl
  · rw [cw_ie q]
