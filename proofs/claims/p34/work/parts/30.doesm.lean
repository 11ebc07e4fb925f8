/-! COMMANDS: what counts of the house decides them, and it stays well -/
theorem cw_does_111 (s : cw_s) (a b c : Int32) : cw_does s 111 a b c = cw_oOwner s a := by
  unfold cw_does
  rw [if_pos rfl]
theorem cw_does_107 (s : cw_s) (a b c : Int32) : cw_does s 107 a b c = cw_oCost s a b := by
  unfold cw_does
  rw [if_neg (show ¬ (107 : Int32) = 111 by decide), if_pos rfl]
theorem cw_does_115 (s : cw_s) (a b c : Int32) : cw_does s 115 a b c = (s (25 + 3 * cw_x a + 1), upd s (25 + 3 * cw_x a + 1) b) := by
  unfold cw_does
  rw [if_neg (show ¬ (115 : Int32) = 111 by decide), if_neg (show ¬ (115 : Int32) = 107 by decide), if_pos rfl]
theorem cw_does_116 (s : cw_s) (a b c : Int32) : cw_does s 116 a b c = cw_oTake s a b := by
  unfold cw_does
  rw [if_neg (show ¬ (116 : Int32) = 111 by decide), if_neg (show ¬ (116 : Int32) = 107 by decide), if_neg (show ¬ (116 : Int32) = 115 by decide), if_pos rfl]
theorem cw_does_98 (s : cw_s) (a b c : Int32) : cw_does s 98 a b c = cw_oBid s a b c := by
  unfold cw_does
  rw [if_neg (show ¬ (98 : Int32) = 111 by decide), if_neg (show ¬ (98 : Int32) = 107 by decide), if_neg (show ¬ (98 : Int32) = 115 by decide), if_neg (show ¬ (98 : Int32) = 116 by decide), if_pos rfl]
theorem cw_does_101 (s : cw_s) (a b c : Int32) : cw_does s 101 a b c = cw_settles s := by
  unfold cw_does
  rw [if_neg (show ¬ (101 : Int32) = 111 by decide), if_neg (show ¬ (101 : Int32) = 107 by decide), if_neg (show ¬ (101 : Int32) = 115 by decide), if_neg (show ¬ (101 : Int32) = 116 by decide), if_neg (show ¬ (101 : Int32) = 98 by decide), if_pos rfl]
theorem cw_does_114 (s : cw_s) (a b c : Int32) : cw_does s 114 a b c = cw_oRelease s a b := by
  unfold cw_does
  rw [if_neg (show ¬ (114 : Int32) = 111 by decide), if_neg (show ¬ (114 : Int32) = 107 by decide), if_neg (show ¬ (114 : Int32) = 115 by decide), if_neg (show ¬ (114 : Int32) = 116 by decide), if_neg (show ¬ (114 : Int32) = 98 by decide), if_neg (show ¬ (114 : Int32) = 101 by decide), if_pos rfl]
theorem cw_does_102 (s : cw_s) (a b c : Int32) : cw_does s 102 a b c = cw_oOffer s a b c := by
  unfold cw_does
  rw [if_neg (show ¬ (102 : Int32) = 111 by decide), if_neg (show ¬ (102 : Int32) = 107 by decide), if_neg (show ¬ (102 : Int32) = 115 by decide), if_neg (show ¬ (102 : Int32) = 116 by decide), if_neg (show ¬ (102 : Int32) = 98 by decide), if_neg (show ¬ (102 : Int32) = 101 by decide), if_neg (show ¬ (102 : Int32) = 114 by decide), if_pos rfl]
theorem cw_does_97 (s : cw_s) (a b c : Int32) : cw_does s 97 a b c = cw_oAccept s a := by
  unfold cw_does
  rw [if_neg (show ¬ (97 : Int32) = 111 by decide), if_neg (show ¬ (97 : Int32) = 107 by decide), if_neg (show ¬ (97 : Int32) = 115 by decide), if_neg (show ¬ (97 : Int32) = 116 by decide), if_neg (show ¬ (97 : Int32) = 98 by decide), if_neg (show ¬ (97 : Int32) = 101 by decide), if_neg (show ¬ (97 : Int32) = 114 by decide), if_neg (show ¬ (97 : Int32) = 102 by decide), if_pos rfl]
theorem cw_does_117 (s : cw_s) (a b c : Int32) : cw_does s 117 a b c = cw_oUpkeep s a := by
  unfold cw_does
  rw [if_neg (show ¬ (117 : Int32) = 111 by decide), if_neg (show ¬ (117 : Int32) = 107 by decide), if_neg (show ¬ (117 : Int32) = 115 by decide), if_neg (show ¬ (117 : Int32) = 116 by decide), if_neg (show ¬ (117 : Int32) = 98 by decide), if_neg (show ¬ (117 : Int32) = 101 by decide), if_neg (show ¬ (117 : Int32) = 114 by decide), if_neg (show ¬ (117 : Int32) = 102 by decide), if_neg (show ¬ (117 : Int32) = 97 by decide), if_pos rfl]

abbrev cw_eq (s' s : cw_s) : Prop := cw_nf s' = cw_nf s
theorem cw_rd {s' s : cw_s} (e : cw_eq s' s) {p : Nat} (h1 : p < 206 ∨ 230 ≤ p) (h2 : p < 242) : s' p = s p := by
  rw [← cw_nf_rd s' h1 h2, e, cw_nf_rd s h1 h2]
theorem cw_up {s' s : cw_s} (e : cw_eq s' s) {p : Nat} (x : Int32) (h1 : p < 205 ∨ 230 ≤ p) (h2 : p < 242) : cw_eq (upd s' p x) (upd s p x) := by
  show cw_nf _ = cw_nf _
  rw [cw_nf_upd s' x h1 h2, cw_nf_upd s x h1 h2, e]
theorem cw_fold_rel {α β : Type} (r : α → β → Prop) (f : Nat → α → α) (g : Nat → β → β) (N : Nat) (hs : ∀ j x y, j < N → r x y → r (f j x) (g j y)) {x : α} {y : β} (h : r x y) : r (cw_fold f 0 N x) (cw_fold g 0 N y) := by
  induction N with
  | zero => exact h
  | succ N ih => rw [cw_fold0, cw_fold0]; exact hs N _ _ (Nat.lt_succ_self N) (ih (fun j x y hj => hs j x y (by omega)))
theorem cw_no_cg {s' s : cw_s} (e : cw_eq s' s) : cw_no s' = cw_no s := cw_no_eq (cw_rd e (by omega) (by omega))
theorem cw_held_cg {s' s : cw_s} (e : cw_eq s' s) (o : Int32) : cw_held s' o = cw_held s o :=
  cw_fold_congr 20 0 0 (fun j y _ h2 => by rw [cw_rd e (by omega) (by omega)])
theorem cw_hind_cg {s' s : cw_s} (e : cw_eq s' s) {j k : Nat} (hj : j < 6) (hk : k < 20) : cw_hind s' j k = cw_hind s j k := by
  unfold cw_hind
  rw [cw_rd e (p := 25 + 3 * k + 1) (by omega) (by omega), cw_rd e (p := 25 + 3 * k + 2) (by omega) (by omega), cw_held_cg e, cw_rd e (p := 233) (by omega) (by omega), cw_rd e (p := 1 + 4 * j + 1) (by omega) (by omega), cw_rd e (p := 25 + 3 * k + 0) (by omega) (by omega)]
theorem cw_gives_cg {s' s : cw_s} (e : cw_eq s' s) {j : Nat} (hj : j < 6) : cw_eq (cw_gives s' j) (cw_gives s j) := by
  unfold cw_gives
  rw [cw_rd e (p := 231) (by omega) (by omega), cw_rd e (p := 1 + 4 * j + 0) (by omega) (by omega), cw_rd e (p := 1 + 4 * j + 1) (by omega) (by omega)]
  have e1 := cw_up e (p := 1 + 4 * j + 1) (s (1 + 4 * j + 1) + s 231 * s (1 + 4 * j + 0)) (by omega) (by omega)
  simp only []
  rw [cw_rd e1 (p := 234) (by omega) (by omega)]
  exact cw_up e1 _ (by omega) (by omega)
theorem cw_spends_cg {s' s : cw_s} (e : cw_eq s' s) {j : Nat} (hj : j < 6) (p : Int32) : cw_eq (cw_spends s' j p) (cw_spends s j p) := by
  unfold cw_spends
  rw [cw_rd e (p := 1 + 4 * j + 1) (by omega) (by omega)]
  have e1 := cw_up e (p := 1 + 4 * j + 1) (s (1 + 4 * j + 1) - p) (by omega) (by omega)
  simp only []
  rw [cw_rd e1 (p := 235) (by omega) (by omega)]
  exact cw_up e1 _ (by omega) (by omega)
theorem cw_comes_cg {s' s : cw_s} (e : cw_eq s' s) {j : Nat} (hj : j < 6) (a : Int32) : cw_eq (cw_comes s' j a) (cw_comes s j a) := by
  unfold cw_comes
  simp only []
  rw [cw_rd e (p := 0) (by omega) (by omega)]
  exact cw_gives_cg (cw_up (cw_up (cw_up (cw_up (cw_up e _ (by omega) (by omega)) _ (by omega) (by omega)) _ (by omega) (by omega)) _ (by omega) (by omega)) _ (by omega) (by omega)) hj
theorem cw_releases_cg {s' s : cw_s} (e : cw_eq s' s) {j k : Nat} (hj : j < 6) (hk : k < 20) : cw_eq (cw_releases s' j k) (cw_releases s j k) := by
  unfold cw_releases
  rw [cw_rd e (p := 25 + 3 * k + 0) (by omega) (by omega), cw_rd e (p := 1 + 4 * j + 1) (by omega) (by omega)]
  have e1 := cw_up e (p := 1 + 4 * j + 1) (s (1 + 4 * j + 1) + s (25 + 3 * k + 0) / 2) (by omega) (by omega)
  simp only []
  rw [cw_rd e1 (p := 236) (by omega) (by omega)]
  exact cw_up (cw_up e1 _ (by omega) (by omega)) _ (by omega) (by omega)
theorem cw_takes_cg {s' s : cw_s} (e : cw_eq s' s) {j k : Nat} (hj : j < 6) (hk : k < 20) : cw_eq (cw_takes s' j k) (cw_takes s j k) := by
  unfold cw_takes
  rw [cw_hind_cg e hj hk, cw_rd e (p := 25 + 3 * k + 0) (by omega) (by omega)]
  split
  · exact cw_up (cw_spends_cg e hj _) _ (by omega) (by omega)
  · exact e
theorem cw_bidsFor_cg {s' s : cw_s} (e : cw_eq s' s) (h6 : cw_no s ≤ 6) {k : Nat} (hk : k < 20) : cw_bidsFor s' k = cw_bidsFor s k := by
  unfold cw_bidsFor
  rw [cw_no_cg e]
  exact cw_fold_congr _ 0 0 (fun j y _ h2 => by rw [cw_rd e (by omega) (by omega)])
theorem cw_canWin_cg {s' s : cw_s} (e : cw_eq s' s) {j k : Nat} (hj : j < 6) (hk : k < 20) : cw_canWin s' j k = cw_canWin s j k := by
  unfold cw_canWin
  rw [cw_rd e (p := 85 + 20 * j + k) (by omega) (by omega), cw_held_cg e, cw_rd e (p := 233) (by omega) (by omega), cw_rd e (p := 1 + 4 * j + 1) (by omega) (by omega), cw_rd e (p := 25 + 3 * k + 0) (by omega) (by omega)]
theorem cw_better_cg {s' s : cw_s} (e : cw_eq s' s) {j i k : Nat} (hj : j < 6) (hi : i < 6) (hk : k < 20) : cw_better s' j i k = cw_better s j i k := by
  unfold cw_better
  rw [cw_rd e (p := 85 + 20 * j + k) (by omega) (by omega), cw_rd e (p := 85 + 20 * i + k) (by omega) (by omega), cw_rd e (p := 1 + 4 * j + 2) (by omega) (by omega), cw_rd e (p := 1 + 4 * i + 2) (by omega) (by omega), cw_rd e (p := 1 + 4 * j + 0) (by omega) (by omega), cw_rd e (p := 1 + 4 * i + 0) (by omega) (by omega)]
theorem cw_open_cg {s' s : cw_s} (e : cw_eq s' s) {k : Nat} (hk : k < 20) : cw_open s' k = cw_open s k := by
  unfold cw_open
  rw [cw_rd e (p := 25 + 3 * k + 1) (by omega) (by omega), cw_rd e (p := 25 + 3 * k + 2) (by omega) (by omega)]
theorem cw_best_cg {s' s : cw_s} (e : cw_eq s' s) (h6 : cw_no s ≤ 6) {k : Nat} (hk : k < 20) : cw_best s' k = cw_best s k := by
  unfold cw_best
  rw [cw_open_cg e hk, cw_no_cg e]
  congr 1
  have key := cw_fold_rel (fun (x y : Int32) => x = y ∧ (x = -1 ∨ ∃ i, i < 6 ∧ x = nI i)) (fun j x => cw_if (cw_canWin s' j k ∧ (x = -1 ∨ cw_better s' j (cw_x x) k)) (nI j) x) (fun j x => cw_if (cw_canWin s j k ∧ (x = -1 ∨ cw_better s j (cw_x x) k)) (nI j) x) (cw_no s) (fun j x y hj ⟨h1, h2⟩ => by
    subst h1
    have e2 : (x = -1 ∨ cw_better s' j (cw_x x) k) = (x = -1 ∨ cw_better s j (cw_x x) k) := by
      rcases h2 with rfl | ⟨i, hi, rfl⟩
      · simp
      · rw [cw_xn (by omega), cw_better_cg e (by omega) hi hk]
    show cw_if _ _ _ = cw_if _ _ _ ∧ _
    rw [cw_canWin_cg e (by omega) hk, e2]
    refine ⟨rfl, ?_⟩
    by_cases q : cw_canWin s j k ∧ (x = -1 ∨ cw_better s j (cw_x x) k)
    · rw [cw_it q]; exact Or.inr ⟨j, by omega, rfl⟩
    · rw [cw_ie q]; exact h2) (x := -1) (y := -1) ⟨rfl, Or.inl rfl⟩
  exact key.1
theorem cw_settle1_cg {n m : Nat} {s' s : cw_s} (hI : cw_I n m s) (e : cw_eq s' s) {k : Nat} (hk : k < 20) : cw_eq (cw_settle1 s' k) (cw_settle1 s k) := by
  unfold cw_settle1
  rw [cw_best_cg e hI.m.2 hk]
  rcases cw_best_cases hI hk with q | ⟨j, hj, q, -⟩
  · rw [cw_it q, cw_it q]; exact e
  · have h6 := hI.m.2
    have hn : ¬ cw_best s k = -1 := fun z => by rw [q, cw_eqi, cw_ni (by omega)] at z; have y : (-1 : Int32).toInt = -1 := rfl; omega
    rw [cw_ie hn, cw_ie hn, q, cw_xn (by omega)]
    unfold cw_won
    rw [cw_rd e (p := 25 + 3 * k + 0) (by omega) (by omega), cw_rd e (p := 85 + 20 * j + k) (by omega) (by omega)]
    have e1 := cw_spends_cg e (j := j) (by omega) (s (25 + 3 * k + 0) + s (85 + 20 * j + k))
    simp only []
    rw [cw_rd e1 (p := 1 + 4 * j + 2) (by omega) (by omega)]
    exact cw_up (cw_up e1 _ (by omega) (by omega)) _ (by omega) (by omega)
theorem cw_noBids_cg {s' s : cw_s} (e : cw_eq s' s) : cw_eq (cw_noBids s') (cw_noBids s) := by
  unfold cw_noBids
  exact cw_fold_rel (fun x y => cw_eq x y) (fun k s => upd s (85 + k) (-1)) (fun k s => upd s (85 + k) (-1)) 120 (fun j x y hj h => cw_up h _ (by omega) (by omega)) e
theorem cw_freed_cg {s' s : cw_s} (e : cw_eq s' s) : cw_eq (cw_freed s') (cw_freed s) := by
  unfold cw_freed
  exact cw_fold_rel (fun x y => cw_eq x y) (fun k s => upd s (25 + 3 * k + 2) (-1)) (fun k s => upd s (25 + 3 * k + 2) (-1)) 20 (fun j x y hj h => cw_up h _ (by omega) (by omega)) e
theorem cw_I_settles {n m : Nat} {s : cw_s} (hI : cw_I n m s) (hB : cw_B n (m + 20)) : ∀ i, i ≤ 20 → cw_I n (m + i) (cw_fold (fun k (x : Int32 × cw_s) => (cw_if (cw_best x.2 k = -1) x.1 (x.1 + 1), cw_settle1 x.2 k)) 0 i (0, s)).2 := by
  have := cw_fold_P (f := fun k (x : Int32 × cw_s) => (cw_if (cw_best x.2 k = -1) x.1 (x.1 + 1), cw_settle1 x.2 k)) (fun i x => cw_I n (m + i) x.2) 20 (0, s) hI (fun j y hj hy => cw_I_settle1 hy (cw_B_le hB (by omega)) hj)
  exact this
theorem cw_settles_cg {n m : Nat} {s' s : cw_s} (hI : cw_I n m s) (hB : cw_B n (m + 20)) (e : cw_eq s' s) : (cw_settles s').1 = (cw_settles s).1 ∧ cw_eq (cw_settles s').2 (cw_settles s).2 := by
  have key : ∀ i, i ≤ 20 → (cw_fold (fun k (x : Int32 × cw_s) => (cw_if (cw_best x.2 k = -1) x.1 (x.1 + 1), cw_settle1 x.2 k)) 0 i (0, s')).1 = (cw_fold (fun k (x : Int32 × cw_s) => (cw_if (cw_best x.2 k = -1) x.1 (x.1 + 1), cw_settle1 x.2 k)) 0 i (0, s)).1 ∧ cw_eq (cw_fold (fun k (x : Int32 × cw_s) => (cw_if (cw_best x.2 k = -1) x.1 (x.1 + 1), cw_settle1 x.2 k)) 0 i (0, s')).2 (cw_fold (fun k (x : Int32 × cw_s) => (cw_if (cw_best x.2 k = -1) x.1 (x.1 + 1), cw_settle1 x.2 k)) 0 i (0, s)).2 := by
    intro i
    induction i with
    | zero => intro _; exact ⟨rfl, e⟩
    | succ i ih =>
      intro hi
      obtain ⟨h1, h2⟩ := ih (by omega)
      have hIi := cw_I_settles hI hB i (by omega)
      rw [cw_fold0, cw_fold0]
      refine ⟨?_, cw_settle1_cg hIi h2 (by omega)⟩
      show cw_if _ _ _ = cw_if _ _ _
      rw [cw_best_cg h2 hIi.m.2 (by omega), h1]
  obtain ⟨h1, h2⟩ := key 20 (Nat.le_refl _)
  exact ⟨h1, cw_noBids_cg h2⟩
theorem cw_th_cg {s' s : cw_s} (e : cw_eq s' s) (o k : Int32) : cw_th s' o k = cw_th s o k := by
  unfold cw_th cw_isO; rw [cw_rd e (p := 0) (by omega) (by omega)]
theorem cw_thx {n m : Nat} {s : cw_s} (hI : cw_I n m s) {o k : Int32} (h : cw_th s o k) : cw_x o < cw_no s ∧ cw_x k < 20 ∧ o = nI (cw_x o) ∧ k = nI (cw_x k) := by
  obtain ⟨j, rfl, hj⟩ := cw_isO_ix hI.m h.1
  obtain ⟨i, rfl, hi⟩ := cw_isW_ix h.2
  have h6 := hI.m.2
  rw [cw_xn (by omega), cw_xn (by omega)]
  exact ⟨hj, hi, rfl, rfl⟩
theorem cw_lapse_cg {x y : Int32 × cw_s} {j : Nat} (hj : j < 6) (h1 : x.1 = y.1) (h2 : cw_eq x.2 y.2) : (cw_lapse j x).1 = (cw_lapse j y).1 ∧ cw_eq (cw_lapse j x).2 (cw_lapse j y).2 := by
  unfold cw_lapse
  simp only []
  rw [cw_rd h2 (p := 1 + 4 * j + 1) (by omega) (by omega), cw_rd h2 (p := 232) (by omega) (by omega), h1]
  exact ⟨rfl, cw_gives_cg (cw_up h2 _ (by omega) (by omega)) hj⟩
theorem cw_up5 {s' s : cw_s} (e : cw_eq s' s) : cw_eq (upd s' 205 0) (upd s 205 0) := by
  refine cw_nf_ext (by rw [cw_ups, cw_ups]) (fun p hp hs => ?_)
  rw [cw_ups] at hs
  have z : cw_x 0 = 0 := rfl
  rw [z] at hs
  by_cases c : p = 205
  · rw [c, cw_ups, cw_ups]
  · rw [cw_upn _ _ c, cw_upn _ _ c]; exact cw_rd e (by omega) hp
theorem cw_year_cg {s' s : cw_s} (e : cw_eq s' s) (h6 : cw_no s ≤ 6) : (cw_oYear s').1 = (cw_oYear s).1 ∧ cw_eq (cw_oYear s').2 (cw_oYear s).2 := by
  have key := cw_fold_rel (fun (x y : Int32 × cw_s) => x.1 = y.1 ∧ cw_eq x.2 y.2) cw_lapse cw_lapse (cw_no s) (fun j x y hj ⟨a, b⟩ => cw_lapse_cg (by omega) a b) (x := (0, s')) (y := (0, s)) ⟨rfl, e⟩
  unfold cw_oYear
  rw [cw_no_cg e]
  simp only []
  generalize cw_fold cw_lapse 0 (cw_no s) (0, s') = x at key ⊢
  generalize cw_fold cw_lapse 0 (cw_no s) (0, s) = y at key ⊢
  obtain ⟨k1, k2⟩ := key
  have e3 := cw_up5 (cw_noBids_cg (cw_freed_cg k2))
  rw [k1, cw_rd e3 (p := 237) (by omega) (by omega)]
  have e4 := cw_up e3 (p := 237) (upd (cw_noBids (cw_freed y.2)) 205 0 237 + y.1) (by omega) (by omega)
  rw [cw_rd e4 (p := 230) (by omega) (by omega)]
  exact ⟨rfl, cw_up e4 _ (by omega) (by omega)⟩
theorem cw_pays_cg {s' s : cw_s} (e : cw_eq s' s) (h6 : cw_no s ≤ 6) (c : Int32) : (cw_fold (cw_pays s' c) 0 (cw_no s) (0, s')).1 = (cw_fold (cw_pays s c) 0 (cw_no s) (0, s)).1 ∧ cw_eq (cw_fold (cw_pays s' c) 0 (cw_no s) (0, s')).2 (cw_fold (cw_pays s c) 0 (cw_no s) (0, s)).2 :=
  cw_fold_rel (fun (x y : Int32 × cw_s) => x.1 = y.1 ∧ cw_eq x.2 y.2) _ _ (cw_no s) (fun j x y hj ⟨a, b⟩ => by
    unfold cw_pays
    rw [cw_partOf_cg (t := s) (t' := s') (cw_rd e (by omega) (by omega)) h6 (fun q hq => cw_rd e (by omega) (by omega)) (by omega) c, a, cw_rd b (p := 1 + 4 * j + 3) (by omega) (by omega)]
    exact ⟨rfl, cw_up b _ (by omega) (by omega)⟩) ⟨rfl, e⟩
theorem cw_isK_cg {s' s : cw_s} (e : cw_eq s' s) (k : Int32) : cw_isK s' k = cw_isK s k := by
  unfold cw_isK; rw [cw_rd e (p := 205) (by omega) (by omega)]
theorem cw_live {n m : Nat} {s' s : cw_s} (hI : cw_I n m s) (e : cw_eq s' s) {i z : Nat} (hi : i < cw_x (s 205)) (hz : z < 3) : s' (206 + 3 * i + z) = s (206 + 3 * i + z) := by
  have h5 := cw_rd e (p := 205) (by omega) (by omega)
  have hx := cw_x_lt hI
  have e1 : cw_nf s' (206 + 3 * i + z) = s' (206 + 3 * i + z) := by unfold cw_nf; rw [h5, if_pos (by omega)]
  have e2 : cw_nf s (206 + 3 * i + z) = s (206 + 3 * i + z) := by unfold cw_nf; rw [if_pos (by omega)]
  rw [← e1, e, e2]
theorem cw_drop_cg {n m : Nat} {s' s : cw_s} (hI : cw_I n m s) (e : cw_eq s' s) {k : Nat} (hk : k < cw_x (s 205)) : cw_eq (cw_drop s' k (cw_x (s 205))) (cw_drop s k (cw_x (s 205))) := by
  have hx := cw_x_lt hI
  refine cw_nf_ext rfl (fun p hp hs => ?_)
  have z : cw_drop s k (cw_x (s 205)) 205 = nI (cw_x (s 205) - 1) := rfl
  rw [z, cw_xn (by omega)] at hs
  unfold cw_drop
  by_cases c : p = 205
  · rw [if_pos c, if_pos c]
  rw [if_neg c, if_neg c]
  by_cases d : 206 + 3 * k ≤ p ∧ p < 206 + 3 * (cw_x (s 205) - 1)
  · rw [if_pos d, if_pos d]
    have := cw_live hI e (i := (p + 3 - 206) / 3) (z := (p + 3 - 206) % 3) (by omega) (by omega)
    rwa [show 206 + 3 * ((p + 3 - 206) / 3) + (p + 3 - 206) % 3 = p + 3 by omega] at this
  · rw [if_neg d, if_neg d]
    by_cases g : p < 206 ∨ 230 ≤ p
    · exact cw_rd e g hp
    · have := cw_live hI e (i := (p - 206) / 3) (z := (p - 206) % 3) (by omega) (by omega)
      rwa [show 206 + 3 * ((p - 206) / 3) + (p - 206) % 3 = p by omega] at this
theorem cw_swap_cg2 {s' s : cw_s} (e : cw_eq s' s) (o k x : Int32) : cw_swap s' o k x = cw_swap s o k x :=
  propext (cw_swap_cg (cw_rd e (by omega) (by omega)) (fun k hk => cw_rd e (by omega) (by omega)) o k x)
/-- what counts of the house decides what is answered, and what counts then -/
theorem cw_does_cg {n m : Nat} {s' s : cw_s} (hI : cw_I n m s) (hB : cw_B n (m + 20)) (e : cw_eq s' s) (l a b c : Int32) (h115 : l = 115 → cw_isW a) : (cw_does s' l a b c).1 = (cw_does s l a b c).1 ∧ cw_eq (cw_does s' l a b c).2 (cw_does s l a b c).2 := by
  have h6 := hI.m.2
  have e0 := cw_rd e (p := 0) (by omega) (by omega)
  have e5 := cw_rd e (p := 205) (by omega) (by omega)
  unfold cw_does
  split
  · unfold cw_oOwner
    rw [e0, cw_no_cg e]
    by_cases q : (1 ≤ a ∧ a ≤ 9) ∧ ¬ s 0 = 6
    · rw [cw_it q, cw_it q]
      have hlt : cw_no s < 6 := by
        rcases Nat.lt_or_ge (cw_no s) 6 with z | z
        · exact z
        · exact absurd (by rw [hI.m.1, show cw_no s = 6 by omega]; rfl) q.2
      exact ⟨rfl, cw_comes_cg e hlt a⟩
    · rw [cw_ie q, cw_ie q]; exact ⟨rfl, e⟩
  split
  · unfold cw_oCost
    by_cases q : cw_isW a ∧ 1 ≤ b ∧ b ≤ 9
    · rw [cw_it q, cw_it q]
      obtain ⟨i, rfl, hi⟩ := cw_isW_ix q.1
      rw [cw_xn (by omega)]
      exact ⟨cw_rd e (by omega) (by omega), cw_up e _ (by omega) (by omega)⟩
    · rw [cw_ie q, cw_ie q]; exact ⟨rfl, e⟩
  split
  · next hl =>
    obtain ⟨i, rfl, hi⟩ := cw_isW_ix (h115 hl)
    rw [cw_xn (by omega)]
    exact ⟨cw_rd e (by omega) (by omega), cw_up e _ (by omega) (by omega)⟩
  split
  · unfold cw_oTake
    rw [cw_th_cg e]
    by_cases q : cw_th s a b
    · rw [cw_it q, cw_it q]
      obtain ⟨h1, h2, -, -⟩ := cw_thx hI q
      exact ⟨cw_hind_cg e (by omega) h2, cw_takes_cg e (by omega) h2⟩
    · rw [cw_ie q, cw_ie q]; exact ⟨rfl, e⟩
  split
  · unfold cw_oBid
    rw [cw_th_cg e]
    by_cases q : cw_th s a b
    · obtain ⟨h1, h2, -, -⟩ := cw_thx hI q
      rw [cw_open_cg e h2]
      by_cases r : (cw_th s a b ∧ 0 ≤ c ∧ c ≤ 20) ∧ cw_open s (cw_x b)
      · rw [cw_it r, cw_it r]
        have e1 := cw_up e (p := 85 + 20 * cw_x a + cw_x b) c (by omega) (by omega)
        exact ⟨cw_bidsFor_cg e1 (by rw [cw_no_eq (cw_upn _ _ (by omega))]; exact h6) h2, e1⟩
      · rw [cw_ie r, cw_ie r]; exact ⟨rfl, e⟩
    · rw [cw_ie (fun z => q z.1.1), cw_ie (fun z => q z.1.1)]; exact ⟨rfl, e⟩
  split
  · exact cw_settles_cg hI hB e
  split
  · unfold cw_oRelease
    rw [cw_th_cg e]
    by_cases q : cw_th s a b
    · obtain ⟨h1, h2, -, -⟩ := cw_thx hI q
      rw [cw_rd e (p := 25 + 3 * cw_x b + 2) (by omega) (by omega)]
      by_cases r : cw_th s a b ∧ s (25 + 3 * cw_x b + 2) = a
      · rw [cw_it r, cw_it r, cw_rd e (p := 25 + 3 * cw_x b + 0) (by omega) (by omega)]
        exact ⟨rfl, cw_releases_cg e (by omega) h2⟩
      · rw [cw_ie r, cw_ie r]; exact ⟨rfl, e⟩
    · rw [cw_ie (fun z => q z.1), cw_ie (fun z => q z.1)]; exact ⟨rfl, e⟩
  split
  · unfold cw_oOffer
    rw [cw_swap_cg2 e, e5]
    by_cases q : cw_swap s a b c ∧ s 205 < 8
    · rw [cw_it q, cw_it q]
      refine ⟨rfl, ?_⟩
      have hx := cw_x_lt hI
      have h8 : cw_x (s 205) < 8 := by
        have z := q.2
        rw [hx.2, cw_lt, cw_ni (by omega)] at z
        have y : (8 : Int32).toInt = 8 := rfl
        omega
      show cw_eq (upd (upd (upd (upd s' 205 (s' 205 + 1)) (206 + 3 * cw_x (s 205) + 0) a) (206 + 3 * cw_x (s 205) + 1) b) (206 + 3 * cw_x (s 205) + 2) c) (upd (upd (upd (upd s 205 (s 205 + 1)) (206 + 3 * cw_x (s 205) + 0) a) (206 + 3 * cw_x (s 205) + 1) b) (206 + 3 * cw_x (s 205) + 2) c)
      rw [e5]
      have z5 : ∀ t : cw_s, upd (upd (upd (upd t 205 (s 205 + 1)) (206 + 3 * cw_x (s 205) + 0) a) (206 + 3 * cw_x (s 205) + 1) b) (206 + 3 * cw_x (s 205) + 2) c 205 = nI (cw_x (s 205) + 1) := fun t => by
        rw [cw_upn _ _ (by omega), cw_upn _ _ (by omega), cw_upn _ _ (by omega), cw_ups]
        have hq := hx.2
        generalize cw_x (s 205) = q at hq ⊢
        rw [hq]; exact nI_1 q
      refine cw_nf_ext (by rw [z5, z5]) (fun p hp hs => ?_)
      rw [z5, cw_xn (by omega)] at hs
      by_cases c2 : p = 206 + 3 * cw_x (s 205) + 2
      · rw [c2, cw_ups, cw_ups]
      rw [cw_upn _ _ c2, cw_upn _ _ c2]
      by_cases c1 : p = 206 + 3 * cw_x (s 205) + 1
      · rw [c1, cw_ups, cw_ups]
      rw [cw_upn _ _ c1, cw_upn _ _ c1]
      by_cases c0 : p = 206 + 3 * cw_x (s 205) + 0
      · rw [c0, cw_ups, cw_ups]
      rw [cw_upn _ _ c0, cw_upn _ _ c0]
      by_cases c5 : p = 205
      · rw [c5, cw_ups, cw_ups]
      rw [cw_upn _ _ c5, cw_upn _ _ c5]
      by_cases g : p < 206 ∨ 230 ≤ p
      · exact cw_rd e g hp
      · have := cw_live hI e (i := (p - 206) / 3) (z := (p - 206) % 3) (by omega) (by omega)
        rwa [show 206 + 3 * ((p - 206) / 3) + (p - 206) % 3 = p by omega] at this
    · rw [cw_ie q, cw_ie q]; exact ⟨rfl, e⟩
  split
  · unfold cw_oAccept
    simp only []
    rw [cw_isK_cg e]
    by_cases q : cw_isK s a
    · rw [cw_it q, cw_it q]
      obtain ⟨k, rfl, hk⟩ := cw_isK_ix hI q
      rw [cw_xn (show k < 1000 by have := (cw_x_lt hI).1; omega), e5]
      obtain ⟨⟨j0, hj0, he0⟩, ⟨k1, hk1, he1⟩, ⟨k2, hk2, he2⟩⟩ := hI.offs hk
      rw [cw_live hI e (z := 0) hk (by omega), cw_live hI e (z := 1) hk (by omega), cw_live hI e (z := 2) hk (by omega), cw_swap_cg2 e, he1, he2, cw_xn (show k1 < 1000 by omega), cw_xn (show k2 < 1000 by omega)]
      have ed := cw_drop_cg hI e hk
      rw [cw_rd e (p := 25 + 3 * k2 + 2) (by omega) (by omega), cw_rd e (p := 238) (by omega) (by omega), cw_rd e (p := 239) (by omega) (by omega)]
      by_cases r : cw_swap s (s (206 + 3 * k + 0)) (nI k1) (nI k2)
      · rw [cw_it r, cw_it r]
        exact ⟨rfl, congrArg cw_nf (cw_up (cw_up (cw_up ed _ (by omega) (by omega)) _ (by omega) (by omega)) _ (by omega) (by omega))⟩
      · rw [cw_ie r, cw_ie r]
        exact ⟨rfl, congrArg cw_nf (cw_up ed _ (by omega) (by omega))⟩
    · rw [cw_ie q, cw_ie q]; exact ⟨rfl, e⟩
  split
  · unfold cw_oUpkeep
    rw [e0, cw_no_cg e]
    by_cases q : (1 ≤ a ∧ a ≤ 999) ∧ ¬ s 0 = 0
    · rw [cw_it q, cw_it q]
      obtain ⟨k1, k2⟩ := cw_pays_cg e h6 a
      simp only []
      rw [k1, cw_rd k2 (p := 241) (by omega) (by omega)]
      exact ⟨rfl, cw_up k2 _ (by omega) (by omega)⟩
    · rw [cw_ie q, cw_ie q]; exact ⟨rfl, e⟩
  · exact cw_year_cg e h6
