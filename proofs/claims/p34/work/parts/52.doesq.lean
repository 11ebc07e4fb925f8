/-! WHAT COUNTS BESIDES THE PLACE 240 -/
def cw_f (t : cw_s) : cw_s := cw_nf (upd t 240 0)
abbrev cw_eqq (s' s : cw_s) : Prop := cw_f s' = cw_f s
theorem cw_f_eq (t : cw_s) : cw_f t = upd (cw_nf t) 240 0 := cw_nf_upd t 0 (by omega) (by omega)
theorem cw_f_nf (t : cw_s) : cw_f (cw_nf t) = cw_f t := by rw [cw_f_eq, cw_f_eq, cw_nf_nf]
theorem cw_eqq_of {s' s : cw_s} (e : cw_eq s' s) : cw_eqq s' s := by
  show cw_f _ = cw_f _
  rw [cw_f_eq, cw_f_eq, e]
theorem cw_eqq_nf {s' s : cw_s} (e : cw_eqq s' s) : cw_eqq (cw_nf s') (cw_nf s) := by
  show cw_f _ = cw_f _
  rw [cw_f_nf, cw_f_nf, e]
theorem cw_rdq {s' s : cw_s} (e : cw_eqq s' s) {p : Nat} (h1 : p < 206 ∨ (230 ≤ p ∧ p ≠ 240)) (h2 : p < 242) : s' p = s p := by
  have z := cw_rd (s' := upd s' 240 0) (s := upd s 240 0) e (p := p) (by omega) h2
  rwa [cw_upn _ _ (by omega), cw_upn _ _ (by omega)] at z
theorem cw_upq {s' s : cw_s} (e : cw_eqq s' s) {p : Nat} (x : Int32) (h1 : p < 205 ∨ 230 ≤ p) (h2 : p < 242) : cw_eqq (upd s' p x) (upd s p x) := by
  have e1 : upd (cw_nf s') 240 0 = upd (cw_nf s) 240 0 := by rw [← cw_f_eq, ← cw_f_eq]; exact e
  show cw_f _ = cw_f _
  rw [cw_f_eq, cw_f_eq, cw_nf_upd s' x h1 h2, cw_nf_upd s x h1 h2]
  by_cases c : p = 240
  · subst c; rw [cw_upd2, cw_upd2, e1]
  · rw [cw_updc _ _ _ c, cw_updc (cw_nf s) _ _ c, e1]
theorem cw_up240 {s' s : cw_s} (e : cw_eqq s' s) (x : Int32) : cw_eqq (upd s' 240 x) s := by
  have e1 : upd (cw_nf s') 240 0 = upd (cw_nf s) 240 0 := by rw [← cw_f_eq, ← cw_f_eq]; exact e
  show cw_f _ = cw_f _
  rw [cw_f_eq, cw_f_eq, cw_nf_upd s' x (by omega) (by omega), cw_upd2, e1]
theorem cw_nf_extq {a b : cw_s} (h5 : a 205 = b 205) (h : ∀ p, p < 242 → ¬ (206 + 3 * cw_x (b 205) ≤ p ∧ p < 230) ∧ p ≠ 240 → a p = b p) : cw_eqq a b := by
  refine cw_nf_ext (by rw [cw_upn _ _ (by omega), cw_upn _ _ (by omega)]; exact h5) (fun p hp hs => ?_)
  rw [cw_upn _ _ (show 205 ≠ 240 by omega)] at hs
  by_cases c : p = 240
  · rw [c, cw_ups, cw_ups]
  · rw [cw_upn _ _ c, cw_upn _ _ c]; exact h p hp ⟨hs, c⟩
theorem cw_liveq {n m : Nat} {s' s : cw_s} (hI : cw_I n m s) (e : cw_eqq s' s) {i z : Nat} (hi : i < cw_x (s 205)) (hz : z < 3) : s' (206 + 3 * i + z) = s (206 + 3 * i + z) := by
  have h5 := cw_rdq e (p := 205) (by omega) (by omega)
  have hx := cw_x_lt hI
  have e1 : cw_f s' (206 + 3 * i + z) = s' (206 + 3 * i + z) := by unfold cw_f cw_nf; rw [cw_upn _ _ (show 205 ≠ 240 by omega), h5, if_pos (by omega), cw_upn _ _ (by omega)]
  have e2 : cw_f s (206 + 3 * i + z) = s (206 + 3 * i + z) := by unfold cw_f cw_nf; rw [cw_upn _ _ (show 205 ≠ 240 by omega), if_pos (by omega), cw_upn _ _ (by omega)]
  rw [← e1, e, e2]

theorem cw_no_cgq {s' s : cw_s} (e : cw_eqq s' s) : cw_no s' = cw_no s := cw_no_eq (cw_rdq e (by omega) (by omega))

theorem cw_held_cgq {s' s : cw_s} (e : cw_eqq s' s) (o : Int32) : cw_held s' o = cw_held s o :=
  cw_fold_congr 20 0 0 (fun j y _ h2 => by rw [cw_rdq e (by omega) (by omega)])

theorem cw_hind_cgq {s' s : cw_s} (e : cw_eqq s' s) {j k : Nat} (hj : j < 6) (hk : k < 20) : cw_hind s' j k = cw_hind s j k := by
  unfold cw_hind
  rw [cw_rdq e (p := 25 + 3 * k + 1) (by omega) (by omega), cw_rdq e (p := 25 + 3 * k + 2) (by omega) (by omega), cw_held_cgq e, cw_rdq e (p := 233) (by omega) (by omega), cw_rdq e (p := 1 + 4 * j + 1) (by omega) (by omega), cw_rdq e (p := 25 + 3 * k + 0) (by omega) (by omega)]

theorem cw_gives_cgq {s' s : cw_s} (e : cw_eqq s' s) {j : Nat} (hj : j < 6) : cw_eqq (cw_gives s' j) (cw_gives s j) := by
  unfold cw_gives
  rw [cw_rdq e (p := 231) (by omega) (by omega), cw_rdq e (p := 1 + 4 * j + 0) (by omega) (by omega), cw_rdq e (p := 1 + 4 * j + 1) (by omega) (by omega)]
  have e1 := cw_upq e (p := 1 + 4 * j + 1) (s (1 + 4 * j + 1) + s 231 * s (1 + 4 * j + 0)) (by omega) (by omega)
  simp only []
  rw [cw_rdq e1 (p := 234) (by omega) (by omega)]
  exact cw_upq e1 _ (by omega) (by omega)

theorem cw_spends_cgq {s' s : cw_s} (e : cw_eqq s' s) {j : Nat} (hj : j < 6) (p : Int32) : cw_eqq (cw_spends s' j p) (cw_spends s j p) := by
  unfold cw_spends
  rw [cw_rdq e (p := 1 + 4 * j + 1) (by omega) (by omega)]
  have e1 := cw_upq e (p := 1 + 4 * j + 1) (s (1 + 4 * j + 1) - p) (by omega) (by omega)
  simp only []
  rw [cw_rdq e1 (p := 235) (by omega) (by omega)]
  exact cw_upq e1 _ (by omega) (by omega)

theorem cw_comes_cgq {s' s : cw_s} (e : cw_eqq s' s) {j : Nat} (hj : j < 6) (a : Int32) : cw_eqq (cw_comes s' j a) (cw_comes s j a) := by
  unfold cw_comes
  simp only []
  rw [cw_rdq e (p := 0) (by omega) (by omega)]
  exact cw_gives_cgq (cw_upq (cw_upq (cw_upq (cw_upq (cw_upq e _ (by omega) (by omega)) _ (by omega) (by omega)) _ (by omega) (by omega)) _ (by omega) (by omega)) _ (by omega) (by omega)) hj

theorem cw_releases_cgq {s' s : cw_s} (e : cw_eqq s' s) {j k : Nat} (hj : j < 6) (hk : k < 20) : cw_eqq (cw_releases s' j k) (cw_releases s j k) := by
  unfold cw_releases
  rw [cw_rdq e (p := 25 + 3 * k + 0) (by omega) (by omega), cw_rdq e (p := 1 + 4 * j + 1) (by omega) (by omega)]
  have e1 := cw_upq e (p := 1 + 4 * j + 1) (s (1 + 4 * j + 1) + s (25 + 3 * k + 0) / 2) (by omega) (by omega)
  simp only []
  rw [cw_rdq e1 (p := 236) (by omega) (by omega)]
  exact cw_upq (cw_upq e1 _ (by omega) (by omega)) _ (by omega) (by omega)

theorem cw_takes_cgq {s' s : cw_s} (e : cw_eqq s' s) {j k : Nat} (hj : j < 6) (hk : k < 20) : cw_eqq (cw_takes s' j k) (cw_takes s j k) := by
  unfold cw_takes
  rw [cw_hind_cgq e hj hk, cw_rdq e (p := 25 + 3 * k + 0) (by omega) (by omega)]
  split
  · exact cw_upq (cw_spends_cgq e hj _) _ (by omega) (by omega)
  · exact e

theorem cw_bidsFor_cgq {s' s : cw_s} (e : cw_eqq s' s) (h6 : cw_no s ≤ 6) {k : Nat} (hk : k < 20) : cw_bidsFor s' k = cw_bidsFor s k := by
  unfold cw_bidsFor
  rw [cw_no_cgq e]
  exact cw_fold_congr _ 0 0 (fun j y _ h2 => by rw [cw_rdq e (by omega) (by omega)])

theorem cw_canWin_cgq {s' s : cw_s} (e : cw_eqq s' s) {j k : Nat} (hj : j < 6) (hk : k < 20) : cw_canWin s' j k = cw_canWin s j k := by
  unfold cw_canWin
  rw [cw_rdq e (p := 85 + 20 * j + k) (by omega) (by omega), cw_held_cgq e, cw_rdq e (p := 233) (by omega) (by omega), cw_rdq e (p := 1 + 4 * j + 1) (by omega) (by omega), cw_rdq e (p := 25 + 3 * k + 0) (by omega) (by omega)]

theorem cw_better_cgq {s' s : cw_s} (e : cw_eqq s' s) {j i k : Nat} (hj : j < 6) (hi : i < 6) (hk : k < 20) : cw_better s' j i k = cw_better s j i k := by
  unfold cw_better
  rw [cw_rdq e (p := 85 + 20 * j + k) (by omega) (by omega), cw_rdq e (p := 85 + 20 * i + k) (by omega) (by omega), cw_rdq e (p := 1 + 4 * j + 2) (by omega) (by omega), cw_rdq e (p := 1 + 4 * i + 2) (by omega) (by omega), cw_rdq e (p := 1 + 4 * j + 0) (by omega) (by omega), cw_rdq e (p := 1 + 4 * i + 0) (by omega) (by omega)]

theorem cw_open_cgq {s' s : cw_s} (e : cw_eqq s' s) {k : Nat} (hk : k < 20) : cw_open s' k = cw_open s k := by
  unfold cw_open
  rw [cw_rdq e (p := 25 + 3 * k + 1) (by omega) (by omega), cw_rdq e (p := 25 + 3 * k + 2) (by omega) (by omega)]

theorem cw_best_cgq {s' s : cw_s} (e : cw_eqq s' s) (h6 : cw_no s ≤ 6) {k : Nat} (hk : k < 20) : cw_best s' k = cw_best s k := by
  unfold cw_best
  rw [cw_open_cgq e hk, cw_no_cgq e]
  congr 1
  have key := cw_fold_rel (fun (x y : Int32) => x = y ∧ (x = -1 ∨ ∃ i, i < 6 ∧ x = nI i)) (fun j x => cw_if (cw_canWin s' j k ∧ (x = -1 ∨ cw_better s' j (cw_x x) k)) (nI j) x) (fun j x => cw_if (cw_canWin s j k ∧ (x = -1 ∨ cw_better s j (cw_x x) k)) (nI j) x) (cw_no s) (fun j x y hj ⟨h1, h2⟩ => by
    subst h1
    have e2 : (x = -1 ∨ cw_better s' j (cw_x x) k) = (x = -1 ∨ cw_better s j (cw_x x) k) := by
      rcases h2 with rfl | ⟨i, hi, rfl⟩
      · simp
      · rw [cw_xn (by omega), cw_better_cgq e (by omega) hi hk]
    show cw_if _ _ _ = cw_if _ _ _ ∧ _
    rw [cw_canWin_cgq e (by omega) hk, e2]
    refine ⟨rfl, ?_⟩
    by_cases q : cw_canWin s j k ∧ (x = -1 ∨ cw_better s j (cw_x x) k)
    · rw [cw_it q]; exact Or.inr ⟨j, by omega, rfl⟩
    · rw [cw_ie q]; exact h2) (x := -1) (y := -1) ⟨rfl, Or.inl rfl⟩
  exact key.1

theorem cw_settle1_cgq {n m : Nat} {s' s : cw_s} (hI : cw_I n m s) (e : cw_eqq s' s) {k : Nat} (hk : k < 20) : cw_eqq (cw_settle1 s' k) (cw_settle1 s k) := by
  unfold cw_settle1
  rw [cw_best_cgq e hI.m.2 hk]
  rcases cw_best_cases hI hk with q | ⟨j, hj, q, -⟩
  · rw [cw_it q, cw_it q]; exact e
  · have h6 := hI.m.2
    have hn : ¬ cw_best s k = -1 := fun z => by rw [q, cw_eqi, cw_ni (by omega)] at z; have y : (-1 : Int32).toInt = -1 := rfl; omega
    rw [cw_ie hn, cw_ie hn, q, cw_xn (by omega)]
    unfold cw_won
    rw [cw_rdq e (p := 25 + 3 * k + 0) (by omega) (by omega), cw_rdq e (p := 85 + 20 * j + k) (by omega) (by omega)]
    have e1 := cw_spends_cgq e (j := j) (by omega) (s (25 + 3 * k + 0) + s (85 + 20 * j + k))
    simp only []
    rw [cw_rdq e1 (p := 1 + 4 * j + 2) (by omega) (by omega)]
    exact cw_upq (cw_upq e1 _ (by omega) (by omega)) _ (by omega) (by omega)

theorem cw_noBids_cgq {s' s : cw_s} (e : cw_eqq s' s) : cw_eqq (cw_noBids s') (cw_noBids s) := by
  unfold cw_noBids
  exact cw_fold_rel (fun x y => cw_eqq x y) (fun k s => upd s (85 + k) (-1)) (fun k s => upd s (85 + k) (-1)) 120 (fun j x y hj h => cw_upq h _ (by omega) (by omega)) e

theorem cw_freed_cgq {s' s : cw_s} (e : cw_eqq s' s) : cw_eqq (cw_freed s') (cw_freed s) := by
  unfold cw_freed
  exact cw_fold_rel (fun x y => cw_eqq x y) (fun k s => upd s (25 + 3 * k + 2) (-1)) (fun k s => upd s (25 + 3 * k + 2) (-1)) 20 (fun j x y hj h => cw_upq h _ (by omega) (by omega)) e

theorem cw_settles_cgq {n m : Nat} {s' s : cw_s} (hI : cw_I n m s) (hB : cw_B n (m + 20)) (e : cw_eqq s' s) : (cw_settles s').1 = (cw_settles s).1 ∧ cw_eqq (cw_settles s').2 (cw_settles s).2 := by
  have key : ∀ i, i ≤ 20 → (cw_fold (fun k (x : Int32 × cw_s) => (cw_if (cw_best x.2 k = -1) x.1 (x.1 + 1), cw_settle1 x.2 k)) 0 i (0, s')).1 = (cw_fold (fun k (x : Int32 × cw_s) => (cw_if (cw_best x.2 k = -1) x.1 (x.1 + 1), cw_settle1 x.2 k)) 0 i (0, s)).1 ∧ cw_eqq (cw_fold (fun k (x : Int32 × cw_s) => (cw_if (cw_best x.2 k = -1) x.1 (x.1 + 1), cw_settle1 x.2 k)) 0 i (0, s')).2 (cw_fold (fun k (x : Int32 × cw_s) => (cw_if (cw_best x.2 k = -1) x.1 (x.1 + 1), cw_settle1 x.2 k)) 0 i (0, s)).2 := by
    intro i
    induction i with
    | zero => intro _; exact ⟨rfl, e⟩
    | succ i ih =>
      intro hi
      obtain ⟨h1, h2⟩ := ih (by omega)
      have hIi := cw_I_settles hI hB i (by omega)
      rw [cw_fold0, cw_fold0]
      refine ⟨?_, cw_settle1_cgq hIi h2 (by omega)⟩
      show cw_if _ _ _ = cw_if _ _ _
      rw [cw_best_cgq h2 hIi.m.2 (by omega), h1]
  obtain ⟨h1, h2⟩ := key 20 (Nat.le_refl _)
  exact ⟨h1, cw_noBids_cgq h2⟩

theorem cw_th_cgq {s' s : cw_s} (e : cw_eqq s' s) (o k : Int32) : cw_th s' o k = cw_th s o k := by
  unfold cw_th cw_isO; rw [cw_rdq e (p := 0) (by omega) (by omega)]

theorem cw_lapse_cgq {x y : Int32 × cw_s} {j : Nat} (hj : j < 6) (h1 : x.1 = y.1) (h2 : cw_eqq x.2 y.2) : (cw_lapse j x).1 = (cw_lapse j y).1 ∧ cw_eqq (cw_lapse j x).2 (cw_lapse j y).2 := by
  unfold cw_lapse
  simp only []
  rw [cw_rdq h2 (p := 1 + 4 * j + 1) (by omega) (by omega), cw_rdq h2 (p := 232) (by omega) (by omega), h1]
  exact ⟨rfl, cw_gives_cgq (cw_upq h2 _ (by omega) (by omega)) hj⟩

theorem cw_up5q {s' s : cw_s} (e : cw_eqq s' s) : cw_eqq (upd s' 205 0) (upd s 205 0) := by
  refine cw_nf_extq (by rw [cw_ups, cw_ups]) (fun p hp hs => ?_)
  rw [cw_ups] at hs
  have z : cw_x 0 = 0 := rfl
  rw [z] at hs
  by_cases c : p = 205
  · rw [c, cw_ups, cw_ups]
  · rw [cw_upn _ _ c, cw_upn _ _ c]; exact cw_rdq e (by omega) hp

theorem cw_year_cgq {s' s : cw_s} (e : cw_eqq s' s) (h6 : cw_no s ≤ 6) : (cw_oYear s').1 = (cw_oYear s).1 ∧ cw_eqq (cw_oYear s').2 (cw_oYear s).2 := by
  have key := cw_fold_rel (fun (x y : Int32 × cw_s) => x.1 = y.1 ∧ cw_eqq x.2 y.2) cw_lapse cw_lapse (cw_no s) (fun j x y hj ⟨a, b⟩ => cw_lapse_cgq (by omega) a b) (x := (0, s')) (y := (0, s)) ⟨rfl, e⟩
  unfold cw_oYear
  rw [cw_no_cgq e]
  simp only []
  generalize cw_fold cw_lapse 0 (cw_no s) (0, s') = x at key ⊢
  generalize cw_fold cw_lapse 0 (cw_no s) (0, s) = y at key ⊢
  obtain ⟨k1, k2⟩ := key
  have e3 := cw_up5q (cw_noBids_cgq (cw_freed_cgq k2))
  rw [k1, cw_rdq e3 (p := 237) (by omega) (by omega)]
  have e4 := cw_upq e3 (p := 237) (upd (cw_noBids (cw_freed y.2)) 205 0 237 + y.1) (by omega) (by omega)
  rw [cw_rdq e4 (p := 230) (by omega) (by omega)]
  exact ⟨rfl, cw_upq e4 _ (by omega) (by omega)⟩

theorem cw_pays_cgq {s' s : cw_s} (e : cw_eqq s' s) (h6 : cw_no s ≤ 6) (c : Int32) : (cw_fold (cw_pays s' c) 0 (cw_no s) (0, s')).1 = (cw_fold (cw_pays s c) 0 (cw_no s) (0, s)).1 ∧ cw_eqq (cw_fold (cw_pays s' c) 0 (cw_no s) (0, s')).2 (cw_fold (cw_pays s c) 0 (cw_no s) (0, s)).2 :=
  cw_fold_rel (fun (x y : Int32 × cw_s) => x.1 = y.1 ∧ cw_eqq x.2 y.2) _ _ (cw_no s) (fun j x y hj ⟨a, b⟩ => by
    unfold cw_pays
    rw [cw_partOf_cg (t := s) (t' := s') (cw_rdq e (by omega) (by omega)) h6 (fun q hq => cw_rdq e (by omega) (by omega)) (by omega) c, a, cw_rdq b (p := 1 + 4 * j + 3) (by omega) (by omega)]
    exact ⟨rfl, cw_upq b _ (by omega) (by omega)⟩) ⟨rfl, e⟩

theorem cw_isK_cgq {s' s : cw_s} (e : cw_eqq s' s) (k : Int32) : cw_isK s' k = cw_isK s k := by
  unfold cw_isK; rw [cw_rdq e (p := 205) (by omega) (by omega)]

theorem cw_drop_cgq {n m : Nat} {s' s : cw_s} (hI : cw_I n m s) (e : cw_eqq s' s) {k : Nat} (hk : k < cw_x (s 205)) : cw_eqq (cw_drop s' k (cw_x (s 205))) (cw_drop s k (cw_x (s 205))) := by
  have hx := cw_x_lt hI
  refine cw_nf_extq rfl (fun p hp hs => ?_)
  have z : cw_drop s k (cw_x (s 205)) 205 = nI (cw_x (s 205) - 1) := rfl
  rw [z, cw_xn (by omega)] at hs
  unfold cw_drop
  by_cases c : p = 205
  · rw [if_pos c, if_pos c]
  rw [if_neg c, if_neg c]
  by_cases d : 206 + 3 * k ≤ p ∧ p < 206 + 3 * (cw_x (s 205) - 1)
  · rw [if_pos d, if_pos d]
    have := cw_liveq hI e (i := (p + 3 - 206) / 3) (z := (p + 3 - 206) % 3) (by omega) (by omega)
    rwa [show 206 + 3 * ((p + 3 - 206) / 3) + (p + 3 - 206) % 3 = p + 3 by omega] at this
  · rw [if_neg d, if_neg d]
    by_cases g : p < 206 ∨ (230 ≤ p ∧ p ≠ 240)
    · exact cw_rdq e g hp
    · have := cw_liveq hI e (i := (p - 206) / 3) (z := (p - 206) % 3) (by omega) (by omega)
      rwa [show 206 + 3 * ((p - 206) / 3) + (p - 206) % 3 = p by omega] at this

theorem cw_swap_cg2q {s' s : cw_s} (e : cw_eqq s' s) (o k x : Int32) : cw_swap s' o k x = cw_swap s o k x :=
  propext (cw_swap_cg (cw_rdq e (by omega) (by omega)) (fun k hk => cw_rdq e (by omega) (by omega)) o k x)

theorem cw_does_cgq {n m : Nat} {s' s : cw_s} (hI : cw_I n m s) (hB : cw_B n (m + 20)) (e : cw_eqq s' s) (l a b c : Int32) (h115 : l = 115 → cw_isW a) : (cw_does s' l a b c).1 = (cw_does s l a b c).1 ∧ cw_eqq (cw_does s' l a b c).2 (cw_does s l a b c).2 := by
  have h6 := hI.m.2
  have e0 := cw_rdq e (p := 0) (by omega) (by omega)
  have e5 := cw_rdq e (p := 205) (by omega) (by omega)
  unfold cw_does
  split
  · unfold cw_oOwner
    rw [e0, cw_no_cgq e]
    by_cases q : (1 ≤ a ∧ a ≤ 9) ∧ ¬ s 0 = 6
    · rw [cw_it q, cw_it q]
      have hlt : cw_no s < 6 := by
        rcases Nat.lt_or_ge (cw_no s) 6 with z | z
        · exact z
        · exact absurd (by rw [hI.m.1, show cw_no s = 6 by omega]; rfl) q.2
      exact ⟨rfl, cw_comes_cgq e hlt a⟩
    · rw [cw_ie q, cw_ie q]; exact ⟨rfl, e⟩
  split
  · unfold cw_oCost
    by_cases q : cw_isW a ∧ 1 ≤ b ∧ b ≤ 9
    · rw [cw_it q, cw_it q]
      obtain ⟨i, rfl, hi⟩ := cw_isW_ix q.1
      rw [cw_xn (by omega)]
      exact ⟨cw_rdq e (by omega) (by omega), cw_upq e _ (by omega) (by omega)⟩
    · rw [cw_ie q, cw_ie q]; exact ⟨rfl, e⟩
  split
  · next hl =>
    obtain ⟨i, rfl, hi⟩ := cw_isW_ix (h115 hl)
    rw [cw_xn (by omega)]
    exact ⟨cw_rdq e (by omega) (by omega), cw_upq e _ (by omega) (by omega)⟩
  split
  · unfold cw_oTake
    rw [cw_th_cgq e]
    by_cases q : cw_th s a b
    · rw [cw_it q, cw_it q]
      obtain ⟨h1, h2, -, -⟩ := cw_thx hI q
      exact ⟨cw_hind_cgq e (by omega) h2, cw_takes_cgq e (by omega) h2⟩
    · rw [cw_ie q, cw_ie q]; exact ⟨rfl, e⟩
  split
  · unfold cw_oBid
    rw [cw_th_cgq e]
    by_cases q : cw_th s a b
    · obtain ⟨h1, h2, -, -⟩ := cw_thx hI q
      rw [cw_open_cgq e h2]
      by_cases r : (cw_th s a b ∧ 0 ≤ c ∧ c ≤ 20) ∧ cw_open s (cw_x b)
      · rw [cw_it r, cw_it r]
        have e1 := cw_upq e (p := 85 + 20 * cw_x a + cw_x b) c (by omega) (by omega)
        exact ⟨cw_bidsFor_cgq e1 (by rw [cw_no_eq (cw_upn _ _ (by omega))]; exact h6) h2, e1⟩
      · rw [cw_ie r, cw_ie r]; exact ⟨rfl, e⟩
    · rw [cw_ie (fun z => q z.1.1), cw_ie (fun z => q z.1.1)]; exact ⟨rfl, e⟩
  split
  · exact cw_settles_cgq hI hB e
  split
  · unfold cw_oRelease
    rw [cw_th_cgq e]
    by_cases q : cw_th s a b
    · obtain ⟨h1, h2, -, -⟩ := cw_thx hI q
      rw [cw_rdq e (p := 25 + 3 * cw_x b + 2) (by omega) (by omega)]
      by_cases r : cw_th s a b ∧ s (25 + 3 * cw_x b + 2) = a
      · rw [cw_it r, cw_it r, cw_rdq e (p := 25 + 3 * cw_x b + 0) (by omega) (by omega)]
        exact ⟨rfl, cw_releases_cgq e (by omega) h2⟩
      · rw [cw_ie r, cw_ie r]; exact ⟨rfl, e⟩
    · rw [cw_ie (fun z => q z.1), cw_ie (fun z => q z.1)]; exact ⟨rfl, e⟩
  split
  · unfold cw_oOffer
    rw [cw_swap_cg2q e, e5]
    by_cases q : cw_swap s a b c ∧ s 205 < 8
    · rw [cw_it q, cw_it q]
      refine ⟨rfl, ?_⟩
      have hx := cw_x_lt hI
      have h8 : cw_x (s 205) < 8 := by
        have z := q.2
        rw [hx.2, cw_lt, cw_ni (by omega)] at z
        have y : (8 : Int32).toInt = 8 := rfl
        omega
      show cw_eqq (upd (upd (upd (upd s' 205 (s' 205 + 1)) (206 + 3 * cw_x (s 205) + 0) a) (206 + 3 * cw_x (s 205) + 1) b) (206 + 3 * cw_x (s 205) + 2) c) (upd (upd (upd (upd s 205 (s 205 + 1)) (206 + 3 * cw_x (s 205) + 0) a) (206 + 3 * cw_x (s 205) + 1) b) (206 + 3 * cw_x (s 205) + 2) c)
      rw [e5]
      have z5 : ∀ t : cw_s, upd (upd (upd (upd t 205 (s 205 + 1)) (206 + 3 * cw_x (s 205) + 0) a) (206 + 3 * cw_x (s 205) + 1) b) (206 + 3 * cw_x (s 205) + 2) c 205 = nI (cw_x (s 205) + 1) := fun t => by
        rw [cw_upn _ _ (by omega), cw_upn _ _ (by omega), cw_upn _ _ (by omega), cw_ups]
        have hq := hx.2
        generalize cw_x (s 205) = q at hq ⊢
        rw [hq]; exact nI_1 q
      refine cw_nf_extq (by rw [z5, z5]) (fun p hp hs => ?_)
      rw [z5, cw_xn (by omega)] at hs
      by_cases c2 : p = 206 + 3 * cw_x (s 205) + 2
      · rw [c2, cw_ups, cw_ups]
      rw [cw_upn _ _ c2, cw_upn _ _ c2]
      by_cases c1 : p = 206 + 3 * cw_x (s 205) + 1
      · rw [c1, cw_ups, cw_ups]
      rw [cw_upn _ _ c1, cw_upn _ _ c1]
      by_cases c0 : p = 206 + 3 * cw_x (s 205) + 0
      · rw [c0, cw_ups, cw_ups]
      rw [cw_upn _ _ c0, cw_upn _ _ c0]
      by_cases c5 : p = 205
      · rw [c5, cw_ups, cw_ups]
      rw [cw_upn _ _ c5, cw_upn _ _ c5]
      by_cases g : p < 206 ∨ (230 ≤ p ∧ p ≠ 240)
      · exact cw_rdq e g hp
      · have := cw_liveq hI e (i := (p - 206) / 3) (z := (p - 206) % 3) (by omega) (by omega)
        rwa [show 206 + 3 * ((p - 206) / 3) + (p - 206) % 3 = p by omega] at this
    · rw [cw_ie q, cw_ie q]; exact ⟨rfl, e⟩
  split
  · unfold cw_oAccept
    simp only []
    rw [cw_isK_cgq e]
    by_cases q : cw_isK s a
    · rw [cw_it q, cw_it q]
      obtain ⟨k, rfl, hk⟩ := cw_isK_ix hI q
      rw [cw_xn (show k < 1000 by have := (cw_x_lt hI).1; omega), e5]
      obtain ⟨⟨j0, hj0, he0⟩, ⟨k1, hk1, he1⟩, ⟨k2, hk2, he2⟩⟩ := hI.offs hk
      rw [cw_liveq hI e (z := 0) hk (by omega), cw_liveq hI e (z := 1) hk (by omega), cw_liveq hI e (z := 2) hk (by omega), cw_swap_cg2q e, he1, he2, cw_xn (show k1 < 1000 by omega), cw_xn (show k2 < 1000 by omega)]
      have ed := cw_drop_cgq hI e hk
      rw [cw_rdq e (p := 25 + 3 * k2 + 2) (by omega) (by omega), cw_rdq e (p := 238) (by omega) (by omega), cw_rdq e (p := 239) (by omega) (by omega)]
      by_cases r : cw_swap s (s (206 + 3 * k + 0)) (nI k1) (nI k2)
      · rw [cw_it r, cw_it r]
        exact ⟨rfl, cw_eqq_nf (cw_upq (cw_upq (cw_upq ed _ (by omega) (by omega)) _ (by omega) (by omega)) _ (by omega) (by omega))⟩
      · rw [cw_ie r, cw_ie r]
        exact ⟨rfl, cw_eqq_nf (cw_upq ed _ (by omega) (by omega))⟩
    · rw [cw_ie q, cw_ie q]; exact ⟨rfl, e⟩
  split
  · unfold cw_oUpkeep
    rw [e0, cw_no_cgq e]
    by_cases q : (1 ≤ a ∧ a ≤ 999) ∧ ¬ s 0 = 0
    · rw [cw_it q, cw_it q]
      obtain ⟨k1, k2⟩ := cw_pays_cgq e h6 a
      simp only []
      rw [k1, cw_rdq k2 (p := 241) (by omega) (by omega)]
      exact ⟨rfl, cw_upq k2 _ (by omega) (by omega)⟩
    · rw [cw_ie q, cw_ie q]; exact ⟨rfl, e⟩
  · exact cw_year_cgq e h6


theorem cw_Iq {n m : Nat} {s' s : cw_s} (hI : cw_I n m s) (e : cw_eqq s' s) : cw_I n m s' := by
  have rd : ∀ {p : Nat}, (p < 206 ∨ (230 ≤ p ∧ p ≠ 240)) → p < 242 → s' p = s p := fun h1 h2 => cw_rdq e h1 h2
  have en : cw_no s' = cw_no s := cw_no_eq (rd (by omega) (by omega))
  obtain ⟨⟨a1, a2⟩, B, C, D, F, G, K, L, O, P, ⟨q, q1, q2, q3⟩, r1, r2, r3⟩ := hI
  refine ⟨⟨by rw [rd (by omega) (by omega), en]; exact a1, by rw [en]; exact a2⟩, fun j h1 h2 => ?_, fun j k h1 h2 h3 => ?_, fun j h1 => ?_, fun j h1 => ?_, fun j h1 => ?_, fun k h1 => ?_, fun k h1 => ?_, fun k h1 => ?_, fun j k h1 h2 => ?_, ⟨q, q1, by rw [rd (by omega) (by omega)]; exact q2, fun i hi => ?_⟩, by rw [rd (by omega) (by omega)]; exact r1, by rw [rd (by omega) (by omega)]; exact r2, by rw [rd (by omega) (by omega)]; exact r3⟩
  · rw [en] at h1; rw [rd (by omega) (by omega), rd (by omega) (by omega), rd (by omega) (by omega), rd (by omega) (by omega)]; exact B j h1 h2
  · rw [en] at h1; rw [rd (by omega) (by omega)]; exact C j k h1 h2 h3
  · rw [en] at h1; rw [rd (by omega) (by omega)]; exact D j h1
  · rw [rd (by omega) (by omega)]; exact F j h1
  · rw [rd (by omega) (by omega)]; exact G j h1
  · rw [rd (by omega) (by omega)]; exact K _ h1
  · rw [rd (by omega) (by omega)]; exact L _ h1
  · rw [rd (by omega) (by omega), en]; exact O k h1
  · rw [rd (by omega) (by omega)]; exact P j k h1 h2
  · have h5 : cw_x (s 205) = q := by rw [q2, cw_xn (by omega)]
    rw [cw_liveq ⟨⟨a1, a2⟩, B, C, D, F, G, K, L, O, P, ⟨q, q1, q2, q3⟩, r1, r2, r3⟩ e (i := i) (z := 0) (by omega) (by omega), cw_liveq ⟨⟨a1, a2⟩, B, C, D, F, G, K, L, O, P, ⟨q, q1, q2, q3⟩, r1, r2, r3⟩ e (i := i) (z := 1) (by omega) (by omega), cw_liveq ⟨⟨a1, a2⟩, B, C, D, F, G, K, L, O, P, ⟨q, q1, q2, q3⟩, r1, r2, r3⟩ e (i := i) (z := 2) (by omega) (by omega), en]
    exact q3 i hi
