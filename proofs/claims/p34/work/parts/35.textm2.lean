/-! COMMANDS of a text -/
theorem cw_cmd_111 {tx : Nat → Int32} {len p : Nat} (h : tx p = 111) : cw_cmd tx len p = ((cw_take tx len 49 57 (false, p + 1)).2, 1 + (cw_take tx len 49 57 (false, p + 1)).1, 0, 0) := by
  unfold cw_cmd; simp only [h]; simp
theorem cw_cmd_107 {tx : Nat → Int32} {len p : Nat} (h : tx p = 107) : cw_cmd tx len p = ((cw_take tx len 49 57 (cw_week tx len (false, p + 1)).2).2, (cw_week tx len (false, p + 1)).1, 1 + (cw_take tx len 49 57 (cw_week tx len (false, p + 1)).2).1, 0) := by
  unfold cw_cmd; simp only [h]; simp
theorem cw_cmd_115 {tx : Nat → Int32} {len p : Nat} (h : tx p = 115) : cw_cmd tx len p = (cw_sign tx len (cw_week tx len (false, p + 1)).2, (cw_week tx len (false, p + 1)).1, cw_b (cw_plus tx len (cw_week tx len (false, p + 1)).2), 0) := by
  unfold cw_cmd; simp only [h]; simp
theorem cw_cmd_116 {tx : Nat → Int32} {len p : Nat} (h : tx p = 116) : cw_cmd tx len p = ((cw_week tx len (cw_take tx len 48 53 (false, p + 1)).2).2, (cw_take tx len 48 53 (false, p + 1)).1, (cw_week tx len (cw_take tx len 48 53 (false, p + 1)).2).1, 0) := by
  unfold cw_cmd; simp only [h]; simp
theorem cw_cmd_114 {tx : Nat → Int32} {len p : Nat} (h : tx p = 114) : cw_cmd tx len p = ((cw_week tx len (cw_take tx len 48 53 (false, p + 1)).2).2, (cw_take tx len 48 53 (false, p + 1)).1, (cw_week tx len (cw_take tx len 48 53 (false, p + 1)).2).1, 0) := by
  unfold cw_cmd; simp only [h]; simp
theorem cw_cmd_98 {tx : Nat → Int32} {len p : Nat} (h : tx p = 98) : cw_cmd tx len p = ((cw_extra tx len (cw_week tx len (cw_take tx len 48 53 (false, p + 1)).2).2).2, (cw_take tx len 48 53 (false, p + 1)).1, (cw_week tx len (cw_take tx len 48 53 (false, p + 1)).2).1, (cw_extra tx len (cw_week tx len (cw_take tx len 48 53 (false, p + 1)).2).2).1) := by
  unfold cw_cmd; simp only [h]; simp
theorem cw_cmd_102 {tx : Nat → Int32} {len p : Nat} (h : tx p = 102) : cw_cmd tx len p = ((cw_week tx len (cw_week tx len (cw_take tx len 48 53 (false, p + 1)).2).2).2, (cw_take tx len 48 53 (false, p + 1)).1, (cw_week tx len (cw_take tx len 48 53 (false, p + 1)).2).1, (cw_week tx len (cw_week tx len (cw_take tx len 48 53 (false, p + 1)).2).2).1) := by
  unfold cw_cmd; simp only [h]; simp
theorem cw_cmd_97 {tx : Nat → Int32} {len p : Nat} (h : tx p = 97) : cw_cmd tx len p = ((cw_take tx len 48 55 (false, p + 1)).2, (cw_take tx len 48 55 (false, p + 1)).1, 0, 0) := by
  unfold cw_cmd; simp only [h]; simp
theorem cw_cmd_117 {tx : Nat → Int32} {len p : Nat} (h : tx p = 117) : cw_cmd tx len p = ((cw_coins tx len (false, p + 1)).2, (cw_coins tx len (false, p + 1)).1, 0, 0) := by
  unfold cw_cmd; simp only [h]; simp
theorem cw_cmd_101 {tx : Nat → Int32} {len p : Nat} (h : tx p = 101) : cw_cmd tx len p = ((false, p + 1), 0, 0, 0) := by
  unfold cw_cmd; simp only [h]; simp
theorem cw_cmd_121 {tx : Nat → Int32} {len p : Nat} (h : tx p = 121) : cw_cmd tx len p = ((false, p + 1), 0, 0, 0) := by
  unfold cw_cmd; simp only [h]; simp
theorem cw_cmd_no {tx : Nat → Int32} {len p : Nat} (h : ¬ cw_isL (tx p)) : cw_cmd tx len p = ((true, p), 0, 0, 0) := by
  unfold cw_isL at h
  unfold cw_cmd; simp only []
  simp_all
theorem cw_tx_h {tx : Nat → Int32} {len k : Nat} {w B : gw_M} {g : cw_sg} {x : Int32} (_h : w = cw_T (gw_set B 0 k x) g) (ht : cw_tx tx len B) (hk : k ≠ 8) : cw_tx tx len (gw_set B 0 k x) := cw_tx_set ht hk
/-- the text's way: a step -/
noncomputable def cw_pst (tx : Nat → Int32) (len : Nat) (g : cw_sg) : cw_sg := cw_if (g.1 = false ∧ g.2 < len) (cw_cmd tx len g.2).1 g
noncomputable def cw_tst (tx : Nat → Int32) (len : Nat) : cw_sg := (cw_take tx len 67 67 (false, 0)).2
noncomputable def cw_parse (tx : Nat → Int32) (len : Nat) (i : Nat) : cw_sg := cw_fold (fun _ g => cw_pst tx len g) 0 i (cw_tst tx len)
theorem cw_parse_1 (tx : Nat → Int32) (len i : Nat) : cw_parse tx len (i + 1) = cw_pst tx len (cw_parse tx len i) := cw_fold0 (fun _ g => cw_pst tx len g) i (cw_tst tx len)
theorem cw_take_ge (tx : Nat → Int32) (len : Nat) (lo hi : Int32) (g : cw_sg) : g.2 ≤ (cw_take tx len lo hi g).2.2 := by
  unfold cw_take
  by_cases q : cw_is tx len lo hi g
  · rw [cw_it q]; exact Nat.le_succ _
  · rw [cw_ie q]; exact Nat.le_refl _
theorem cw_week_ge (tx : Nat → Int32) (len : Nat) (g : cw_sg) : g.2 ≤ (cw_week tx len g).2.2 := Nat.le_trans (cw_take_ge tx len 48 49 g) (cw_take_ge _ _ _ _ _)
theorem cw_extra_ge (tx : Nat → Int32) (len : Nat) (g : cw_sg) : g.2 ≤ (cw_extra tx len g).2.2 := Nat.le_trans (cw_take_ge tx len 48 50 g) (cw_take_ge _ _ _ _ _)
theorem cw_coins_b (tx : Nat → Int32) (len : Nat) (g : cw_sg) (hl : len ≤ 120) (hg : g.2 ≤ 120) : g.2 ≤ (cw_coins tx len g).2.2 ∧ (cw_coins tx len g).2.2 ≤ 120 := by
  have h2 : g.2 ≤ (cw_two tx len g).2 ∧ (cw_two tx len g).2 ≤ 120 := ⟨Nat.le_trans (cw_take_ge tx len 48 57 g) (cw_take_ge _ _ _ _ _), cw_take_le _ _ _ _ _ hl (cw_take_le _ _ _ _ _ hl hg)⟩
  unfold cw_coins
  split
  · exact ⟨Nat.le_trans h2.1 (cw_take_ge _ _ _ _ _), cw_take_le _ _ _ _ _ hl h2.2⟩
  · exact ⟨Nat.le_trans h2.1 (cw_take_ge _ _ _ _ _), cw_take_le _ _ _ _ _ hl h2.2⟩
theorem cw_sign_b (tx : Nat → Int32) (len : Nat) (g : cw_sg) (hl : len ≤ 120) (hg : g.2 ≤ 120) : g.2 ≤ (cw_sign tx len g).2 ∧ (cw_sign tx len g).2 ≤ 120 := by
  unfold cw_sign
  by_cases q : cw_plus tx len g
  · rw [cw_it q]; exact ⟨cw_take_ge _ _ _ _ _, cw_take_le _ _ _ _ _ hl hg⟩
  · rw [cw_ie q]; exact ⟨cw_take_ge _ _ _ _ _, cw_take_le _ _ _ _ _ hl hg⟩
/-- a command goes on by a character at least, or it is wrong; never beyond the text -/
theorem cw_cmd_b (tx : Nat → Int32) (len p : Nat) (hl : len ≤ 120) (hp : p < len) : (cw_cmd tx len p).1.2 ≤ 120 ∧ ((cw_cmd tx len p).1.1 = false → p + 1 ≤ (cw_cmd tx len p).1.2) := by
  have hp1 : (false, p + 1).2 ≤ 120 := by show p + 1 ≤ 120; omega
  by_cases h : cw_isL (tx p)
  · unfold cw_isL at h
    rcases h with h | h | h | h | h | h | h | h | h | h | h
    · rw [cw_cmd_111 h]; exact ⟨cw_take_le _ _ _ _ _ hl hp1, fun _ => cw_take_ge tx len 49 57 (false, p + 1)⟩
    · rw [cw_cmd_107 h]; exact ⟨cw_take_le _ _ _ _ _ hl (cw_week_le _ _ _ hl hp1), fun _ => Nat.le_trans (cw_week_ge tx len (false, p + 1)) (cw_take_ge _ _ _ _ _)⟩
    · rw [cw_cmd_115 h]; have := cw_sign_b tx len (cw_week tx len (false, p + 1)).2 hl (cw_week_le _ _ _ hl hp1); exact ⟨this.2, fun _ => Nat.le_trans (cw_week_ge tx len (false, p + 1)) this.1⟩
    · rw [cw_cmd_116 h]; exact ⟨cw_week_le _ _ _ hl (cw_take_le _ _ _ _ _ hl hp1), fun _ => Nat.le_trans (cw_take_ge tx len 48 53 (false, p + 1)) (cw_week_ge _ _ _)⟩
    · rw [cw_cmd_98 h]; exact ⟨cw_extra_le _ _ _ hl (cw_week_le _ _ _ hl (cw_take_le _ _ _ _ _ hl hp1)), fun _ => Nat.le_trans (cw_take_ge tx len 48 53 (false, p + 1)) (Nat.le_trans (cw_week_ge _ _ _) (cw_extra_ge _ _ _))⟩
    · rw [cw_cmd_101 h]; exact ⟨hp1, fun _ => Nat.le_refl _⟩
    · rw [cw_cmd_114 h]; exact ⟨cw_week_le _ _ _ hl (cw_take_le _ _ _ _ _ hl hp1), fun _ => Nat.le_trans (cw_take_ge tx len 48 53 (false, p + 1)) (cw_week_ge _ _ _)⟩
    · rw [cw_cmd_102 h]; exact ⟨cw_week_le _ _ _ hl (cw_week_le _ _ _ hl (cw_take_le _ _ _ _ _ hl hp1)), fun _ => Nat.le_trans (cw_take_ge tx len 48 53 (false, p + 1)) (Nat.le_trans (cw_week_ge _ _ _) (cw_week_ge _ _ _))⟩
    · rw [cw_cmd_97 h]; exact ⟨cw_take_le _ _ _ _ _ hl hp1, fun _ => cw_take_ge tx len 48 55 (false, p + 1)⟩
    · rw [cw_cmd_117 h]; have := cw_coins_b tx len (false, p + 1) hl hp1; exact ⟨this.2, fun _ => this.1⟩
    · rw [cw_cmd_121 h]; exact ⟨hp1, fun _ => Nat.le_refl _⟩
  · rw [cw_cmd_no h]; exact ⟨by show p ≤ 120; omega, fun q => nomatch q⟩
theorem cw_parse_b (tx : Nat → Int32) (len : Nat) (hl : len ≤ 120) : ∀ i, (cw_parse tx len i).2 ≤ 120 ∧ ((cw_parse tx len i).1 = false → (cw_parse tx len i).2 < len ∨ len ≤ (cw_parse tx len i).2) ∧ ((cw_parse tx len i).1 = false → min i len ≤ (cw_parse tx len i).2) := by
  intro i
  induction i with
  | zero => exact ⟨cw_take_le _ _ _ _ _ hl (Nat.zero_le _), fun _ => Nat.lt_or_ge _ _, fun _ => by rw [Nat.zero_min]; exact Nat.zero_le _⟩
  | succ i ih =>
    rw [cw_parse_1]
    generalize cw_parse tx len i = g at ih ⊢
    unfold cw_pst
    by_cases q : g.1 = false ∧ g.2 < len
    · rw [cw_it q]
      have := cw_cmd_b tx len g.2 hl q.2
      exact ⟨this.1, fun _ => Nat.lt_or_ge _ _, fun z => by have := this.2 z; have := ih.2.2 q.1; omega⟩
    · rw [cw_ie q]
      refine ⟨ih.1, fun _ => Nat.lt_or_ge _ _, fun z => ?_⟩
      have : ¬ g.2 < len := fun y => q ⟨z, y⟩
      omega
/-- when it is through it stays so -/
theorem cw_parse_end (tx : Nat → Int32) (len i : Nat) (h : ¬ ((cw_parse tx len i).1 = false ∧ (cw_parse tx len i).2 < len)) : ∀ n, cw_parse tx len (i + n) = cw_parse tx len i := by
  intro n
  induction n with
  | zero => rfl
  | succ n ih =>
    show cw_parse tx len ((i + n) + 1) = _
    rw [cw_parse_1, ih]
    unfold cw_pst; exact cw_ie h
/-- what a command of the text does, and counts -/
noncomputable def cw_left (d : Int32) (l : Int32) : Int32 := cw_b (d = -9 ∨ (l = 116 ∧ ¬ d ≤ 0))
abbrev cw_D : Type := cw_sg × cw_s × Int32
noncomputable def cw_dcm (tx : Nat → Int32) (len : Nat) (x : cw_D) : Int32 × cw_s := cw_does x.2.1 (tx x.1.2) (cw_cmd tx len x.1.2).2.1 (cw_cmd tx len x.1.2).2.2.1 (cw_cmd tx len x.1.2).2.2.2
noncomputable def cw_dst (tx : Nat → Int32) (len : Nat) (x : cw_D) : cw_D := cw_if (x.1.1 = false ∧ x.1.2 < len) ((cw_cmd tx len x.1.2).1, cw_nf (cw_dcm tx len x).2, x.2.2 + cw_left (cw_dcm tx len x).1 (tx x.1.2)) x
noncomputable def cw_run (tx : Nat → Int32) (len : Nat) (i : Nat) : cw_D := cw_fold (fun _ x => cw_dst tx len x) 0 i (cw_tst tx len, cw_new, 0)
theorem cw_run_1 (tx : Nat → Int32) (len i : Nat) : cw_run tx len (i + 1) = cw_dst tx len (cw_run tx len i) := cw_fold0 (fun _ x => cw_dst tx len x) i (cw_tst tx len, cw_new, 0)
theorem cw_run_parse (tx : Nat → Int32) (len : Nat) : ∀ i, (cw_run tx len i).1 = cw_parse tx len i := by
  intro i
  induction i with
  | zero => rfl
  | succ i ih =>
    rw [cw_run_1, cw_parse_1, ← ih]
    unfold cw_dst cw_pst
    by_cases q : (cw_run tx len i).1.1 = false ∧ (cw_run tx len i).1.2 < len
    · rw [cw_it q, cw_it q]
    · rw [cw_ie q, cw_ie q]
theorem cw_run_end (tx : Nat → Int32) (len i : Nat) (h : ¬ ((cw_parse tx len i).1 = false ∧ (cw_parse tx len i).2 < len)) : ∀ n, cw_run tx len (i + n) = cw_run tx len i := by
  intro n
  induction n with
  | zero => rfl
  | succ n ih =>
    show cw_run tx len ((i + n) + 1) = _
    rw [cw_run_1, ih]
    unfold cw_dst; exact cw_ie (by rw [cw_run_parse]; exact h)
/-- the wrong stays wrong -/
theorem cw_parse_ok (tx : Nat → Int32) (len i : Nat) : ∀ n, (cw_parse tx len (i + n)).1 = false → (cw_parse tx len i).1 = false := by
  intro n
  induction n with
  | zero => exact id
  | succ n ih =>
    intro h
    refine ih ?_
    have h2 : (cw_pst tx len (cw_parse tx len (i + n))).1 = false := by rw [← cw_parse_1]; exact h
    unfold cw_pst at h2
    by_cases q : (cw_parse tx len (i + n)).1 = false ∧ (cw_parse tx len (i + n)).2 < len
    · exact q.1
    · rw [cw_ie q] at h2; exact h2
theorem cw_take_v {tx : Nat → Int32} {len : Nat} {lo hi : Int32} {g : cw_sg} (h : (cw_take tx len lo hi g).2.1 = false) : cw_is tx len lo hi g := by
  unfold cw_take at h
  by_cases q : cw_is tx len lo hi g
  · exact q
  · rw [cw_ie q] at h; exact nomatch h
theorem cw_take_r {tx : Nat → Int32} {len : Nat} {lo hi : Int32} {g : cw_sg} (h : (cw_take tx len lo hi g).2.1 = false) (u : Nat) (h1 : 0 ≤ lo.toInt) (h2 : hi.toInt ≤ 255) (h3 : hi.toInt - lo.toInt ≤ u) : cw_r 0 u (cw_take tx len lo hi g).1 := by
  have q := cw_take_v h
  unfold cw_take; rw [cw_it q]
  have a := cw_le.mp q.2.2.1
  have b := cw_le.mp q.2.2.2
  show cw_r 0 u (tx g.2 - lo)
  have hd := cw_sub0 (a := tx g.2) (b := lo) (by omega) (by omega) (by omega) (by omega)
  by_cases hu : u < 2147483648
  · exact cw_r.of (by rw [hd]; omega) (by rw [hd]; omega) hu
  · exact (cw_r.of (l := 0) (u := 255) (by rw [hd]; omega) (by rw [hd]; omega) (by decide)).mono (Nat.le_refl _) (by omega)
theorem cw_take_f {tx : Nat → Int32} {len : Nat} {lo hi : Int32} {g : cw_sg} (h : (cw_take tx len lo hi g).2.1 = false) : g.1 = false := (cw_take_v h).1
theorem cw_week_r {tx : Nat → Int32} {len : Nat} {g : cw_sg} (h : (cw_week tx len g).2.1 = false) : cw_r 0 19 (cw_week tx len g).1 := by
  have h1 := cw_take_f h
  have r2 := cw_take_r h 9 (by decide) (by decide) (by decide)
  have r1 := cw_take_r h1 1 (by decide) (by decide) (by decide)
  exact (cw_r_add (cw_r_mul (b := 10) (d := 1) ⟨10, by omega, by omega, rfl⟩ r1) r2).mono (Nat.le_refl _) (by omega)
theorem cw_week_f {tx : Nat → Int32} {len : Nat} {g : cw_sg} (h : (cw_week tx len g).2.1 = false) : g.1 = false := cw_take_f (cw_take_f h)
theorem cw_sign_f {tx : Nat → Int32} {len : Nat} {g : cw_sg} (h : (cw_sign tx len g).1 = false) : g.1 = false := by
  unfold cw_sign at h
  by_cases q : cw_plus tx len g
  · rw [cw_it q] at h; exact cw_take_f h
  · rw [cw_ie q] at h; exact cw_take_f h
theorem cw_b_r (P : Prop) : cw_r 0 1 (cw_b P) := by
  by_cases h : P
  · rw [cw_b1 h]; exact ⟨1, by omega, by omega, rfl⟩
  · rw [cw_bf h]; exact ⟨0, by omega, by omega, rfl⟩
theorem cw_r_isW {x : Int32} (h : cw_r 0 19 x) : cw_isW x := by
  obtain ⟨k, h1, h2, rfl⟩ := h; exact cw_isW_nI (by omega)
theorem cw_cmd_s {tx : Nat → Int32} {len p : Nat} (hl : tx p = 115) (h : (cw_cmd tx len p).1.1 = false) : cw_isW (cw_cmd tx len p).2.1 ∧ cw_r 0 1 (cw_cmd tx len p).2.2.1 := by
  rw [cw_cmd_115 hl] at h ⊢
  exact ⟨cw_r_isW (cw_week_r (cw_sign_f h)), cw_b_r _⟩
/-- the numbers that a command doesn't use -/
theorem cw_does_use {s : cw_s} {l a b c b' c' : Int32} (hb : (l = 107 ∨ l = 115 ∨ l = 116 ∨ l = 98 ∨ l = 114 ∨ l = 102) → b' = b) (hc : (l = 98 ∨ l = 102) → c' = c) : cw_does s l a b' c' = cw_does s l a b c := by
  unfold cw_does
  split
  · rfl
  split
  · next h => rw [hb (Or.inl h)]
  split
  · next h => rw [hb (Or.inr (Or.inl h))]
  split
  · next h => rw [hb (Or.inr (Or.inr (Or.inl h)))]
  split
  · next h => rw [hb (Or.inr (Or.inr (Or.inr (Or.inl h)))), hc (Or.inl h)]
  split
  · rfl
  split
  · next h => rw [hb (Or.inr (Or.inr (Or.inr (Or.inr (Or.inl h)))))]
  split
  · next h => rw [hb (Or.inr (Or.inr (Or.inr (Or.inr (Or.inr h))))), hc (Or.inr h)]
  · rfl
theorem cw_I_new : cw_I 0 0 cw_new := by
  refine ⟨⟨rfl, by decide⟩, fun j _ h => ?_, fun j k _ h1 h2 => ?_, fun j h => absurd h (Nat.not_lt_zero j), fun j h => ?_, fun j h => ?_, fun k h => ?_, fun k h => ?_, fun k h => ?_, fun j k h1 h2 => ?_, ⟨0, by omega, rfl, fun i h => absurd h (Nat.not_lt_zero i)⟩, ⟨4, by omega, by omega, rfl⟩, ⟨5, by omega, by omega, rfl⟩, ⟨3, by omega, by omega, rfl⟩⟩
  · have z : ∀ i, i < 4 → cw_new (1 + 4 * j + i) = 0 := fun i hi => by unfold cw_new; rw [if_neg (by omega), if_neg (by omega), if_neg (by omega), if_neg (by omega), if_neg (by omega)]
    exact ⟨z 0 (by omega), z 1 (by omega), z 2 (by omega), z 3 (by omega)⟩
  · unfold cw_new; rw [if_neg (by omega), if_pos (by omega)]
  · exact ⟨0, by omega, by omega, by unfold cw_new; rw [if_neg (by omega), if_neg (by omega), if_neg (by omega), if_neg (by omega), if_neg (by omega)]; rfl⟩
  · exact ⟨0, by omega, by omega, by unfold cw_new; rw [if_neg (by omega), if_neg (by omega), if_neg (by omega), if_neg (by omega), if_neg (by omega)]; rfl⟩
  · exact ⟨3, by omega, by omega, by unfold cw_new; rw [if_pos (by omega), if_pos (by omega)]; rfl⟩
  · exact ⟨0, by omega, by omega, by unfold cw_new; rw [if_pos (by omega), if_neg (by omega), if_pos (by omega)]; rfl⟩
  · exact Or.inl (by unfold cw_new; rw [if_pos (by omega), if_neg (by omega), if_neg (by omega)])
  · exact Or.inl (by unfold cw_new; rw [if_neg (by omega), if_pos (by omega)])
theorem cw_nf_new : cw_nf cw_new = cw_new := by
  funext p
  unfold cw_nf
  have z : cw_x (cw_new 205) = 0 := rfl
  rw [z]
  by_cases h : p < 242 ∧ ¬ (206 + 3 * 0 ≤ p ∧ p < 230)
  · rw [if_pos h]
  · rw [if_neg h]; unfold cw_new
    rw [if_neg (by omega), if_neg (by omega), if_neg (by omega), if_neg (by omega), if_neg (by omega)]
theorem cw_run_I (tx : Nat → Int32) (len : Nat) (hok : (cw_parse tx len 120).1 = false) : ∀ i, i ≤ 120 → cw_I (180 * i) (20 * i) (cw_run tx len i).2.1 := by
  intro i
  induction i with
  | zero => intro _; exact cw_I_new
  | succ i ih =>
    intro hi
    have hI := ih (by omega)
    rw [cw_run_1]
    unfold cw_dst
    by_cases q : (cw_run tx len i).1.1 = false ∧ (cw_run tx len i).1.2 < len
    · rw [cw_it q]
      have ok1 : (cw_parse tx len (i + 1)).1 = false := cw_parse_ok tx len (i + 1) (119 - i) (by rw [show i + 1 + (119 - i) = 120 by omega]; exact hok)
      rw [cw_parse_1, ← cw_run_parse] at ok1
      unfold cw_pst at ok1
      rw [cw_it q] at ok1
      refine cw_I_cg ?_ (cw_nf_nf _)
      exact cw_I_does hI ⟨by omega, by omega⟩ _ _ _ _ (fun z => cw_cmd_s z ok1)
    · rw [cw_ie q]; exact hI.mono (by omega) (by omega)
