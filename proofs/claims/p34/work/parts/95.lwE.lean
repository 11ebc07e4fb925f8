/-! COINS PARTED BY SHARES: to the last one (in whole numbers) -/
def pw_sum (f : Nat → Nat) : Nat → Nat
  | 0 => 0
  | n + 1 => pw_sum f n + f n
theorem pw_sum_1 (f : Nat → Nat) (n : Nat) : pw_sum f (n + 1) = pw_sum f n + f n := rfl
theorem pw_sum_cg {f g : Nat → Nat} : ∀ n, (∀ i, i < n → f i = g i) → pw_sum f n = pw_sum g n := by
  intro n
  induction n with
  | zero => intro _; rfl
  | succ n ih => intro h; rw [pw_sum_1, pw_sum_1, ih (fun i hi => h i (by omega)), h n (by omega)]
theorem pw_sum_le {f g : Nat → Nat} : ∀ n, (∀ i, i < n → f i ≤ g i) → pw_sum f n ≤ pw_sum g n := by
  intro n
  induction n with
  | zero => intro _; exact Nat.le_refl _
  | succ n ih => intro h; rw [pw_sum_1, pw_sum_1]; exact Nat.add_le_add (ih (fun i hi => h i (by omega))) (h n (by omega))
theorem pw_sum_add (f g : Nat → Nat) : ∀ n, pw_sum (fun i => f i + g i) n = pw_sum f n + pw_sum g n := by
  intro n
  induction n with
  | zero => rfl
  | succ n ih => rw [pw_sum_1, pw_sum_1, pw_sum_1, ih]; omega
theorem pw_sum_mul (c : Nat) (f : Nat → Nat) : ∀ n, pw_sum (fun i => c * f i) n = c * pw_sum f n := by
  intro n
  induction n with
  | zero => exact (Nat.mul_zero c).symm
  | succ n ih => rw [pw_sum_1, pw_sum_1, ih, Nat.mul_add]
theorem pw_sum_one : ∀ n, pw_sum (fun _ => 1) n = n := by
  intro n
  induction n with
  | zero => rfl
  | succ n ih => rw [pw_sum_1, ih]
theorem pw_sum_part {f : Nat → Nat} {i n : Nat} (h : i ≤ n) : pw_sum f i ≤ pw_sum f n := by
  induction n with
  | zero => rw [show i = 0 by omega]; exact Nat.le_refl _
  | succ n ih =>
    by_cases q : i = n + 1
    · rw [q]; exact Nat.le_refl _
    · rw [pw_sum_1]; have := ih (by omega); omega
def pw_cnt (P : Nat → Bool) (n : Nat) : Nat := pw_sum (fun i => if P i = true then 1 else 0) n
theorem pw_cnt_1 (P : Nat → Bool) (n : Nat) : pw_cnt P (n + 1) = pw_cnt P n + (if P n = true then 1 else 0) := rfl
theorem pw_cnt_le {P Q : Nat → Bool} {n : Nat} (h : ∀ i, i < n → P i = true → Q i = true) : pw_cnt P n ≤ pw_cnt Q n :=
  pw_sum_le n (fun i hi => by
    by_cases p : P i = true
    · rw [if_pos p, if_pos (h i hi p)]; exact Nat.le_refl _
    · rw [if_neg p]; exact Nat.zero_le _)
theorem pw_cnt_lt {P Q : Nat → Bool} : ∀ {n : Nat}, (∀ i, i < n → P i = true → Q i = true) → (∃ k, k < n ∧ ¬ P k = true ∧ Q k = true) → pw_cnt P n < pw_cnt Q n := by
  intro n
  induction n with
  | zero => rintro _ ⟨k, hk, -⟩; exact absurd hk (Nat.not_lt_zero _)
  | succ n ih =>
    rintro h ⟨k, hk, h1, h2⟩
    rw [pw_cnt_1, pw_cnt_1]
    by_cases q : k = n
    · subst q
      rw [if_neg h1, if_pos h2]
      have := pw_cnt_le (P := P) (Q := Q) (n := k) (fun i hi => h i (by omega))
      omega
    · have h3 := ih (fun i hi => h i (by omega)) ⟨k, by omega, h1, h2⟩
      by_cases p : P n = true
      · rw [if_pos p, if_pos (h n (by omega) p)]; omega
      · rw [if_neg p]; omega
theorem pw_cnt_0 {P : Nat → Bool} : ∀ {n : Nat}, (∀ i, i < n → ¬ P i = true) → pw_cnt P n = 0 := by
  intro n
  induction n with
  | zero => intro _; rfl
  | succ n ih => intro h; rw [pw_cnt_1, ih (fun i hi => h i (by omega)), if_neg (h n (by omega))]
theorem pw_cnt_one {P : Nat → Bool} : ∀ {n : Nat}, (∀ i j, i < n → j < n → P i = true → P j = true → i = j) → pw_cnt P n ≤ 1 := by
  intro n
  induction n with
  | zero => intro _; exact Nat.zero_le _
  | succ n ih =>
    intro h
    rw [pw_cnt_1]
    by_cases p : P n = true
    · rw [if_pos p, pw_cnt_0 (fun i hi z => by have := h i n (by omega) (by omega) z p; omega)]; omega
    · rw [if_neg p]; have := ih (fun i j hi hj => h i j (by omega) (by omega)); omega
theorem pw_sum_full {f : Nat → Nat} : ∀ {n : Nat}, (∀ l, l < n → f l ≤ 1) → pw_sum f n = n → ∀ L, L ≤ n → pw_sum f L = L := by
  intro n
  induction n with
  | zero => intro _ h L hL; rw [show L = 0 by omega]; rfl
  | succ n ih =>
    intro h1 h L hL
    have hb : pw_sum f n ≤ n := by
      have := pw_sum_le (f := f) (g := fun _ => 1) n (fun i hi => h1 i (by omega))
      rw [pw_sum_one] at this; exact this
    rw [pw_sum_1] at h
    have hn := h1 n (by omega)
    by_cases q : L = n + 1
    · rw [q, pw_sum_1]; omega
    · exact ih (fun l hl => h1 l (by omega)) (by omega) L (by omega)
/-- an injection of the first n numbers into them meets each -/
theorem pw_inj {ρ : Nat → Nat} {n : Nat} (h1 : ∀ i, i < n → ρ i < n) (h2 : ∀ i j, i < n → j < n → ρ i = ρ j → i = j) {L : Nat} (hL : L ≤ n) : pw_cnt (fun i => decide (ρ i < L)) n = L := by
  have e : ∀ L, pw_cnt (fun i => decide (ρ i < L)) n = pw_sum (fun l => pw_cnt (fun i => decide (ρ i = l)) n) L := by
    intro L
    induction L with
    | zero => exact pw_cnt_0 (fun i _ z => absurd (of_decide_eq_true z) (Nat.not_lt_zero _))
    | succ L ih =>
      rw [pw_sum_1, ← ih]
      unfold pw_cnt
      rw [← pw_sum_add]
      exact pw_sum_cg n (fun i _ => by
        simp only [decide_eq_true_eq]
        by_cases a : ρ i < L
        · rw [if_pos a, if_pos (by omega), if_neg (by omega)]
        · by_cases b : ρ i = L
          · rw [if_neg a, if_pos b, if_pos (by omega)]
          · rw [if_neg a, if_neg b, if_neg (by omega)])
  have hn : pw_sum (fun l => pw_cnt (fun i => decide (ρ i = l)) n) n = n := by
    rw [← e n]
    unfold pw_cnt
    have : pw_sum (fun i => if decide (ρ i < n) = true then 1 else 0) n = pw_sum (fun _ => 1) n := pw_sum_cg n (fun i hi => by rw [if_pos (decide_eq_true (h1 i hi))])
    rw [this, pw_sum_one]
  rw [e L]
  exact pw_sum_full (fun l _ => pw_cnt_one (fun i j hi hj a b => h2 i j hi hj ((of_decide_eq_true a).trans (of_decide_eq_true b).symm))) hn L hL
/-- i is ahead of j -/
def pw_bef (r : Nat → Nat) (i j : Nat) : Bool := decide (r j < r i ∨ (r i = r j ∧ i < j))
theorem pw_bef_iff {r : Nat → Nat} {i j : Nat} : pw_bef r i j = true ↔ (r j < r i ∨ (r i = r j ∧ i < j)) := decide_eq_true_iff
def pw_rank (r : Nat → Nat) (n j : Nat) : Nat := pw_cnt (fun i => pw_bef r i j) n
theorem pw_rank_lt {r : Nat → Nat} {n i j : Nat} (hi : i < n) (h : pw_bef r i j = true) : pw_rank r n i < pw_rank r n j := by
  refine pw_cnt_lt (fun k _ hk => ?_) ⟨i, hi, ?_, h⟩
  · rw [pw_bef_iff] at hk h ⊢; omega
  · rw [pw_bef_iff]; omega
theorem pw_rank_n {r : Nat → Nat} {n j : Nat} (hj : j < n) : pw_rank r n j < n := by
  have h : pw_cnt (fun i => pw_bef r i j) n < pw_cnt (fun _ => true) n := pw_cnt_lt (fun _ _ _ => rfl) ⟨j, hj, by rw [pw_bef_iff]; omega, rfl⟩
  have e : pw_cnt (fun _ => true) n = n := by
    unfold pw_cnt
    rw [pw_sum_cg (g := fun _ => 1) n (fun i _ => if_pos rfl), pw_sum_one]
  rw [e] at h; exact h
theorem pw_rank_inj {r : Nat → Nat} {n i j : Nat} (hi : i < n) (hj : j < n) (h : pw_rank r n i = pw_rank r n j) : i = j := by
  by_cases q : i = j
  · exact q
  · by_cases b : pw_bef r i j = true
    · have := pw_rank_lt hi b; omega
    · have b2 : pw_bef r j i = true := by rw [pw_bef_iff] at b ⊢; omega
      have := pw_rank_lt hj b2; omega
/-- what one pays -/
def pw_due (s : Nat → Nat) (n c j : Nat) : Nat := c * s j / pw_sum s n
def pw_rest (s : Nat → Nat) (n c j : Nat) : Nat := c * s j % pw_sum s n
def pw_left (s : Nat → Nat) (n c : Nat) : Nat := c - pw_sum (pw_due s n c) n
def pw_pay (s : Nat → Nat) (n c j : Nat) : Nat := pw_due s n c j + (if pw_rank (pw_rest s n c) n j < pw_left s n c then 1 else 0)
theorem pw_rests (s : Nat → Nat) (n c : Nat) : pw_sum s n * pw_sum (pw_due s n c) n + pw_sum (pw_rest s n c) n = pw_sum s n * c := by
  rw [← pw_sum_mul, ← pw_sum_add, Nat.mul_comm (pw_sum s n) c, ← pw_sum_mul]
  exact pw_sum_cg n (fun i _ => Nat.div_add_mod _ _)
theorem pw_dues {s : Nat → Nat} {n c : Nat} (h : 0 < pw_sum s n) : pw_sum (pw_due s n c) n ≤ c := by
  have e := pw_rests s n c
  exact Nat.le_of_mul_le_mul_left (by omega : pw_sum s n * pw_sum (pw_due s n c) n ≤ pw_sum s n * c) h
theorem pw_rests2 {s : Nat → Nat} {n c : Nat} (h : 0 < pw_sum s n) : pw_sum (pw_rest s n c) n = pw_sum s n * pw_left s n c := by
  have e := pw_rests s n c
  have d := pw_dues (s := s) (n := n) (c := c) h
  unfold pw_left
  rw [Nat.mul_sub]
  omega
/-- what is left over goes to such as have a rest -/
theorem pw_left_le {s : Nat → Nat} {n c : Nat} (h : 0 < pw_sum s n) : pw_left s n c ≤ pw_cnt (fun i => decide (0 < pw_rest s n c i)) n := by
  have e := pw_rests2 (c := c) h
  have h1 : pw_sum (pw_rest s n c) n ≤ pw_sum (fun i => pw_sum s n * (if decide (0 < pw_rest s n c i) = true then 1 else 0)) n := pw_sum_le n (fun i _ => by
    have hm : pw_rest s n c i < pw_sum s n := Nat.mod_lt _ h
    by_cases q : 0 < pw_rest s n c i
    · rw [if_pos (decide_eq_true q), Nat.mul_one]; omega
    · omega)
  rw [pw_sum_mul, e] at h1
  exact Nat.le_of_mul_le_mul_left h1 h
theorem pw_left_n {s : Nat → Nat} {n c : Nat} (h : 0 < pw_sum s n) : pw_left s n c ≤ n := by
  refine Nat.le_trans (pw_left_le h) ?_
  have := pw_sum_le (f := fun i => if decide (0 < pw_rest s n c i) = true then 1 else 0) (g := fun _ => 1) n (fun i _ => by split <;> omega)
  rw [pw_sum_one] at this
  exact this
theorem pw_pays {s : Nat → Nat} {n c : Nat} (h : 0 < pw_sum s n) : pw_sum (pw_pay s n c) n = c := by
  have e1 : pw_sum (pw_pay s n c) n = pw_sum (pw_due s n c) n + pw_cnt (fun i => decide (pw_rank (pw_rest s n c) n i < pw_left s n c)) n := by
    unfold pw_cnt
    rw [← pw_sum_add]
    exact pw_sum_cg n (fun i _ => by
      unfold pw_pay
      simp only [decide_eq_true_eq])
  rw [e1, pw_inj (fun i hi => pw_rank_n hi) (fun i j hi hj q => pw_rank_inj hi hj q) (pw_left_n h)]
  have := pw_dues (s := s) (n := n) (c := c) h
  unfold pw_left
  omega
theorem pw_pay_rest {s : Nat → Nat} {n c j : Nat} (h : 0 < pw_sum s n) (hr : pw_rank (pw_rest s n c) n j < pw_left s n c) : 0 < pw_rest s n c j := by
  by_cases q : 0 < pw_rest s n c j
  · exact q
  · have h1 : pw_cnt (fun i => decide (0 < pw_rest s n c i)) n ≤ pw_rank (pw_rest s n c) n j := pw_cnt_le (fun i _ a => by
      have a := of_decide_eq_true a
      rw [pw_bef_iff]; omega)
    have := pw_left_le (c := c) h
    omega
/-! .. and as the house has it -/
theorem pw_dvn {a b : Nat} (ha : a < 2147483648) (hb : 0 < b) (hb2 : b < 2147483648) : nI a / nI b = nI (a / b) ∧ cw_md (nI a) (nI b) = nI (a % b) := by
  have e := cw_mdg (x := nI a) (y := nI b) (by rw [nI_toInt ha]; omega) (by rw [nI_toInt hb2]; omega)
  rw [nI_toInt ha, nI_toInt hb2] at e
  have h1 : a / b ≤ a := Nat.div_le_self a b
  have h2 : a % b ≤ a := Nat.mod_le a b
  constructor
  · apply Int32.toInt_inj.mp
    rw [e.2, nI_toInt (by omega)]; exact (Int.natCast_ediv a b).symm
  · apply Int32.toInt_inj.mp
    rw [e.1, nI_toInt (by omega)]; exact (Int.natCast_emod a b).symm
theorem pw_subn {a b : Nat} (h : b ≤ a) (ha : a < 1000000000) : nI a - nI b = nI (a - b) := by
  apply Int32.toInt_inj.mp
  rw [nI_toInt (by omega), pk_sub_toInt (a := a) (b := b) (by omega) (by omega)]; omega
def pw_s (t : cw_s) (j : Nat) : Nat := cw_x (t (1 + 4 * j + 0))
theorem pw_s_e {n m : Nat} {t : cw_s} (h : cw_I n m t) {j : Nat} (hj : j < cw_no t) : t (1 + 4 * j + 0) = nI (pw_s t j) ∧ 1 ≤ pw_s t j ∧ pw_s t j ≤ 9 := by
  obtain ⟨k, h1, h2, e⟩ := h.sha j hj
  unfold pw_s
  rw [e, cw_xn (by omega)]
  exact ⟨rfl, h1, h2⟩
theorem pw_shares {n m : Nat} {t : cw_s} (h : cw_I n m t) : cw_shares t = nI (pw_sum (pw_s t) (cw_no t)) := by
  have := cw_fold_P (f := fun o x => x + t (1 + 4 * o + 0)) (fun i x => x = nI (pw_sum (pw_s t) i)) (cw_no t) 0 rfl (fun j y hj hy => by
    show y + t (1 + 4 * j + 0) = _
    rw [hy, (pw_s_e h hj).1, nI_add]; rfl) (cw_no t) (Nat.le_refl _)
  exact this
theorem pw_shares_r {n m : Nat} {t : cw_s} (h : cw_I n m t) (hno : 0 < cw_no t) : 0 < pw_sum (pw_s t) (cw_no t) ∧ pw_sum (pw_s t) (cw_no t) ≤ 54 := by
  have h6 := h.m.2
  have a := pw_sum_le (f := pw_s t) (g := fun _ => 9 * 1) (cw_no t) (fun i hi => (pw_s_e h hi).2.2)
  rw [pw_sum_mul 9 (fun _ => 1), pw_sum_one] at a
  have b := pw_sum_le (f := fun _ => 1) (g := pw_s t) (cw_no t) (fun i hi => (pw_s_e h hi).2.1)
  rw [pw_sum_one] at b
  omega
theorem pw_part {n m : Nat} {t : cw_s} (h : cw_I n m t) {c j : Nat} (hc : c ≤ 999) (hj : j < cw_no t) : cw_partOf t j (nI c) = nI (pw_pay (pw_s t) (cw_no t) c j) := by
  have hno : 0 < cw_no t := by omega
  obtain ⟨s0, s54⟩ := pw_shares_r h hno
  have pr : ∀ i, i < cw_no t → nI c * t (1 + 4 * i + 0) = nI (c * pw_s t i) ∧ c * pw_s t i < 10000 := fun i hi => by
    obtain ⟨e, -, a9⟩ := pw_s_e h hi
    refine ⟨by rw [e]; exact pk_mul c (pw_s t i), ?_⟩
    have := Nat.mul_le_mul hc a9
    omega
  have dv : ∀ i, i < cw_no t → nI c * t (1 + 4 * i + 0) / cw_shares t = nI (pw_due (pw_s t) (cw_no t) c i) ∧ cw_md (nI c * t (1 + 4 * i + 0)) (cw_shares t) = nI (pw_rest (pw_s t) (cw_no t) c i) := fun i hi => by
    rw [(pr i hi).1, pw_shares h]
    exact pw_dvn (by have := (pr i hi).2; omega) s0 (by omega)
  have rl : ∀ i, pw_rest (pw_s t) (cw_no t) c i < 54 := fun i => Nat.lt_of_lt_of_le (Nat.mod_lt _ s0) s54
  have hd := pw_dues (s := pw_s t) (n := cw_no t) (c := c) s0
  have hf := cw_fold_P (f := cw_ahead t j (nI c)) (fun i x => x = (nI (c - pw_sum (pw_due (pw_s t) (cw_no t) c) i), nI (pw_cnt (fun k => pw_bef (pw_rest (pw_s t) (cw_no t) c) k j) i))) (cw_no t) (nI c, 0) rfl (fun i y hi hy => by
    rw [hy]
    unfold cw_ahead
    rw [(dv i hi).1, (dv i hi).2, (dv j hj).2]
    have p1 := pw_sum_part (f := pw_due (pw_s t) (cw_no t) c) (show i + 1 ≤ cw_no t by omega)
    rw [pw_sum_1] at p1
    refine Prod.ext ?_ ?_
    · show nI (c - pw_sum _ i) - nI _ = nI (c - pw_sum _ (i + 1))
      rw [pw_subn (by omega) (by omega), pw_sum_1]
      congr 1; omega
    · show (if _ then nI _ + 1 else nI _) = nI (pw_cnt _ (i + 1))
      rw [pw_cnt_1]
      have ei : (nI (pw_rest (pw_s t) (cw_no t) c j) < nI (pw_rest (pw_s t) (cw_no t) c i) ∨ (nI (pw_rest (pw_s t) (cw_no t) c i) = nI (pw_rest (pw_s t) (cw_no t) c j) ∧ i < j)) ↔ pw_bef (pw_rest (pw_s t) (cw_no t) c) i j = true := by
        rw [pw_bef_iff, cw_lt, cw_eqi, cw_ni (by have := rl i; have := rl j; omega), cw_ni (by have := rl i; have := rl j; omega)]
        omega
      by_cases q : pw_bef (pw_rest (pw_s t) (cw_no t) c) i j = true
      · rw [if_pos (ei.mpr q), if_pos q, nI_1]
      · rw [if_neg (fun z => q (ei.mp z)), if_neg q]; rfl) (cw_no t) (Nat.le_refl _)
  unfold cw_partOf
  simp only []
  rw [hf, (dv j hj).1]
  have hl : pw_left (pw_s t) (cw_no t) c ≤ 999 := by unfold pw_left; omega
  have hr : pw_rank (pw_rest (pw_s t) (cw_no t) c) (cw_no t) j < cw_no t := pw_rank_n hj
  have h6 := h.m.2
  have ec : nI (pw_cnt (fun k => pw_bef (pw_rest (pw_s t) (cw_no t) c) k j) (cw_no t)) < nI (c - pw_sum (pw_due (pw_s t) (cw_no t) c) (cw_no t)) ↔ pw_rank (pw_rest (pw_s t) (cw_no t) c) (cw_no t) j < pw_left (pw_s t) (cw_no t) c := by
    show nI (pw_rank _ _ j) < nI (pw_left _ _ _) ↔ _
    rw [cw_lt, cw_ni (by omega), cw_ni (by omega)]; omega
  unfold pw_pay
  by_cases q : pw_rank (pw_rest (pw_s t) (cw_no t) c) (cw_no t) j < pw_left (pw_s t) (cw_no t) c
  · rw [if_pos (ec.mpr q), if_pos q, nI_1]
  · rw [if_neg (fun z => q (ec.mp z)), if_neg q, Int32.add_zero]; rfl
/-- the parts are the coins -/
theorem pw_parts {n m : Nat} {t : cw_s} (h : cw_I n m t) {c : Nat} (hc : c ≤ 999) (hno : 0 < cw_no t) : cw_fold (fun j x => x + cw_partOf t j (nI c)) 0 (cw_no t) 0 = nI c := by
  have e := cw_fold_P (f := fun j x => x + cw_partOf t j (nI c)) (fun i x => x = nI (pw_sum (pw_pay (pw_s t) (cw_no t) c) i)) (cw_no t) 0 rfl (fun j y hj hy => by
    show y + cw_partOf t j (nI c) = _
    rw [hy, pw_part h hc hj, nI_add]; rfl) (cw_no t) (Nat.le_refl _)
  rw [e, pw_pays (pw_shares_r h hno).1]
/-- a part is what the share tells, or a coin more where there is a rest -/
theorem pw_part2 {n m : Nat} {t : cw_s} (h : cw_I n m t) {c j : Nat} (hc : c ≤ 999) (hj : j < cw_no t) : cw_partOf t j (nI c) = nI c * t (1 + 4 * j + 0) / cw_shares t ∨ (cw_partOf t j (nI c) = nI c * t (1 + 4 * j + 0) / cw_shares t + 1 ∧ 0 < cw_md (nI c * t (1 + 4 * j + 0)) (cw_shares t)) := by
  have hno : 0 < cw_no t := by omega
  obtain ⟨s0, s54⟩ := pw_shares_r h hno
  obtain ⟨e, -, a9⟩ := pw_s_e h hj
  have hp : c * pw_s t j < 10000 := by have := Nat.mul_le_mul hc a9; omega
  have d := pw_dvn (a := c * pw_s t j) (b := pw_sum (pw_s t) (cw_no t)) (by omega) s0 (by omega)
  rw [pw_part h hc hj, e, pw_shares h, pk_mul, d.1, d.2]
  unfold pw_pay
  by_cases q : pw_rank (pw_rest (pw_s t) (cw_no t) c) (cw_no t) j < pw_left (pw_s t) (cw_no t) c
  · refine Or.inr ⟨by rw [if_pos q, nI_1]; rfl, ?_⟩
    have r := pw_pay_rest s0 q
    have rl : pw_rest (pw_s t) (cw_no t) c j < 54 := Nat.lt_of_lt_of_le (Nat.mod_lt _ s0) s54
    show 0 < nI (pw_rest (pw_s t) (cw_no t) c j)
    rw [cw_lt, cw_ni (by omega)]
    have z : (0 : Int32).toInt = 0 := rfl
    omega
  · exact Or.inl (by rw [if_neg q]; rfl)
