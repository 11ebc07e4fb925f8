/-! MORE ROWS: loops, joins; the class's house as the same row of numbers -/
theorem g_top {X : gw_X} {S : gw_S} {nL k n pc : Nat} {lv : gw_LV} {st : List Value} {w : gw_M} {x y : Int32} (h : x = y) (K : gw_G X S nL k n pc lv (.int y :: st) w) : gw_G X S nL k n pc lv (.int x :: st) w := by rw [h]; exact K
theorem g_topl {X : gw_X} {S : gw_S} {nL k n pc : Nat} {lv : gw_LV} {st : List Value} {w : gw_M} {x y : Int64} (h : x = y) (K : gw_G X S nL k n pc lv (.long y :: st) w) : gw_G X S nL k n pc lv (.long x :: st) w := by rw [h]; exact K
theorem g_join0 {X : gw_X} {S : gw_S} {nL k n pc : Nat} {lv : gw_LV} {st : List Value} {w : gw_M} (J : Nat) (VAL : Int32) (B : (∀ v, v = VAL → gw_G X S nL k n J lv (.int v :: st) w) → gw_G X S nL k n pc lv st w) (K : gw_G X S nL k n J lv (.int VAL :: st) w) : gw_G X S nL k n pc lv st w := B (fun v h => by rw [h]; exact K)
theorem g_join1 {X : gw_X} {S : gw_S} {nL k n pc : Nat} {lv : gw_LV} {st : List Value} {w : gw_M} {a : Value} (J : Nat) (VAL : Int32) (B : (∀ v, v = VAL → gw_G X S nL k n J lv (.int v :: st) w) → gw_G X S nL k n pc lv (a :: st) w) (K : gw_G X S nL k n J lv (.int VAL :: st) w) : gw_G X S nL k n pc lv (a :: st) w := B (fun v h => by rw [h]; exact K)
theorem g_join2 {X : gw_X} {S : gw_S} {nL k n pc : Nat} {lv : gw_LV} {st : List Value} {w : gw_M} {a b : Value} (J : Nat) (VAL : Int32) (B : (∀ v, v = VAL → gw_G X S nL k n J lv (.int v :: st) w) → gw_G X S nL k n pc lv (a :: b :: st) w) (K : gw_G X S nL k n J lv (.int VAL :: st) w) : gw_G X S nL k n pc lv (a :: b :: st) w := B (fun v h => by rw [h]; exact K)
/-- a counting loop: R holds at its head -/
theorem g_for {X : gw_X} {S : gw_S} {nL k n pc : Nat} {α : Type} (N : Nat) (L : Nat → α → gw_LV) (R : Nat → α → gw_M → Prop) (i : Nat) (x : α) (w : gw_M) (hi : i ≤ N) (h : R i x w)
    (body : ∀ i x w, i < N → R i x w → (∀ x' w', R (i + 1) x' w' → gw_G X S nL k n pc (L (i + 1) x') [] w') → gw_G X S nL k n pc (L i x) [] w)
    (exit : ∀ x w, R N x w → gw_G X S nL k n pc (L N x) [] w) : gw_G X S nL k n pc (L i x) [] w := by
  have key : ∀ m i x w, i + m = N → R i x w → gw_G X S nL k n pc (L i x) [] w := by
    intro m
    induction m with
    | zero =>
      intro i x w he hr
      have e : i = N := by omega
      rw [e] at hr ⊢
      exact exit x w hr
    | succ m ih => intro i x w he hr; exact body i x w (by omega) hr (fun x' w' hr' => ih (i + 1) x' w' (by omega) hr')
  exact key (N - i) i x w (by omega) h
theorem cw_q1 {P : Prop} (h : P) : some (Value.int 1) = some (Value.int (cw_b P)) := by rw [cw_b1 h]
theorem cw_q0 {P : Prop} (h : ¬ P) : some (Value.int 0) = some (Value.int (cw_b P)) := by rw [cw_bf h]
/-- a cell as a whole -/
def cw_put (w : gw_M) (q : Nat) (f : Nat → Int32) : gw_M := fun q' => if q' = q then f else w q'
theorem cw_put_self (w : gw_M) (q : Nat) (f : Nat → Int32) : cw_put w q f q = f := by simp [cw_put]
theorem cw_put_ne (w : gw_M) (q : Nat) (f : Nat → Int32) {r : Nat} (h : r ≠ q) : cw_put w q f r = w r := by simp [cw_put, h]
theorem hr_in {w : gw_M} {s : cw_s} (h : w 1 = s) : w = cw_S w s := by rw [← h, cw_Sw]
theorem hr_1 {w B : gw_M} {s : cw_s} (h : w = cw_S B s) : w 1 = s := by rw [h, cw_S1]
theorem hr_rd {w B : gw_M} {s : cw_s} {j : Nat} (h : w = cw_S B s) : w 1 j = s j := by rw [h, cw_S1]
theorem hr_q {w B : gw_M} {s : cw_s} {q : Nat} (h : w = cw_S B s) (hq : q ≠ 1) : w q = B q := by rw [h, cw_Sne _ _ hq]
theorem hr_0 {w B : gw_M} {s : cw_s} {k : Nat} (h : w = cw_S B s) : w 0 k = B 0 k := by rw [h, cw_Sne _ _ (by decide)]
theorem hr_set {w B : gw_M} {s : cw_s} {j : Nat} {x : Int32} (h : w = cw_S B s) : gw_set w 1 j x = cw_S B (upd s j x) := by rw [h, cw_setS]
theorem hr_set0 {w B : gw_M} {s : cw_s} {k : Nat} {x : Int32} (h : w = cw_S B s) : gw_set w 0 k x = cw_S (gw_set B 0 k x) s := by
  rw [h]; funext q
  by_cases c : q = 1
  · rw [c, cw_S1, gw_set_ne _ _ _ _ (by decide), cw_S1]
  · rw [cw_Sne _ _ c]; funext j; unfold gw_set; rw [cw_Sne _ _ c]
theorem hr_call {w B w1 : gw_M} {s t : cw_s} (h : w = cw_S B s) (h1 : w1 = cw_S w t) : w1 = cw_S B t := by rw [h1, h, cw_SS]
theorem g_genR {X : gw_X} {S : gw_S} {nL k n pc : Nat} {lv : gw_LV} {st : List Value} {w w' : gw_M} (h : w = w') (K : ∀ w1, w1 = w' → gw_G X S nL k n pc lv st w1) : gw_G X S nL k n pc lv st w := K w h
theorem cw_fold_snoc {α : Type} (f : Nat → α → α) : ∀ (n i : Nat) (x : α), cw_fold f i (n + 1) x = f (i + n) (cw_fold f i n x) := by
  intro n
  induction n with
  | zero => intro i x; rfl
  | succ n ih =>
    intro i x
    show cw_fold f (i + 1) (n + 1) (f i x) = _
    rw [ih (i + 1) (f i x)]
    show f (i + 1 + n) _ = f (i + (n + 1)) (cw_fold f (i + 1) n (f i x))
    congr 1; omega
theorem cw_fold0 {α : Type} (f : Nat → α → α) (n : Nat) (x : α) : cw_fold f 0 (n + 1) x = f n (cw_fold f 0 n x) := by
  rw [cw_fold_snoc, Nat.zero_add]
theorem cw_fold_congr {α : Type} {f g : Nat → α → α} : ∀ (n i : Nat) (x : α), (∀ j y, i ≤ j → j < i + n → f j y = g j y) → cw_fold f i n x = cw_fold g i n x := by
  intro n
  induction n with
  | zero => intro i x _; rfl
  | succ n ih =>
    intro i x h
    show cw_fold f (i + 1) n (f i x) = cw_fold g (i + 1) n (g i x)
    rw [h i x (Nat.le_refl _) (by omega)]
    exact ih (i + 1) _ (fun j y h1 h2 => h j y (by omega) (by omega))
theorem cw_fold_app {α : Type} (f : Nat → α → α) : ∀ (m n i : Nat) (x : α), cw_fold f i (m + n) x = cw_fold f (i + m) n (cw_fold f i m x) := by
  intro m
  induction m with
  | zero => intro n i x; rw [Nat.zero_add]; rfl
  | succ m ih =>
    intro n i x
    rw [show m + 1 + n = (m + n) + 1 by omega]
    show cw_fold f (i + 1) (m + n) (f i x) = cw_fold f (i + (m + 1)) n (cw_fold f (i + 1) m (f i x))
    rw [ih]; congr 1; omega

theorem g_i2c {X : gw_X} {own : String} {cc : ByteArray} {nL d mc ms : Nat} (C : gw_ok X own cc nL d mc ms) {S : gw_S} {k n pc : Nat} {lv : gw_LV} {st : List Value} {w : gw_M} {x v : Int32} (hv : (x.toUInt32 % 65536).toInt32 = v) (hd : decode cc pc = .ok (.i2c, 1)) (K : gw_G X S nL k n (pc + 1) lv (.int v :: st) w) : gw_G X S nL k n pc lv (.int x :: st) w := by
  obtain ⟨p, l, e, R, s, m, args, below, meth, c, D, cA, ρ, A, Q⟩ := X
  obtain ⟨hx, hb, hml, hown, hts, hK, hA, hE, hRf, hRl, hRc, hRs⟩ := C
  intro H locs ls hP hD hS hl
  exact lv_i2c hx hb hd hv (K H locs ls hP hD hS hl)

theorem g_lcmp {X : gw_X} {own : String} {cc : ByteArray} {nL d mc ms : Nat} (C : gw_ok X own cc nL d mc ms) {S : gw_S} {k n pc : Nat} {lv : gw_LV} {st : List Value} {w : gw_M} {x y : Int64} (hd : decode cc pc = .ok (.lcmp, 1)) (K : gw_G X S nL k n (pc + 1) lv (.int (lg_cmp x y) :: st) w) : gw_G X S nL k n pc lv (.long y :: .long x :: st) w := by
  obtain ⟨p, l, e, R, s, m, args, below, meth, c, D, cA, ρ, A, Q⟩ := X
  obtain ⟨hx, hb, hml, hown, hts, hK, hA, hE, hRf, hRl, hRc, hRs⟩ := C
  intro H locs ls hP hD hS hl
  exact W.lcmp hx hb hd (K H locs ls hP hD hS hl)

/-- a house of the class: itself, settings, totals, shares, points, won, paid, costs, schools, holders, bids, offerers, offered, wanted -/
def sH : gw_S := (14, fun i => match i with
  | 0 => .inr (1, [some 1, some 2, none, none, some 3, some 4, some 5, some 6, some 7, some 8, some 9, some 10, none, some 11, some 12, some 13])
  | 1 => .inl (0, 3, fun j => j)
  | 2 => .inl (0, 8, fun j => j)
  | 3 => .inl (0, 6, fun j => j)
  | 4 => .inl (0, 6, fun j => j)
  | 5 => .inl (0, 6, fun j => j)
  | 6 => .inl (0, 6, fun j => j)
  | 7 => .inl (0, 20, fun j => j)
  | 8 => .inl (1, 20, fun j => j)
  | 9 => .inl (0, 20, fun j => j)
  | 10 => .inl (0, 120, fun j => j)
  | 11 => .inl (0, 8, fun j => j)
  | 12 => .inl (0, 8, fun j => j)
  | _ => .inl (0, 8, fun j => j))

/-- .. as the row of numbers that the reference has -/
def ho (w : gw_M) : cw_s := fun k =>
  if k = 0 then w 0 3
  else if k < 25 then (if (k - 1) % 4 = 0 then w 3 ((k - 1) / 4) else if (k - 1) % 4 = 1 then w 4 ((k - 1) / 4) else if (k - 1) % 4 = 2 then w 5 ((k - 1) / 4) else w 6 ((k - 1) / 4))
  else if k < 85 then (if (k - 25) % 3 = 0 then w 7 ((k - 25) / 3) else if (k - 25) % 3 = 1 then w 8 ((k - 25) / 3) else w 9 ((k - 25) / 3))
  else if k < 205 then w 10 (k - 85)
  else if k = 205 then w 0 12
  else if k < 230 then (if (k - 206) % 3 = 0 then w 11 ((k - 206) / 3) else if (k - 206) % 3 = 1 then w 12 ((k - 206) / 3) else w 13 ((k - 206) / 3))
  else if k = 230 then w 0 2
  else if k < 234 then w 1 (k - 231)
  else if k < 242 then w 2 (k - 234)
  else 0
theorem g_gen {X : gw_X} {S : gw_S} {nL k n pc : Nat} {lv : gw_LV} {st : List Value} {w : gw_M} {t : cw_s} (h : ho w = t) (K : ∀ w1, ho w1 = t → gw_G X S nL k n pc lv st w1) : gw_G X S nL k n pc lv st w := K w h

theorem ho_i1 (w : gw_M) {j : Nat} (hj : j < 3) : ho w (231 + j) = w 1 j := by
  unfold ho
  rw [if_neg (by omega), if_neg (by omega), if_neg (by omega), if_neg (by omega), if_neg (by omega), if_neg (by omega), if_neg (by omega), if_pos (by omega)]
  exact congrArg (w 1) (by omega)
theorem ho_r1 {w : gw_M} {t : cw_s} {j k : Nat} (h : ho w = t) (hj : j < 3) (hk : 231 + j = k) : w 1 j = t k := by rw [← h, ← hk, ho_i1 w hj]

theorem ho_i2 (w : gw_M) {j : Nat} (hj : j < 8) : ho w (234 + j) = w 2 j := by
  unfold ho
  rw [if_neg (by omega), if_neg (by omega), if_neg (by omega), if_neg (by omega), if_neg (by omega), if_neg (by omega), if_neg (by omega), if_neg (by omega), if_pos (by omega)]
  exact congrArg (w 2) (by omega)
theorem ho_r2 {w : gw_M} {t : cw_s} {j k : Nat} (h : ho w = t) (hj : j < 8) (hk : 234 + j = k) : w 2 j = t k := by rw [← h, ← hk, ho_i2 w hj]

theorem ho_i3 (w : gw_M) {j : Nat} (hj : j < 6) : ho w (1 + 4 * j + 0) = w 3 j := by
  unfold ho
  rw [if_neg (by omega), if_pos (by omega), if_pos (by omega)]
  exact congrArg (w 3) (by omega)
theorem ho_r3 {w : gw_M} {t : cw_s} {j k : Nat} (h : ho w = t) (hj : j < 6) (hk : 1 + 4 * j + 0 = k) : w 3 j = t k := by rw [← h, ← hk, ho_i3 w hj]

theorem ho_i4 (w : gw_M) {j : Nat} (hj : j < 6) : ho w (1 + 4 * j + 1) = w 4 j := by
  unfold ho
  rw [if_neg (by omega), if_pos (by omega), if_neg (by omega), if_pos (by omega)]
  exact congrArg (w 4) (by omega)
theorem ho_r4 {w : gw_M} {t : cw_s} {j k : Nat} (h : ho w = t) (hj : j < 6) (hk : 1 + 4 * j + 1 = k) : w 4 j = t k := by rw [← h, ← hk, ho_i4 w hj]

theorem ho_i5 (w : gw_M) {j : Nat} (hj : j < 6) : ho w (1 + 4 * j + 2) = w 5 j := by
  unfold ho
  rw [if_neg (by omega), if_pos (by omega), if_neg (by omega), if_neg (by omega), if_pos (by omega)]
  exact congrArg (w 5) (by omega)
theorem ho_r5 {w : gw_M} {t : cw_s} {j k : Nat} (h : ho w = t) (hj : j < 6) (hk : 1 + 4 * j + 2 = k) : w 5 j = t k := by rw [← h, ← hk, ho_i5 w hj]

theorem ho_i6 (w : gw_M) {j : Nat} (hj : j < 6) : ho w (1 + 4 * j + 3) = w 6 j := by
  unfold ho
  rw [if_neg (by omega), if_pos (by omega), if_neg (by omega), if_neg (by omega), if_neg (by omega)]
  exact congrArg (w 6) (by omega)
theorem ho_r6 {w : gw_M} {t : cw_s} {j k : Nat} (h : ho w = t) (hj : j < 6) (hk : 1 + 4 * j + 3 = k) : w 6 j = t k := by rw [← h, ← hk, ho_i6 w hj]

theorem ho_i7 (w : gw_M) {j : Nat} (hj : j < 20) : ho w (25 + 3 * j + 0) = w 7 j := by
  unfold ho
  rw [if_neg (by omega), if_neg (by omega), if_pos (by omega), if_pos (by omega)]
  exact congrArg (w 7) (by omega)
theorem ho_r7 {w : gw_M} {t : cw_s} {j k : Nat} (h : ho w = t) (hj : j < 20) (hk : 25 + 3 * j + 0 = k) : w 7 j = t k := by rw [← h, ← hk, ho_i7 w hj]

theorem ho_i8 (w : gw_M) {j : Nat} (hj : j < 20) : ho w (25 + 3 * j + 1) = w 8 j := by
  unfold ho
  rw [if_neg (by omega), if_neg (by omega), if_pos (by omega), if_neg (by omega), if_pos (by omega)]
  exact congrArg (w 8) (by omega)
theorem ho_r8 {w : gw_M} {t : cw_s} {j k : Nat} (h : ho w = t) (hj : j < 20) (hk : 25 + 3 * j + 1 = k) : w 8 j = t k := by rw [← h, ← hk, ho_i8 w hj]

theorem ho_i9 (w : gw_M) {j : Nat} (hj : j < 20) : ho w (25 + 3 * j + 2) = w 9 j := by
  unfold ho
  rw [if_neg (by omega), if_neg (by omega), if_pos (by omega), if_neg (by omega), if_neg (by omega)]
  exact congrArg (w 9) (by omega)
theorem ho_r9 {w : gw_M} {t : cw_s} {j k : Nat} (h : ho w = t) (hj : j < 20) (hk : 25 + 3 * j + 2 = k) : w 9 j = t k := by rw [← h, ← hk, ho_i9 w hj]

theorem ho_i10 (w : gw_M) {j : Nat} (hj : j < 120) : ho w (85 + j) = w 10 j := by
  unfold ho
  rw [if_neg (by omega), if_neg (by omega), if_neg (by omega), if_pos (by omega)]
  exact congrArg (w 10) (by omega)
theorem ho_r10 {w : gw_M} {t : cw_s} {j k : Nat} (h : ho w = t) (hj : j < 120) (hk : 85 + j = k) : w 10 j = t k := by rw [← h, ← hk, ho_i10 w hj]

theorem ho_i11 (w : gw_M) {j : Nat} (hj : j < 8) : ho w (206 + 3 * j + 0) = w 11 j := by
  unfold ho
  rw [if_neg (by omega), if_neg (by omega), if_neg (by omega), if_neg (by omega), if_neg (by omega), if_pos (by omega), if_pos (by omega)]
  exact congrArg (w 11) (by omega)
theorem ho_r11 {w : gw_M} {t : cw_s} {j k : Nat} (h : ho w = t) (hj : j < 8) (hk : 206 + 3 * j + 0 = k) : w 11 j = t k := by rw [← h, ← hk, ho_i11 w hj]

theorem ho_i12 (w : gw_M) {j : Nat} (hj : j < 8) : ho w (206 + 3 * j + 1) = w 12 j := by
  unfold ho
  rw [if_neg (by omega), if_neg (by omega), if_neg (by omega), if_neg (by omega), if_neg (by omega), if_pos (by omega), if_neg (by omega), if_pos (by omega)]
  exact congrArg (w 12) (by omega)
theorem ho_r12 {w : gw_M} {t : cw_s} {j k : Nat} (h : ho w = t) (hj : j < 8) (hk : 206 + 3 * j + 1 = k) : w 12 j = t k := by rw [← h, ← hk, ho_i12 w hj]

theorem ho_i13 (w : gw_M) {j : Nat} (hj : j < 8) : ho w (206 + 3 * j + 2) = w 13 j := by
  unfold ho
  rw [if_neg (by omega), if_neg (by omega), if_neg (by omega), if_neg (by omega), if_neg (by omega), if_pos (by omega), if_neg (by omega), if_neg (by omega)]
  exact congrArg (w 13) (by omega)
theorem ho_r13 {w : gw_M} {t : cw_s} {j k : Nat} (h : ho w = t) (hj : j < 8) (hk : 206 + 3 * j + 2 = k) : w 13 j = t k := by rw [← h, ← hk, ho_i13 w hj]

theorem ho_j2 (w : gw_M) : ho w 230 = w 0 2 := by
  unfold ho
  rw [if_neg (by omega), if_neg (by omega), if_neg (by omega), if_neg (by omega), if_neg (by omega), if_neg (by omega), if_pos rfl]
theorem ho_f2 {w : gw_M} {t : cw_s} (h : ho w = t) : w 0 2 = t 230 := by rw [← h, ho_j2]

theorem ho_j3 (w : gw_M) : ho w 0 = w 0 3 := by
  unfold ho
  rw [if_pos rfl]
theorem ho_f3 {w : gw_M} {t : cw_s} (h : ho w = t) : w 0 3 = t 0 := by rw [← h, ho_j3]

theorem ho_j12 (w : gw_M) : ho w 205 = w 0 12 := by
  unfold ho
  rw [if_neg (by omega), if_neg (by omega), if_neg (by omega), if_neg (by omega), if_pos rfl]
theorem ho_f12 {w : gw_M} {t : cw_s} (h : ho w = t) : w 0 12 = t 205 := by rw [← h, ho_j12]

/-- every place is a place of one of the rows -/
theorem ho_places (P : Nat → Prop) (h0 : P 0) (h3 : ∀ j, j < 6 → P (1 + 4 * j + 0)) (h4 : ∀ j, j < 6 → P (1 + 4 * j + 1)) (h5 : ∀ j, j < 6 → P (1 + 4 * j + 2)) (h6 : ∀ j, j < 6 → P (1 + 4 * j + 3)) (h7 : ∀ j, j < 20 → P (25 + 3 * j + 0)) (h8 : ∀ j, j < 20 → P (25 + 3 * j + 1)) (h9 : ∀ j, j < 20 → P (25 + 3 * j + 2)) (h10 : ∀ j, j < 120 → P (85 + j)) (h205 : P 205)
    (h11 : ∀ j, j < 8 → P (206 + 3 * j + 0)) (h12 : ∀ j, j < 8 → P (206 + 3 * j + 1)) (h13 : ∀ j, j < 8 → P (206 + 3 * j + 2)) (h230 : P 230) (h1 : ∀ j, j < 3 → P (231 + j)) (h2 : ∀ j, j < 8 → P (234 + j)) : ∀ k, k < 242 → P k := by
  intro k hk
  by_cases c0 : k = 0
  · rw [c0]; exact h0
  by_cases c1 : k < 25
  · have e : (k - 1) % 4 = 0 ∨ (k - 1) % 4 = 1 ∨ (k - 1) % 4 = 2 ∨ (k - 1) % 4 = 3 := by omega
    rcases e with e | e | e | e
    · have := h3 ((k - 1) / 4) (by omega); rwa [show 1 + 4 * ((k - 1) / 4) + 0 = k by omega] at this
    · have := h4 ((k - 1) / 4) (by omega); rwa [show 1 + 4 * ((k - 1) / 4) + 1 = k by omega] at this
    · have := h5 ((k - 1) / 4) (by omega); rwa [show 1 + 4 * ((k - 1) / 4) + 2 = k by omega] at this
    · have := h6 ((k - 1) / 4) (by omega); rwa [show 1 + 4 * ((k - 1) / 4) + 3 = k by omega] at this
  by_cases c2 : k < 85
  · have e : (k - 25) % 3 = 0 ∨ (k - 25) % 3 = 1 ∨ (k - 25) % 3 = 2 := by omega
    rcases e with e | e | e
    · have := h7 ((k - 25) / 3) (by omega); rwa [show 25 + 3 * ((k - 25) / 3) + 0 = k by omega] at this
    · have := h8 ((k - 25) / 3) (by omega); rwa [show 25 + 3 * ((k - 25) / 3) + 1 = k by omega] at this
    · have := h9 ((k - 25) / 3) (by omega); rwa [show 25 + 3 * ((k - 25) / 3) + 2 = k by omega] at this
  by_cases c3 : k < 205
  · have := h10 (k - 85) (by omega); rwa [show 85 + (k - 85) = k by omega] at this
  by_cases c4 : k = 205
  · rw [c4]; exact h205
  by_cases c5 : k < 230
  · have e : (k - 206) % 3 = 0 ∨ (k - 206) % 3 = 1 ∨ (k - 206) % 3 = 2 := by omega
    rcases e with e | e | e
    · have := h11 ((k - 206) / 3) (by omega); rwa [show 206 + 3 * ((k - 206) / 3) + 0 = k by omega] at this
    · have := h12 ((k - 206) / 3) (by omega); rwa [show 206 + 3 * ((k - 206) / 3) + 1 = k by omega] at this
    · have := h13 ((k - 206) / 3) (by omega); rwa [show 206 + 3 * ((k - 206) / 3) + 2 = k by omega] at this
  by_cases c6 : k = 230
  · rw [c6]; exact h230
  by_cases c7 : k < 234
  · have := h1 (k - 231) (by omega); rwa [show 231 + (k - 231) = k by omega] at this
  · have := h2 (k - 234) (by omega); rwa [show 234 + (k - 234) = k by omega] at this
theorem ho_out (w : gw_M) {k : Nat} (h : 242 ≤ k) : ho w k = 0 := by
  unfold ho
  rw [if_neg (by omega), if_neg (by omega), if_neg (by omega), if_neg (by omega), if_neg (by omega), if_neg (by omega), if_neg (by omega), if_neg (by omega), if_neg (by omega)]
/-- two houses are alike when each place is -/
theorem ho_ext {w : gw_M} {t : cw_s} (h0 : w 0 3 = t 0) (h3 : ∀ j, j < 6 → w 3 j = t (1 + 4 * j + 0)) (h4 : ∀ j, j < 6 → w 4 j = t (1 + 4 * j + 1)) (h5 : ∀ j, j < 6 → w 5 j = t (1 + 4 * j + 2)) (h6 : ∀ j, j < 6 → w 6 j = t (1 + 4 * j + 3)) (h7 : ∀ j, j < 20 → w 7 j = t (25 + 3 * j + 0)) (h8 : ∀ j, j < 20 → w 8 j = t (25 + 3 * j + 1)) (h9 : ∀ j, j < 20 → w 9 j = t (25 + 3 * j + 2)) (h10 : ∀ j, j < 120 → w 10 j = t (85 + j)) (h205 : w 0 12 = t 205)
    (h11 : ∀ j, j < 8 → w 11 j = t (206 + 3 * j + 0)) (h12 : ∀ j, j < 8 → w 12 j = t (206 + 3 * j + 1)) (h13 : ∀ j, j < 8 → w 13 j = t (206 + 3 * j + 2)) (h230 : w 0 2 = t 230) (h1 : ∀ j, j < 3 → w 1 j = t (231 + j)) (h2 : ∀ j, j < 8 → w 2 j = t (234 + j)) (hz : ∀ k, 242 ≤ k → t k = 0) : ho w = t := by
  funext k
  by_cases hk : k < 242
  · exact ho_places (fun k => ho w k = t k) (by rw [ho_j3]; exact h0) (fun j hj => by rw [ho_i3 w hj]; exact h3 j hj) (fun j hj => by rw [ho_i4 w hj]; exact h4 j hj) (fun j hj => by rw [ho_i5 w hj]; exact h5 j hj) (fun j hj => by rw [ho_i6 w hj]; exact h6 j hj) (fun j hj => by rw [ho_i7 w hj]; exact h7 j hj) (fun j hj => by rw [ho_i8 w hj]; exact h8 j hj) (fun j hj => by rw [ho_i9 w hj]; exact h9 j hj) (fun j hj => by rw [ho_i10 w hj]; exact h10 j hj) (by rw [ho_j12]; exact h205) (fun j hj => by rw [ho_i11 w hj]; exact h11 j hj) (fun j hj => by rw [ho_i12 w hj]; exact h12 j hj) (fun j hj => by rw [ho_i13 w hj]; exact h13 j hj) (by rw [ho_j2]; exact h230) (fun j hj => by rw [ho_i1 w hj]; exact h1 j hj) (fun j hj => by rw [ho_i2 w hj]; exact h2 j hj) k hk
  · rw [ho_out w (by omega), hz k (by omega)]

theorem ho_s1 {w : gw_M} {t : cw_s} {j k : Nat} {x : Int32} (h : ho w = t) (hj : j < 3) (hk : 231 + j = k) : ho (gw_set w 1 j x) = upd t k x := by
  subst hk
  exact ho_ext (by rw [gw_set_ne _ _ _ _ (by decide)]; unfold upd; rw [if_neg (by omega), ← h, ho_j3]) (fun i hi => by rw [gw_set_ne _ _ _ _ (by decide)]; unfold upd; rw [if_neg (by omega), ← h, ho_i3 w hi]) (fun i hi => by rw [gw_set_ne _ _ _ _ (by decide)]; unfold upd; rw [if_neg (by omega), ← h, ho_i4 w hi]) (fun i hi => by rw [gw_set_ne _ _ _ _ (by decide)]; unfold upd; rw [if_neg (by omega), ← h, ho_i5 w hi]) (fun i hi => by rw [gw_set_ne _ _ _ _ (by decide)]; unfold upd; rw [if_neg (by omega), ← h, ho_i6 w hi]) (fun i hi => by rw [gw_set_ne _ _ _ _ (by decide)]; unfold upd; rw [if_neg (by omega), ← h, ho_i7 w hi]) (fun i hi => by rw [gw_set_ne _ _ _ _ (by decide)]; unfold upd; rw [if_neg (by omega), ← h, ho_i8 w hi]) (fun i hi => by rw [gw_set_ne _ _ _ _ (by decide)]; unfold upd; rw [if_neg (by omega), ← h, ho_i9 w hi]) (fun i hi => by rw [gw_set_ne _ _ _ _ (by decide)]; unfold upd; rw [if_neg (by omega), ← h, ho_i10 w hi]) (by rw [gw_set_ne _ _ _ _ (by decide)]; unfold upd; rw [if_neg (by omega), ← h, ho_j12]) (fun i hi => by rw [gw_set_ne _ _ _ _ (by decide)]; unfold upd; rw [if_neg (by omega), ← h, ho_i11 w hi]) (fun i hi => by rw [gw_set_ne _ _ _ _ (by decide)]; unfold upd; rw [if_neg (by omega), ← h, ho_i12 w hi]) (fun i hi => by rw [gw_set_ne _ _ _ _ (by decide)]; unfold upd; rw [if_neg (by omega), ← h, ho_i13 w hi]) (by rw [gw_set_ne _ _ _ _ (by decide)]; unfold upd; rw [if_neg (by omega), ← h, ho_j2]) (fun i hi => by
    by_cases q : i = j
    · subst q; rw [gw_set_self]; simp [upd]
    · rw [gw_set_self]; unfold upd; rw [if_neg q, if_neg (by omega), ← h, ho_i1 w hi]) (fun i hi => by rw [gw_set_ne _ _ _ _ (by decide)]; unfold upd; rw [if_neg (by omega), ← h, ho_i2 w hi]) (fun k hk => by unfold upd; rw [if_neg (by omega), ← h, ho_out w hk])

theorem ho_s2 {w : gw_M} {t : cw_s} {j k : Nat} {x : Int32} (h : ho w = t) (hj : j < 8) (hk : 234 + j = k) : ho (gw_set w 2 j x) = upd t k x := by
  subst hk
  exact ho_ext (by rw [gw_set_ne _ _ _ _ (by decide)]; unfold upd; rw [if_neg (by omega), ← h, ho_j3]) (fun i hi => by rw [gw_set_ne _ _ _ _ (by decide)]; unfold upd; rw [if_neg (by omega), ← h, ho_i3 w hi]) (fun i hi => by rw [gw_set_ne _ _ _ _ (by decide)]; unfold upd; rw [if_neg (by omega), ← h, ho_i4 w hi]) (fun i hi => by rw [gw_set_ne _ _ _ _ (by decide)]; unfold upd; rw [if_neg (by omega), ← h, ho_i5 w hi]) (fun i hi => by rw [gw_set_ne _ _ _ _ (by decide)]; unfold upd; rw [if_neg (by omega), ← h, ho_i6 w hi]) (fun i hi => by rw [gw_set_ne _ _ _ _ (by decide)]; unfold upd; rw [if_neg (by omega), ← h, ho_i7 w hi]) (fun i hi => by rw [gw_set_ne _ _ _ _ (by decide)]; unfold upd; rw [if_neg (by omega), ← h, ho_i8 w hi]) (fun i hi => by rw [gw_set_ne _ _ _ _ (by decide)]; unfold upd; rw [if_neg (by omega), ← h, ho_i9 w hi]) (fun i hi => by rw [gw_set_ne _ _ _ _ (by decide)]; unfold upd; rw [if_neg (by omega), ← h, ho_i10 w hi]) (by rw [gw_set_ne _ _ _ _ (by decide)]; unfold upd; rw [if_neg (by omega), ← h, ho_j12]) (fun i hi => by rw [gw_set_ne _ _ _ _ (by decide)]; unfold upd; rw [if_neg (by omega), ← h, ho_i11 w hi]) (fun i hi => by rw [gw_set_ne _ _ _ _ (by decide)]; unfold upd; rw [if_neg (by omega), ← h, ho_i12 w hi]) (fun i hi => by rw [gw_set_ne _ _ _ _ (by decide)]; unfold upd; rw [if_neg (by omega), ← h, ho_i13 w hi]) (by rw [gw_set_ne _ _ _ _ (by decide)]; unfold upd; rw [if_neg (by omega), ← h, ho_j2]) (fun i hi => by rw [gw_set_ne _ _ _ _ (by decide)]; unfold upd; rw [if_neg (by omega), ← h, ho_i1 w hi]) (fun i hi => by
    by_cases q : i = j
    · subst q; rw [gw_set_self]; simp [upd]
    · rw [gw_set_self]; unfold upd; rw [if_neg q, if_neg (by omega), ← h, ho_i2 w hi]) (fun k hk => by unfold upd; rw [if_neg (by omega), ← h, ho_out w hk])

theorem ho_s3 {w : gw_M} {t : cw_s} {j k : Nat} {x : Int32} (h : ho w = t) (hj : j < 6) (hk : 1 + 4 * j + 0 = k) : ho (gw_set w 3 j x) = upd t k x := by
  subst hk
  exact ho_ext (by rw [gw_set_ne _ _ _ _ (by decide)]; unfold upd; rw [if_neg (by omega), ← h, ho_j3]) (fun i hi => by
    by_cases q : i = j
    · subst q; rw [gw_set_self]; simp [upd]
    · rw [gw_set_self]; unfold upd; rw [if_neg q, if_neg (by omega), ← h, ho_i3 w hi]) (fun i hi => by rw [gw_set_ne _ _ _ _ (by decide)]; unfold upd; rw [if_neg (by omega), ← h, ho_i4 w hi]) (fun i hi => by rw [gw_set_ne _ _ _ _ (by decide)]; unfold upd; rw [if_neg (by omega), ← h, ho_i5 w hi]) (fun i hi => by rw [gw_set_ne _ _ _ _ (by decide)]; unfold upd; rw [if_neg (by omega), ← h, ho_i6 w hi]) (fun i hi => by rw [gw_set_ne _ _ _ _ (by decide)]; unfold upd; rw [if_neg (by omega), ← h, ho_i7 w hi]) (fun i hi => by rw [gw_set_ne _ _ _ _ (by decide)]; unfold upd; rw [if_neg (by omega), ← h, ho_i8 w hi]) (fun i hi => by rw [gw_set_ne _ _ _ _ (by decide)]; unfold upd; rw [if_neg (by omega), ← h, ho_i9 w hi]) (fun i hi => by rw [gw_set_ne _ _ _ _ (by decide)]; unfold upd; rw [if_neg (by omega), ← h, ho_i10 w hi]) (by rw [gw_set_ne _ _ _ _ (by decide)]; unfold upd; rw [if_neg (by omega), ← h, ho_j12]) (fun i hi => by rw [gw_set_ne _ _ _ _ (by decide)]; unfold upd; rw [if_neg (by omega), ← h, ho_i11 w hi]) (fun i hi => by rw [gw_set_ne _ _ _ _ (by decide)]; unfold upd; rw [if_neg (by omega), ← h, ho_i12 w hi]) (fun i hi => by rw [gw_set_ne _ _ _ _ (by decide)]; unfold upd; rw [if_neg (by omega), ← h, ho_i13 w hi]) (by rw [gw_set_ne _ _ _ _ (by decide)]; unfold upd; rw [if_neg (by omega), ← h, ho_j2]) (fun i hi => by rw [gw_set_ne _ _ _ _ (by decide)]; unfold upd; rw [if_neg (by omega), ← h, ho_i1 w hi]) (fun i hi => by rw [gw_set_ne _ _ _ _ (by decide)]; unfold upd; rw [if_neg (by omega), ← h, ho_i2 w hi]) (fun k hk => by unfold upd; rw [if_neg (by omega), ← h, ho_out w hk])

theorem ho_s4 {w : gw_M} {t : cw_s} {j k : Nat} {x : Int32} (h : ho w = t) (hj : j < 6) (hk : 1 + 4 * j + 1 = k) : ho (gw_set w 4 j x) = upd t k x := by
  subst hk
  exact ho_ext (by rw [gw_set_ne _ _ _ _ (by decide)]; unfold upd; rw [if_neg (by omega), ← h, ho_j3]) (fun i hi => by rw [gw_set_ne _ _ _ _ (by decide)]; unfold upd; rw [if_neg (by omega), ← h, ho_i3 w hi]) (fun i hi => by
    by_cases q : i = j
    · subst q; rw [gw_set_self]; simp [upd]
    · rw [gw_set_self]; unfold upd; rw [if_neg q, if_neg (by omega), ← h, ho_i4 w hi]) (fun i hi => by rw [gw_set_ne _ _ _ _ (by decide)]; unfold upd; rw [if_neg (by omega), ← h, ho_i5 w hi]) (fun i hi => by rw [gw_set_ne _ _ _ _ (by decide)]; unfold upd; rw [if_neg (by omega), ← h, ho_i6 w hi]) (fun i hi => by rw [gw_set_ne _ _ _ _ (by decide)]; unfold upd; rw [if_neg (by omega), ← h, ho_i7 w hi]) (fun i hi => by rw [gw_set_ne _ _ _ _ (by decide)]; unfold upd; rw [if_neg (by omega), ← h, ho_i8 w hi]) (fun i hi => by rw [gw_set_ne _ _ _ _ (by decide)]; unfold upd; rw [if_neg (by omega), ← h, ho_i9 w hi]) (fun i hi => by rw [gw_set_ne _ _ _ _ (by decide)]; unfold upd; rw [if_neg (by omega), ← h, ho_i10 w hi]) (by rw [gw_set_ne _ _ _ _ (by decide)]; unfold upd; rw [if_neg (by omega), ← h, ho_j12]) (fun i hi => by rw [gw_set_ne _ _ _ _ (by decide)]; unfold upd; rw [if_neg (by omega), ← h, ho_i11 w hi]) (fun i hi => by rw [gw_set_ne _ _ _ _ (by decide)]; unfold upd; rw [if_neg (by omega), ← h, ho_i12 w hi]) (fun i hi => by rw [gw_set_ne _ _ _ _ (by decide)]; unfold upd; rw [if_neg (by omega), ← h, ho_i13 w hi]) (by rw [gw_set_ne _ _ _ _ (by decide)]; unfold upd; rw [if_neg (by omega), ← h, ho_j2]) (fun i hi => by rw [gw_set_ne _ _ _ _ (by decide)]; unfold upd; rw [if_neg (by omega), ← h, ho_i1 w hi]) (fun i hi => by rw [gw_set_ne _ _ _ _ (by decide)]; unfold upd; rw [if_neg (by omega), ← h, ho_i2 w hi]) (fun k hk => by unfold upd; rw [if_neg (by omega), ← h, ho_out w hk])

theorem ho_s5 {w : gw_M} {t : cw_s} {j k : Nat} {x : Int32} (h : ho w = t) (hj : j < 6) (hk : 1 + 4 * j + 2 = k) : ho (gw_set w 5 j x) = upd t k x := by
  subst hk
  exact ho_ext (by rw [gw_set_ne _ _ _ _ (by decide)]; unfold upd; rw [if_neg (by omega), ← h, ho_j3]) (fun i hi => by rw [gw_set_ne _ _ _ _ (by decide)]; unfold upd; rw [if_neg (by omega), ← h, ho_i3 w hi]) (fun i hi => by rw [gw_set_ne _ _ _ _ (by decide)]; unfold upd; rw [if_neg (by omega), ← h, ho_i4 w hi]) (fun i hi => by
    by_cases q : i = j
    · subst q; rw [gw_set_self]; simp [upd]
    · rw [gw_set_self]; unfold upd; rw [if_neg q, if_neg (by omega), ← h, ho_i5 w hi]) (fun i hi => by rw [gw_set_ne _ _ _ _ (by decide)]; unfold upd; rw [if_neg (by omega), ← h, ho_i6 w hi]) (fun i hi => by rw [gw_set_ne _ _ _ _ (by decide)]; unfold upd; rw [if_neg (by omega), ← h, ho_i7 w hi]) (fun i hi => by rw [gw_set_ne _ _ _ _ (by decide)]; unfold upd; rw [if_neg (by omega), ← h, ho_i8 w hi]) (fun i hi => by rw [gw_set_ne _ _ _ _ (by decide)]; unfold upd; rw [if_neg (by omega), ← h, ho_i9 w hi]) (fun i hi => by rw [gw_set_ne _ _ _ _ (by decide)]; unfold upd; rw [if_neg (by omega), ← h, ho_i10 w hi]) (by rw [gw_set_ne _ _ _ _ (by decide)]; unfold upd; rw [if_neg (by omega), ← h, ho_j12]) (fun i hi => by rw [gw_set_ne _ _ _ _ (by decide)]; unfold upd; rw [if_neg (by omega), ← h, ho_i11 w hi]) (fun i hi => by rw [gw_set_ne _ _ _ _ (by decide)]; unfold upd; rw [if_neg (by omega), ← h, ho_i12 w hi]) (fun i hi => by rw [gw_set_ne _ _ _ _ (by decide)]; unfold upd; rw [if_neg (by omega), ← h, ho_i13 w hi]) (by rw [gw_set_ne _ _ _ _ (by decide)]; unfold upd; rw [if_neg (by omega), ← h, ho_j2]) (fun i hi => by rw [gw_set_ne _ _ _ _ (by decide)]; unfold upd; rw [if_neg (by omega), ← h, ho_i1 w hi]) (fun i hi => by rw [gw_set_ne _ _ _ _ (by decide)]; unfold upd; rw [if_neg (by omega), ← h, ho_i2 w hi]) (fun k hk => by unfold upd; rw [if_neg (by omega), ← h, ho_out w hk])

theorem ho_s6 {w : gw_M} {t : cw_s} {j k : Nat} {x : Int32} (h : ho w = t) (hj : j < 6) (hk : 1 + 4 * j + 3 = k) : ho (gw_set w 6 j x) = upd t k x := by
  subst hk
  exact ho_ext (by rw [gw_set_ne _ _ _ _ (by decide)]; unfold upd; rw [if_neg (by omega), ← h, ho_j3]) (fun i hi => by rw [gw_set_ne _ _ _ _ (by decide)]; unfold upd; rw [if_neg (by omega), ← h, ho_i3 w hi]) (fun i hi => by rw [gw_set_ne _ _ _ _ (by decide)]; unfold upd; rw [if_neg (by omega), ← h, ho_i4 w hi]) (fun i hi => by rw [gw_set_ne _ _ _ _ (by decide)]; unfold upd; rw [if_neg (by omega), ← h, ho_i5 w hi]) (fun i hi => by
    by_cases q : i = j
    · subst q; rw [gw_set_self]; simp [upd]
    · rw [gw_set_self]; unfold upd; rw [if_neg q, if_neg (by omega), ← h, ho_i6 w hi]) (fun i hi => by rw [gw_set_ne _ _ _ _ (by decide)]; unfold upd; rw [if_neg (by omega), ← h, ho_i7 w hi]) (fun i hi => by rw [gw_set_ne _ _ _ _ (by decide)]; unfold upd; rw [if_neg (by omega), ← h, ho_i8 w hi]) (fun i hi => by rw [gw_set_ne _ _ _ _ (by decide)]; unfold upd; rw [if_neg (by omega), ← h, ho_i9 w hi]) (fun i hi => by rw [gw_set_ne _ _ _ _ (by decide)]; unfold upd; rw [if_neg (by omega), ← h, ho_i10 w hi]) (by rw [gw_set_ne _ _ _ _ (by decide)]; unfold upd; rw [if_neg (by omega), ← h, ho_j12]) (fun i hi => by rw [gw_set_ne _ _ _ _ (by decide)]; unfold upd; rw [if_neg (by omega), ← h, ho_i11 w hi]) (fun i hi => by rw [gw_set_ne _ _ _ _ (by decide)]; unfold upd; rw [if_neg (by omega), ← h, ho_i12 w hi]) (fun i hi => by rw [gw_set_ne _ _ _ _ (by decide)]; unfold upd; rw [if_neg (by omega), ← h, ho_i13 w hi]) (by rw [gw_set_ne _ _ _ _ (by decide)]; unfold upd; rw [if_neg (by omega), ← h, ho_j2]) (fun i hi => by rw [gw_set_ne _ _ _ _ (by decide)]; unfold upd; rw [if_neg (by omega), ← h, ho_i1 w hi]) (fun i hi => by rw [gw_set_ne _ _ _ _ (by decide)]; unfold upd; rw [if_neg (by omega), ← h, ho_i2 w hi]) (fun k hk => by unfold upd; rw [if_neg (by omega), ← h, ho_out w hk])

theorem ho_s7 {w : gw_M} {t : cw_s} {j k : Nat} {x : Int32} (h : ho w = t) (hj : j < 20) (hk : 25 + 3 * j + 0 = k) : ho (gw_set w 7 j x) = upd t k x := by
  subst hk
  exact ho_ext (by rw [gw_set_ne _ _ _ _ (by decide)]; unfold upd; rw [if_neg (by omega), ← h, ho_j3]) (fun i hi => by rw [gw_set_ne _ _ _ _ (by decide)]; unfold upd; rw [if_neg (by omega), ← h, ho_i3 w hi]) (fun i hi => by rw [gw_set_ne _ _ _ _ (by decide)]; unfold upd; rw [if_neg (by omega), ← h, ho_i4 w hi]) (fun i hi => by rw [gw_set_ne _ _ _ _ (by decide)]; unfold upd; rw [if_neg (by omega), ← h, ho_i5 w hi]) (fun i hi => by rw [gw_set_ne _ _ _ _ (by decide)]; unfold upd; rw [if_neg (by omega), ← h, ho_i6 w hi]) (fun i hi => by
    by_cases q : i = j
    · subst q; rw [gw_set_self]; simp [upd]
    · rw [gw_set_self]; unfold upd; rw [if_neg q, if_neg (by omega), ← h, ho_i7 w hi]) (fun i hi => by rw [gw_set_ne _ _ _ _ (by decide)]; unfold upd; rw [if_neg (by omega), ← h, ho_i8 w hi]) (fun i hi => by rw [gw_set_ne _ _ _ _ (by decide)]; unfold upd; rw [if_neg (by omega), ← h, ho_i9 w hi]) (fun i hi => by rw [gw_set_ne _ _ _ _ (by decide)]; unfold upd; rw [if_neg (by omega), ← h, ho_i10 w hi]) (by rw [gw_set_ne _ _ _ _ (by decide)]; unfold upd; rw [if_neg (by omega), ← h, ho_j12]) (fun i hi => by rw [gw_set_ne _ _ _ _ (by decide)]; unfold upd; rw [if_neg (by omega), ← h, ho_i11 w hi]) (fun i hi => by rw [gw_set_ne _ _ _ _ (by decide)]; unfold upd; rw [if_neg (by omega), ← h, ho_i12 w hi]) (fun i hi => by rw [gw_set_ne _ _ _ _ (by decide)]; unfold upd; rw [if_neg (by omega), ← h, ho_i13 w hi]) (by rw [gw_set_ne _ _ _ _ (by decide)]; unfold upd; rw [if_neg (by omega), ← h, ho_j2]) (fun i hi => by rw [gw_set_ne _ _ _ _ (by decide)]; unfold upd; rw [if_neg (by omega), ← h, ho_i1 w hi]) (fun i hi => by rw [gw_set_ne _ _ _ _ (by decide)]; unfold upd; rw [if_neg (by omega), ← h, ho_i2 w hi]) (fun k hk => by unfold upd; rw [if_neg (by omega), ← h, ho_out w hk])

theorem ho_s8 {w : gw_M} {t : cw_s} {j k : Nat} {x : Int32} (h : ho w = t) (hj : j < 20) (hk : 25 + 3 * j + 1 = k) : ho (gw_set w 8 j x) = upd t k x := by
  subst hk
  exact ho_ext (by rw [gw_set_ne _ _ _ _ (by decide)]; unfold upd; rw [if_neg (by omega), ← h, ho_j3]) (fun i hi => by rw [gw_set_ne _ _ _ _ (by decide)]; unfold upd; rw [if_neg (by omega), ← h, ho_i3 w hi]) (fun i hi => by rw [gw_set_ne _ _ _ _ (by decide)]; unfold upd; rw [if_neg (by omega), ← h, ho_i4 w hi]) (fun i hi => by rw [gw_set_ne _ _ _ _ (by decide)]; unfold upd; rw [if_neg (by omega), ← h, ho_i5 w hi]) (fun i hi => by rw [gw_set_ne _ _ _ _ (by decide)]; unfold upd; rw [if_neg (by omega), ← h, ho_i6 w hi]) (fun i hi => by rw [gw_set_ne _ _ _ _ (by decide)]; unfold upd; rw [if_neg (by omega), ← h, ho_i7 w hi]) (fun i hi => by
    by_cases q : i = j
    · subst q; rw [gw_set_self]; simp [upd]
    · rw [gw_set_self]; unfold upd; rw [if_neg q, if_neg (by omega), ← h, ho_i8 w hi]) (fun i hi => by rw [gw_set_ne _ _ _ _ (by decide)]; unfold upd; rw [if_neg (by omega), ← h, ho_i9 w hi]) (fun i hi => by rw [gw_set_ne _ _ _ _ (by decide)]; unfold upd; rw [if_neg (by omega), ← h, ho_i10 w hi]) (by rw [gw_set_ne _ _ _ _ (by decide)]; unfold upd; rw [if_neg (by omega), ← h, ho_j12]) (fun i hi => by rw [gw_set_ne _ _ _ _ (by decide)]; unfold upd; rw [if_neg (by omega), ← h, ho_i11 w hi]) (fun i hi => by rw [gw_set_ne _ _ _ _ (by decide)]; unfold upd; rw [if_neg (by omega), ← h, ho_i12 w hi]) (fun i hi => by rw [gw_set_ne _ _ _ _ (by decide)]; unfold upd; rw [if_neg (by omega), ← h, ho_i13 w hi]) (by rw [gw_set_ne _ _ _ _ (by decide)]; unfold upd; rw [if_neg (by omega), ← h, ho_j2]) (fun i hi => by rw [gw_set_ne _ _ _ _ (by decide)]; unfold upd; rw [if_neg (by omega), ← h, ho_i1 w hi]) (fun i hi => by rw [gw_set_ne _ _ _ _ (by decide)]; unfold upd; rw [if_neg (by omega), ← h, ho_i2 w hi]) (fun k hk => by unfold upd; rw [if_neg (by omega), ← h, ho_out w hk])

theorem ho_s9 {w : gw_M} {t : cw_s} {j k : Nat} {x : Int32} (h : ho w = t) (hj : j < 20) (hk : 25 + 3 * j + 2 = k) : ho (gw_set w 9 j x) = upd t k x := by
  subst hk
  exact ho_ext (by rw [gw_set_ne _ _ _ _ (by decide)]; unfold upd; rw [if_neg (by omega), ← h, ho_j3]) (fun i hi => by rw [gw_set_ne _ _ _ _ (by decide)]; unfold upd; rw [if_neg (by omega), ← h, ho_i3 w hi]) (fun i hi => by rw [gw_set_ne _ _ _ _ (by decide)]; unfold upd; rw [if_neg (by omega), ← h, ho_i4 w hi]) (fun i hi => by rw [gw_set_ne _ _ _ _ (by decide)]; unfold upd; rw [if_neg (by omega), ← h, ho_i5 w hi]) (fun i hi => by rw [gw_set_ne _ _ _ _ (by decide)]; unfold upd; rw [if_neg (by omega), ← h, ho_i6 w hi]) (fun i hi => by rw [gw_set_ne _ _ _ _ (by decide)]; unfold upd; rw [if_neg (by omega), ← h, ho_i7 w hi]) (fun i hi => by rw [gw_set_ne _ _ _ _ (by decide)]; unfold upd; rw [if_neg (by omega), ← h, ho_i8 w hi]) (fun i hi => by
    by_cases q : i = j
    · subst q; rw [gw_set_self]; simp [upd]
    · rw [gw_set_self]; unfold upd; rw [if_neg q, if_neg (by omega), ← h, ho_i9 w hi]) (fun i hi => by rw [gw_set_ne _ _ _ _ (by decide)]; unfold upd; rw [if_neg (by omega), ← h, ho_i10 w hi]) (by rw [gw_set_ne _ _ _ _ (by decide)]; unfold upd; rw [if_neg (by omega), ← h, ho_j12]) (fun i hi => by rw [gw_set_ne _ _ _ _ (by decide)]; unfold upd; rw [if_neg (by omega), ← h, ho_i11 w hi]) (fun i hi => by rw [gw_set_ne _ _ _ _ (by decide)]; unfold upd; rw [if_neg (by omega), ← h, ho_i12 w hi]) (fun i hi => by rw [gw_set_ne _ _ _ _ (by decide)]; unfold upd; rw [if_neg (by omega), ← h, ho_i13 w hi]) (by rw [gw_set_ne _ _ _ _ (by decide)]; unfold upd; rw [if_neg (by omega), ← h, ho_j2]) (fun i hi => by rw [gw_set_ne _ _ _ _ (by decide)]; unfold upd; rw [if_neg (by omega), ← h, ho_i1 w hi]) (fun i hi => by rw [gw_set_ne _ _ _ _ (by decide)]; unfold upd; rw [if_neg (by omega), ← h, ho_i2 w hi]) (fun k hk => by unfold upd; rw [if_neg (by omega), ← h, ho_out w hk])

theorem ho_s10 {w : gw_M} {t : cw_s} {j k : Nat} {x : Int32} (h : ho w = t) (hj : j < 120) (hk : 85 + j = k) : ho (gw_set w 10 j x) = upd t k x := by
  subst hk
  exact ho_ext (by rw [gw_set_ne _ _ _ _ (by decide)]; unfold upd; rw [if_neg (by omega), ← h, ho_j3]) (fun i hi => by rw [gw_set_ne _ _ _ _ (by decide)]; unfold upd; rw [if_neg (by omega), ← h, ho_i3 w hi]) (fun i hi => by rw [gw_set_ne _ _ _ _ (by decide)]; unfold upd; rw [if_neg (by omega), ← h, ho_i4 w hi]) (fun i hi => by rw [gw_set_ne _ _ _ _ (by decide)]; unfold upd; rw [if_neg (by omega), ← h, ho_i5 w hi]) (fun i hi => by rw [gw_set_ne _ _ _ _ (by decide)]; unfold upd; rw [if_neg (by omega), ← h, ho_i6 w hi]) (fun i hi => by rw [gw_set_ne _ _ _ _ (by decide)]; unfold upd; rw [if_neg (by omega), ← h, ho_i7 w hi]) (fun i hi => by rw [gw_set_ne _ _ _ _ (by decide)]; unfold upd; rw [if_neg (by omega), ← h, ho_i8 w hi]) (fun i hi => by rw [gw_set_ne _ _ _ _ (by decide)]; unfold upd; rw [if_neg (by omega), ← h, ho_i9 w hi]) (fun i hi => by
    by_cases q : i = j
    · subst q; rw [gw_set_self]; simp [upd]
    · rw [gw_set_self]; unfold upd; rw [if_neg q, if_neg (by omega), ← h, ho_i10 w hi]) (by rw [gw_set_ne _ _ _ _ (by decide)]; unfold upd; rw [if_neg (by omega), ← h, ho_j12]) (fun i hi => by rw [gw_set_ne _ _ _ _ (by decide)]; unfold upd; rw [if_neg (by omega), ← h, ho_i11 w hi]) (fun i hi => by rw [gw_set_ne _ _ _ _ (by decide)]; unfold upd; rw [if_neg (by omega), ← h, ho_i12 w hi]) (fun i hi => by rw [gw_set_ne _ _ _ _ (by decide)]; unfold upd; rw [if_neg (by omega), ← h, ho_i13 w hi]) (by rw [gw_set_ne _ _ _ _ (by decide)]; unfold upd; rw [if_neg (by omega), ← h, ho_j2]) (fun i hi => by rw [gw_set_ne _ _ _ _ (by decide)]; unfold upd; rw [if_neg (by omega), ← h, ho_i1 w hi]) (fun i hi => by rw [gw_set_ne _ _ _ _ (by decide)]; unfold upd; rw [if_neg (by omega), ← h, ho_i2 w hi]) (fun k hk => by unfold upd; rw [if_neg (by omega), ← h, ho_out w hk])

theorem ho_s11 {w : gw_M} {t : cw_s} {j k : Nat} {x : Int32} (h : ho w = t) (hj : j < 8) (hk : 206 + 3 * j + 0 = k) : ho (gw_set w 11 j x) = upd t k x := by
  subst hk
  exact ho_ext (by rw [gw_set_ne _ _ _ _ (by decide)]; unfold upd; rw [if_neg (by omega), ← h, ho_j3]) (fun i hi => by rw [gw_set_ne _ _ _ _ (by decide)]; unfold upd; rw [if_neg (by omega), ← h, ho_i3 w hi]) (fun i hi => by rw [gw_set_ne _ _ _ _ (by decide)]; unfold upd; rw [if_neg (by omega), ← h, ho_i4 w hi]) (fun i hi => by rw [gw_set_ne _ _ _ _ (by decide)]; unfold upd; rw [if_neg (by omega), ← h, ho_i5 w hi]) (fun i hi => by rw [gw_set_ne _ _ _ _ (by decide)]; unfold upd; rw [if_neg (by omega), ← h, ho_i6 w hi]) (fun i hi => by rw [gw_set_ne _ _ _ _ (by decide)]; unfold upd; rw [if_neg (by omega), ← h, ho_i7 w hi]) (fun i hi => by rw [gw_set_ne _ _ _ _ (by decide)]; unfold upd; rw [if_neg (by omega), ← h, ho_i8 w hi]) (fun i hi => by rw [gw_set_ne _ _ _ _ (by decide)]; unfold upd; rw [if_neg (by omega), ← h, ho_i9 w hi]) (fun i hi => by rw [gw_set_ne _ _ _ _ (by decide)]; unfold upd; rw [if_neg (by omega), ← h, ho_i10 w hi]) (by rw [gw_set_ne _ _ _ _ (by decide)]; unfold upd; rw [if_neg (by omega), ← h, ho_j12]) (fun i hi => by
    by_cases q : i = j
    · subst q; rw [gw_set_self]; simp [upd]
    · rw [gw_set_self]; unfold upd; rw [if_neg q, if_neg (by omega), ← h, ho_i11 w hi]) (fun i hi => by rw [gw_set_ne _ _ _ _ (by decide)]; unfold upd; rw [if_neg (by omega), ← h, ho_i12 w hi]) (fun i hi => by rw [gw_set_ne _ _ _ _ (by decide)]; unfold upd; rw [if_neg (by omega), ← h, ho_i13 w hi]) (by rw [gw_set_ne _ _ _ _ (by decide)]; unfold upd; rw [if_neg (by omega), ← h, ho_j2]) (fun i hi => by rw [gw_set_ne _ _ _ _ (by decide)]; unfold upd; rw [if_neg (by omega), ← h, ho_i1 w hi]) (fun i hi => by rw [gw_set_ne _ _ _ _ (by decide)]; unfold upd; rw [if_neg (by omega), ← h, ho_i2 w hi]) (fun k hk => by unfold upd; rw [if_neg (by omega), ← h, ho_out w hk])

theorem ho_s12 {w : gw_M} {t : cw_s} {j k : Nat} {x : Int32} (h : ho w = t) (hj : j < 8) (hk : 206 + 3 * j + 1 = k) : ho (gw_set w 12 j x) = upd t k x := by
  subst hk
  exact ho_ext (by rw [gw_set_ne _ _ _ _ (by decide)]; unfold upd; rw [if_neg (by omega), ← h, ho_j3]) (fun i hi => by rw [gw_set_ne _ _ _ _ (by decide)]; unfold upd; rw [if_neg (by omega), ← h, ho_i3 w hi]) (fun i hi => by rw [gw_set_ne _ _ _ _ (by decide)]; unfold upd; rw [if_neg (by omega), ← h, ho_i4 w hi]) (fun i hi => by rw [gw_set_ne _ _ _ _ (by decide)]; unfold upd; rw [if_neg (by omega), ← h, ho_i5 w hi]) (fun i hi => by rw [gw_set_ne _ _ _ _ (by decide)]; unfold upd; rw [if_neg (by omega), ← h, ho_i6 w hi]) (fun i hi => by rw [gw_set_ne _ _ _ _ (by decide)]; unfold upd; rw [if_neg (by omega), ← h, ho_i7 w hi]) (fun i hi => by rw [gw_set_ne _ _ _ _ (by decide)]; unfold upd; rw [if_neg (by omega), ← h, ho_i8 w hi]) (fun i hi => by rw [gw_set_ne _ _ _ _ (by decide)]; unfold upd; rw [if_neg (by omega), ← h, ho_i9 w hi]) (fun i hi => by rw [gw_set_ne _ _ _ _ (by decide)]; unfold upd; rw [if_neg (by omega), ← h, ho_i10 w hi]) (by rw [gw_set_ne _ _ _ _ (by decide)]; unfold upd; rw [if_neg (by omega), ← h, ho_j12]) (fun i hi => by rw [gw_set_ne _ _ _ _ (by decide)]; unfold upd; rw [if_neg (by omega), ← h, ho_i11 w hi]) (fun i hi => by
    by_cases q : i = j
    · subst q; rw [gw_set_self]; simp [upd]
    · rw [gw_set_self]; unfold upd; rw [if_neg q, if_neg (by omega), ← h, ho_i12 w hi]) (fun i hi => by rw [gw_set_ne _ _ _ _ (by decide)]; unfold upd; rw [if_neg (by omega), ← h, ho_i13 w hi]) (by rw [gw_set_ne _ _ _ _ (by decide)]; unfold upd; rw [if_neg (by omega), ← h, ho_j2]) (fun i hi => by rw [gw_set_ne _ _ _ _ (by decide)]; unfold upd; rw [if_neg (by omega), ← h, ho_i1 w hi]) (fun i hi => by rw [gw_set_ne _ _ _ _ (by decide)]; unfold upd; rw [if_neg (by omega), ← h, ho_i2 w hi]) (fun k hk => by unfold upd; rw [if_neg (by omega), ← h, ho_out w hk])

theorem ho_s13 {w : gw_M} {t : cw_s} {j k : Nat} {x : Int32} (h : ho w = t) (hj : j < 8) (hk : 206 + 3 * j + 2 = k) : ho (gw_set w 13 j x) = upd t k x := by
  subst hk
  exact ho_ext (by rw [gw_set_ne _ _ _ _ (by decide)]; unfold upd; rw [if_neg (by omega), ← h, ho_j3]) (fun i hi => by rw [gw_set_ne _ _ _ _ (by decide)]; unfold upd; rw [if_neg (by omega), ← h, ho_i3 w hi]) (fun i hi => by rw [gw_set_ne _ _ _ _ (by decide)]; unfold upd; rw [if_neg (by omega), ← h, ho_i4 w hi]) (fun i hi => by rw [gw_set_ne _ _ _ _ (by decide)]; unfold upd; rw [if_neg (by omega), ← h, ho_i5 w hi]) (fun i hi => by rw [gw_set_ne _ _ _ _ (by decide)]; unfold upd; rw [if_neg (by omega), ← h, ho_i6 w hi]) (fun i hi => by rw [gw_set_ne _ _ _ _ (by decide)]; unfold upd; rw [if_neg (by omega), ← h, ho_i7 w hi]) (fun i hi => by rw [gw_set_ne _ _ _ _ (by decide)]; unfold upd; rw [if_neg (by omega), ← h, ho_i8 w hi]) (fun i hi => by rw [gw_set_ne _ _ _ _ (by decide)]; unfold upd; rw [if_neg (by omega), ← h, ho_i9 w hi]) (fun i hi => by rw [gw_set_ne _ _ _ _ (by decide)]; unfold upd; rw [if_neg (by omega), ← h, ho_i10 w hi]) (by rw [gw_set_ne _ _ _ _ (by decide)]; unfold upd; rw [if_neg (by omega), ← h, ho_j12]) (fun i hi => by rw [gw_set_ne _ _ _ _ (by decide)]; unfold upd; rw [if_neg (by omega), ← h, ho_i11 w hi]) (fun i hi => by rw [gw_set_ne _ _ _ _ (by decide)]; unfold upd; rw [if_neg (by omega), ← h, ho_i12 w hi]) (fun i hi => by
    by_cases q : i = j
    · subst q; rw [gw_set_self]; simp [upd]
    · rw [gw_set_self]; unfold upd; rw [if_neg q, if_neg (by omega), ← h, ho_i13 w hi]) (by rw [gw_set_ne _ _ _ _ (by decide)]; unfold upd; rw [if_neg (by omega), ← h, ho_j2]) (fun i hi => by rw [gw_set_ne _ _ _ _ (by decide)]; unfold upd; rw [if_neg (by omega), ← h, ho_i1 w hi]) (fun i hi => by rw [gw_set_ne _ _ _ _ (by decide)]; unfold upd; rw [if_neg (by omega), ← h, ho_i2 w hi]) (fun k hk => by unfold upd; rw [if_neg (by omega), ← h, ho_out w hk])

theorem ho_p2 {w : gw_M} {t : cw_s} {x : Int32} (h : ho w = t) : ho (gw_set w 0 2 x) = upd t 230 x := by
  exact ho_ext (by rw [show gw_set w 0 2 x 0 3 = w 0 3 by simp [gw_set]]; unfold upd; rw [if_neg (by omega), ← h, ho_j3]) (fun i hi => by rw [gw_set_ne _ _ _ _ (by decide)]; unfold upd; rw [if_neg (by omega), ← h, ho_i3 w hi]) (fun i hi => by rw [gw_set_ne _ _ _ _ (by decide)]; unfold upd; rw [if_neg (by omega), ← h, ho_i4 w hi]) (fun i hi => by rw [gw_set_ne _ _ _ _ (by decide)]; unfold upd; rw [if_neg (by omega), ← h, ho_i5 w hi]) (fun i hi => by rw [gw_set_ne _ _ _ _ (by decide)]; unfold upd; rw [if_neg (by omega), ← h, ho_i6 w hi]) (fun i hi => by rw [gw_set_ne _ _ _ _ (by decide)]; unfold upd; rw [if_neg (by omega), ← h, ho_i7 w hi]) (fun i hi => by rw [gw_set_ne _ _ _ _ (by decide)]; unfold upd; rw [if_neg (by omega), ← h, ho_i8 w hi]) (fun i hi => by rw [gw_set_ne _ _ _ _ (by decide)]; unfold upd; rw [if_neg (by omega), ← h, ho_i9 w hi]) (fun i hi => by rw [gw_set_ne _ _ _ _ (by decide)]; unfold upd; rw [if_neg (by omega), ← h, ho_i10 w hi]) (by rw [show gw_set w 0 2 x 0 12 = w 0 12 by simp [gw_set]]; unfold upd; rw [if_neg (by omega), ← h, ho_j12]) (fun i hi => by rw [gw_set_ne _ _ _ _ (by decide)]; unfold upd; rw [if_neg (by omega), ← h, ho_i11 w hi]) (fun i hi => by rw [gw_set_ne _ _ _ _ (by decide)]; unfold upd; rw [if_neg (by omega), ← h, ho_i12 w hi]) (fun i hi => by rw [gw_set_ne _ _ _ _ (by decide)]; unfold upd; rw [if_neg (by omega), ← h, ho_i13 w hi]) (by simp [gw_set, upd]) (fun i hi => by rw [gw_set_ne _ _ _ _ (by decide)]; unfold upd; rw [if_neg (by omega), ← h, ho_i1 w hi]) (fun i hi => by rw [gw_set_ne _ _ _ _ (by decide)]; unfold upd; rw [if_neg (by omega), ← h, ho_i2 w hi]) (fun k hk => by unfold upd; rw [if_neg (by omega), ← h, ho_out w hk])

theorem ho_p3 {w : gw_M} {t : cw_s} {x : Int32} (h : ho w = t) : ho (gw_set w 0 3 x) = upd t 0 x := by
  exact ho_ext (by simp [gw_set, upd]) (fun i hi => by rw [gw_set_ne _ _ _ _ (by decide)]; unfold upd; rw [if_neg (by omega), ← h, ho_i3 w hi]) (fun i hi => by rw [gw_set_ne _ _ _ _ (by decide)]; unfold upd; rw [if_neg (by omega), ← h, ho_i4 w hi]) (fun i hi => by rw [gw_set_ne _ _ _ _ (by decide)]; unfold upd; rw [if_neg (by omega), ← h, ho_i5 w hi]) (fun i hi => by rw [gw_set_ne _ _ _ _ (by decide)]; unfold upd; rw [if_neg (by omega), ← h, ho_i6 w hi]) (fun i hi => by rw [gw_set_ne _ _ _ _ (by decide)]; unfold upd; rw [if_neg (by omega), ← h, ho_i7 w hi]) (fun i hi => by rw [gw_set_ne _ _ _ _ (by decide)]; unfold upd; rw [if_neg (by omega), ← h, ho_i8 w hi]) (fun i hi => by rw [gw_set_ne _ _ _ _ (by decide)]; unfold upd; rw [if_neg (by omega), ← h, ho_i9 w hi]) (fun i hi => by rw [gw_set_ne _ _ _ _ (by decide)]; unfold upd; rw [if_neg (by omega), ← h, ho_i10 w hi]) (by rw [show gw_set w 0 3 x 0 12 = w 0 12 by simp [gw_set]]; unfold upd; rw [if_neg (by omega), ← h, ho_j12]) (fun i hi => by rw [gw_set_ne _ _ _ _ (by decide)]; unfold upd; rw [if_neg (by omega), ← h, ho_i11 w hi]) (fun i hi => by rw [gw_set_ne _ _ _ _ (by decide)]; unfold upd; rw [if_neg (by omega), ← h, ho_i12 w hi]) (fun i hi => by rw [gw_set_ne _ _ _ _ (by decide)]; unfold upd; rw [if_neg (by omega), ← h, ho_i13 w hi]) (by rw [show gw_set w 0 3 x 0 2 = w 0 2 by simp [gw_set]]; unfold upd; rw [if_neg (by omega), ← h, ho_j2]) (fun i hi => by rw [gw_set_ne _ _ _ _ (by decide)]; unfold upd; rw [if_neg (by omega), ← h, ho_i1 w hi]) (fun i hi => by rw [gw_set_ne _ _ _ _ (by decide)]; unfold upd; rw [if_neg (by omega), ← h, ho_i2 w hi]) (fun k hk => by unfold upd; rw [if_neg (by omega), ← h, ho_out w hk])

theorem ho_p12 {w : gw_M} {t : cw_s} {x : Int32} (h : ho w = t) : ho (gw_set w 0 12 x) = upd t 205 x := by
  exact ho_ext (by rw [show gw_set w 0 12 x 0 3 = w 0 3 by simp [gw_set]]; unfold upd; rw [if_neg (by omega), ← h, ho_j3]) (fun i hi => by rw [gw_set_ne _ _ _ _ (by decide)]; unfold upd; rw [if_neg (by omega), ← h, ho_i3 w hi]) (fun i hi => by rw [gw_set_ne _ _ _ _ (by decide)]; unfold upd; rw [if_neg (by omega), ← h, ho_i4 w hi]) (fun i hi => by rw [gw_set_ne _ _ _ _ (by decide)]; unfold upd; rw [if_neg (by omega), ← h, ho_i5 w hi]) (fun i hi => by rw [gw_set_ne _ _ _ _ (by decide)]; unfold upd; rw [if_neg (by omega), ← h, ho_i6 w hi]) (fun i hi => by rw [gw_set_ne _ _ _ _ (by decide)]; unfold upd; rw [if_neg (by omega), ← h, ho_i7 w hi]) (fun i hi => by rw [gw_set_ne _ _ _ _ (by decide)]; unfold upd; rw [if_neg (by omega), ← h, ho_i8 w hi]) (fun i hi => by rw [gw_set_ne _ _ _ _ (by decide)]; unfold upd; rw [if_neg (by omega), ← h, ho_i9 w hi]) (fun i hi => by rw [gw_set_ne _ _ _ _ (by decide)]; unfold upd; rw [if_neg (by omega), ← h, ho_i10 w hi]) (by simp [gw_set, upd]) (fun i hi => by rw [gw_set_ne _ _ _ _ (by decide)]; unfold upd; rw [if_neg (by omega), ← h, ho_i11 w hi]) (fun i hi => by rw [gw_set_ne _ _ _ _ (by decide)]; unfold upd; rw [if_neg (by omega), ← h, ho_i12 w hi]) (fun i hi => by rw [gw_set_ne _ _ _ _ (by decide)]; unfold upd; rw [if_neg (by omega), ← h, ho_i13 w hi]) (by rw [show gw_set w 0 12 x 0 2 = w 0 2 by simp [gw_set]]; unfold upd; rw [if_neg (by omega), ← h, ho_j2]) (fun i hi => by rw [gw_set_ne _ _ _ _ (by decide)]; unfold upd; rw [if_neg (by omega), ← h, ho_i1 w hi]) (fun i hi => by rw [gw_set_ne _ _ _ _ (by decide)]; unfold upd; rw [if_neg (by omega), ← h, ho_i2 w hi]) (fun k hk => by unfold upd; rw [if_neg (by omega), ← h, ho_out w hk])


theorem ac_X1_58 : gw_cy RX1 58 := ⟨gw_T_at 36 (by decide +kernel) rfl, gw_T_at 38 (by decide +kernel) rfl, gw_T_at 37 (by decide +kernel) rfl, gw_T_at 3 (by decide +kernel) rfl⟩
theorem mx_X1_95 : gw_mx RX1 95 := ⟨gw_T_at 458 (by decide +kernel) rfl, gw_T_at 459 (by decide +kernel) rfl, gw_T_at 14 (by decide +kernel) rfl, gw_T_at 460 (by decide +kernel) rfl⟩
theorem mx_X2_44 : gw_mx RX2 44 := ⟨gw_T_at 642 (by decide +kernel) rfl, gw_T_at 459 (by decide +kernel) rfl, gw_T_at 14 (by decide +kernel) rfl, gw_T_at 460 (by decide +kernel) rfl⟩
def sA (len : Nat) : gw_S := (1, fun _ => .inl (0, len, fun j => j))
def cw_fill (n : Nat) (v : Int32) (f : Nat → Int32) : Nat → Int32 := fun j => if j < n then v else f j
theorem cw_fill_1 (n : Nat) (v : Int32) (f : Nat → Int32) : upd (cw_fill n v f) n v = cw_fill (n + 1) v f := by
  funext j; unfold upd cw_fill
  by_cases h : j = n
  · rw [if_pos h, if_pos (by omega)]
  · rw [if_neg h]; by_cases h2 : j < n
    · rw [if_pos h2, if_pos (by omega)]
    · rw [if_neg h2, if_neg (by omega)]
set_option maxHeartbeats 8000000 in
set_option maxRecDepth 100000 in
theorem ok_J7_fill_53178 (len : Nat) (v : Int32) (hlen : len < 2147483648) : gw_Ok yJ7_fill_53178 cJ7_fill_53178 4 none (sA len) 1 [.ref 0, .int v] (fun _ => True) (fun w vr w1 => vr = none ∧ w1 0 = cw_fill len v (w 0)) := by
  refine gw_of (by decide) (Nat.le_of_ble_eq_true rfl) ?_
  intro X w h C F
  refine g_iconst (v := 0) C (by decide) dJ7_fill_53178_0 ?_
  refine g_istore_n C (by decide) dJ7_fill_53178_1 ?_
  refine g_aload_n C rfl dJ7_fill_53178_2 ?_
  refine g_alen (v := nI len) C rfl (by decide) rfl dJ7_fill_53178_3 ?_
  refine g_istore_n C (by decide) dJ7_fill_53178_4 ?_
  refine g_sub rfl (g_for (α := Unit) (len) (fun i1 x1 => [(0, .ref 0), (1, .int v), (2, .int (nI i1)), (3, .int (nI len))]) (fun i1 x1 w1 => w1 0 = cw_fill i1 v (w 0)) 0 () _ (Nat.zero_le _) (by funext j; unfold cw_fill; rw [if_neg (by omega)]) (fun i1 x1 w1 hi1 hR1 ih1 => ?_) (fun x1 w1 hR1 => ?_))
  · skip
    refine g_iload_n C rfl dJ7_fill_53178_5 ?_
    refine g_iload_n C rfl dJ7_fill_53178_6 ?_
    refine g_cmp_ge (tgt := 20) C (by decide) dJ7_fill_53178_7 (fun c_7 => absurd c_7 (nI_ge hi1 hlen)) (fun c_7 => ?_)
    refine g_aload_n C rfl dJ7_fill_53178_10 ?_
    refine g_iload_n C rfl dJ7_fill_53178_11 ?_
    refine g_iload_n C rfl dJ7_fill_53178_12 ?_
    refine g_iast C rfl (by first | rfl | assumption | (simp only [nI_add, pk_mul, *]; done)) (by first | assumption | omega) hlen dJ7_fill_53178_13 ?_
    refine g_iinc (v := nI (i1 + 1)) C rfl (nI_1 i1) (by decide) dJ7_fill_53178_14 ?_
    refine g_goto (tgt := 5) C (by decide) dJ7_fill_53178_17 ?_
    exact g_sub rfl (ih1 () _ (by rw [gw_set_self, hR1, cw_fill_1]))
  skip
  refine g_iload_n C rfl dJ7_fill_53178_5 ?_
  refine g_iload_n C rfl dJ7_fill_53178_6 ?_
  refine g_cmp_ge (tgt := 20) C (by decide) dJ7_fill_53178_7 (fun c_7 => ?_) (fun c_7 => absurd (nI_le (Nat.le_refl _) hlen) c_7)
  refine g_vret C F dJ7_fill_53178_20 ?_
  exact ⟨rfl, hR1⟩

theorem g_fill {X : gw_X} {own : String} {cc : ByteArray} {nL d mc ms : Nat} (C : gw_ok X own cc nL d mc ms) {S : gw_S} {k n pc : Nat} {lv : gw_LV} {rest : List Value} {w : gw_M} {q len index : Nat} {v : Int32} (ha : gw_at S q = some (.inl (0, len, fun j => j))) (hlen : len < 2147483648) (hdd : 2 ≤ d) (hkn : k ≤ mc ∧ n ≤ ms) (hroom : (rest.map fun v => v.category).sum ≤ 8) (L : gw_si own index yJ7_fill_53178) (hd : decode cc pc = .ok (.invokestatic index, 3)) (K : gw_G X S nL k n (pc + 3) lv rest (cw_put w q (cw_fill len v (w q)))) : gw_G X S nL k n pc lv (.int v :: .ref q :: rest) w :=
  g_callSW C (S' := sA len) (π := fun _ => q) ⟨fun i _ => ha, fun i j h1 h2 _ => by have a1 : i < 1 := h1; have a2 : j < 1 := h2; omega⟩ (ok_J7_fill_53178 len v hlen) my_J7_fill_53178 L hdd hkn rfl
    (fun w1 => cw_put w q (w1 0)) (fun w1 i hi => by have a1 : i < 1 := hi; obtain rfl : i = 0 := (by omega); exact cw_put_self w q (w1 0)) (fun w1 j _ h => cw_put_ne w q (w1 0) (Ne.symm (h 0 (show 0 < 1 by decide))))
    (fun _ => w q) (fun _ _ => rfl) hroom hd rfl trivial (fun vv w1 hp => by
      obtain ⟨rfl, hw⟩ := hp
      show gw_G X S nL k n (pc + 3) lv rest (cw_put w q (w1 0))
      rw [hw]; exact K)
