/-! THE REFERENCE'S METHODS, second part -/
theorem g_mem {X : gw_X} {S : gw_S} {nL k n pc : Nat} {lv : gw_LV} {st : List Value} {w w' : gw_M} (h : w = w') (K : gw_G X S nL k n pc lv st w') : gw_G X S nL k n pc lv st w := by rw [h]; exact K
noncomputable def cw_if {α : Sort _} (P : Prop) (a b : α) : α := @ite α P (Classical.propDecidable P) a b
theorem cw_it {α : Sort _} {P : Prop} {a b : α} (h : P) : cw_if P a b = a := by unfold cw_if; exact if_pos h
theorem cw_ie {α : Sort _} {P : Prop} {a b : α} (h : ¬ P) : cw_if P a b = b := by unfold cw_if; exact if_neg h
theorem cw_ifd {α : Sort _} (P : Prop) [i : Decidable P] (a b : α) : cw_if P a b = if P then a else b := by
  by_cases h : P
  · rw [cw_it h, if_pos h]
  · rw [cw_ie h, if_neg h]
theorem cw_no_upd {s : cw_s} {k : Nat} {x : Int32} (hk : ¬ k = 0) : cw_no (upd s k x) = cw_no s := by
  unfold cw_no upd; rw [if_neg (Ne.symm hk)]
theorem cw_m_upd {s : cw_s} {k : Nat} {x : Int32} (hk : ¬ k = 0) (h : cw_m s) : cw_m (upd s k x) := by
  unfold cw_m; rw [cw_no_upd hk]; unfold upd; rw [if_neg (Ne.symm hk)]; exact h
theorem cw_up (s : cw_s) (k : Nat) (x : Int32) (j : Nat) : upd s k x j = if j = k then x else s j := rfl
/-- a cell as a whole -/
def cw_put (w : gw_M) (q : Nat) (f : Nat → Int32) : gw_M := fun q' => if q' = q then f else w q'
theorem cw_put_self (w : gw_M) (q : Nat) (f : Nat → Int32) : cw_put w q f q = f := by simp [cw_put]
theorem cw_put_ne (w : gw_M) (q : Nat) (f : Nat → Int32) {r : Nat} (h : r ≠ q) : cw_put w q f r = w r := by simp [cw_put, h]
theorem cw_put_same (w : gw_M) (q : Nat) : cw_put w q (w q) = w := by
  funext r; unfold cw_put; split
  · next h => rw [h]
  · rfl
theorem cw_put_put (w : gw_M) (q : Nat) (f g : Nat → Int32) : cw_put (cw_put w q f) q g = cw_put w q g := by
  funext r; unfold cw_put; split <;> rfl
theorem cw_put_set (w : gw_M) (q k : Nat) (x : Int32) : gw_set w q k x = cw_put w q (upd (w q) k x) := by
  funext r; unfold cw_put; split
  · next h => rw [h, gw_set_self]
  · next h => exact gw_set_ne _ _ _ _ h
theorem cw_put_S (w : gw_M) (f : Nat → Int32) : cw_put w 1 f = cw_S w f := rfl
/-- the first n places of one, the others of another -/
def cw_cp (b n : Nat) (f g : Nat → Int32) : Nat → Int32 := fun x => if b ≤ x ∧ x < b + n then f (x - b) else g x
theorem cw_cp_0 (b : Nat) (f g : Nat → Int32) : cw_cp b 0 f g = g := by
  funext x; unfold cw_cp; rw [if_neg (by omega)]
theorem cw_cp_1 (b n : Nat) (f g : Nat → Int32) : upd (cw_cp b n f g) (b + n) (f n) = cw_cp b (n + 1) f g := by
  funext x; unfold upd cw_cp
  by_cases h : x = b + n
  · rw [if_pos h, if_pos (by omega), h]; congr 1; omega
  · rw [if_neg h]
    by_cases h2 : b ≤ x ∧ x < b + n
    · rw [if_pos h2, if_pos (by omega)]
    · rw [if_neg h2, if_neg (by omega)]
theorem cw_cp_get {b n : Nat} {f g : Nat → Int32} {k : Nat} (h : k < n) : cw_cp b n f g (b + k) = f k := by
  unfold cw_cp; rw [if_pos (by omega)]; congr 1; omega
/-- n places moved down by d from b on -/
def cw_dn (b d n : Nat) (f : Nat → Int32) : Nat → Int32 := fun x => if b ≤ x ∧ x < b + n then f (x + d) else f x
theorem cw_dn_0 (b d : Nat) (f : Nat → Int32) : cw_dn b d 0 f = f := by
  funext x; unfold cw_dn; rw [if_neg (by omega)]
theorem cw_dn_1 (b d n : Nat) (hd : 0 < d) (f : Nat → Int32) : upd (cw_dn b d n f) (b + n) (cw_dn b d n f (b + n + d)) = cw_dn b d (n + 1) f := by
  funext x; unfold upd cw_dn
  by_cases h : x = b + n
  · rw [if_pos h, if_neg (by omega), if_pos (by omega), h]
  · rw [if_neg h]
    by_cases h2 : b ≤ x ∧ x < b + n
    · rw [if_pos h2, if_pos (by omega)]
    · rw [if_neg h2, if_neg (by omega)]

set_option maxHeartbeats 4000000 in
set_option maxRecDepth 100000 in
theorem ok_X7_bids (o b x : Int32) (j k : Nat) (ho : o = nI j) (hb : b = nI k) (hj : j < 6) (hk : k < 20) : gw_Ok yX7_bids cX7_bids 4 (some .int) sM 3 [.ref 0, .int o, .int b, .int x] (fun w => cw_m (w 1)) (fun w vr w1 => vr = some (.int (cw_bidsFor (upd (w 1) (85 + 20 * j + k) x) k)) ∧ w1 = cw_S w (upd (w 1) (85 + 20 * j + k) x)) := by
  refine gw_of (by decide) (Nat.le_of_ble_eq_true rfl) ?_
  intro X w hpre C F
  subst ho; subst hb
  refine g_aload_n C rfl dX7_bids_0 ?_
  refine g_getr C fl_X7_7 rfl rfl dX7_bids_1 ?_
  refine g_iload_n C rfl dX7_bids_4 ?_
  refine g_iload_n C rfl dX7_bids_5 ?_
  refine g_callS C (ok_X7_ofBid _ _ _ _ (by first | rfl | assumption) (by first | rfl | assumption)) my_X7_ofBid si_X7_72 (by decide) ⟨Nat.le_refl _, Nat.le_refl _⟩ rfl (Nat.le_of_ble_eq_true rfl) dX7_bids_6 rfl (trivial) (fun v_6 w_6 hp_6 => ?_)
  obtain ⟨rfl, hw_6⟩ := hp_6
  have hw_6 := hw_6.symm; subst hw_6
  refine g_iload_n C rfl dX7_bids_9 ?_
  refine g_iast C rfl (by first | rfl | assumption | (simp only [nI_add, pk_mul, *]; done)) (by first | assumption | omega) (by decide) dX7_bids_10 ?_
  refine g_aload_n C rfl dX7_bids_11 ?_
  refine g_iload_n C rfl dX7_bids_12 ?_
  refine g_call C (ok_X7_bidsFor _ _ (by first | rfl | assumption) (by first | assumption | omega)) my_X7_bidsFor vi_X7_75 (by decide) ⟨Nat.le_refl _, Nat.le_refl _⟩ rfl rfl rfl (Nat.le_of_ble_eq_true rfl) dX7_bids_13 rfl (by rw [gw_set_self]; exact cw_m_upd (by omega) hpre) (fun v_13 w_13 hp_13 => ?_)
  obtain ⟨rfl, hw_13⟩ := hp_13
  have hw_13 := hw_13.symm; subst hw_13
  refine g_iret C F dX7_bids_16 ?_
  exact ⟨by simp only [cw_set1, cw_S1], by simp only [cw_set1]⟩

set_option maxHeartbeats 4000000 in
set_option maxRecDepth 100000 in
theorem lp_X7_begins1 {X : gw_X} {post : Option Value → gw_M → Prop} (C : gw_ok X RX7 cX7_begins 2 2 0 0) {w : gw_M} : ∀ (n i : Nat) (s : cw_s), i + n = 242 → (gw_G X sM 2 0 0 22 [(0, .ref 0)] [] (cw_S w (cw_fold (fun k (s : cw_s) => upd s k 0) i n s))) → gw_G X sM 2 0 0 2 [(0, .ref 0), (1, .int (nI i))] [] (cw_S w s) := by
  intro n
  induction n with
  | zero =>
    intro i s hi K
    obtain rfl : i = 242 := by omega
    refine g_iload_n C rfl dX7_begins_2 ?_
    refine g_sipush (v := 242) C (by decide) dX7_begins_3 ?_
    refine g_cmp_ge (tgt := 22) C (by decide) dX7_begins_6 (fun c_6 => ?_) (fun c_6 => absurd (by decide) c_6)
    exact g_sub rfl K
  | succ n ih =>
    intro i s hi K
    have hlt : i < 242 := by omega
    refine g_iload_n C rfl dX7_begins_2 ?_
    refine g_sipush (v := 242) C (by decide) dX7_begins_3 ?_
    refine g_cmp_ge (tgt := 22) C (by decide) dX7_begins_6 (fun c_6 => absurd c_6 (nI_ge hlt (by decide))) (fun c_6 => ?_)
    refine g_aload_n C rfl dX7_begins_9 ?_
    refine g_getr C fl_X7_7 rfl rfl dX7_begins_10 ?_
    refine g_iload_n C rfl dX7_begins_13 ?_
    refine g_iconst (v := 0) C (by decide) dX7_begins_14 ?_
    refine g_iast C rfl (by first | rfl | assumption | (simp only [nI_add, pk_mul, *]; done)) (by first | assumption | omega) (by decide) dX7_begins_15 ?_
    refine g_iinc (v := nI (i + 1)) C rfl (nI_1 i) (by decide) dX7_begins_16 ?_
    refine g_goto (tgt := 2) C (by decide) dX7_begins_19 ?_
    simp only [cw_setS, cw_S1]
    exact g_sub rfl (ih (i + 1) _ (by omega) (by simpa [cw_fold] using K))

set_option maxHeartbeats 4000000 in
set_option maxRecDepth 100000 in
theorem lp_X7_begins2 {X : gw_X} {post : Option Value → gw_M → Prop} (C : gw_ok X RX7 cX7_begins 2 2 0 0) {w : gw_M} : ∀ (n i : Nat) (s : cw_s), i + n = 20 → (gw_G X sM 2 0 0 58 [(0, .ref 0)] [] (cw_S w (cw_fold (fun k (s : cw_s) => upd (upd s (25 + 3 * k + 0) 3) (25 + 3 * k + 2) (-1)) i n s))) → gw_G X sM 2 0 0 24 [(0, .ref 0), (1, .int (nI i))] [] (cw_S w s) := by
  intro n
  induction n with
  | zero =>
    intro i s hi K
    obtain rfl : i = 20 := by omega
    refine g_iload_n C rfl dX7_begins_24 ?_
    refine g_bipush (v := 20) C (by decide) dX7_begins_25 ?_
    refine g_cmp_ge (tgt := 58) C (by decide) dX7_begins_27 (fun c_27 => ?_) (fun c_27 => absurd (by decide) c_27)
    exact g_sub rfl K
  | succ n ih =>
    intro i s hi K
    have hlt : i < 20 := by omega
    refine g_iload_n C rfl dX7_begins_24 ?_
    refine g_bipush (v := 20) C (by decide) dX7_begins_25 ?_
    refine g_cmp_ge (tgt := 58) C (by decide) dX7_begins_27 (fun c_27 => absurd c_27 (nI_ge hlt (by decide))) (fun c_27 => ?_)
    refine g_aload_n C rfl dX7_begins_30 ?_
    refine g_getr C fl_X7_7 rfl rfl dX7_begins_31 ?_
    refine g_iload_n C rfl dX7_begins_34 ?_
    refine g_iconst (v := 0) C (by decide) dX7_begins_35 ?_
    refine g_callS C (ok_X7_ofWeek (i := 0) _ _ _ (by first | rfl | assumption) rfl) my_X7_ofWeek si_X7_36 (by decide) ⟨Nat.le_refl _, Nat.le_refl _⟩ rfl (Nat.le_of_ble_eq_true rfl) dX7_begins_36 rfl (trivial) (fun v_36 w_36 hp_36 => ?_)
    obtain ⟨rfl, hw_36⟩ := hp_36
    have hw_36 := hw_36.symm; subst hw_36
    refine g_iconst (v := 3) C (by decide) dX7_begins_39 ?_
    refine g_iast C rfl (by first | rfl | assumption | (simp only [nI_add, pk_mul, *]; done)) (by first | assumption | omega) (by decide) dX7_begins_40 ?_
    refine g_aload_n C rfl dX7_begins_41 ?_
    refine g_getr C fl_X7_7 rfl rfl dX7_begins_42 ?_
    refine g_iload_n C rfl dX7_begins_45 ?_
    refine g_iconst (v := 2) C (by decide) dX7_begins_46 ?_
    refine g_callS C (ok_X7_ofWeek (i := 2) _ _ _ (by first | rfl | assumption) rfl) my_X7_ofWeek si_X7_36 (by decide) ⟨Nat.le_refl _, Nat.le_refl _⟩ rfl (Nat.le_of_ble_eq_true rfl) dX7_begins_47 rfl (trivial) (fun v_47 w_47 hp_47 => ?_)
    obtain ⟨rfl, hw_47⟩ := hp_47
    have hw_47 := hw_47.symm; subst hw_47
    refine g_iconst (v := (-1)) C (by decide) dX7_begins_50 ?_
    refine g_iast C rfl (by first | rfl | assumption | (simp only [nI_add, pk_mul, *]; done)) (by first | assumption | omega) (by decide) dX7_begins_51 ?_
    refine g_iinc (v := nI (i + 1)) C rfl (nI_1 i) (by decide) dX7_begins_52 ?_
    refine g_goto (tgt := 24) C (by decide) dX7_begins_55 ?_
    simp only [cw_setS, cw_S1]
    exact g_sub rfl (ih (i + 1) _ (by omega) (by simpa [cw_fold] using K))

set_option maxHeartbeats 4000000 in
set_option maxRecDepth 100000 in
theorem lp_X7_begins3 {X : gw_X} {post : Option Value → gw_M → Prop} (C : gw_ok X RX7 cX7_begins 2 2 0 0) {w : gw_M} : ∀ (n i : Nat) (s : cw_s), i + n = 120 → (gw_G X sM 2 0 0 82 [(0, .ref 0)] [] (cw_S w (cw_fold (fun k (s : cw_s) => upd s (85 + k) (-1)) i n s))) → gw_G X sM 2 0 0 60 [(0, .ref 0), (1, .int (nI i))] [] (cw_S w s) := by
  intro n
  induction n with
  | zero =>
    intro i s hi K
    obtain rfl : i = 120 := by omega
    refine g_iload_n C rfl dX7_begins_60 ?_
    refine g_bipush (v := 120) C (by decide) dX7_begins_61 ?_
    refine g_cmp_ge (tgt := 82) C (by decide) dX7_begins_63 (fun c_63 => ?_) (fun c_63 => absurd (by decide) c_63)
    exact g_sub rfl K
  | succ n ih =>
    intro i s hi K
    have hlt : i < 120 := by omega
    refine g_iload_n C rfl dX7_begins_60 ?_
    refine g_bipush (v := 120) C (by decide) dX7_begins_61 ?_
    refine g_cmp_ge (tgt := 82) C (by decide) dX7_begins_63 (fun c_63 => absurd c_63 (nI_ge hlt (by decide))) (fun c_63 => ?_)
    refine g_aload_n C rfl dX7_begins_66 ?_
    refine g_getr C fl_X7_7 rfl rfl dX7_begins_67 ?_
    refine g_bipush (v := 85) C (by decide) dX7_begins_70 ?_
    refine g_iload_n C rfl dX7_begins_72 ?_
    refine g_iadd C dX7_begins_73 ?_
    refine g_iconst (v := (-1)) C (by decide) dX7_begins_74 ?_
    refine g_iast C rfl (by first | rfl | assumption | (simp only [nI_add, pk_mul, *]; done)) (by first | assumption | omega) (by decide) dX7_begins_75 ?_
    refine g_iinc (v := nI (i + 1)) C rfl (nI_1 i) (by decide) dX7_begins_76 ?_
    refine g_goto (tgt := 60) C (by decide) dX7_begins_79 ?_
    simp only [cw_setS, cw_S1]
    exact g_sub rfl (ih (i + 1) _ (by omega) (by simpa [cw_fold] using K))

set_option maxHeartbeats 4000000 in
set_option maxRecDepth 100000 in
theorem ok_X7_begins : gw_Ok yX7_begins cX7_begins 2 none sM 2 [.ref 0] (fun _ => True) (fun w vr w1 => vr = none ∧ w1 = cw_S w (cw_begins (w 1))) := by
  refine gw_of (by decide) (Nat.le_of_ble_eq_true rfl) ?_
  intro X w hpre C F
  refine g_iconst (v := 0) C (by decide) dX7_begins_0 ?_
  refine g_istore_n C (by decide) dX7_begins_1 ?_
  refine g_mem ((cw_Sw w).symm) (g_sub rfl (lp_X7_begins1 (post := fun _ _ => True) C 242 0 _ (Nat.zero_add _) ?_))
  refine g_iconst (v := 0) C (by decide) dX7_begins_22 ?_
  refine g_istore_n C (by decide) dX7_begins_23 ?_
  refine g_mem (rfl) (g_sub rfl (lp_X7_begins2 (post := fun _ _ => True) C 20 0 _ (Nat.zero_add _) ?_))
  refine g_iconst (v := 0) C (by decide) dX7_begins_58 ?_
  refine g_istore_n C (by decide) dX7_begins_59 ?_
  refine g_mem (rfl) (g_sub rfl (lp_X7_begins3 (post := fun _ _ => True) C 120 0 _ (Nat.zero_add _) ?_))
  refine g_aload_n C rfl dX7_begins_82 ?_
  refine g_getr C fl_X7_7 rfl rfl dX7_begins_83 ?_
  refine g_sipush (v := 231) C (by decide) dX7_begins_86 ?_
  refine g_iconst (v := 4) C (by decide) dX7_begins_89 ?_
  refine g_iast (j := 231) C rfl (rfl) (by decide) (by decide) dX7_begins_90 ?_
  refine g_aload_n C rfl dX7_begins_91 ?_
  refine g_getr C fl_X7_7 rfl rfl dX7_begins_92 ?_
  refine g_sipush (v := 232) C (by decide) dX7_begins_95 ?_
  refine g_iconst (v := 5) C (by decide) dX7_begins_98 ?_
  refine g_iast (j := 232) C rfl (rfl) (by decide) (by decide) dX7_begins_99 ?_
  refine g_aload_n C rfl dX7_begins_100 ?_
  refine g_getr C fl_X7_7 rfl rfl dX7_begins_101 ?_
  refine g_sipush (v := 233) C (by decide) dX7_begins_104 ?_
  refine g_iconst (v := 3) C (by decide) dX7_begins_107 ?_
  refine g_iast (j := 233) C rfl (rfl) (by decide) (by decide) dX7_begins_108 ?_
  refine g_vret C F dX7_begins_109 ?_
  exact ⟨rfl, by simp only [cw_setS]; rfl⟩

set_option maxHeartbeats 4000000 in
set_option maxRecDepth 100000 in
theorem lp_X7_remember1 {X : gw_X} {post : Option Value → gw_M → Prop} (C : gw_ok X RX7 cX7_remember 2 2 0 0) {w : gw_M} : ∀ (n i : Nat) , i + n = 3146 → (gw_G X sM 2 0 0 40 [(0, .ref 0)] [] (cw_put w 3 (cw_dn 0 242 3146 (w 3)))) → gw_G X sM 2 0 0 11 [(0, .ref 0), (1, .int (nI i))] [] (cw_put w 3 (cw_dn 0 242 i (w 3))) := by
  intro n
  induction n with
  | zero =>
    intro i  hi K
    obtain rfl : i = 3146 := by omega
    refine g_iload_n C rfl dX7_remember_11 ?_
    refine g_sipush (v := 3146) C (by decide) dX7_remember_12 ?_
    refine g_cmp_ge (tgt := 40) C (by decide) dX7_remember_15 (fun c_15 => ?_) (fun c_15 => absurd (by decide) c_15)
    exact g_sub rfl K
  | succ n ih =>
    intro i  hi K
    have hlt : i < 3146 := by omega
    refine g_iload_n C rfl dX7_remember_11 ?_
    refine g_sipush (v := 3146) C (by decide) dX7_remember_12 ?_
    refine g_cmp_ge (tgt := 40) C (by decide) dX7_remember_15 (fun c_15 => absurd c_15 (nI_ge hlt (by decide))) (fun c_15 => ?_)
    refine g_aload_n C rfl dX7_remember_18 ?_
    refine g_getr C fl_X7_16 rfl rfl dX7_remember_19 ?_
    refine g_iload_n C rfl dX7_remember_22 ?_
    refine g_aload_n C rfl dX7_remember_23 ?_
    refine g_getr C fl_X7_16 rfl rfl dX7_remember_24 ?_
    refine g_iload_n C rfl dX7_remember_27 ?_
    refine g_sipush (v := 242) C (by decide) dX7_remember_28 ?_
    refine g_iadd C dX7_remember_31 ?_
    refine g_iald (j := i + 242) C rfl (nI_add i 242) (by omega) (by decide) dX7_remember_32 ?_
    refine g_iast C rfl (by first | rfl | assumption | (simp only [nI_add, pk_mul, *]; done)) (by first | assumption | omega) (by decide) dX7_remember_33 ?_
    refine g_iinc (v := nI (i + 1)) C rfl (nI_1 i) (by decide) dX7_remember_34 ?_
    refine g_goto (tgt := 11) C (by decide) dX7_remember_37 ?_
    refine g_mem (by rw [cw_put_set, cw_put_self, cw_put_put, show nI i + 242 = nI (i + 242) from nI_add i 242] ; exact congrArg (cw_put w 3) (by simpa using cw_dn_1 0 242 i (by decide) (w 3))) (g_sub rfl (ih (i + 1) (by omega) K))

def cw_k (w : gw_M) : Nat := (w 0 4).toNatClampNeg
/-- how many states are remembered: a number up to 14 -/
def cw_kk (w : gw_M) : Prop := w 0 4 = nI (cw_k w) ∧ cw_k w ≤ 14
def cw_remc (w : gw_M) : Nat := if cw_k w = 14 then 13 else cw_k w
def cw_remh (w : gw_M) : Nat → Int32 := if cw_k w = 14 then cw_dn 0 242 3146 (w 3) else w 3
def cw_rem (w : gw_M) : gw_M := cw_put (gw_set w 0 4 (nI (cw_remc w + 1))) 3 (cw_cp (242 * cw_remc w) 242 (w 1) (cw_remh w))
theorem nI_inj14 {a : Nat} (h : a ≤ 14) (e : nI a = 14) : a = 14 := by
  have := congrArg Int32.toInt e
  rw [nI_toInt (by omega)] at this
  have e2 : (14 : Int32).toInt = 14 := rfl
  omega
theorem cw_ix (a b c : Nat) : nI a * nI b + nI c = nI (a * b + c) := by rw [pk_mul, nI_add]

set_option maxHeartbeats 4000000 in
set_option maxRecDepth 100000 in
theorem lp_X7_remember2 {X : gw_X} {post : Option Value → gw_M → Prop} (C : gw_ok X RX7 cX7_remember 2 2 0 0) {w : gw_M} (c : Nat) (hc : w 0 4 = nI c) (hc14 : c < 14) : ∀ (n i : Nat) , i + n = 242 → (gw_G X sM 2 0 0 86 [(0, .ref 0)] [] (cw_put w 3 (cw_cp (242 * c) 242 (w 1) (w 3)))) → gw_G X sM 2 0 0 52 [(0, .ref 0), (1, .int (nI i))] [] (cw_put w 3 (cw_cp (242 * c) i (w 1) (w 3))) := by
  intro n
  induction n with
  | zero =>
    intro i  hi K
    obtain rfl : i = 242 := by omega
    refine g_iload_n C rfl dX7_remember_52 ?_
    refine g_sipush (v := 242) C (by decide) dX7_remember_53 ?_
    refine g_cmp_ge (tgt := 86) C (by decide) dX7_remember_56 (fun c_56 => ?_) (fun c_56 => absurd (by decide) c_56)
    exact g_sub rfl K
  | succ n ih =>
    intro i  hi K
    have hlt : i < 242 := by omega
    refine g_iload_n C rfl dX7_remember_52 ?_
    refine g_sipush (v := 242) C (by decide) dX7_remember_53 ?_
    refine g_cmp_ge (tgt := 86) C (by decide) dX7_remember_56 (fun c_56 => absurd c_56 (nI_ge hlt (by decide))) (fun c_56 => ?_)
    refine g_aload_n C rfl dX7_remember_59 ?_
    refine g_getr C fl_X7_16 rfl rfl dX7_remember_60 ?_
    refine g_sipush (v := 242) C (by decide) dX7_remember_63 ?_
    refine g_aload_n C rfl dX7_remember_66 ?_
    refine g_getf C fl_X7_51 rfl rfl dX7_remember_67 ?_
    refine g_imul C dX7_remember_70 ?_
    refine g_iload_n C rfl dX7_remember_71 ?_
    refine g_iadd C dX7_remember_72 ?_
    refine g_aload_n C rfl dX7_remember_73 ?_
    refine g_getr C fl_X7_7 rfl rfl dX7_remember_74 ?_
    refine g_iload_n C rfl dX7_remember_77 ?_
    refine g_iald C rfl (by first | rfl | assumption | (simp only [nI_add, pk_mul, *]; done)) (by first | assumption | omega) (by decide) dX7_remember_78 ?_
    refine g_iast (j := 242 * c + i) C rfl (by show (242 : Int32) * w 0 4 + nI i = _; rw [hc]; exact cw_ix 242 c i) (by omega) (by decide) dX7_remember_79 ?_
    refine g_iinc (v := nI (i + 1)) C rfl (nI_1 i) (by decide) dX7_remember_80 ?_
    refine g_goto (tgt := 52) C (by decide) dX7_remember_83 ?_
    refine g_mem (by rw [cw_put_set, cw_put_self, cw_put_put]; exact congrArg (cw_put w 3) (cw_cp_1 (242 * c) i (w 1) (w 3))) (g_sub rfl (ih (i + 1) (by omega) K))

set_option maxHeartbeats 4000000 in
set_option maxRecDepth 100000 in
theorem ok_X7_remember : gw_Ok yX7_remember cX7_remember 2 none sM 2 [.ref 0] (fun w => cw_kk w) (fun w vr w1 => vr = none ∧ w1 = cw_rem w) := by
  refine gw_of (by decide) (Nat.le_of_ble_eq_true rfl) ?_
  intro X w hpre C F
  obtain ⟨h1, h2⟩ := hpre
  refine g_aload_n C rfl dX7_remember_0 ?_
  refine g_getf C fl_X7_51 rfl rfl dX7_remember_1 ?_
  refine g_bipush (v := 14) C (by decide) dX7_remember_4 ?_
  refine g_cmp_ne (tgt := 50) C (by decide) dX7_remember_6 (fun c_6 => ?_) (fun c_6 => ?_)
  · have hk : ¬ cw_k w = 14 := fun h => c_6 (by rw [h1, h]; rfl)
    refine g_iconst (v := 0) C (by decide) dX7_remember_50 ?_
    refine g_istore_n C (by decide) dX7_remember_51 ?_
    refine g_mem (w' := cw_put w 3 (cw_cp (242 * cw_k w) 0 (w 1) (w 3))) (by rw [cw_cp_0, cw_put_same]) (g_sub rfl (lp_X7_remember2 (post := fun _ _ => True) C (cw_k w) h1 (by omega) 242 0 (Nat.zero_add _) ?_))
    refine g_aload_n C rfl dX7_remember_86 ?_
    refine g_dup C rfl dX7_remember_87 ?_
    refine g_getf C fl_X7_51 rfl rfl dX7_remember_88 ?_
    refine g_iconst (v := 1) C (by decide) dX7_remember_91 ?_
    refine g_iadd C dX7_remember_92 ?_
    refine g_putf C fl_X7_51 fp_5_4 rfl rfl (rfl) (rfl) dX7_remember_93 ?_
    refine g_vret C F dX7_remember_96 ?_
    sorry
  · have hk : cw_k w = 14 := nI_inj14 h2 (h1.symm.trans (Classical.not_not.mp c_6))
    refine g_iconst (v := 0) C (by decide) dX7_remember_9 ?_
    refine g_istore_n C (by decide) dX7_remember_10 ?_
    refine g_mem (w' := cw_put w 3 (cw_dn 0 242 0 (w 3))) (by rw [cw_dn_0, cw_put_same]) (g_sub rfl (lp_X7_remember1 (post := fun _ _ => True) C 3146 0 (Nat.zero_add _) ?_))
    refine g_aload_n C rfl dX7_remember_40 ?_
    refine g_dup C rfl dX7_remember_41 ?_
    refine g_getf C fl_X7_51 rfl rfl dX7_remember_42 ?_
    refine g_iconst (v := 1) C (by decide) dX7_remember_45 ?_
    refine g_isub C dX7_remember_46 ?_
    refine g_putf C fl_X7_51 fp_5_4 rfl rfl (rfl) (rfl) dX7_remember_47 ?_
    refine g_iconst (v := 0) C (by decide) dX7_remember_50 ?_
    refine g_istore_n C (by decide) dX7_remember_51 ?_
    refine g_mem (w' := cw_put (gw_set (cw_put w 3 (cw_dn 0 242 3146 (w 3))) 0 4 (w 0 4 - 1)) 3 (cw_cp (242 * 13) 0 (w 1) (cw_dn 0 242 3146 (w 3)))) (by rw [cw_cp_0]; funext q; simp only [cw_put]; split <;> simp_all [gw_set, cw_put]) (g_sub rfl (lp_X7_remember2 (w := gw_set (cw_put w 3 (cw_dn 0 242 3146 (w 3))) 0 4 (w 0 4 - 1)) (post := fun _ _ => True) C 13 (by show (gw_set _ 0 4 _) 0 4 = _; rw [gw_set_self, h1, hk]; rfl) (by decide) 242 0 (Nat.zero_add _) ?_))
    refine g_aload_n C rfl dX7_remember_86 ?_
    refine g_dup C rfl dX7_remember_87 ?_
    refine g_getf C fl_X7_51 rfl rfl dX7_remember_88 ?_
    refine g_iconst (v := 1) C (by decide) dX7_remember_91 ?_
    refine g_iadd C dX7_remember_92 ?_
    refine g_putf C fl_X7_51 fp_5_4 rfl rfl (rfl) (rfl) dX7_remember_93 ?_
    refine g_vret C F dX7_remember_96 ?_
    sorry

set_option maxHeartbeats 4000000 in
set_option maxRecDepth 100000 in
theorem lp_X7_putAside {X : gw_X} {post : Option Value → gw_M → Prop} (C : gw_ok X RX7 cX7_putAside 2 2 0 0) {w : gw_M} : ∀ (n i : Nat) , i + n = 242 → (gw_G X sM 2 0 0 27 [(0, .ref 0)] [] (cw_put w 2 (cw_cp 0 242 (w 1) (w 2)))) → gw_G X sM 2 0 0 2 [(0, .ref 0), (1, .int (nI i))] [] (cw_put w 2 (cw_cp 0 i (w 1) (w 2))) := by
  intro n
  induction n with
  | zero =>
    intro i  hi K
    obtain rfl : i = 242 := by omega
    refine g_iload_n C rfl dX7_putAside_2 ?_
    refine g_sipush (v := 242) C (by decide) dX7_putAside_3 ?_
    refine g_cmp_ge (tgt := 27) C (by decide) dX7_putAside_6 (fun c_6 => ?_) (fun c_6 => absurd (by decide) c_6)
    exact g_sub rfl K
  | succ n ih =>
    intro i  hi K
    have hlt : i < 242 := by omega
    refine g_iload_n C rfl dX7_putAside_2 ?_
    refine g_sipush (v := 242) C (by decide) dX7_putAside_3 ?_
    refine g_cmp_ge (tgt := 27) C (by decide) dX7_putAside_6 (fun c_6 => absurd c_6 (nI_ge hlt (by decide))) (fun c_6 => ?_)
    refine g_aload_n C rfl dX7_putAside_9 ?_
    refine g_getr C fl_X7_13 rfl rfl dX7_putAside_10 ?_
    refine g_iload_n C rfl dX7_putAside_13 ?_
    refine g_aload_n C rfl dX7_putAside_14 ?_
    refine g_getr C fl_X7_7 rfl rfl dX7_putAside_15 ?_
    refine g_iload_n C rfl dX7_putAside_18 ?_
    refine g_iald C rfl (by first | rfl | assumption | (simp only [nI_add, pk_mul, *]; done)) (by first | assumption | omega) (by decide) dX7_putAside_19 ?_
    refine g_iast C rfl (by first | rfl | assumption | (simp only [nI_add, pk_mul, *]; done)) (by first | assumption | omega) (by decide) dX7_putAside_20 ?_
    refine g_iinc (v := nI (i + 1)) C rfl (nI_1 i) (by decide) dX7_putAside_21 ?_
    refine g_goto (tgt := 2) C (by decide) dX7_putAside_24 ?_
    refine g_mem (by rw [cw_put_set, cw_put_self, cw_put_put]; exact congrArg (cw_put w 2) (by simpa using cw_cp_1 0 i (w 1) (w 2))) (g_sub rfl (ih (i + 1) (by omega) K))

set_option maxHeartbeats 4000000 in
set_option maxRecDepth 100000 in
theorem ok_X7_putAside : gw_Ok yX7_putAside cX7_putAside 2 none sM 2 [.ref 0] (fun _ => True) (fun w vr w1 => vr = none ∧ w1 = cw_put w 2 (cw_cp 0 242 (w 1) (w 2))) := by
  refine gw_of (by decide) (Nat.le_of_ble_eq_true rfl) ?_
  intro X w hpre C F
  refine g_iconst (v := 0) C (by decide) dX7_putAside_0 ?_
  refine g_istore_n C (by decide) dX7_putAside_1 ?_
  refine g_mem (by rw [cw_cp_0, cw_put_same]) (g_sub rfl (lp_X7_putAside (w := w) (post := fun _ _ => True) C 242 0 (Nat.zero_add _) ?_))
  refine g_vret C F dX7_putAside_27 ?_
  exact ⟨rfl, rfl⟩

set_option maxHeartbeats 4000000 in
set_option maxRecDepth 100000 in
theorem lp_X7_putBack {X : gw_X} {post : Option Value → gw_M → Prop} (C : gw_ok X RX7 cX7_putBack 2 2 0 0) {w : gw_M} : ∀ (n i : Nat) , i + n = 242 → (gw_G X sM 2 0 0 27 [(0, .ref 0)] [] (cw_put w 1 (cw_cp 0 242 (w 2) (w 1)))) → gw_G X sM 2 0 0 2 [(0, .ref 0), (1, .int (nI i))] [] (cw_put w 1 (cw_cp 0 i (w 2) (w 1))) := by
  intro n
  induction n with
  | zero =>
    intro i  hi K
    obtain rfl : i = 242 := by omega
    refine g_iload_n C rfl dX7_putBack_2 ?_
    refine g_sipush (v := 242) C (by decide) dX7_putBack_3 ?_
    refine g_cmp_ge (tgt := 27) C (by decide) dX7_putBack_6 (fun c_6 => ?_) (fun c_6 => absurd (by decide) c_6)
    exact g_sub rfl K
  | succ n ih =>
    intro i  hi K
    have hlt : i < 242 := by omega
    refine g_iload_n C rfl dX7_putBack_2 ?_
    refine g_sipush (v := 242) C (by decide) dX7_putBack_3 ?_
    refine g_cmp_ge (tgt := 27) C (by decide) dX7_putBack_6 (fun c_6 => absurd c_6 (nI_ge hlt (by decide))) (fun c_6 => ?_)
    refine g_aload_n C rfl dX7_putBack_9 ?_
    refine g_getr C fl_X7_7 rfl rfl dX7_putBack_10 ?_
    refine g_iload_n C rfl dX7_putBack_13 ?_
    refine g_aload_n C rfl dX7_putBack_14 ?_
    refine g_getr C fl_X7_13 rfl rfl dX7_putBack_15 ?_
    refine g_iload_n C rfl dX7_putBack_18 ?_
    refine g_iald C rfl (by first | rfl | assumption | (simp only [nI_add, pk_mul, *]; done)) (by first | assumption | omega) (by decide) dX7_putBack_19 ?_
    refine g_iast C rfl (by first | rfl | assumption | (simp only [nI_add, pk_mul, *]; done)) (by first | assumption | omega) (by decide) dX7_putBack_20 ?_
    refine g_iinc (v := nI (i + 1)) C rfl (nI_1 i) (by decide) dX7_putBack_21 ?_
    refine g_goto (tgt := 2) C (by decide) dX7_putBack_24 ?_
    refine g_mem (by rw [cw_put_set, cw_put_self, cw_put_put]; exact congrArg (cw_put w 1) (by simpa using cw_cp_1 0 i (w 2) (w 1))) (g_sub rfl (ih (i + 1) (by omega) K))

set_option maxHeartbeats 4000000 in
set_option maxRecDepth 100000 in
theorem ok_X7_putBack : gw_Ok yX7_putBack cX7_putBack 2 none sM 2 [.ref 0] (fun _ => True) (fun w vr w1 => vr = none ∧ w1 = cw_put w 1 (cw_cp 0 242 (w 2) (w 1))) := by
  refine gw_of (by decide) (Nat.le_of_ble_eq_true rfl) ?_
  intro X w hpre C F
  refine g_iconst (v := 0) C (by decide) dX7_putBack_0 ?_
  refine g_istore_n C (by decide) dX7_putBack_1 ?_
  refine g_mem (by rw [cw_cp_0, cw_put_same]) (g_sub rfl (lp_X7_putBack (w := w) (post := fun _ _ => True) C 242 0 (Nat.zero_add _) ?_))
  refine g_vret C F dX7_putBack_27 ?_
  exact ⟨rfl, rfl⟩

set_option maxHeartbeats 4000000 in
set_option maxRecDepth 100000 in
theorem ok_X7_canWin (o b : Int32) (j k : Nat) (ho : o = nI j) (hb : b = nI k) (hj : j < 6) (hk : k < 20) : gw_Ok yX7_canWin cX7_canWin 4 (some .boolean) sM 3 [.ref 0, .int o, .int b] (fun _ => True) (fun w vr w1 => vr = some (.int (cw_b (cw_canWin (w 1) j k))) ∧ w1 = w) := by
  refine gw_of (by decide) (Nat.le_of_ble_eq_true rfl) ?_
  intro X w hpre C F
  subst ho; subst hb
  refine g_aload_n C rfl dX7_canWin_0 ?_
  refine g_getr C fl_X7_7 rfl rfl dX7_canWin_1 ?_
  refine g_iload_n C rfl dX7_canWin_4 ?_
  refine g_iload_n C rfl dX7_canWin_5 ?_
  refine g_callS C (ok_X7_ofBid _ _ _ _ (by first | rfl | assumption) (by first | rfl | assumption)) my_X7_ofBid si_X7_72 (by decide) ⟨Nat.le_refl _, Nat.le_refl _⟩ rfl (Nat.le_of_ble_eq_true rfl) dX7_canWin_6 rfl (trivial) (fun v_6 w_6 hp_6 => ?_)
  obtain ⟨rfl, hw_6⟩ := hp_6
  have hw_6 := hw_6.symm; subst hw_6
  refine g_iald C rfl (by first | rfl | assumption | (simp only [nI_add, pk_mul, *]; done)) (by first | assumption | omega) (by decide) dX7_canWin_9 ?_
  refine g_istore_n C (by decide) dX7_canWin_10 ?_
  refine g_iload_n C rfl dX7_canWin_11 ?_
  refine g_iconst (v := (-1)) C (by decide) dX7_canWin_12 ?_
  refine g_cmp_eq (tgt := 61) C (by decide) dX7_canWin_13 (fun c_13 => ?_) (fun c_13 => ?_)
  · refine g_iconst (v := 0) C (by decide) dX7_canWin_61 ?_
    refine g_zret C F (rfl) dX7_canWin_62 ?_
    exact ⟨congrArg (fun z => some (Value.int z)) (by first | exact (cw_b1 ⟨c_13, by simpa using c_29, by simpa using c_54⟩).symm | exact (cw_bf (fun h => by simp_all [cw_canWin])).symm), rfl⟩
  · refine g_aload_n C rfl dX7_canWin_16 ?_
    refine g_iload_n C rfl dX7_canWin_17 ?_
    refine g_call C (ok_X7_held _) my_X7_held vi_X7_57 (by decide) ⟨Nat.le_refl _, Nat.le_refl _⟩ rfl rfl rfl (Nat.le_of_ble_eq_true rfl) dX7_canWin_18 rfl (trivial) (fun v_18 w_18 hp_18 => ?_)
    obtain ⟨rfl, hw_18⟩ := hp_18
    have hw_18 := hw_18.symm; subst hw_18
    refine g_aload_n C rfl dX7_canWin_21 ?_
    refine g_getr C fl_X7_7 rfl rfl dX7_canWin_22 ?_
    refine g_sipush (v := 233) C (by decide) dX7_canWin_25 ?_
    refine g_iald (j := 233) C rfl (rfl) (by decide) (by decide) dX7_canWin_28 ?_
    refine g_cmp_ge (tgt := 61) C (by decide) dX7_canWin_29 (fun c_29 => ?_) (fun c_29 => ?_)
    · refine g_iconst (v := 0) C (by decide) dX7_canWin_61 ?_
      refine g_zret C F (rfl) dX7_canWin_62 ?_
      exact ⟨congrArg (fun z => some (Value.int z)) (by first | exact (cw_b1 ⟨c_13, by simpa using c_29, by simpa using c_54⟩).symm | exact (cw_bf (fun h => by simp_all [cw_canWin])).symm), rfl⟩
    · refine g_aload_n C rfl dX7_canWin_32 ?_
      refine g_getr C fl_X7_7 rfl rfl dX7_canWin_33 ?_
      refine g_iload_n C rfl dX7_canWin_36 ?_
      refine g_iconst (v := 1) C (by decide) dX7_canWin_37 ?_
      refine g_callS C (ok_X7_of (i := 1) _ _ _ (by first | rfl | assumption) rfl) my_X7_of si_X7_54 (by decide) ⟨Nat.le_refl _, Nat.le_refl _⟩ rfl (Nat.le_of_ble_eq_true rfl) dX7_canWin_38 rfl (trivial) (fun v_38 w_38 hp_38 => ?_)
      obtain ⟨rfl, hw_38⟩ := hp_38
      have hw_38 := hw_38.symm; subst hw_38
      refine g_iald C rfl (by first | rfl | assumption | (simp only [nI_add, pk_mul, *]; done)) (by first | assumption | omega) (by decide) dX7_canWin_41 ?_
      refine g_aload_n C rfl dX7_canWin_42 ?_
      refine g_getr C fl_X7_7 rfl rfl dX7_canWin_43 ?_
      refine g_iload_n C rfl dX7_canWin_46 ?_
      refine g_iconst (v := 0) C (by decide) dX7_canWin_47 ?_
      refine g_callS C (ok_X7_ofWeek (i := 0) _ _ _ (by first | rfl | assumption) rfl) my_X7_ofWeek si_X7_36 (by decide) ⟨Nat.le_refl _, Nat.le_refl _⟩ rfl (Nat.le_of_ble_eq_true rfl) dX7_canWin_48 rfl (trivial) (fun v_48 w_48 hp_48 => ?_)
      obtain ⟨rfl, hw_48⟩ := hp_48
      have hw_48 := hw_48.symm; subst hw_48
      refine g_iald C rfl (by first | rfl | assumption | (simp only [nI_add, pk_mul, *]; done)) (by first | assumption | omega) (by decide) dX7_canWin_51 ?_
      refine g_iload_n C rfl dX7_canWin_52 ?_
      refine g_iadd C dX7_canWin_53 ?_
      refine g_cmp_lt (tgt := 61) C (by decide) dX7_canWin_54 (fun c_54 => ?_) (fun c_54 => ?_)
      · refine g_iconst (v := 0) C (by decide) dX7_canWin_61 ?_
        refine g_zret C F (rfl) dX7_canWin_62 ?_
        exact ⟨congrArg (fun z => some (Value.int z)) (by first | exact (cw_b1 ⟨c_13, by simpa using c_29, by simpa using c_54⟩).symm | exact (cw_bf (fun h => by simp_all [cw_canWin])).symm), rfl⟩
      · refine g_iconst (v := 1) C (by decide) dX7_canWin_57 ?_
        refine g_goto (tgt := 62) C (by decide) dX7_canWin_58 ?_
        refine g_zret C F (rfl) dX7_canWin_62 ?_
        exact ⟨congrArg (fun z => some (Value.int z)) (by first | exact (cw_b1 ⟨c_13, by simpa using c_29, by simpa using c_54⟩).symm | exact (cw_bf (fun h => by simp_all [cw_canWin])).symm), rfl⟩

set_option maxHeartbeats 4000000 in
set_option maxRecDepth 100000 in
theorem ok_X7_isBetter (o q b : Int32) (j i k : Nat) (ho : o = nI j) (hq : q = nI i) (hb : b = nI k) (hj : j < 6) (hi : i < 6) (hk : k < 20) : gw_Ok yX7_isBetter cX7_isBetter 5 (some .boolean) sM 3 [.ref 0, .int o, .int q, .int b] (fun _ => True) (fun w vr w1 => vr = some (.int (cw_b (cw_better (w 1) j i k))) ∧ w1 = w) := by
  refine gw_of (by decide) (Nat.le_of_ble_eq_true rfl) ?_
  intro X w hpre C F
  subst ho; subst hq; subst hb
  refine g_aload_n C rfl dX7_isBetter_0 ?_
  refine g_getr C fl_X7_7 rfl rfl dX7_isBetter_1 ?_
  refine g_iload_n C rfl dX7_isBetter_4 ?_
  refine g_iload_n C rfl dX7_isBetter_5 ?_
  refine g_callS C (ok_X7_ofBid _ _ _ _ (by first | rfl | assumption) (by first | rfl | assumption)) my_X7_ofBid si_X7_72 (by decide) ⟨Nat.le_refl _, Nat.le_refl _⟩ rfl (Nat.le_of_ble_eq_true rfl) dX7_isBetter_6 rfl (trivial) (fun v_6 w_6 hp_6 => ?_)
  obtain ⟨rfl, hw_6⟩ := hp_6
  have hw_6 := hw_6.symm; subst hw_6
  refine g_iald C rfl (by first | rfl | assumption | (simp only [nI_add, pk_mul, *]; done)) (by first | assumption | omega) (by decide) dX7_isBetter_9 ?_
  refine g_aload_n C rfl dX7_isBetter_10 ?_
  refine g_getr C fl_X7_7 rfl rfl dX7_isBetter_11 ?_
  refine g_iload_n C rfl dX7_isBetter_14 ?_
  refine g_iload_n C rfl dX7_isBetter_15 ?_
  refine g_callS C (ok_X7_ofBid _ _ _ _ (by first | rfl | assumption) (by first | rfl | assumption)) my_X7_ofBid si_X7_72 (by decide) ⟨Nat.le_refl _, Nat.le_refl _⟩ rfl (Nat.le_of_ble_eq_true rfl) dX7_isBetter_16 rfl (trivial) (fun v_16 w_16 hp_16 => ?_)
  obtain ⟨rfl, hw_16⟩ := hp_16
  have hw_16 := hw_16.symm; subst hw_16
  refine g_iald C rfl (by first | rfl | assumption | (simp only [nI_add, pk_mul, *]; done)) (by first | assumption | omega) (by decide) dX7_isBetter_19 ?_
  refine g_isub C dX7_isBetter_20 ?_
  refine g_istore C (by decide) dX7_isBetter_21 ?_
  refine g_iload C rfl dX7_isBetter_23 ?_
  refine g_if_ne (tgt := 52) C (by decide) dX7_isBetter_25 (fun c_25 => ?_) (fun c_25 => ?_)
  · refine g_iload C rfl dX7_isBetter_52 ?_
    refine g_istore C (by decide) dX7_isBetter_54 ?_
    refine g_iload C rfl dX7_isBetter_56 ?_
    refine g_if_ne (tgt := 85) C (by decide) dX7_isBetter_58 (fun c_58 => ?_) (fun c_58 => ?_)
    · refine g_iload C rfl dX7_isBetter_85 ?_
      refine g_istore C (by decide) dX7_isBetter_87 ?_
      refine g_iload C rfl dX7_isBetter_89 ?_
      refine g_if_le (tgt := 98) C (by decide) dX7_isBetter_91 (fun c_91 => ?_) (fun c_91 => ?_)
      · refine g_iconst (v := 0) C (by decide) dX7_isBetter_98 ?_
        refine g_zret C F (rfl) dX7_isBetter_99 ?_
        exact ⟨congrArg (fun z => some (Value.int z)) (by first | exact (cw_b1 (by simp_all [cw_better])).symm | exact (cw_bf (by simp_all [cw_better])).symm), rfl⟩
      · refine g_iconst (v := 1) C (by decide) dX7_isBetter_94 ?_
        refine g_goto (tgt := 99) C (by decide) dX7_isBetter_95 ?_
        refine g_zret C F (rfl) dX7_isBetter_99 ?_
        exact ⟨congrArg (fun z => some (Value.int z)) (by first | exact (cw_b1 (by simp_all [cw_better])).symm | exact (cw_bf (by simp_all [cw_better])).symm), rfl⟩
    · refine g_aload_n C rfl dX7_isBetter_61 ?_
      refine g_getr C fl_X7_7 rfl rfl dX7_isBetter_62 ?_
      refine g_iload_n C rfl dX7_isBetter_65 ?_
      refine g_iconst (v := 0) C (by decide) dX7_isBetter_66 ?_
      refine g_callS C (ok_X7_of (i := 0) _ _ _ (by first | rfl | assumption) rfl) my_X7_of si_X7_54 (by decide) ⟨Nat.le_refl _, Nat.le_refl _⟩ rfl (Nat.le_of_ble_eq_true rfl) dX7_isBetter_67 rfl (trivial) (fun v_67 w_67 hp_67 => ?_)
      obtain ⟨rfl, hw_67⟩ := hp_67
      have hw_67 := hw_67.symm; subst hw_67
      refine g_iald C rfl (by first | rfl | assumption | (simp only [nI_add, pk_mul, *]; done)) (by first | assumption | omega) (by decide) dX7_isBetter_70 ?_
      refine g_aload_n C rfl dX7_isBetter_71 ?_
      refine g_getr C fl_X7_7 rfl rfl dX7_isBetter_72 ?_
      refine g_iload_n C rfl dX7_isBetter_75 ?_
      refine g_iconst (v := 0) C (by decide) dX7_isBetter_76 ?_
      refine g_callS C (ok_X7_of (i := 0) _ _ _ (by first | rfl | assumption) rfl) my_X7_of si_X7_54 (by decide) ⟨Nat.le_refl _, Nat.le_refl _⟩ rfl (Nat.le_of_ble_eq_true rfl) dX7_isBetter_77 rfl (trivial) (fun v_77 w_77 hp_77 => ?_)
      obtain ⟨rfl, hw_77⟩ := hp_77
      have hw_77 := hw_77.symm; subst hw_77
      refine g_iald C rfl (by first | rfl | assumption | (simp only [nI_add, pk_mul, *]; done)) (by first | assumption | omega) (by decide) dX7_isBetter_80 ?_
      refine g_isub C dX7_isBetter_81 ?_
      refine g_goto (tgt := 87) C (by decide) dX7_isBetter_82 ?_
      refine g_istore C (by decide) dX7_isBetter_87 ?_
      refine g_iload C rfl dX7_isBetter_89 ?_
      refine g_if_le (tgt := 98) C (by decide) dX7_isBetter_91 (fun c_91 => ?_) (fun c_91 => ?_)
      · refine g_iconst (v := 0) C (by decide) dX7_isBetter_98 ?_
        refine g_zret C F (rfl) dX7_isBetter_99 ?_
        exact ⟨congrArg (fun z => some (Value.int z)) (by first | exact (cw_b1 (by simp_all [cw_better])).symm | exact (cw_bf (by simp_all [cw_better])).symm), rfl⟩
      · refine g_iconst (v := 1) C (by decide) dX7_isBetter_94 ?_
        refine g_goto (tgt := 99) C (by decide) dX7_isBetter_95 ?_
        refine g_zret C F (rfl) dX7_isBetter_99 ?_
        exact ⟨congrArg (fun z => some (Value.int z)) (by first | exact (cw_b1 (by simp_all [cw_better])).symm | exact (cw_bf (by simp_all [cw_better])).symm), rfl⟩
  · refine g_aload_n C rfl dX7_isBetter_28 ?_
    refine g_getr C fl_X7_7 rfl rfl dX7_isBetter_29 ?_
    refine g_iload_n C rfl dX7_isBetter_32 ?_
    refine g_iconst (v := 2) C (by decide) dX7_isBetter_33 ?_
    refine g_callS C (ok_X7_of (i := 2) _ _ _ (by first | rfl | assumption) rfl) my_X7_of si_X7_54 (by decide) ⟨Nat.le_refl _, Nat.le_refl _⟩ rfl (Nat.le_of_ble_eq_true rfl) dX7_isBetter_34 rfl (trivial) (fun v_34 w_34 hp_34 => ?_)
    obtain ⟨rfl, hw_34⟩ := hp_34
    have hw_34 := hw_34.symm; subst hw_34
    refine g_iald C rfl (by first | rfl | assumption | (simp only [nI_add, pk_mul, *]; done)) (by first | assumption | omega) (by decide) dX7_isBetter_37 ?_
    refine g_aload_n C rfl dX7_isBetter_38 ?_
    refine g_getr C fl_X7_7 rfl rfl dX7_isBetter_39 ?_
    refine g_iload_n C rfl dX7_isBetter_42 ?_
    refine g_iconst (v := 2) C (by decide) dX7_isBetter_43 ?_
    refine g_callS C (ok_X7_of (i := 2) _ _ _ (by first | rfl | assumption) rfl) my_X7_of si_X7_54 (by decide) ⟨Nat.le_refl _, Nat.le_refl _⟩ rfl (Nat.le_of_ble_eq_true rfl) dX7_isBetter_44 rfl (trivial) (fun v_44 w_44 hp_44 => ?_)
    obtain ⟨rfl, hw_44⟩ := hp_44
    have hw_44 := hw_44.symm; subst hw_44
    refine g_iald C rfl (by first | rfl | assumption | (simp only [nI_add, pk_mul, *]; done)) (by first | assumption | omega) (by decide) dX7_isBetter_47 ?_
    refine g_isub C dX7_isBetter_48 ?_
    refine g_goto (tgt := 54) C (by decide) dX7_isBetter_49 ?_
    refine g_istore C (by decide) dX7_isBetter_54 ?_
    refine g_iload C rfl dX7_isBetter_56 ?_
    refine g_if_ne (tgt := 85) C (by decide) dX7_isBetter_58 (fun c_58 => ?_) (fun c_58 => ?_)
    · refine g_iload C rfl dX7_isBetter_85 ?_
      refine g_istore C (by decide) dX7_isBetter_87 ?_
      refine g_iload C rfl dX7_isBetter_89 ?_
      refine g_if_le (tgt := 98) C (by decide) dX7_isBetter_91 (fun c_91 => ?_) (fun c_91 => ?_)
      · refine g_iconst (v := 0) C (by decide) dX7_isBetter_98 ?_
        refine g_zret C F (rfl) dX7_isBetter_99 ?_
        exact ⟨congrArg (fun z => some (Value.int z)) (by first | exact (cw_b1 (by simp_all [cw_better])).symm | exact (cw_bf (by simp_all [cw_better])).symm), rfl⟩
      · refine g_iconst (v := 1) C (by decide) dX7_isBetter_94 ?_
        refine g_goto (tgt := 99) C (by decide) dX7_isBetter_95 ?_
        refine g_zret C F (rfl) dX7_isBetter_99 ?_
        exact ⟨congrArg (fun z => some (Value.int z)) (by first | exact (cw_b1 (by simp_all [cw_better])).symm | exact (cw_bf (by simp_all [cw_better])).symm), rfl⟩
    · refine g_aload_n C rfl dX7_isBetter_61 ?_
      refine g_getr C fl_X7_7 rfl rfl dX7_isBetter_62 ?_
      refine g_iload_n C rfl dX7_isBetter_65 ?_
      refine g_iconst (v := 0) C (by decide) dX7_isBetter_66 ?_
      refine g_callS C (ok_X7_of (i := 0) _ _ _ (by first | rfl | assumption) rfl) my_X7_of si_X7_54 (by decide) ⟨Nat.le_refl _, Nat.le_refl _⟩ rfl (Nat.le_of_ble_eq_true rfl) dX7_isBetter_67 rfl (trivial) (fun v_67 w_67 hp_67 => ?_)
      obtain ⟨rfl, hw_67⟩ := hp_67
      have hw_67 := hw_67.symm; subst hw_67
      refine g_iald C rfl (by first | rfl | assumption | (simp only [nI_add, pk_mul, *]; done)) (by first | assumption | omega) (by decide) dX7_isBetter_70 ?_
      refine g_aload_n C rfl dX7_isBetter_71 ?_
      refine g_getr C fl_X7_7 rfl rfl dX7_isBetter_72 ?_
      refine g_iload_n C rfl dX7_isBetter_75 ?_
      refine g_iconst (v := 0) C (by decide) dX7_isBetter_76 ?_
      refine g_callS C (ok_X7_of (i := 0) _ _ _ (by first | rfl | assumption) rfl) my_X7_of si_X7_54 (by decide) ⟨Nat.le_refl _, Nat.le_refl _⟩ rfl (Nat.le_of_ble_eq_true rfl) dX7_isBetter_77 rfl (trivial) (fun v_77 w_77 hp_77 => ?_)
      obtain ⟨rfl, hw_77⟩ := hp_77
      have hw_77 := hw_77.symm; subst hw_77
      refine g_iald C rfl (by first | rfl | assumption | (simp only [nI_add, pk_mul, *]; done)) (by first | assumption | omega) (by decide) dX7_isBetter_80 ?_
      refine g_isub C dX7_isBetter_81 ?_
      refine g_goto (tgt := 87) C (by decide) dX7_isBetter_82 ?_
      refine g_istore C (by decide) dX7_isBetter_87 ?_
      refine g_iload C rfl dX7_isBetter_89 ?_
      refine g_if_le (tgt := 98) C (by decide) dX7_isBetter_91 (fun c_91 => ?_) (fun c_91 => ?_)
      · refine g_iconst (v := 0) C (by decide) dX7_isBetter_98 ?_
        refine g_zret C F (rfl) dX7_isBetter_99 ?_
        exact ⟨congrArg (fun z => some (Value.int z)) (by first | exact (cw_b1 (by simp_all [cw_better])).symm | exact (cw_bf (by simp_all [cw_better])).symm), rfl⟩
      · refine g_iconst (v := 1) C (by decide) dX7_isBetter_94 ?_
        refine g_goto (tgt := 99) C (by decide) dX7_isBetter_95 ?_
        refine g_zret C F (rfl) dX7_isBetter_99 ?_
        exact ⟨congrArg (fun z => some (Value.int z)) (by first | exact (cw_b1 (by simp_all [cw_better])).symm | exact (cw_bf (by simp_all [cw_better])).symm), rfl⟩

