theorem nw_X0_9 : rw_nw RX0 9 1 RX1 [.null, .null, .int 0, .int 0, .null, .null, .null, .null, .null, .null, .null, .null, .int 0, .null, .null, .null] 16 := ⟨TX1, tyX1, rfl, inT_X1, tyX1_ok, gw_T_at 114 (by decide +kernel) rfl, gw_T_at 25 (by decide +kernel) rfl, gw_T_at 2 (by decide +kernel) rfl, fun j hj => by
  rcases (show j = 0 ∨ j = 1 ∨ j = 2 ∨ j = 3 ∨ j = 4 ∨ j = 5 ∨ j = 6 ∨ j = 7 ∨ j = 8 ∨ j = 9 ∨ j = 10 ∨ j = 11 ∨ j = 12 ∨ j = 13 ∨ j = 14 ∨ j = 15 by omega) with rfl | rfl | rfl | rfl | rfl | rfl | rfl | rfl | rfl | rfl | rfl | rfl | rfl | rfl | rfl | rfl <;> rfl⟩
theorem nw_X6_7 : rw_nw RX6 7 1 RX1 [.null, .null, .int 0, .int 0, .null, .null, .null, .null, .null, .null, .null, .null, .int 0, .null, .null, .null] 16 := ⟨TX1, tyX1, rfl, inT_X1, tyX1_ok, gw_T_at 24 (by decide +kernel) rfl, gw_T_at 25 (by decide +kernel) rfl, gw_T_at 2 (by decide +kernel) rfl, fun j hj => by
  rcases (show j = 0 ∨ j = 1 ∨ j = 2 ∨ j = 3 ∨ j = 4 ∨ j = 5 ∨ j = 6 ∨ j = 7 ∨ j = 8 ∨ j = 9 ∨ j = 10 ∨ j = 11 ∨ j = 12 ∨ j = 13 ∨ j = 14 ∨ j = 15 by omega) with rfl | rfl | rfl | rfl | rfl | rfl | rfl | rfl | rfl | rfl | rfl | rfl | rfl | rfl | rfl | rfl <;> rfl⟩
theorem nw_X6_19 : rw_nw RX6 19 0 RX0 [.null, .int 0, .int 0] 3 := ⟨TX0, tyX0, rfl, inT_X0, tyX0_ok, gw_T_at 108 (by decide +kernel) rfl, gw_T_at 109 (by decide +kernel) rfl, gw_T_at 5 (by decide +kernel) rfl, fun j hj => by
  rcases (show j = 0 ∨ j = 1 ∨ j = 2 by omega) with rfl | rfl | rfl <;> rfl⟩
theorem nw_X6_34 : rw_nw RX6 34 3 RX5 [.null, .int 0, .int 0, .int 0, .null, .int 0] 6 := ⟨TX5, tyX5, rfl, inT_X5, tyX5_ok, gw_T_at 127 (by decide +kernel) rfl, gw_T_at 128 (by decide +kernel) rfl, gw_T_at 6 (by decide +kernel) rfl, fun j hj => by
  rcases (show j = 0 ∨ j = 1 ∨ j = 2 ∨ j = 3 ∨ j = 4 ∨ j = 5 by omega) with rfl | rfl | rfl | rfl | rfl | rfl <;> rfl⟩
theorem nw_X6_41 : rw_nw RX6 41 2 RX2 [.null, .null] 2 := ⟨TX2, tyX2, rfl, inT_X2, tyX2_ok, gw_T_at 149 (by decide +kernel) rfl, gw_T_at 150 (by decide +kernel) rfl, gw_T_at 7 (by decide +kernel) rfl, fun j hj => by
  rcases (show j = 0 ∨ j = 1 by omega) with rfl | rfl <;> rfl⟩
theorem li_X0_17 : rw_li RX0 17 yX1_init := ⟨Or.inl (gw_T_at 116 (by decide +kernel) rfl), gw_T_at 27 (by decide +kernel) rfl, rfl⟩
theorem li_X6_9 : rw_li RX6 9 yX1_init := ⟨Or.inl (gw_T_at 26 (by decide +kernel) rfl), gw_T_at 27 (by decide +kernel) rfl, rfl⟩
theorem li_X6_21 : rw_li RX6 21 yX0_init := ⟨Or.inl (gw_T_at 110 (by decide +kernel) rfl), gw_T_at 111 (by decide +kernel) rfl, rfl⟩
theorem li_X6_36 : rw_li RX6 36 yX5_init := ⟨Or.inr ⟨"CottageWeeks", gw_N_at 129 (by decide +kernel) rfl⟩, gw_T_at 130 (by decide +kernel) rfl, rfl⟩
theorem li_X6_43 : rw_li RX6 43 yX2_init := ⟨Or.inr ⟨"CottageWeeks", gw_N_at 151 (by decide +kernel) rfl⟩, gw_T_at 152 (by decide +kernel) rfl, rfl⟩
set_option maxHeartbeats 8000000 in
set_option maxRecDepth 100000 in
/-- part of the cells, of the same addresses -/
theorem r_toA {X : gw_X} {nL : Nat} {a b : va_W} {k n pc : Nat} {lv : gw_LV} {st : List Value} {S : gw_S} (ρ : Nat → Nat) (w : gw_M) (hPv : ∀ (D : va_G) (H : Heap), va_P D vwCl b H → ∀ i, i < S.1 → va_at D vwCl (ρ i, gw_cell (rw_cA X) ρ (w i) (S.2 i)) H) (hPm : ((List.range S.1).map ρ).Perm (b.map Prod.fst))
    (K : rw_G X (a ++ gw_W (rw_cA X) ρ S w) nL k n pc lv st) : rw_G X (a ++ b) nL k n pc lv st := by
  obtain ⟨p, l, e, R, s, m, args, below, meth, c, D, cA, ρ0, A, Q⟩ := X
  intro H locs ls hP hD hS hl
  have hP := rw_Papp.mp hP
  refine K H locs ls (rw_Papp.mpr ⟨hP.1, ?_⟩) ?_ hS hl
  · intro j q hj
    obtain ⟨h1, rfl⟩ := gw_W_some hj
    exact hPv D H hP.2 j h1
  · have hD := rw_Dm.mp hD
    refine rw_Dm.mpr ?_
    have hq : (a.map Prod.fst ++ (List.range S.1).map ρ).Perm (a.map Prod.fst ++ b.map Prod.fst) := hPm.append_left _
    rw [List.map_append] at hD
    rw [List.map_append, rw_fst]
    exact ⟨hq.nodup_iff.mpr hD.1, fun z hz => hD.2 z (hq.mem_iff.mp hz)⟩
theorem rw_cat {a b : Nat} {f g : Nat → Nat} {l : List Nat} (h1 : ∀ i, i < a → f i = g i) (h2 : (List.range b).map (fun i => f (a + i)) = l) : (List.range (a + b)).map f = (List.range a).map g ++ l := by
  rw [List.range_add, List.map_append, ← h2, List.map_map]
  congr 1
  exact List.map_congr_left fun i hi => h1 i (List.mem_range.mp hi)
theorem gw_lo_pi {π : Nat → Nat} {n m : Nat} {c : gw_C} (h : gw_lo n c = true) (hp : ∀ j, j < n → π j < m) : gw_lo m (gw_pi π c) = true := by
  match c, h with
  | .inr (ci, fs), h =>
    show (fs.map (Option.map π)).all _ = true
    rw [List.all_map]
    refine List.all_eq_true.mpr (fun t ht => ?_)
    have h1 := List.all_eq_true.mp h t ht
    cases t with
    | none => rfl
    | some j =>
      have hj : j < n := by simpa using h1
      show decide (π j < m) = true
      exact decide_eq_true (hp j hj)
  | .inl (kd, N, tg), h =>
    have h' : (decide (kd ≤ 3) || (List.range N).all (fun j => decide (tg j < n))) = true := h
    show (decide (kd ≤ 3) || (List.range N).all (fun j => decide ((if kd ≤ 3 then tg else fun j => π (tg j)) j < m))) = true
    by_cases hk : kd ≤ 3
    · rw [decide_eq_true hk]; rfl
    · rw [decide_eq_false hk, Bool.false_or] at h' ⊢
      refine List.all_eq_true.mpr (fun j hj => ?_)
      rw [if_neg hk]
      have := List.all_eq_true.mp h' j hj
      exact decide_eq_true (hp _ (by simpa using this))
theorem gw_lo_H : ∀ i, i < 14 → gw_lo 14 (sH.2 i) = true := by decide +kernel
/-- houses, one behind another -/
def sHs (N : Nat) : gw_S := (14 * N, fun i => gw_pi (fun j => 14 * (i / 14) + j) (sH.2 (i % 14)))
theorem gw_lo_Hs {N i : Nat} (h : i < 14 * N) : gw_lo (14 * N) ((sHs N).2 i) = true :=
  gw_lo_pi (gw_lo_H (i % 14) (Nat.mod_lt _ (by decide))) (fun j hj => by
    show 14 * (i / 14) + j < 14 * N
    have : i / 14 < N := by omega
    omega)
/-- a house's cell, moved -/
theorem rw_hc {D : va_G} {cA : Nat → ClassId} {ρ ρ' : Nat → Nat} {f : Nat → Int32} {h h' t a : Nat} {H : Heap} (ht : t < 14) (hr : ∀ j, j < 14 → ρ (14 * h + j) = ρ' (14 * h' + j)) (q : va_at D vwCl (a, gw_cell cA ρ f (gw_pi (fun j => 14 * h + j) (sH.2 t))) H) : va_at D vwCl (a, gw_cell cA ρ' f (gw_pi (fun j => 14 * h' + j) (sH.2 t))) H := by
  rw [gw_pi_cell] at q ⊢
  exact rw_lo (gw_lo_H t ht) hr q
theorem rw_hc0 {D : va_G} {cA : Nat → ClassId} {ρ ρ' : Nat → Nat} {f : Nat → Int32} {h' t a : Nat} {H : Heap} (ht : t < 14) (hr : ∀ j, j < 14 → ρ j = ρ' (14 * h' + j)) (q : va_at D vwCl (a, gw_cell cA ρ f (sH.2 t)) H) : va_at D vwCl (a, gw_cell cA ρ' f (gw_pi (fun j => 14 * h' + j) (sH.2 t))) H := by
  rw [gw_pi_cell]
  exact rw_lo (gw_lo_H t ht) hr q
/-- one more house -/
theorem r_house {X : gw_X} {nL : Nat} {a : va_W} {k n pc : Nat} {lv : gw_LV} {st : List Value} {ρ ρ' : Nat → Nat} {w w' : gw_M} {i : Nat} (K : ∀ (ρ2 : Nat → Nat) (w2 : gw_M), (∀ j, j < 14 * i → ρ2 j = ρ j) → ρ2 (14 * i) = ρ' 0 → rw_G X (a ++ gw_W (rw_cA X) ρ2 (sHs (i + 1)) w2) nL k n pc lv st) : rw_G X (a ++ (gw_W (rw_cA X) ρ (sHs i) w ++ gw_W (rw_cA X) ρ' sH w')) nL k n pc lv st := by
  have e1 : ∀ j, j < 14 * i → (fun j => if j < 14 * i then ρ j else ρ' (j - 14 * i)) j = ρ j := fun j hj => if_pos hj
  have e2 : ∀ t, (fun j => if j < 14 * i then ρ j else ρ' (j - 14 * i)) (14 * i + t) = ρ' t := fun t => by
    show (if 14 * i + t < 14 * i then ρ (14 * i + t) else ρ' (14 * i + t - 14 * i)) = ρ' t
    rw [if_neg (by omega), show 14 * i + t - 14 * i = t by omega]
  refine r_toA (S := sHs (i + 1)) (fun j => if j < 14 * i then ρ j else ρ' (j - 14 * i)) (fun j => if j < 14 * i then w j else w' (j - 14 * i)) (fun D H h t ht => ?_) ?_ (K _ _ e1 (e2 0))
  · have ht : t < 14 * (i + 1) := ht
    have h := rw_Papp.mp h
    by_cases hlt : t < 14 * i
    · have q := rw_PW (S := sHs i) h.1 (i := t) hlt
      have q2 := rw_lo (ρ' := fun j => if j < 14 * i then ρ j else ρ' (j - 14 * i)) (gw_lo_Hs hlt) (fun j hj => (e1 j hj).symm) q
      show va_at D vwCl (if t < 14 * i then ρ t else ρ' (t - 14 * i), gw_cell _ _ (if t < 14 * i then w t else w' (t - 14 * i)) _) H
      rw [if_pos hlt, if_pos hlt]
      exact q2
    · have q := rw_PW (S := sH) h.2 (i := t - 14 * i) (by show t - 14 * i < 14; omega)
      have q2 := rw_hc0 (ρ' := fun j => if j < 14 * i then ρ j else ρ' (j - 14 * i)) (h' := i) (by omega) (fun j _ => (e2 j).symm) q
      show va_at D vwCl (if t < 14 * i then ρ t else ρ' (t - 14 * i), gw_cell _ _ (if t < 14 * i then w t else w' (t - 14 * i)) (gw_pi (fun j => 14 * (t / 14) + j) (sH.2 (t % 14)))) H
      rw [if_neg hlt, if_neg hlt, show t / 14 = i by omega, show t % 14 = t - 14 * i by omega]
      exact q2
  · rw [List.map_append, rw_fst, rw_fst]
    refine List.Perm.of_eq ?_
    show (List.range (14 * i + 14)).map _ = _
    exact rw_cat e1 (List.map_congr_left fun j _ => e2 j)
def rw_f (ρ : Nat → Nat) (i : Nat) : Nat → Option Nat := fun j => if j < i then some (ρ (14 * j)) else none
theorem rw_f_up {ρ ρ2 : Nat → Nat} {i v : Nat} (h1 : ∀ j, j < 14 * i → ρ2 j = ρ j) (h2 : ρ2 (14 * i) = v) : va_up (rw_f ρ i) i (some v) = rw_f ρ2 (i + 1) := by
  funext j
  unfold va_up rw_f
  by_cases hj : j = i
  · rw [if_pos hj, if_pos (by omega), hj, h2]
  · rw [if_neg hj]
    by_cases hl : j < i
    · rw [if_pos hl, if_pos (by omega), h1 _ (by omega)]
    · rw [if_neg hl, if_neg (by omega)]
theorem rw_f0 (ρ : Nat → Nat) : (fun _ => none) = rw_f ρ 0 := by funext j; exact (if_neg (Nat.not_lt_zero _)).symm

set_option maxHeartbeats 8000000 in
set_option maxRecDepth 100000 in
theorem houses_X0 {X : gw_X} {mc ms : Nat} (C : gw_ok X RX0 cX0_init 2 4 mc ms) (I : rw_ao X) {h0 qa k0 n0 : Nat} {rest : va_W} {fs : List Value} (hfs : fs[0]? = some (.ref qa)) (hk : k0 + 14 * 14 ≤ mc ∧ n0 + 255 * 14 ≤ ms)
    (K : ∀ (ρ : Nat → Nat) (w : gw_M), rw_G X ((h0, .inr (0, fs)) :: (qa, .inl (rw_cA X 4, 14, .inr (.inr (.inr (.inr (rw_f ρ 14)))))) :: (rest ++ gw_W (rw_cA X) ρ (sHs 14) w)) 2 (k0 + 14 * 14) (n0 + 255 * 14) 40 [(1, .int (nI 14)), (0, .ref h0)] []) :
    ∀ (r i : Nat), i + r = 14 → ∀ (ρ : Nat → Nat) (w : gw_M), rw_G X ((h0, .inr (0, fs)) :: (qa, .inl (rw_cA X 4, 14, .inr (.inr (.inr (.inr (rw_f ρ i)))))) :: (rest ++ gw_W (rw_cA X) ρ (sHs i) w)) 2 (k0 + 14 * i) (n0 + 255 * i) 15 [(1, .int (nI i)), (0, .ref h0)] [] := by
  intro r
  induction r with
  | zero =>
    intro i hi ρ w
    obtain rfl : i = 14 := hi
    refine r_iload_n C rfl dX0_init_15 ?_
    refine r_bipush (v := 14) C (by decide) dX0_init_16 ?_
    refine r_cmp_ge (tgt := 40) C (by decide) dX0_init_18 (fun _ => K ρ w) (fun h => absurd (by decide) h)
  | succ r ih =>
    intro i hi ρ w
    refine r_iload_n C rfl dX0_init_15 ?_
    refine r_bipush (v := 14) C (by decide) dX0_init_16 ?_
    refine r_cmp_ge (tgt := 40) C (by decide) dX0_init_18 (fun h => absurd h (nI_ge (b := 14) (by omega) (by decide))) (fun _ => ?_)
    refine r_aload_n C rfl dX0_init_21 ?_
    refine r_getr C fd_X0_11 hfs dX0_init_22 ?_
    refine r_iload_n C rfl dX0_init_25 ?_
    refine r_new3 C I new_X1 my_X1_init li_X0_17 nw_X0_9 (by decide) ⟨by omega, by omega⟩ (Nat.le_of_ble_eq_true rfl) dX0_init_26 dX0_init_29 dX0_init_30 (fun ρ' w' _ => ?_)
    show rw_G X ((h0, .inr (0, fs)) :: (qa, .inl (rw_cA X 4, 14, .inr (.inr (.inr (.inr (rw_f ρ i)))))) :: ((rest ++ gw_W (rw_cA X) ρ (sHs i) w) ++ gw_W (rw_cA X) ρ' sH w')) 2 _ _ _ _ [.ref (ρ' 0), .int (nI i), .ref qa]
    refine r_aast (vs := _) C (List.mem_cons_of_mem _ (List.mem_cons_of_mem _ (List.mem_append_right _ (List.mem_of_getElem? (gw_W_get (S := sH) (q := 0) rfl))))) (vp_in_nI (by omega) (by decide)) dX0_init_33 ?_
    rw [nI_clamp (by omega)]
    refine r_ws (ws' := ((h0, .inr (0, fs)) :: (qa, .inl (rw_cA X 4, 14, .inr (.inr (.inr (.inr (va_up (rw_f ρ i) i (some (ρ' 0)))))))) :: rest) ++ (gw_W (rw_cA X) ρ (sHs i) w ++ gw_W (rw_cA X) ρ' sH w')) (by simp only [List.append_assoc, List.cons_append]) ?_
    refine r_house (fun ρ2 w2 h1 h2 => ?_)
    rw [rw_f_up h1 h2]
    refine r_iinc (v := nI (i + 1)) C rfl (nI_1 i) (by decide) dX0_init_34 ?_
    refine r_goto (tgt := 15) C (by decide) dX0_init_37 ?_
    refine r_widen (k' := k0 + 14 * (i + 1)) (n' := n0 + 255 * (i + 1)) (by omega) (by omega) ?_
    exact ih (i + 1) (by omega) ρ2 w2

set_option maxHeartbeats 8000000 in
set_option maxRecDepth 100000 in
theorem houses_X6 {X : gw_X} {mc ms : Nat} (C : gw_ok X RX6 cX6_init 2 6 mc ms) (I : rw_ao X) {h0 qa k0 n0 : Nat} {rest : va_W} {fs : List Value} (hfs : fs[3]? = some (.ref qa)) (hk : k0 + 14 * 2 ≤ mc ∧ n0 + 255 * 2 ≤ ms)
    (K : ∀ (ρ : Nat → Nat) (w : gw_M), rw_G X ((h0, .inr (4, fs)) :: (qa, .inl (rw_cA X 4, 2, .inr (.inr (.inr (.inr (rw_f ρ 2)))))) :: (rest ++ gw_W (rw_cA X) ρ (sHs 2) w)) 2 (k0 + 14 * 2) (n0 + 255 * 2) 100 [(1, .int (nI 2)), (0, .ref h0)] []) :
    ∀ (r i : Nat), i + r = 2 → ∀ (ρ : Nat → Nat) (w : gw_M), rw_G X ((h0, .inr (4, fs)) :: (qa, .inl (rw_cA X 4, 2, .inr (.inr (.inr (.inr (rw_f ρ i)))))) :: (rest ++ gw_W (rw_cA X) ρ (sHs i) w)) 2 (k0 + 14 * i) (n0 + 255 * i) 76 [(1, .int (nI i)), (0, .ref h0)] [] := by
  intro r
  induction r with
  | zero =>
    intro i hi ρ w
    obtain rfl : i = 2 := hi
    refine r_iload_n C rfl dX6_init_76 ?_
    refine r_iconst (v := 2) C (by decide) dX6_init_77 ?_
    refine r_cmp_ge (tgt := 100) C (by decide) dX6_init_78 (fun _ => K ρ w) (fun h => absurd (by decide) h)
  | succ r ih =>
    intro i hi ρ w
    refine r_iload_n C rfl dX6_init_76 ?_
    refine r_iconst (v := 2) C (by decide) dX6_init_77 ?_
    refine r_cmp_ge (tgt := 100) C (by decide) dX6_init_78 (fun h => absurd h (nI_ge (b := 2) (by omega) (by decide))) (fun _ => ?_)
    refine r_aload_n C rfl dX6_init_81 ?_
    refine r_getr C fd_X6_26 hfs dX6_init_82 ?_
    refine r_iload_n C rfl dX6_init_85 ?_
    refine r_new3 C I new_X1 my_X1_init li_X6_9 nw_X6_7 (by decide) ⟨by omega, by omega⟩ (Nat.le_of_ble_eq_true rfl) dX6_init_86 dX6_init_89 dX6_init_90 (fun ρ' w' _ => ?_)
    show rw_G X ((h0, .inr (4, fs)) :: (qa, .inl (rw_cA X 4, 2, .inr (.inr (.inr (.inr (rw_f ρ i)))))) :: ((rest ++ gw_W (rw_cA X) ρ (sHs i) w) ++ gw_W (rw_cA X) ρ' sH w')) 2 _ _ _ _ [.ref (ρ' 0), .int (nI i), .ref qa]
    refine r_aast (vs := _) C (List.mem_cons_of_mem _ (List.mem_cons_of_mem _ (List.mem_append_right _ (List.mem_of_getElem? (gw_W_get (S := sH) (q := 0) rfl))))) (vp_in_nI (by omega) (by decide)) dX6_init_93 ?_
    rw [nI_clamp (by omega)]
    refine r_ws (ws' := ((h0, .inr (4, fs)) :: (qa, .inl (rw_cA X 4, 2, .inr (.inr (.inr (.inr (va_up (rw_f ρ i) i (some (ρ' 0)))))))) :: rest) ++ (gw_W (rw_cA X) ρ (sHs i) w ++ gw_W (rw_cA X) ρ' sH w')) (by simp only [List.append_assoc, List.cons_append]) ?_
    refine r_house (fun ρ2 w2 h1 h2 => ?_)
    rw [rw_f_up h1 h2]
    refine r_iinc (v := nI (i + 1)) C rfl (nI_1 i) (by decide) dX6_init_94 ?_
    refine r_goto (tgt := 76) C (by decide) dX6_init_97 ?_
    refine r_widen (k' := k0 + 14 * (i + 1)) (n' := n0 + 255 * (i + 1)) (by omega) (by omega) ?_
    exact ih (i + 1) (by omega) ρ2 w2

set_option maxHeartbeats 8000000 in
set_option maxRecDepth 100000 in
/-- History's world: 14 houses, itself, the rows -/
def sHi : gw_S := (198, fun i => if i < 196 then (sHs 14).2 i else if i = 196 then .inr (0, [some 197, none, none]) else .inl (4, 14, fun j => 14 * j))
theorem new_X0 : rw_Ok yX0_init cX0_init 2 sHi 196 4 197 3584 0 [.null, .int 0, .int 0] (fun w => w 196 1 = 0 ∧ w 196 2 = 0) := by
  refine rw_of rfl rfl (by decide) (fun X h0 C I In F => ?_)
  refine r_aload_n C rfl dX0_init_0 ?_
  refine r_objinit C (gw_T_at 113 (by decide +kernel) rfl) (by decide) (by decide) dX0_init_1 ?_
  refine r_aload_n C rfl dX0_init_4 ?_
  refine r_bipush (v := 14) C (by decide) dX0_init_5 ?_
  refine r_anew (N := 14) C I (gw_T_at 114 (by decide +kernel) rfl) (by decide) (by decide) (by decide) ⟨by decide, by decide⟩ dX0_init_7 (fun qa => ?_)
  show rw_G X [(h0, .inr (0, [.null, .int 0, .int 0])), (qa, .inl (rw_cA X 4, 14, .inr (.inr (.inr (.inr (fun _ => none))))))] 2 1 14 10 [(0, .ref h0)] [.ref qa, .ref h0]
  refine r_putF C In fd_X0_11 (Nat.le_of_ble_eq_true rfl) dX0_init_10 ?_
  refine r_iconst (v := 0) C (by decide) dX0_init_13 ?_
  refine r_istore_n C (by decide) dX0_init_14 ?_
  refine r_ws (ws' := (h0, .inr (0, [.ref qa, .int 0, .int 0])) :: (qa, .inl (rw_cA X 4, 14, .inr (.inr (.inr (.inr (rw_f (fun i => i) 0)))))) :: ([] ++ gw_W (rw_cA X) (fun i => i) (sHs 0) (fun _ _ => 0))) (by rw [← rw_f0]; rfl) ?_
  refine houses_X0 C I (k0 := 1) (n0 := 14) rfl ⟨by decide, by decide⟩ (fun ρ w => ?_) 14 0 rfl (fun i => i) (fun _ _ => 0)
  have e0 : ∀ j, j < 196 → (fun i => if i < 196 then ρ i else if i = 196 then h0 else qa) j = ρ j := fun j hj => if_pos hj
  refine r_to (S := sHi) (fun i => if i < 196 then ρ i else if i = 196 then h0 else qa) (fun i => if i < 196 then w i else fun _ => 0) (fun D H h i hi => ?_) ?_ (r_ret C F rfl ⟨rfl, rfl⟩ ⟨by decide, by decide⟩ dX0_init_40)
  · have h1 := rw_Pone.mp h
    have h2 := rw_Pone.mp h1.2
    have hi : i < 198 := hi
    by_cases hlt : i < 196
    · have q := rw_PW (S := sHs 14) h2.2 (i := i) hlt
      have q2 := rw_lo (ρ' := fun i => if i < 196 then ρ i else if i = 196 then h0 else qa) (gw_lo_Hs hlt) (fun j hj => (e0 j hj).symm) q
      show va_at D vwCl ((if i < 196 then ρ i else if i = 196 then h0 else qa), gw_cell _ _ (if i < 196 then w i else fun _ => 0) (if i < 196 then (sHs 14).2 i else _)) H
      rw [if_pos hlt, if_pos hlt, if_pos hlt]
      exact q2
    · rcases (show i = 196 ∨ i = 197 by omega) with rfl | rfl
      · exact h1.1
      · have q : H[qa]? = some (vp_cell (rw_cA X 4) (14, .inr (.inr (.inr (.inr (rw_f ρ 14)))))) := h2.1
        show H[qa]? = some (vp_cell (rw_cA X 4) (14, .inr (.inr (.inr (.inr (fun j => some ((fun i => if i < 196 then ρ i else if i = 196 then h0 else qa) (14 * j))))))))
        rw [q, vp_cell_q, vp_cell_q]
        refine congrArg some (rw_arr (fun j hj => ?_))
        rw [e0 _ (by omega)]
        unfold rw_f
        rw [if_pos hj]
  · have e : (List.range sHi.1).map (fun i => if i < 196 then ρ i else if i = 196 then h0 else qa) = (List.range 196).map ρ ++ [h0, qa] := rw_cat (a := 196) (b := 2) e0 rfl
    rw [e]
    show ((List.range 196).map ρ ++ [h0, qa]).Perm ([h0, qa] ++ (gw_W (rw_cA X) ρ (sHs 14) w).map Prod.fst)
    rw [rw_fst]
    exact List.perm_append_comm
