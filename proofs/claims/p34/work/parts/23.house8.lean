set_option maxHeartbeats 4000000 in
/-- the settings as at first: copied out of the class's own array -/
theorem g_statcopy {X : gw_X} {nL d mc ms : Nat} (C : gw_ok X RX1 cX1_clear nL d mc ms) {k n : Nat} {lv : gw_LV} {w : gw_M} (h0 : gw_lk lv 0 = some (.ref 0)) (hd1 : 1 ≤ d)
    (K : gw_G X sH nL k n 13 lv [] (cw_put w 1 (va_cpy (fun j => if j = 0 then 4 else if j = 1 then 5 else 3) (w 1) 0 0 3))) : gw_G X sH nL k n 0 lv [] w := by
  obtain ⟨p, l, e, R, s, m, args, below, meth, c, D, cA, ρ, A, Q⟩ := X
  obtain ⟨hx, hb, hml, hown, hts, hK, hA, hE, hRf, hRl, hRc, hRs⟩ := C
  intro H locs ls hP hD hS hl
  obtain ⟨⟨t, hZ, hT⟩, -, -, -, hNw, -⟩ := hE
  refine va_getsN (host := "CottageWeeks") hx hb hZ hS hown (va_Nw.use rfl (hNw _ (gw_N_at 34 (by decide +kernel) rfl))) (fun _ h => h) dX1_clear_0 ?_
  refine lv_iconst (v := 0) hx hb dX1_clear_3 (by decide) ?_
  refine lv_aload_n hx hb dX1_clear_4 rfl (gw_lk_ls hl h0) ?_
  obtain ⟨C1, T, N, hc, hN, hin, hlk⟩ := fl_X1_9
  have ha0 : gw_at sH 0 = some (.inr (1, [some 1, some 2, none, none, some 3, some 4, some 5, some 6, some 7, some 8, some 9, some 10, none, some 11, some 12, some 13])) := rfl
  have hv : (([some 1, some 2, none, none, some 3, some 4, some 5, some 6, some 7, some 8, some 9, some 10, none, some 11, some 12, some 13] : List (Option Nat)).mapIdx (fun k t => gw_fv ρ (w 0) k t))[0]? = some (.ref (ρ 1)) := rfl
  have hnext : W p l e R s m args below meth c H locs k n Q (F0 m 8 ls [.ref (ρ 1), .int 0, .ref t]) := by
    refine lv_iconst (v := 0) hx hb dX1_clear_8 (by decide) ?_
    refine lv_iconst (v := 3) hx hb dX1_clear_9 (by decide) ?_
    obtain ⟨m1, m2, m3, m4⟩ := ac_X1_58
    intro T2 hT2 X2
    obtain ⟨scr, hs1, hs2, hs3, hs4, hs5, hs6, hs7⟩ := hT
    have htl : t < s.heap.size := (Array.getElem?_eq_some_iff.mp hs1).1
    have hc0 : H[t]? = some scr := by rw [hS.2.1 t htl hs7]; exact hs1
    have hw1 : (gw_W cA ρ sH w)[1]? = some (ρ 1, .inl (cA 0, 3, .inl (w 1))) := gw_W_get (c := .inl (0, 3, fun j => j)) rfl
    have hc1 : H[ρ 1]? = some (vp_cell (cA 0) (3, .inl (w 1))) := hP 1 _ hw1
    obtain ⟨hs8, k0, hk0, cm0, hkk0⟩ := hs2
    obtain ⟨-, k1, hk1, cm1, hkk1⟩ := (hK.2 0 (cA 0, .int) rfl).1 3 (fun j => .int (w 1 j))
    obtain ⟨vm', X', step⟩ := X2.arraycopy hx hown (hts _ m1) (hts _ m2) (hts _ m3) (hts _ m4) (src := t) (dst := ρ 1) (cs := scr) (cd := vp_cell (cA 0) (3, .inl (w 1))) (srcPos := 0) (destPos := 0) (n := 3) (by rw [hT2]; exact hc0) (by rw [hT2]; exact hc1)
      hs8 (fun _ h => by cases h) hs3 (fun h => by cases h) hk0 hk1 hkk0 hkk1 (by simp [refKind]) (by decide) (by decide) (by decide)
      (by show ¬ (3 : Int) > _; omega)
      (by show ¬ (3 : Int) > ((arrV (cA 0) 3 (fun j => .int (w 1 j))).slots.size : Int); rw [arrV_size]; omega)
      (fun vm₁ _ i hi => by
        have hi3 : i < 3 := hi
        have e1 : scr.slots.getD (0 + i) .null = .int (if i = 0 then 4 else if i = 1 then 5 else 3) := by
          rw [Nat.zero_add, Array.getD_eq_getD_getElem?, hs6 i hi3]; rfl
        have e2 : scr.slots.getD ((0 : Int32).toNatClampNeg + i) .null = .int (if i = 0 then 4 else if i = 1 then 5 else 3) := e1
        exact ⟨by rw [e2]; rfl, by rw [e2]; exact trivial⟩)
      (g := F0 m 10 ls [.int 3, .int 0, .ref (ρ 1), .int 0, .ref t]) rfl (by rw [hml]; exact hl.1) (rest := []) rfl (by rw [hb]; exact dX1_clear_10) (by omega) (by
        have : nativeFrameWords "java/lang/System" "arraycopy" 5 + 11 ≤ 32 := by decide
        show 2 * 0 + 0 + _ ≤ _
        omega)
    have e1 : copied scr (vp_cell (cA 0) (3, .inl (w 1))) 0 0 3 = vp_cell (cA 0) (3, .inl (va_cpy (fun j => if j = 0 then 4 else if j = 1 then 5 else 3) (w 1) 0 0 3)) := va_copiedX (n0 := 3) (fun z => .int z) scr (cA 0) (fun j => if j = 0 then 4 else if j = 1 then 5 else 3) (w 1) hs6 (by decide)
    rw [e1] at X' step
    have hlt : ρ 1 < H.size := (Array.getElem?_eq_some_iff.mp hc1).1
    have oq : ∀ q : Nat, q ≠ ρ 1 → (H.setIfInBounds (ρ 1) (vp_cell (cA 0) (3, .inl (va_cpy (fun j => if j = 0 then 4 else if j = 1 then 5 else 3) (w 1) 0 0 3))))[q]? = H[q]? := fun q hq => by simp [Array.getElem?_setIfInBounds, Ne.symm hq]
    have hset := hP.set (e := .inl (cA 0, 3, .inl (va_cpy (fun j => if j = 0 then 4 else if j = 1 then 5 else 3) (w 1) 0 0 3))) hD hw1 (show (H.setIfInBounds (ρ 1) (vp_cell (cA 0) (3, .inl (va_cpy (fun j => if j = 0 then 4 else if j = 1 then 5 else 3) (w 1) 0 0 3))))[ρ 1]? = some (vp_cell (cA 0) (3, .inl (va_cpy (fun j => if j = 0 then 4 else if j = 1 then 5 else 3) (w 1) 0 0 3))) by simp [Array.getElem?_setIfInBounds, hlt]) oq
    have hset2 := hD.set hw1 (e := .inl (cA 0, 3, .inl (va_cpy (fun j => if j = 0 then 4 else if j = 1 then 5 else 3) (w 1) 0 0 3)))
    have eW : (gw_W cA ρ sH w).set 1 (ρ 1, .inl (cA 0, 3, .inl (va_cpy (fun j => if j = 0 then 4 else if j = 1 then 5 else 3) (w 1) 0 0 3))) = gw_W cA ρ sH (cw_put w 1 (va_cpy (fun j => if j = 0 then 4 else if j = 1 then 5 else 3) (w 1) 0 0 3)) :=
      gw_W_set (c := .inl (0, 3, fun j => j)) rfl (by simp [gw_cell, gw_ac, cw_put]) (fun j hj => cw_put_ne w 1 _ hj)
    rw [eW] at hset hset2
    obtain ⟨t9, a1, b1⟩ := K _ (locs ++ (scr.stretch (0 : Int32).toNatClampNeg (3 : Int32).toNatClampNeg).zipIdx.map fun q => ⟨ρ 1, (0 : Int32).toNatClampNeg + q.2⟩) ls hset hset2 ⟨by simp; exact hS.1, fun q g1 g2 => by
        rw [oq q (fun e => g2 (by rw [e]; exact gw_D_A hD (show 1 < sH.1 by decide)))]
        exact hS.2.1 q g1 g2, fun q hq => by
        rcases List.mem_append.mp hq with h | h
        · exact hS.2.2 q h
        · obtain ⟨z, -, hz⟩ := List.mem_map.mp h
          rw [← hz]
          exact gw_D_A hD (show 1 < sH.1 by decide)⟩ hl _ (by rw [← hT2]; rfl) X'
    exact ⟨t9, step t9 a1, b1⟩
  rcases hlk with hlk | ⟨host, hlk⟩
  · exact va_get hx hb hts hin hown hK hP 0 (gw_W_get ha0) hc 0 hN (hts _ hlk) (fun _ h => h) hv dX1_clear_5 hnext
  · exact va_getN hx hb hts hin hown hK hP 0 (gw_W_get ha0) hc 0 hN (va_Nw.use rfl (hNw _ hlk)) (fun _ h => h) hv dX1_clear_5 hnext
/-- a house cleared so far -/
def cw_cl1 (w : gw_M) : Prop := (∀ j, j < 3 → w 1 j = if j = 0 then 4 else if j = 1 then 5 else 3) ∧ (∀ j, j < 8 → w 2 j = 0) ∧ w 0 2 = 0 ∧ w 0 3 = 0 ∧ (∀ j, j < 6 → w 3 j = 0) ∧ (∀ j, j < 6 → w 4 j = 0) ∧ (∀ j, j < 6 → w 5 j = 0) ∧ (∀ j, j < 6 → w 6 j = 0) ∧ (∀ j, j < 20 → w 7 j = 3)
theorem g_genP {X : gw_X} {S : gw_S} {nL k n pc : Nat} {lv : gw_LV} {st : List Value} {w : gw_M} {P : gw_M → Prop} (h : P w) (K : ∀ w1, P w1 → gw_G X S nL k n pc lv st w1) : gw_G X S nL k n pc lv st w := K w h
theorem cw_cl_new {w : gw_M} (h : cw_cl1 w) (h8 : ∀ j, j < 20 → w 8 j = 0) (h9 : ∀ j, j < 20 → w 9 j = -1) (h10 : ∀ j, j < 120 → w 10 j = -1) (h0 : w 0 12 = 0) : cw_nf (ho w) = cw_new := by
  obtain ⟨a1, a2, a02, a03, a3, a4, a5, a6, a7⟩ := h
  have e0 : cw_x (ho w 205) = 0 := by rw [ho_j12, h0]; rfl
  funext p
  by_cases hp : p < 242 ∧ ¬ (206 ≤ p ∧ p < 230)
  · have hq : cw_nf (ho w) p = ho w p := by unfold cw_nf; rw [e0, if_pos hp]
    rw [hq]
    have key := ho_places (fun k => (206 ≤ k ∧ k < 230) ∨ ho w k = cw_new k) (Or.inr (by rw [ho_j3, a03]; rfl)) (fun j hj => Or.inr (by rw [ho_i3 w hj, a3 j hj]; unfold cw_new; rw [if_neg (by omega), if_neg (by omega), if_neg (by omega), if_neg (by omega), if_neg (by omega)])) (fun j hj => Or.inr (by rw [ho_i4 w hj, a4 j hj]; unfold cw_new; rw [if_neg (by omega), if_neg (by omega), if_neg (by omega), if_neg (by omega), if_neg (by omega)])) (fun j hj => Or.inr (by rw [ho_i5 w hj, a5 j hj]; unfold cw_new; rw [if_neg (by omega), if_neg (by omega), if_neg (by omega), if_neg (by omega), if_neg (by omega)])) (fun j hj => Or.inr (by rw [ho_i6 w hj, a6 j hj]; unfold cw_new; rw [if_neg (by omega), if_neg (by omega), if_neg (by omega), if_neg (by omega), if_neg (by omega)]))
      (fun j hj => Or.inr (by rw [ho_i7 w hj, a7 j hj]; unfold cw_new; rw [if_pos (by omega), if_pos (by omega)])) (fun j hj => Or.inr (by rw [ho_i8 w hj, h8 j hj]; unfold cw_new; rw [if_pos (by omega), if_neg (by omega), if_pos (by omega)])) (fun j hj => Or.inr (by rw [ho_i9 w hj, h9 j hj]; unfold cw_new; rw [if_pos (by omega), if_neg (by omega), if_neg (by omega)])) (fun j hj => Or.inr (by rw [ho_i10 w hj, h10 j hj]; unfold cw_new; rw [if_neg (by omega), if_pos (by omega)])) (Or.inr (by rw [ho_j12, h0]; rfl))
      (fun j hj => Or.inl (by omega)) (fun j hj => Or.inl (by omega)) (fun j hj => Or.inl (by omega)) (Or.inr (by rw [ho_j2, a02]; rfl)) (fun j hj => Or.inr (by
        rw [ho_i1 w hj, a1 j hj]; have h3 : j = 0 ∨ j = 1 ∨ j = 2 := by omega
        rcases h3 with rfl | rfl | rfl <;> rfl)) (fun j hj => Or.inr (by rw [ho_i2 w hj, a2 j hj]; unfold cw_new; rw [if_neg (by omega), if_neg (by omega), if_neg (by omega), if_neg (by omega), if_neg (by omega)])) p hp.1
    exact key.elim (fun z => absurd z hp.2) id
  · have hq : cw_nf (ho w) p = 0 := by unfold cw_nf; rw [e0, if_neg hp]
    rw [hq]
    unfold cw_new
    rw [if_neg (by omega), if_neg (by omega), if_neg (by omega), if_neg (by omega), if_neg (by omega)]

set_option maxHeartbeats 8000000 in
set_option maxRecDepth 100000 in
theorem ok_X1_clear : gw_Ok yX1_clear cX1_clear 2 none sH 2 [.ref 0] (fun _ => True) (fun _ vr w1 => vr = none ∧ cw_nf (ho w1) = cw_new) := by
  refine gw_of (by decide) (Nat.le_of_ble_eq_true rfl) ?_
  intro X w h C F
  refine g_statcopy C rfl (by decide) ?_
  refine g_aload_n C rfl dX1_clear_13 ?_
  refine g_getr C fl_X1_15 rfl rfl dX1_clear_14 ?_
  refine g_iconst (v := 0) C (by decide) dX1_clear_17 ?_
  refine g_fill C (q := 2) (len := 8) rfl (by decide) (by decide) ⟨Nat.le_refl _, Nat.le_refl _⟩ (Nat.le_of_ble_eq_true rfl) si_X1_64 dX1_clear_18 ?_
  refine g_aload_n C rfl dX1_clear_21 ?_
  refine g_iconst (v := 0) C (by decide) dX1_clear_22 ?_
  refine g_putf C fl_X1_70 fp_1_2 rfl rfl (rfl) (rfl) dX1_clear_23 ?_
  refine g_aload_n C rfl dX1_clear_26 ?_
  refine g_iconst (v := 0) C (by decide) dX1_clear_27 ?_
  refine g_putf C fl_X1_74 fp_1_3 rfl rfl (rfl) (rfl) dX1_clear_28 ?_
  refine g_aload_n C rfl dX1_clear_31 ?_
  refine g_getr C fl_X1_18 rfl rfl dX1_clear_32 ?_
  refine g_iconst (v := 0) C (by decide) dX1_clear_35 ?_
  refine g_fill C (q := 3) (len := 6) rfl (by decide) (by decide) ⟨Nat.le_refl _, Nat.le_refl _⟩ (Nat.le_of_ble_eq_true rfl) si_X1_64 dX1_clear_36 ?_
  refine g_aload_n C rfl dX1_clear_39 ?_
  refine g_getr C fl_X1_21 rfl rfl dX1_clear_40 ?_
  refine g_iconst (v := 0) C (by decide) dX1_clear_43 ?_
  refine g_fill C (q := 4) (len := 6) rfl (by decide) (by decide) ⟨Nat.le_refl _, Nat.le_refl _⟩ (Nat.le_of_ble_eq_true rfl) si_X1_64 dX1_clear_44 ?_
  refine g_aload_n C rfl dX1_clear_47 ?_
  refine g_getr C fl_X1_24 rfl rfl dX1_clear_48 ?_
  refine g_iconst (v := 0) C (by decide) dX1_clear_51 ?_
  refine g_fill C (q := 5) (len := 6) rfl (by decide) (by decide) ⟨Nat.le_refl _, Nat.le_refl _⟩ (Nat.le_of_ble_eq_true rfl) si_X1_64 dX1_clear_52 ?_
  refine g_aload_n C rfl dX1_clear_55 ?_
  refine g_getr C fl_X1_27 rfl rfl dX1_clear_56 ?_
  refine g_iconst (v := 0) C (by decide) dX1_clear_59 ?_
  refine g_fill C (q := 6) (len := 6) rfl (by decide) (by decide) ⟨Nat.le_refl _, Nat.le_refl _⟩ (Nat.le_of_ble_eq_true rfl) si_X1_64 dX1_clear_60 ?_
  refine g_aload_n C rfl dX1_clear_63 ?_
  refine g_getr C fl_X1_30 rfl rfl dX1_clear_64 ?_
  refine g_iconst (v := 3) C (by decide) dX1_clear_67 ?_
  refine g_fill C (q := 7) (len := 20) rfl (by decide) (by decide) ⟨Nat.le_refl _, Nat.le_refl _⟩ (Nat.le_of_ble_eq_true rfl) si_X1_64 dX1_clear_68 ?_
  refine g_genP (P := cw_cl1) ⟨fun j hj => by simp [cw_put, gw_set, cw_fill, va_cpy, *], fun j hj => by simp [cw_put, gw_set, cw_fill, va_cpy, *], by simp [cw_put, gw_set, cw_fill, va_cpy, *], by simp [cw_put, gw_set, cw_fill, va_cpy, *], fun j hj => by simp [cw_put, gw_set, cw_fill, va_cpy, *], fun j hj => by simp [cw_put, gw_set, cw_fill, va_cpy, *], fun j hj => by simp [cw_put, gw_set, cw_fill, va_cpy, *], fun j hj => by simp [cw_put, gw_set, cw_fill, va_cpy, *], fun j hj => by simp [cw_put, gw_set, cw_fill, va_cpy, *]⟩ (fun w5 h5 => ?_)
  refine g_iconst (v := 0) C (by decide) dX1_clear_71 ?_
  refine g_istore_n C (by decide) dX1_clear_72 ?_
  refine g_sub rfl (g_for (α := Unit) 20 (fun i1 x1 => [(0, .ref 0), (1, .int (nI i1))]) (fun i1 x1 w1 => cw_cl1 w1 ∧ ∀ j, j < i1 → w1 8 j = 0) 0 () _ (Nat.zero_le _) (⟨h5, fun j hj => absurd hj (Nat.not_lt_zero j)⟩) (fun i1 x1 w1 hi1 hR1 ih1 => ?_) (fun x1 w1 hR1 => ?_))
  · obtain ⟨ha1, hb1⟩ := hR1
    refine g_iload_n C rfl dX1_clear_73 ?_
    refine g_bipush (v := 20) C (by decide) dX1_clear_74 ?_
    refine g_cmp_ge (tgt := 92) C (by decide) dX1_clear_76 (fun c_76 => absurd c_76 (nI_ge hi1 (by decide))) (fun c_76 => ?_)
    refine g_aload_n C rfl dX1_clear_79 ?_
    refine g_getr C fl_X1_33 rfl rfl dX1_clear_80 ?_
    refine g_iload_n C rfl dX1_clear_83 ?_
    refine g_iconst (v := 0) C (by decide) dX1_clear_84 ?_
    refine g_zast C rfl (by first | rfl | assumption | (simp only [nI_add, pk_mul, *]; done)) (by first | assumption | omega) (by decide) (rfl) dX1_clear_85 ?_
    refine g_iinc (v := nI (i1 + 1)) C rfl (nI_1 i1) (by decide) dX1_clear_86 ?_
    refine g_goto (tgt := 73) C (by decide) dX1_clear_89 ?_
    exact g_sub rfl (ih1 () _ ⟨⟨fun j hj => by rw [gw_set_ne _ _ _ _ (by decide)]; exact ha1.1 j hj, fun j hj => by rw [gw_set_ne _ _ _ _ (by decide)]; exact ha1.2.1 j hj, by rw [gw_set_ne _ _ _ _ (by decide)]; exact ha1.2.2.1, by rw [gw_set_ne _ _ _ _ (by decide)]; exact ha1.2.2.2.1, fun j hj => by rw [gw_set_ne _ _ _ _ (by decide)]; exact ha1.2.2.2.2.1 j hj, fun j hj => by rw [gw_set_ne _ _ _ _ (by decide)]; exact ha1.2.2.2.2.2.1 j hj, fun j hj => by rw [gw_set_ne _ _ _ _ (by decide)]; exact ha1.2.2.2.2.2.2.1 j hj, fun j hj => by rw [gw_set_ne _ _ _ _ (by decide)]; exact ha1.2.2.2.2.2.2.2.1 j hj, fun j hj => by rw [gw_set_ne _ _ _ _ (by decide)]; exact ha1.2.2.2.2.2.2.2.2 j hj⟩, fun j hj => by
      rw [gw_set_self]; unfold upd
      split
      · rfl
      · exact hb1 j (by omega)⟩)
  obtain ⟨ha1, hb1⟩ := hR1
  refine g_iload_n C rfl dX1_clear_73 ?_
  refine g_bipush (v := 20) C (by decide) dX1_clear_74 ?_
  refine g_cmp_ge (tgt := 92) C (by decide) dX1_clear_76 (fun c_76 => ?_) (fun c_76 => absurd (by decide) c_76)
  refine g_aload_n C rfl dX1_clear_92 ?_
  refine g_getr C fl_X1_37 rfl rfl dX1_clear_93 ?_
  refine g_iconst (v := (-1)) C (by decide) dX1_clear_96 ?_
  refine g_fill C (q := 9) (len := 20) rfl (by decide) (by decide) ⟨Nat.le_refl _, Nat.le_refl _⟩ (Nat.le_of_ble_eq_true rfl) si_X1_64 dX1_clear_97 ?_
  refine g_aload_n C rfl dX1_clear_100 ?_
  refine g_getr C fl_X1_40 rfl rfl dX1_clear_101 ?_
  refine g_iconst (v := (-1)) C (by decide) dX1_clear_104 ?_
  refine g_fill C (q := 10) (len := 120) rfl (by decide) (by decide) ⟨Nat.le_refl _, Nat.le_refl _⟩ (Nat.le_of_ble_eq_true rfl) si_X1_64 dX1_clear_105 ?_
  refine g_aload_n C rfl dX1_clear_108 ?_
  refine g_iconst (v := 0) C (by decide) dX1_clear_109 ?_
  refine g_putf C fl_X1_77 fp_1_12 rfl rfl (rfl) (rfl) dX1_clear_110 ?_
  refine g_vret C F dX1_clear_113 ?_
  refine ⟨rfl, cw_cl_new (w := gw_set (cw_put (cw_put w1 9 (cw_fill 20 (-1) (w1 9))) 10 (cw_fill 120 (-1) (w1 10))) 0 12 0) ⟨fun j hj => ?_, fun j hj => ?_, ?_, ?_, fun j hj => ?_, fun j hj => ?_, fun j hj => ?_, fun j hj => ?_, fun j hj => ?_⟩ (fun j hj => ?_) (fun j hj => ?_) (fun j hj => ?_) ?_⟩
  all_goals obtain ⟨a1, a2, a02, a03, a3, a4, a5, a6, a7⟩ := ha1
  all_goals simp [cw_put, gw_set, cw_fill, *]
