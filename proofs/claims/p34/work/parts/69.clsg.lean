def cw_lb (x : Int64) (S : Nat) : Prop := x.toBitVec.getLsbD S = true
theorem cw_shr64 : ∀ S : Fin 64, ((nI S.val).toInt64.toUInt64 &&& Int64.toUInt64 63) = UInt64.ofNat S.val := by decide +kernel
theorem cw_cmp0 (x y : Int64) : lg_cmp x y = 0 ↔ x = y := by
  unfold lg_cmp
  by_cases h : x > y
  · rw [if_pos h]
    constructor
    · intro q; exact absurd q (by decide)
    · intro q; rw [q] at h; exact absurd h (Int64.lt_irrefl)
  · rw [if_neg h]
    by_cases q : x = y
    · rw [if_pos q]; exact ⟨fun _ => q, fun _ => rfl⟩
    · rw [if_neg q]; exact ⟨fun z => absurd z (by decide), fun z => absurd z q⟩
theorem cw_lb_test (x : Int64) {S : Nat} (hS : S < 64) : lg_cmp ((x.toUInt64 >>> ((nI S).toInt64.toUInt64 &&& Int64.toUInt64 63)).toInt64 &&& 1) 0 = 0 ↔ ¬ cw_lb x S := by
  rw [cw_cmp0, cw_shr64 ⟨S, hS⟩]
  unfold cw_lb
  rw [← Int64.toBitVec_inj]
  have e : ((x.toUInt64 >>> UInt64.ofNat S).toInt64 &&& 1).toBitVec = (x.toBitVec >>> S) &&& 1#64 := by
    show (x.toBitVec >>> ((BitVec.ofNat 64 S) % 64#64)) &&& 1#64 = _
    congr 1
    apply BitVec.eq_of_toNat_eq
    simp [BitVec.toNat_ushiftRight, Nat.mod_eq_of_lt hS, Nat.mod_eq_of_lt (show S < 18446744073709551616 by omega)]
  rw [e]
  show (x.toBitVec >>> S) &&& 1#64 = 0#64 ↔ _
  constructor
  · intro q z
    have w := congrArg (fun b => b.getLsbD 0) q
    simp [z] at w
  · intro z
    apply BitVec.eq_of_getLsbD_eq
    intro i hi
    cases i with
    | zero => simp; simpa using z
    | succ i => simp
theorem cw_shl64 : ∀ T : Fin 64, ((1 : Int64) <<< ((nI T.val).toInt64 &&& 63)).toBitVec = 1#64 <<< T.val := by decide +kernel
theorem cw_lb_set (x : Int64) {T S : Nat} (hT : T < 64) (hS : S < 64) : cw_lb (x ||| ((1 : Int64) <<< ((nI T).toInt64 &&& 63))) S ↔ cw_lb x S ∨ S = T := by
  unfold cw_lb
  have e : (x ||| ((1 : Int64) <<< ((nI T).toInt64 &&& 63))).toBitVec = x.toBitVec ||| (1#64 <<< T) := by
    show x.toBitVec ||| ((1 : Int64) <<< ((nI T).toInt64 &&& 63)).toBitVec = _
    rw [cw_shl64 ⟨T, hT⟩]
  have f : (1#64 <<< T).getLsbD S = decide (S = T) := by
    rw [BitVec.getLsbD_shiftLeft]
    by_cases q : S = T
    · subst q; simp [hS]
    · by_cases r : S < T
      · simp [q, r]
      · simp [q, r, hS]
        omega
  rw [e, BitVec.getLsbD_or, f]
  simp
theorem cw_lb0 (S : Nat) : ¬ cw_lb 0 S := by
  unfold cw_lb
  simp
theorem cw_lb1 (S : Nat) : cw_lb 1 S ↔ S = 0 := by
  unfold cw_lb
  show (1#64).getLsbD S = true ↔ _
  simp
theorem cw_lb_or (x y : Int64) (S : Nat) : cw_lb (x ||| y) S ↔ cw_lb x S ∨ cw_lb y S := by
  unfold cw_lb
  show (x.toBitVec ||| y.toBitVec).getLsbD S = true ↔ _
  simp
theorem cw_tb6 : ∀ S : Fin 64, ∀ j : Fin 6, (nI S.val ||| ((1 : Int32) <<< (nI j.val &&& 31))) = nI (S.val ||| 2 ^ j.val) ∧ (S.val ||| 2 ^ j.val) < 64 := by decide +kernel
theorem cw_tb7 : ∀ S : Fin 64, ∀ j : Fin 6, (S.val.testBit j.val = true → S.val ||| 2 ^ j.val = S.val) ∧ (S.val.testBit j.val = false → S.val ||| 2 ^ j.val = S.val + 2 ^ j.val) := by decide +kernel

def cw_grw (t : cw_s) (k : Nat) (x : Int64) (n : Nat) (T : Nat) : Prop := ∃ o, o < n ∧ (o < cw_no t ∧ cw_hind t o k = 0) ∧ ∃ S, S < 64 ∧ cw_lb x S ∧ T = S ||| 2 ^ o
theorem cw_frr {n m : Nat} {t : cw_s} (hI : cw_I n m t) {o k : Nat} (ho : o < 6) (hk : k < 20) : cw_if (cw_th t (nI o) (nI k)) (cw_hind t (cw_x (nI o)) (cw_x (nI k))) (-2) = 0 ↔ o < cw_no t ∧ cw_hind t o k = 0 := by
  have h6 := hI.m.2
  rw [cw_xn (by omega), cw_xn (by omega)]
  by_cases q : cw_th t (nI o) (nI k)
  · obtain ⟨h1, -, -, -⟩ := cw_thx hI q
    rw [cw_xn (by omega)] at h1
    rw [cw_it q]
    exact ⟨fun z => ⟨h1, z⟩, fun z => z.2⟩
  · rw [cw_ie q]
    exact ⟨fun z => absurd z (by decide), fun z => absurd ⟨cw_isO_nI hI.m z.1, cw_isW_nI hk⟩ q⟩

set_option maxHeartbeats 8000000 in
set_option maxRecDepth 100000 in
theorem ok_X2_growSets {t : cw_s} (k : Nat) (hk : k < 20) (x : Int64) {n m : Nat} (hI : cw_I n m t) : gw_Ok yX2_growSets cX2_growSets 8 (some .long) sH 3 [.ref 0, .int (nI k), .long x] (fun w => ho w = t) (fun w vr w1 => ∃ y, vr = some (.long y) ∧ w1 = w ∧ ∀ T, T < 64 → (cw_lb y T ↔ cw_grw t k x 6 T)) := by
  refine gw_of (by decide) (Nat.le_of_ble_eq_true rfl) ?_
  intro X w h C F
  refine g_lconst (v := 0) C (by decide) dX2_growSets_0 ?_
  refine g_lstore C (by decide) dX2_growSets_1 ?_
  refine g_iconst (v := 0) C (by decide) dX2_growSets_3 ?_
  refine g_istore C (by decide) dX2_growSets_4 ?_
  refine g_sub rfl (g_for (α := Int64) 6 (fun o9 z => [(0, .ref 0), (1, .int (nI k)), (2, .long x), (4, .long z), (6, .int (nI o9))]) (fun o9 z w1 => (∀ T, T < 64 → (cw_lb z T ↔ cw_grw t k x o9 T)) ∧ w1 = w) 0 0 _ (Nat.zero_le _) (⟨fun T _ => ⟨fun q => absurd q (cw_lb0 T), fun ⟨o, a, _⟩ => absurd a (Nat.not_lt_zero _)⟩, rfl⟩) (fun o9 z w1 hi1 hR1 ih1 => ?_) (fun z w1 hR1 => ?_))
  · obtain ⟨hx1, hw1⟩ := hR1
    have hw1 := hw1.symm
    subst hw1
    refine g_iload C rfl dX2_growSets_6 ?_
    refine g_bipush (v := 6) C (by decide) dX2_growSets_8 ?_
    refine g_cmp_ge (tgt := 70) C (by decide) dX2_growSets_10 (fun c_10 => absurd c_10 (nI_ge hi1 (by decide))) (fun c_10 => ?_)
    refine g_aload_n C rfl dX2_growSets_13 ?_
    refine g_iload C rfl dX2_growSets_14 ?_
    refine g_iload_n C rfl dX2_growSets_16 ?_
    refine g_call C (ok_X1_reasonAgainst (nI o9) (nI k) hI) my_X1_reasonAgainst vi_X2_28 (by decide) ⟨Nat.le_refl _, Nat.le_refl _⟩ rfl rfl rfl (Nat.le_of_ble_eq_true rfl) dX2_growSets_17 rfl (h) (fun v_17 w_17 hp_17 => ?_)
    obtain ⟨rfl, hw_17⟩ := hp_17
    have hw_17 := hw_17.symm; subst hw_17
    refine g_if_ne (tgt := 64) C (by decide) dX2_growSets_20 (fun c_20 => ?_) (fun c_20 => ?_)
    · refine g_iinc (v := nI (o9 + 1)) C rfl (nI_1 o9) (by decide) dX2_growSets_64 ?_
      refine g_goto (tgt := 6) C (by decide) dX2_growSets_67 ?_
      exact g_sub rfl (ih1 _ _ ⟨fun T hT => by rw [hx1 T hT]; exact ⟨fun ⟨o, a, b⟩ => ⟨o, by omega, b⟩, fun ⟨o, a, b⟩ => ⟨o, by rcases Nat.lt_or_ge o o9 with q | q; exact q; rw [show o = o9 by omega] at b; exact absurd b.1 (fun z => c_20 ((cw_frr hI (by omega) hk).mpr z)), b⟩⟩, rfl⟩)
    · refine g_iconst (v := 0) C (by decide) dX2_growSets_23 ?_
      refine g_istore C (by decide) dX2_growSets_24 ?_
      refine g_sub rfl (g_for (α := Int64) 64 (fun s9 y => [(0, .ref 0), (1, .int (nI k)), (2, .long x), (4, .long y), (6, .int (nI o9)), (7, .int (nI s9))]) (fun s9 y w2 => (∀ T, T < 64 → (cw_lb y T ↔ cw_lb z T ∨ (∃ S, S < s9 ∧ cw_lb x S ∧ T = S ||| 2 ^ o9))) ∧ w2 = w) 0 z _ (Nat.zero_le _) (⟨fun T _ => ⟨Or.inl, fun q => q.elim id (fun ⟨S, a, _⟩ => absurd a (Nat.not_lt_zero _))⟩, rfl⟩) (fun s9 y w2 hi2 hR2 ih2 => ?_) (fun y w2 hR2 => ?_))
      · obtain ⟨hy2, hw2⟩ := hR2
        have hw2 := hw2.symm
        subst hw2
        refine g_iload C rfl dX2_growSets_26 ?_
        refine g_bipush (v := 64) C (by decide) dX2_growSets_28 ?_
        refine g_cmp_ge (tgt := 64) C (by decide) dX2_growSets_30 (fun c_30 => absurd c_30 (nI_ge hi2 (by decide))) (fun c_30 => ?_)
        refine g_lload_n C rfl dX2_growSets_33 ?_
        refine g_iload C rfl dX2_growSets_34 ?_
        refine g_lushr C dX2_growSets_36 ?_
        refine g_lconst (v := 1) C (by decide) dX2_growSets_37 ?_
        refine g_land C dX2_growSets_38 ?_
        refine g_lconst (v := 0) C (by decide) dX2_growSets_39 ?_
        refine g_lcmp C dX2_growSets_40 ?_
        refine g_if_eq (tgt := 58) C (by decide) dX2_growSets_41 (fun c_41 => ?_) (fun c_41 => ?_)
        · refine g_iinc (v := nI (s9 + 1)) C rfl (nI_1 s9) (by decide) dX2_growSets_58 ?_
          refine g_goto (tgt := 26) C (by decide) dX2_growSets_61 ?_
          exact g_sub rfl (ih2 _ _ ⟨fun T hT => by rw [hy2 T hT]; exact or_congr Iff.rfl ⟨fun ⟨S, a, b, d⟩ => ⟨S, by omega, b, d⟩, fun ⟨S, a, b, d⟩ => ⟨S, by rcases Nat.lt_or_ge S s9 with q | q; exact q; rw [show S = s9 by omega] at b; exact absurd b ((cw_lb_test x (by omega)).mp c_41), b, d⟩⟩, rfl⟩)
        · refine g_lload C rfl dX2_growSets_44 ?_
          refine g_lconst (v := 1) C (by decide) dX2_growSets_46 ?_
          refine g_iload C rfl dX2_growSets_47 ?_
          refine g_iconst (v := 1) C (by decide) dX2_growSets_49 ?_
          refine g_iload C rfl dX2_growSets_50 ?_
          refine g_ishl C dX2_growSets_52 ?_
          refine g_ior C dX2_growSets_53 ?_
          refine g_top (cw_tb6 ⟨s9, by omega⟩ ⟨o9, by omega⟩).1 ?_
          refine g_lshl C dX2_growSets_54 ?_
          refine g_lor C dX2_growSets_55 ?_
          refine g_lstore C (by decide) dX2_growSets_56 ?_
          refine g_iinc (v := nI (s9 + 1)) C rfl (nI_1 s9) (by decide) dX2_growSets_58 ?_
          refine g_goto (tgt := 26) C (by decide) dX2_growSets_61 ?_
          have hbit : cw_lb x s9 := Classical.byContradiction (fun q => c_41 ((cw_lb_test x (by omega)).mpr q))
          exact g_sub rfl (ih2 _ _ ⟨fun T hT => by
            rw [cw_lb_set _ (cw_tb6 ⟨s9, by omega⟩ ⟨o9, by omega⟩).2 hT, hy2 T hT]
            constructor
            · rintro ((q | ⟨S, a, b, d⟩) | q)
              · exact Or.inl q
              · exact Or.inr ⟨S, by omega, b, d⟩
              · exact Or.inr ⟨s9, by omega, hbit, q⟩
            · rintro (q | ⟨S, a, b, d⟩)
              · exact Or.inl (Or.inl q)
              · rcases Nat.lt_or_ge S s9 with z | z
                · exact Or.inl (Or.inr ⟨S, z, b, d⟩)
                · rw [show S = s9 by omega] at d; exact Or.inr d, rfl⟩)
      obtain ⟨hy2, hw2⟩ := hR2
      have hw2 := hw2.symm
      subst hw2
      refine g_iload C rfl dX2_growSets_26 ?_
      refine g_bipush (v := 64) C (by decide) dX2_growSets_28 ?_
      refine g_cmp_ge (tgt := 64) C (by decide) dX2_growSets_30 (fun c_30 => ?_) (fun c_30 => absurd (by decide) c_30)
      refine g_iinc (v := nI (o9 + 1)) C rfl (nI_1 o9) (by decide) dX2_growSets_64 ?_
      refine g_goto (tgt := 6) C (by decide) dX2_growSets_67 ?_
      have hfr := (cw_frr hI (by omega) hk).mp c_20
      exact g_sub rfl (ih1 _ _ ⟨fun T hT => by
        rw [hy2 T hT, hx1 T hT]
        constructor
        · rintro (⟨o, a, b⟩ | ⟨S, a, b, d⟩)
          · exact ⟨o, by omega, b⟩
          · exact ⟨o9, by omega, hfr, S, a, b, d⟩
        · rintro ⟨o, a, b, S, d1, d2, d3⟩
          rcases Nat.lt_or_ge o o9 with z | z
          · exact Or.inl ⟨o, z, b, S, d1, d2, d3⟩
          · rw [show o = o9 by omega] at d3; exact Or.inr ⟨S, d1, d2, d3⟩, rfl⟩)
  obtain ⟨hx1, hw1⟩ := hR1
  have hw1 := hw1.symm
  subst hw1
  refine g_iload C rfl dX2_growSets_6 ?_
  refine g_bipush (v := 6) C (by decide) dX2_growSets_8 ?_
  refine g_cmp_ge (tgt := 70) C (by decide) dX2_growSets_10 (fun c_10 => ?_) (fun c_10 => absurd (by decide) c_10)
  refine g_lload C rfl dX2_growSets_70 ?_
  refine g_lret C F dX2_growSets_72 ?_
  exact ⟨_, rfl, rfl, hx1⟩
