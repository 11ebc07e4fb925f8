def cw_K (tx : Nat → Int32) (len : Nat) (g : cw_sg) (c : Nat) (v : Int32) (w w1 : gw_M) : Prop := cw_TS tx len g w1 ∧ w1 0 5 = nI (c + 1) ∧ w1 1 = w 1 ∧ (∀ k, k ≠ c → w1 2 k = w 2 k) ∧ (g.1 = false → w1 2 c = v)
theorem cw_Kn {tx : Nat → Int32} {len : Nat} {g g2 : cw_sg} {c : Nat} {v v2 : Int32} {w w1 : gw_M} (a : cw_TS tx len g w1) (b : w1 0 5 = nI (c + 1)) (d : w1 2 = upd (w 2) c v) (e : w1 1 = w 1) (hg : g = g2) (hv : g2.1 = false → v = v2) : cw_K tx len g2 c v2 w w1 := by
  subst hg
  exact ⟨a, b, e, fun k hk => by rw [d, cw_upn _ _ hk], fun z => by rw [d, cw_ups, hv z]⟩
theorem cw_sign_1 {tx : Nat → Int32} {len : Nat} {g : cw_sg} (hg : g.1 = false) (h : cw_sgn tx len g.2 = 43) : cw_plus tx len g ∧ cw_sign tx len g = (false, g.2 + 1) := by
  have hp : g.2 < len := Classical.byContradiction (fun q => by rw [cw_sgn, cw_ie q] at h; exact absurd h (by decide))
  rw [cw_sgn, cw_it hp] at h
  refine ⟨⟨hp, h⟩, ?_⟩
  unfold cw_sign cw_take
  rw [cw_it ⟨hp, h⟩, cw_it ⟨hg, hp, by rw [h]; decide, by rw [h]; decide⟩]
theorem cw_sign_2 {tx : Nat → Int32} {len : Nat} {g : cw_sg} (hg : g.1 = false) (h : cw_sgn tx len g.2 = 45) : ¬ cw_plus tx len g ∧ cw_sign tx len g = (false, g.2 + 1) := by
  have hp : g.2 < len := Classical.byContradiction (fun q => by rw [cw_sgn, cw_ie q] at h; exact absurd h (by decide))
  rw [cw_sgn, cw_it hp] at h
  have hn : ¬ cw_plus tx len g := fun q => by rw [q.2] at h; exact absurd h (by decide)
  refine ⟨hn, ?_⟩
  unfold cw_sign cw_take
  rw [cw_ie hn, cw_it ⟨hg, hp, by rw [h]; decide, by rw [h]; decide⟩]
theorem cw_sign_3 {tx : Nat → Int32} {len : Nat} {g : cw_sg} (h1 : ¬ cw_sgn tx len g.2 = 43) (h2 : ¬ cw_sgn tx len g.2 = 45) : cw_sign tx len g = (true, g.2) := by
  have hn : ¬ cw_plus tx len g := fun q => h1 (by rw [cw_sgn, cw_it q.1, q.2])
  unfold cw_sign cw_take
  rw [cw_ie hn, cw_ie (fun q => h2 ?_)]
  rw [cw_sgn, cw_it q.2.1]
  have z1 := cw_le.mp q.2.2.1
  have z2 := cw_le.mp q.2.2.2
  apply Int32.toInt_inj.mp
  omega
theorem cw_sign_w {tx : Nat → Int32} {len : Nat} {g : cw_sg} (hg : ¬ g.1 = false) : cw_sign tx len g = g := by
  obtain ⟨gw, p⟩ := g
  cases gw with
  | false => exact absurd rfl hg
  | true =>
    unfold cw_sign
    rw [cw_take_w, cw_take_w]
    by_cases q : cw_plus tx len (true, p)
    · rw [cw_it q]
    · rw [cw_ie q]

set_option maxHeartbeats 8000000 in
set_option maxRecDepth 100000 in
theorem ok_X5_readOwner {tx : Nat → Int32} {len : Nat} (hx : cw_ch tx len) (g : cw_sg) (c : Nat) (hc : c < 3) : gw_Ok yX5_readOwner cX5_readOwner 1 none sT 3 [.ref 0] (fun w => cw_TS tx len g w ∧ w 0 5 = nI c) (fun w vr w1 => vr = none ∧ cw_K tx len ((cw_take tx len 48 53 g).2) c ((cw_take tx len 48 53 g).1) w w1) := by
  refine gw_of (by decide) (Nat.le_of_ble_eq_true rfl) ?_
  intro X w h C F
  refine g_aload_n C rfl dX5_readOwner_0 ?_
  refine g_iconst (v := 1) C (by decide) dX5_readOwner_1 ?_
  refine g_iconst (v := 0) C (by decide) dX5_readOwner_2 ?_
  refine g_iconst (v := 5) C (by decide) dX5_readOwner_3 ?_
  refine g_call C (ok_X5_readNumber (tx := tx) (len := len) 1 (by decide) 0 5 g c hc) my_X5_readNumber vi_X5_66 (by decide) ⟨Nat.le_refl _, Nat.le_refl _⟩ rfl rfl rfl (Nat.le_of_ble_eq_true rfl) dX5_readOwner_4 rfl (h) (fun v_4 w_4 hp_4 => ?_)
  obtain ⟨rfl, hts4, h54, h24, h14⟩ := hp_4
  refine g_vret C F dX5_readOwner_7 ?_
  exact ⟨rfl, cw_Kn hts4 h54 h24 h14 (cw_num1 hx g (a := 0) (b := 5) (by decide) (by decide)).1 (fun z => ((cw_num1 hx g (a := 0) (b := 5) (by decide) (by decide)).2 z).trans (Int32.zero_add _))⟩

set_option maxHeartbeats 8000000 in
set_option maxRecDepth 100000 in
theorem ok_X5_readWeek {tx : Nat → Int32} {len : Nat} (hx : cw_ch tx len) (g : cw_sg) (c : Nat) (hc : c < 3) : gw_Ok yX5_readWeek cX5_readWeek 1 none sT 3 [.ref 0] (fun w => cw_TS tx len g w ∧ w 0 5 = nI c) (fun w vr w1 => vr = none ∧ cw_K tx len ((cw_week tx len g).2) c ((cw_week tx len g).1) w w1) := by
  refine gw_of (by decide) (Nat.le_of_ble_eq_true rfl) ?_
  intro X w h C F
  refine g_aload_n C rfl dX5_readWeek_0 ?_
  refine g_iconst (v := 2) C (by decide) dX5_readWeek_1 ?_
  refine g_iconst (v := 0) C (by decide) dX5_readWeek_2 ?_
  refine g_bipush (v := 19) C (by decide) dX5_readWeek_3 ?_
  refine g_call C (ok_X5_readNumber (tx := tx) (len := len) 2 (by decide) 0 19 g c hc) my_X5_readNumber vi_X5_66 (by decide) ⟨Nat.le_refl _, Nat.le_refl _⟩ rfl rfl rfl (Nat.le_of_ble_eq_true rfl) dX5_readWeek_5 rfl (h) (fun v_5 w_5 hp_5 => ?_)
  obtain ⟨rfl, hts5, h55, h25, h15⟩ := hp_5
  refine g_vret C F dX5_readWeek_8 ?_
  exact ⟨rfl, cw_Kn hts5 h55 h25 h15 (cw_numW hx g).1 (cw_numW hx g).2⟩

set_option maxHeartbeats 8000000 in
set_option maxRecDepth 100000 in
theorem ok_X5_readPlusOrMinus {tx : Nat → Int32} {len : Nat} (hx : cw_ch tx len) (g : cw_sg) (c : Nat) (hc : c < 3) : gw_Ok yX5_readPlusOrMinus cX5_readPlusOrMinus 2 none sT 3 [.ref 0] (fun w => cw_TS tx len g w ∧ w 0 5 = nI c) (fun w vr w1 => vr = none ∧ cw_TS tx len (cw_sign tx len g) w1 ∧ w1 1 = w 1 ∧ (∀ k, k ≠ c → w1 2 k = w 2 k) ∧ ((cw_sign tx len g).1 = false → w1 2 c = cw_b (cw_plus tx len g))) := by
  refine gw_of (by decide) (Nat.le_of_ble_eq_true rfl) ?_
  intro X w h C F
  obtain ⟨hts, h5⟩ := h
  refine g_aload_n C rfl dX5_readPlusOrMinus_0 ?_
  refine g_getf C fl_X5_37 rfl rfl dX5_readPlusOrMinus_1 ?_
  refine g_top hts.2.2.1 ?_
  refine g_if_eq (tgt := 8) C (by decide) dX5_readPlusOrMinus_4 (fun c_4 => ?_) (fun c_4 => ?_)
  · have hgf := cw_bi0 c_4
    refine g_aload_n C rfl dX5_readPlusOrMinus_8 ?_
    refine g_call C (ok_X5_nextSign g.2) my_X5_nextSign vi_X5_48 (by decide) ⟨Nat.le_refl _, Nat.le_refl _⟩ rfl rfl rfl (Nat.le_of_ble_eq_true rfl) dX5_readPlusOrMinus_9 rfl (⟨hts.1, hts.2.1, hts.2.2.2⟩) (fun v_9 w_9 hp_9 => ?_)
    obtain ⟨rfl, hw_9⟩ := hp_9
    have hw_9 := hw_9.symm; subst hw_9
    refine g_istore_n C (by decide) dX5_readPlusOrMinus_12 ?_
    refine g_aload_n C rfl dX5_readPlusOrMinus_13 ?_
    refine g_iload_n C rfl dX5_readPlusOrMinus_14 ?_
    refine g_bipush (v := 43) C (by decide) dX5_readPlusOrMinus_15 ?_
    refine g_cmp_eq (tgt := 30) C (by decide) dX5_readPlusOrMinus_17 (fun c_17 => ?_) (fun c_17 => ?_)
    · obtain ⟨hpm, hs⟩ := cw_sign_1 hgf c_17
      have hpl : g.2 < len := Classical.byContradiction (fun q => by rw [cw_sgn, cw_ie q] at c_17; exact absurd c_17 (by decide))
      refine g_iconst (v := 0) C (by decide) dX5_readPlusOrMinus_30 ?_
      refine g_putf C fl_X5_37 fp_3_3 rfl rfl (rfl) (rfl) dX5_readPlusOrMinus_31 ?_
      refine g_aload_n C rfl dX5_readPlusOrMinus_34 ?_
      refine g_getf C fl_X5_37 rfl rfl dX5_readPlusOrMinus_35 ?_
      refine g_top (show _ = 0 by rw [gw_set_self, cw_ups]) ?_
      refine g_if_ne (tgt := 66) C (by decide) dX5_readPlusOrMinus_38 (fun c_38 => absurd c_38 (by decide)) (fun c_38 => ?_)
      refine g_aload_n C rfl dX5_readPlusOrMinus_41 ?_
      refine g_dup C rfl dX5_readPlusOrMinus_42 ?_
      refine g_getf C fl_X5_41 rfl rfl dX5_readPlusOrMinus_43 ?_
      refine g_top (show _ = nI g.2 by rw [gw_set_self, cw_upn _ _ (by decide)]; exact hts.2.1) ?_
      refine g_iconst (v := 1) C (by decide) dX5_readPlusOrMinus_46 ?_
      refine g_iadd C dX5_readPlusOrMinus_47 ?_
      refine g_top (nI_1 g.2) ?_
      refine g_putf C fl_X5_41 fp_3_2 rfl rfl (rfl) (rfl) dX5_readPlusOrMinus_48 ?_
      refine g_aload_n C rfl dX5_readPlusOrMinus_51 ?_
      refine g_iload_n C rfl dX5_readPlusOrMinus_52 ?_
      refine g_bipush (v := 43) C (by decide) dX5_readPlusOrMinus_53 ?_
      refine g_cmp_ne (tgt := 62) C (by decide) dX5_readPlusOrMinus_55 (fun c_55 => ?_) (fun c_55 => ?_)
      · refine g_iconst (v := 0) C (by decide) dX5_readPlusOrMinus_62 ?_
        refine g_call C (ok_X5_keepValue (tx := tx) (len := len) _ c hc) my_X5_keepValue vi_X5_79 (by decide) ⟨Nat.le_refl _, Nat.le_refl _⟩ rfl rfl rfl (Nat.le_of_ble_eq_true rfl) dX5_readPlusOrMinus_63 rfl (by rw [gw_set_self, cw_upn _ _ (by decide), gw_set_self, cw_upn _ _ (by decide)]; exact h5) (fun v_63 w_63 hp_63 => ?_)
        obtain ⟨rfl, hw63⟩ := hp_63
        refine g_vret C F dX5_readPlusOrMinus_66 ?_
        exact absurd c_17 c_55
      · refine g_iconst (v := 1) C (by decide) dX5_readPlusOrMinus_58 ?_
        refine g_goto (tgt := 63) C (by decide) dX5_readPlusOrMinus_59 ?_
        refine g_call C (ok_X5_keepValue (tx := tx) (len := len) _ c hc) my_X5_keepValue vi_X5_79 (by decide) ⟨Nat.le_refl _, Nat.le_refl _⟩ rfl rfl rfl (Nat.le_of_ble_eq_true rfl) dX5_readPlusOrMinus_63 rfl (by rw [gw_set_self, cw_upn _ _ (by decide), gw_set_self, cw_upn _ _ (by decide)]; exact h5) (fun v_63 w_63 hp_63 => ?_)
        obtain ⟨rfl, hw63⟩ := hp_63
        refine g_vret C F dX5_readPlusOrMinus_66 ?_
        refine ⟨rfl, ?_, ?_, fun k hk => ?_, fun _ => ?_⟩
        · rw [hs]; exact ⟨(hts.go hpl).1.cg (by rw [hw63, gw_set_ne _ _ _ _ (by decide), gw_set_ne _ _ _ _ (by decide)]) (by rw [hw63, gw_set_self, cw_upn _ _ (by decide), gw_set_ne _ _ _ _ (by decide)]), by rw [hw63, gw_set_self, cw_upn _ _ (by decide), gw_set_ne _ _ _ _ (by decide)]; exact (hts.go hpl).2.1, by rw [hw63, gw_set_self, cw_upn _ _ (by decide), gw_set_ne _ _ _ _ (by decide)]; exact (hts.go hpl).2.2.1, (hts.go hpl).2.2.2⟩
        · rw [hw63, gw_set_ne _ _ _ _ (by decide), gw_set_ne _ _ _ _ (by decide), gw_set_ne _ _ _ _ (by decide), gw_set_ne _ _ _ _ (by decide)]
        · rw [hw63, gw_set_ne _ _ _ _ (by decide), gw_set_self, cw_upn _ _ hk, gw_set_ne _ _ _ _ (by decide), gw_set_ne _ _ _ _ (by decide)]
        · rw [hw63, gw_set_ne _ _ _ _ (by decide), gw_set_self, cw_ups]; exact (cw_b1 hpm).symm
    · refine g_iload_n C rfl dX5_readPlusOrMinus_20 ?_
      refine g_bipush (v := 45) C (by decide) dX5_readPlusOrMinus_21 ?_
      refine g_cmp_eq (tgt := 30) C (by decide) dX5_readPlusOrMinus_23 (fun c_23 => ?_) (fun c_23 => ?_)
      · obtain ⟨hpm, hs⟩ := cw_sign_2 hgf c_23
        have hpl : g.2 < len := Classical.byContradiction (fun q => by rw [cw_sgn, cw_ie q] at c_23; exact absurd c_23 (by decide))
        refine g_iconst (v := 0) C (by decide) dX5_readPlusOrMinus_30 ?_
        refine g_putf C fl_X5_37 fp_3_3 rfl rfl (rfl) (rfl) dX5_readPlusOrMinus_31 ?_
        refine g_aload_n C rfl dX5_readPlusOrMinus_34 ?_
        refine g_getf C fl_X5_37 rfl rfl dX5_readPlusOrMinus_35 ?_
        refine g_top (show _ = 0 by rw [gw_set_self, cw_ups]) ?_
        refine g_if_ne (tgt := 66) C (by decide) dX5_readPlusOrMinus_38 (fun c_38 => absurd c_38 (by decide)) (fun c_38 => ?_)
        refine g_aload_n C rfl dX5_readPlusOrMinus_41 ?_
        refine g_dup C rfl dX5_readPlusOrMinus_42 ?_
        refine g_getf C fl_X5_41 rfl rfl dX5_readPlusOrMinus_43 ?_
        refine g_top (show _ = nI g.2 by rw [gw_set_self, cw_upn _ _ (by decide)]; exact hts.2.1) ?_
        refine g_iconst (v := 1) C (by decide) dX5_readPlusOrMinus_46 ?_
        refine g_iadd C dX5_readPlusOrMinus_47 ?_
        refine g_top (nI_1 g.2) ?_
        refine g_putf C fl_X5_41 fp_3_2 rfl rfl (rfl) (rfl) dX5_readPlusOrMinus_48 ?_
        refine g_aload_n C rfl dX5_readPlusOrMinus_51 ?_
        refine g_iload_n C rfl dX5_readPlusOrMinus_52 ?_
        refine g_bipush (v := 43) C (by decide) dX5_readPlusOrMinus_53 ?_
        refine g_cmp_ne (tgt := 62) C (by decide) dX5_readPlusOrMinus_55 (fun c_55 => ?_) (fun c_55 => ?_)
        · refine g_iconst (v := 0) C (by decide) dX5_readPlusOrMinus_62 ?_
          refine g_call C (ok_X5_keepValue (tx := tx) (len := len) _ c hc) my_X5_keepValue vi_X5_79 (by decide) ⟨Nat.le_refl _, Nat.le_refl _⟩ rfl rfl rfl (Nat.le_of_ble_eq_true rfl) dX5_readPlusOrMinus_63 rfl (by rw [gw_set_self, cw_upn _ _ (by decide), gw_set_self, cw_upn _ _ (by decide)]; exact h5) (fun v_63 w_63 hp_63 => ?_)
          obtain ⟨rfl, hw63⟩ := hp_63
          refine g_vret C F dX5_readPlusOrMinus_66 ?_
          refine ⟨rfl, ?_, ?_, fun k hk => ?_, fun _ => ?_⟩
          · rw [hs]; exact ⟨(hts.go hpl).1.cg (by rw [hw63, gw_set_ne _ _ _ _ (by decide), gw_set_ne _ _ _ _ (by decide)]) (by rw [hw63, gw_set_self, cw_upn _ _ (by decide), gw_set_ne _ _ _ _ (by decide)]), by rw [hw63, gw_set_self, cw_upn _ _ (by decide), gw_set_ne _ _ _ _ (by decide)]; exact (hts.go hpl).2.1, by rw [hw63, gw_set_self, cw_upn _ _ (by decide), gw_set_ne _ _ _ _ (by decide)]; exact (hts.go hpl).2.2.1, (hts.go hpl).2.2.2⟩
          · rw [hw63, gw_set_ne _ _ _ _ (by decide), gw_set_ne _ _ _ _ (by decide), gw_set_ne _ _ _ _ (by decide), gw_set_ne _ _ _ _ (by decide)]
          · rw [hw63, gw_set_ne _ _ _ _ (by decide), gw_set_self, cw_upn _ _ hk, gw_set_ne _ _ _ _ (by decide), gw_set_ne _ _ _ _ (by decide)]
          · rw [hw63, gw_set_ne _ _ _ _ (by decide), gw_set_self, cw_ups]; exact (cw_bf hpm).symm
        · refine g_iconst (v := 1) C (by decide) dX5_readPlusOrMinus_58 ?_
          refine g_goto (tgt := 63) C (by decide) dX5_readPlusOrMinus_59 ?_
          refine g_call C (ok_X5_keepValue (tx := tx) (len := len) _ c hc) my_X5_keepValue vi_X5_79 (by decide) ⟨Nat.le_refl _, Nat.le_refl _⟩ rfl rfl rfl (Nat.le_of_ble_eq_true rfl) dX5_readPlusOrMinus_63 rfl (by rw [gw_set_self, cw_upn _ _ (by decide), gw_set_self, cw_upn _ _ (by decide)]; exact h5) (fun v_63 w_63 hp_63 => ?_)
          obtain ⟨rfl, hw63⟩ := hp_63
          refine g_vret C F dX5_readPlusOrMinus_66 ?_
          exact absurd c_55 c_17
      · refine g_iconst (v := 1) C (by decide) dX5_readPlusOrMinus_26 ?_
        refine g_goto (tgt := 31) C (by decide) dX5_readPlusOrMinus_27 ?_
        refine g_putf C fl_X5_37 fp_3_3 rfl rfl (rfl) (rfl) dX5_readPlusOrMinus_31 ?_
        refine g_aload_n C rfl dX5_readPlusOrMinus_34 ?_
        refine g_getf C fl_X5_37 rfl rfl dX5_readPlusOrMinus_35 ?_
        refine g_top (show _ = 1 by rw [gw_set_self, cw_ups]) ?_
        refine g_if_ne (tgt := 66) C (by decide) dX5_readPlusOrMinus_38 (fun c_38 => ?_) (fun c_38 => absurd c_38 (by decide))
        refine g_vret C F dX5_readPlusOrMinus_66 ?_
        have hs := cw_sign_3 (g := g) c_17 c_23
        exact ⟨rfl, by rw [hs]; exact hts.wr, by rw [gw_set_ne _ _ _ _ (by decide)], fun k hk => by rw [gw_set_ne _ _ _ _ (by decide)], fun z => absurd (by rw [hs] at z; exact z) cw_tf⟩
  · refine g_vret C F dX5_readPlusOrMinus_7 ?_
    have hg : ¬ g.1 = false := fun q => c_4 (by rw [q]; rfl)
    exact ⟨rfl, by rw [cw_sign_w hg]; exact hts, rfl, fun _ _ => rfl, fun z => absurd (by rw [cw_sign_w hg] at z; exact z) hg⟩

