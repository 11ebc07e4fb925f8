set_option maxHeartbeats 8000000 in
set_option maxRecDepth 100000 in
theorem ok_X7_digits (a b d : Int32) (hb : ¬ b = 0) (hd : ¬ d = 0) : gw_Ok yX7_digits cX7_digits 3 (some .int) sM 1 [.int a, .int b, .int d] (fun _ => True) (fun w vr w1 => vr = some (.int (cw_md (a / b) d)) ∧ w1 = w) := by
  refine gw_of (by decide) (Nat.le_of_ble_eq_true rfl) ?_
  intro X w h C F
  refine g_iload_n C rfl dX7_digits_0 ?_
  refine g_iload_n C rfl dX7_digits_1 ?_
  refine g_idiv C (hb) dX7_digits_2 ?_
  refine g_iload_n C rfl dX7_digits_3 ?_
  refine g_irem C (hd) dX7_digits_4 ?_
  refine g_iret C F dX7_digits_5 ?_
  exact ⟨rfl, rfl⟩

set_option maxHeartbeats 8000000 in
set_option maxRecDepth 100000 in
theorem ok_X7_thrown : gw_Ok yX7_thrown cX7_thrown 1 (some .int) sM 1 [.ref 0] (fun _ => True) (fun w vr w1 => vr = some (.int (w 0 0)) ∧ w1 = w) := by
  refine gw_of (by decide) (Nat.le_of_ble_eq_true rfl) ?_
  intro X w h C F
  refine g_aload_n C rfl dX7_thrown_0 ?_
  refine g_getf C fl_X7_32 rfl rfl dX7_thrown_1 ?_
  refine g_iret C F dX7_thrown_4 ?_
  exact ⟨rfl, rfl⟩

set_option maxHeartbeats 8000000 in
set_option maxRecDepth 100000 in
theorem ok_X7_succeeds (g : Int32) (u : cw_s) {n m : Nat} (hI : cw_I n m u) (hB : cw_B n (m + 20)) : gw_Ok yX7_succeeds cX7_succeeds 2 (some .boolean) sM 7 [.ref 0, .int g] (fun w => cw_nf (w 1) = cw_nf u) (fun w vr w1 => vr = some (.int (cw_succ u g).1) ∧ cw_nf (w1 1) = cw_nf (cw_succ u g).2 ∧ (∀ q, q ≠ 0 → q ≠ 1 → w1 q = w q) ∧ ∀ k, (k < 9 ∨ 12 < k) → w1 0 k = w 0 k) := by
  refine gw_of (by decide) (Nat.le_of_ble_eq_true rfl) ?_
  intro X w h C F
  refine g_aload_n C rfl dX7_succeeds_0 ?_
  refine g_iload_n C rfl dX7_succeeds_1 ?_
  refine g_sipush (v := 10000) C (by decide) dX7_succeeds_2 ?_
  refine g_bipush (v := 10) C (by decide) dX7_succeeds_5 ?_
  refine g_callS C (ok_X7_digits _ _ _ (by decide) (by decide)) my_X7_digits si_X7_261 (by decide) ⟨Nat.le_refl _, Nat.le_refl _⟩ rfl (Nat.le_of_ble_eq_true rfl) dX7_succeeds_7 rfl (trivial) (fun v_7 w_7 hp_7 => ?_)
  obtain ⟨rfl, hw_7⟩ := hp_7
  have hw_7 := hw_7.symm; subst hw_7
  refine g_putf C fl_X7_113 fp_5_10 rfl rfl (rfl) (rfl) dX7_succeeds_10 ?_
  refine g_aload_n C rfl dX7_succeeds_13 ?_
  refine g_iload_n C rfl dX7_succeeds_14 ?_
  refine g_bipush (v := 100) C (by decide) dX7_succeeds_15 ?_
  refine g_bipush (v := 100) C (by decide) dX7_succeeds_17 ?_
  refine g_callS C (ok_X7_digits _ _ _ (by decide) (by decide)) my_X7_digits si_X7_261 (by decide) ⟨Nat.le_refl _, Nat.le_refl _⟩ rfl (Nat.le_of_ble_eq_true rfl) dX7_succeeds_19 rfl (trivial) (fun v_19 w_19 hp_19 => ?_)
  obtain ⟨rfl, hw_19⟩ := hp_19
  have hw_19 := hw_19.symm; subst hw_19
  refine g_putf C fl_X7_122 fp_5_11 rfl rfl (rfl) (rfl) dX7_succeeds_22 ?_
  refine g_aload_n C rfl dX7_succeeds_25 ?_
  refine g_iload_n C rfl dX7_succeeds_26 ?_
  refine g_iconst (v := 1) C (by decide) dX7_succeeds_27 ?_
  refine g_bipush (v := 100) C (by decide) dX7_succeeds_28 ?_
  refine g_callS C (ok_X7_digits _ _ _ (by decide) (by decide)) my_X7_digits si_X7_261 (by decide) ⟨Nat.le_refl _, Nat.le_refl _⟩ rfl (Nat.le_of_ble_eq_true rfl) dX7_succeeds_30 rfl (trivial) (fun v_30 w_30 hp_30 => ?_)
  obtain ⟨rfl, hw_30⟩ := hp_30
  have hw_30 := hw_30.symm; subst hw_30
  refine g_putf C fl_X7_131 fp_5_12 rfl rfl (rfl) (rfl) dX7_succeeds_33 ?_
  refine g_genP (P := fun v => (∀ q, q ≠ 0 → v q = w q) ∧ v 0 10 = cw_ga g ∧ v 0 11 = cw_gb g ∧ v 0 12 = cw_gc g ∧ ∀ k, (k < 9 ∨ 12 < k) → v 0 k = w 0 k) ⟨fun q hq => by rw [gw_set_ne _ _ _ _ hq, gw_set_ne _ _ _ _ hq, gw_set_ne _ _ _ _ hq], by simp [gw_set]; rfl, by simp [gw_set]; rfl, by simp [gw_set, cw_gc], fun k hk => by simp only [gw_set]; simp [show k ≠ 10 by omega, show k ≠ 11 by omega, show k ≠ 12 by omega]⟩ (fun w5 h5 => ?_)
  obtain ⟨b0, b10, b11, b12, bk⟩ := h5
  have e5 : cw_eq (w5 1) u := by show cw_nf _ = _; rw [b0 1 (by decide)]; exact h
  have hI5 := cw_I_cg hI e5
  refine g_iload_n C rfl dX7_succeeds_36 ?_
  refine g_ldc_w C kc_X7_264 dX7_succeeds_37 ?_
  refine g_idiv C (by decide) dX7_succeeds_40 ?_
  have hsw_41 : ((g / 100000).toInt < 1 ∨ 9 < (g / 100000).toInt) ∨ (g / 100000).toInt = 1 ∨ (g / 100000).toInt = 2 ∨ (g / 100000).toInt = 3 ∨ (g / 100000).toInt = 4 ∨ (g / 100000).toInt = 5 ∨ (g / 100000).toInt = 6 ∨ (g / 100000).toInt = 7 ∨ (g / 100000).toInt = 8 ∨ (g / 100000).toInt = 9 := by omega
  rcases hsw_41 with hsw_41 | hsw_41 | hsw_41 | hsw_41 | hsw_41 | hsw_41 | hsw_41 | hsw_41 | hsw_41 | hsw_41
  · refine g_tabOut (tgt := 382) C hsw_41 (by decide) dX7_succeeds_41 ?_
    refine g_iconst (v := 0) C (by decide) dX7_succeeds_382 ?_
    refine g_zret C F (rfl) dX7_succeeds_383 ?_
    have hd := cw_succ_no u g hsw_41
    exact ⟨by rw [hd], by rw [hd]; exact e5, fun q a b => (b0 q a), bk⟩
  · have hsx_41 : (g / 100000) = 1 := gw_toInt hsw_41
    refine g_tabIn (off := 51) (tgt := 92) C (by omega) (by omega) (by rw [hsw_41]; rfl) (by decide) dX7_succeeds_41 ?_
    refine g_aload_n C rfl dX7_succeeds_92 ?_
    refine g_bipush (v := 116) C (by decide) dX7_succeeds_93 ?_
    refine g_putf C fl_X7_110 fp_5_9 rfl rfl (rfl) (rfl) dX7_succeeds_95 ?_
    refine g_genP (P := fun v => (∀ q, q ≠ 0 → v q = w5 q) ∧ v 0 9 = 116 ∧ (∀ k, k ≠ 9 → v 0 k = w5 0 k)) ⟨fun q hq => gw_set_ne _ _ _ _ hq, by simp [gw_set], fun k hk => by rw [gw_set_self, cw_upn _ _ hk]⟩ (fun w6 h6 => ?_)
    obtain ⟨d0, d9, dk⟩ := h6
    have e6 : cw_eq (w6 1) u := by show cw_nf _ = _; rw [d0 1 (by decide)]; exact e5
    have hI6 := cw_I_cg hI e6
    have hcg := cw_does_cg hI hB e6 116 (cw_ga g) (cw_gb g) (cw_gc g) (fun q => absurd q (by decide))
    refine g_aload_n C rfl dX7_succeeds_98 ?_
    refine g_getf C fl_X7_131 rfl rfl dX7_succeeds_99 ?_
    refine g_top (show _ = cw_gc g from (dk 12 (by decide)).trans b12) ?_
    refine g_if_ne (tgt := 116) C (by decide) dX7_succeeds_102 (fun c_102 => ?_) (fun c_102 => ?_)
    · refine g_iconst (v := 0) C (by decide) dX7_succeeds_116 ?_
      refine g_zret C F (rfl) dX7_succeeds_117 ?_
      have hd := cw_succ_1 (u := u) hsx_41
      exact ⟨by rw [hd, cw_ie c_102], by rw [hd, cw_ie c_102]; exact e6, fun q a b => (d0 q a).trans (b0 q a), fun k hk => (dk k (by omega)).trans (bk k hk)⟩
    · refine g_aload_n C rfl dX7_succeeds_105 ?_
      refine g_call C (ok_X7_does 116 (cw_ga g) (cw_gb g) (cw_gc g) hI6 hB (fun q => absurd q (by decide))) my_X7_does vi_X7_202 (by decide) ⟨Nat.le_refl _, Nat.le_refl _⟩ rfl rfl rfl (Nat.le_of_ble_eq_true rfl) dX7_succeeds_106 rfl (⟨rfl, d9, (dk 10 (by decide)).trans b10, (dk 11 (by decide)).trans b11, (dk 12 (by decide)).trans b12⟩) (fun v_106 w_106 hp_106 => ?_)
      obtain ⟨rfl, s106, h106, hn106⟩ := hp_106
      refine g_top (show _ = (cw_dd u g 116).1 from hcg.1) ?_
      refine g_if_ne (tgt := 116) C (by decide) dX7_succeeds_109 (fun c_109 => ?_) (fun c_109 => ?_)
      · refine g_iconst (v := 0) C (by decide) dX7_succeeds_116 ?_
        refine g_zret C F (rfl) dX7_succeeds_117 ?_
        have hd := cw_succ_1 (u := u) hsx_41
        exact ⟨by rw [hd, cw_it c_102]; exact cw_q0 c_109, by rw [hd, cw_it c_102, cw_nf_nf]; rw [h106, cw_S1, hn106]; exact hcg.2, fun q a b => (hr_q h106 b).trans ((d0 q a).trans (b0 q a)), fun k hk => (hr_0 h106).trans ((dk k (by omega)).trans (bk k hk))⟩
      · refine g_iconst (v := 1) C (by decide) dX7_succeeds_112 ?_
        refine g_goto (tgt := 117) C (by decide) dX7_succeeds_113 ?_
        refine g_zret C F (rfl) dX7_succeeds_117 ?_
        have hd := cw_succ_1 (u := u) hsx_41
        exact ⟨by rw [hd, cw_it c_102]; exact cw_q1 c_109, by rw [hd, cw_it c_102, cw_nf_nf]; rw [h106, cw_S1, hn106]; exact hcg.2, fun q a b => (hr_q h106 b).trans ((d0 q a).trans (b0 q a)), fun k hk => (hr_0 h106).trans ((dk k (by omega)).trans (bk k hk))⟩
  · have hsx_41 : (g / 100000) = 2 := gw_toInt hsw_41
    refine g_tabIn (off := 77) (tgt := 118) C (by omega) (by omega) (by rw [hsw_41]; rfl) (by decide) dX7_succeeds_41 ?_
    refine g_aload_n C rfl dX7_succeeds_118 ?_
    refine g_bipush (v := 98) C (by decide) dX7_succeeds_119 ?_
    refine g_putf C fl_X7_110 fp_5_9 rfl rfl (rfl) (rfl) dX7_succeeds_121 ?_
    refine g_genP (P := fun v => (∀ q, q ≠ 0 → v q = w5 q) ∧ v 0 9 = 98 ∧ (∀ k, k ≠ 9 → v 0 k = w5 0 k)) ⟨fun q hq => gw_set_ne _ _ _ _ hq, by simp [gw_set], fun k hk => by rw [gw_set_self, cw_upn _ _ hk]⟩ (fun w6 h6 => ?_)
    obtain ⟨d0, d9, dk⟩ := h6
    have e6 : cw_eq (w6 1) u := by show cw_nf _ = _; rw [d0 1 (by decide)]; exact e5
    have hI6 := cw_I_cg hI e6
    have hcg := cw_does_cg hI hB e6 98 (cw_ga g) (cw_gb g) (cw_gc g) (fun q => absurd q (by decide))
    refine g_aload_n C rfl dX7_succeeds_124 ?_
    refine g_call C (ok_X7_does 98 (cw_ga g) (cw_gb g) (cw_gc g) hI6 hB (fun q => absurd q (by decide))) my_X7_does vi_X7_202 (by decide) ⟨Nat.le_refl _, Nat.le_refl _⟩ rfl rfl rfl (Nat.le_of_ble_eq_true rfl) dX7_succeeds_125 rfl (⟨rfl, d9, (dk 10 (by decide)).trans b10, (dk 11 (by decide)).trans b11, (dk 12 (by decide)).trans b12⟩) (fun v_125 w_125 hp_125 => ?_)
    obtain ⟨rfl, s125, h125, hn125⟩ := hp_125
    refine g_top (show _ = (cw_dd u g 98).1 from hcg.1) ?_
    refine g_bipush (v := (-9)) C (by decide) dX7_succeeds_128 ?_
    refine g_cmp_eq (tgt := 137) C (by decide) dX7_succeeds_130 (fun c_130 => ?_) (fun c_130 => ?_)
    · refine g_iconst (v := 0) C (by decide) dX7_succeeds_137 ?_
      refine g_zret C F (rfl) dX7_succeeds_138 ?_
      have hd := cw_succ_2 (u := u) hsx_41
      exact ⟨by rw [hd]; exact cw_q0 (fun q => q c_130), by rw [hd, cw_nf_nf]; rw [h125, cw_S1, hn125]; exact hcg.2, fun q a b => (hr_q h125 b).trans ((d0 q a).trans (b0 q a)), fun k hk => (hr_0 h125).trans ((dk k (by omega)).trans (bk k hk))⟩
    · refine g_iconst (v := 1) C (by decide) dX7_succeeds_133 ?_
      refine g_goto (tgt := 138) C (by decide) dX7_succeeds_134 ?_
      refine g_zret C F (rfl) dX7_succeeds_138 ?_
      have hd := cw_succ_2 (u := u) hsx_41
      exact ⟨by rw [hd]; exact cw_q1 c_130, by rw [hd, cw_nf_nf]; rw [h125, cw_S1, hn125]; exact hcg.2, fun q a b => (hr_q h125 b).trans ((d0 q a).trans (b0 q a)), fun k hk => (hr_0 h125).trans ((dk k (by omega)).trans (bk k hk))⟩
  · have hsx_41 : (g / 100000) = 3 := gw_toInt hsw_41
    refine g_tabIn (off := 98) (tgt := 139) C (by omega) (by omega) (by rw [hsw_41]; rfl) (by decide) dX7_succeeds_41 ?_
    refine g_aload_n C rfl dX7_succeeds_139 ?_
    refine g_getf C fl_X7_113 rfl rfl dX7_succeeds_140 ?_
    refine g_top (show _ = cw_ga g from b10) ?_
    refine g_if_ne (tgt := 177) C (by decide) dX7_succeeds_143 (fun c_143 => ?_) (fun c_143 => ?_)
    · refine g_iconst (v := 0) C (by decide) dX7_succeeds_177 ?_
      refine g_zret C F (rfl) dX7_succeeds_178 ?_
      have hd := cw_succ_3 (u := u) hsx_41
      exact ⟨by rw [hd, cw_ie (fun q => c_143 q.1)], by rw [hd, cw_ie (fun q => c_143 q.1)]; exact e5, fun q a b => (b0 q a), bk⟩
    · refine g_aload_n C rfl dX7_succeeds_146 ?_
      refine g_getf C fl_X7_122 rfl rfl dX7_succeeds_147 ?_
      refine g_top (show _ = cw_gb g from b11) ?_
      refine g_if_ne (tgt := 177) C (by decide) dX7_succeeds_150 (fun c_150 => ?_) (fun c_150 => ?_)
      · refine g_iconst (v := 0) C (by decide) dX7_succeeds_177 ?_
        refine g_zret C F (rfl) dX7_succeeds_178 ?_
        have hd := cw_succ_3 (u := u) hsx_41
        exact ⟨by rw [hd, cw_ie (fun q => c_150 q.2.1)], by rw [hd, cw_ie (fun q => c_150 q.2.1)]; exact e5, fun q a b => (b0 q a), bk⟩
      · refine g_aload_n C rfl dX7_succeeds_153 ?_
        refine g_getf C fl_X7_131 rfl rfl dX7_succeeds_154 ?_
        refine g_top (show _ = cw_gc g from b12) ?_
        refine g_bipush (v := 10) C (by decide) dX7_succeeds_157 ?_
        refine g_cmp_ge (tgt := 177) C (by decide) dX7_succeeds_159 (fun c_159 => ?_) (fun c_159 => ?_)
        · refine g_iconst (v := 0) C (by decide) dX7_succeeds_177 ?_
          refine g_zret C F (rfl) dX7_succeeds_178 ?_
          have hd := cw_succ_3 (u := u) hsx_41
          exact ⟨by rw [hd, cw_ie (fun q => absurd c_159 (Int32.not_le.mpr q.2.2))], by rw [hd, cw_ie (fun q => absurd c_159 (Int32.not_le.mpr q.2.2))]; exact e5, fun q a b => (b0 q a), bk⟩
        · refine g_aload_n C rfl dX7_succeeds_162 ?_
          refine g_call C (ok_X7_settles hI5 hB) my_X7_settles vi_X7_141 (by decide) ⟨Nat.le_refl _, Nat.le_refl _⟩ rfl rfl rfl (Nat.le_of_ble_eq_true rfl) dX7_succeeds_163 rfl (rfl) (fun v_163 w_163 hp_163 => ?_)
          obtain ⟨rfl, h_163⟩ := hp_163
          have h163 := h_163
          have hsc := cw_settles_cg hI hB e5
          refine g_top (show _ = (cw_settles u).1 from hsc.1) ?_
          refine g_aload_n C rfl dX7_succeeds_166 ?_
          refine g_getf C fl_X7_131 rfl rfl dX7_succeeds_167 ?_
          refine g_top (show _ = cw_gc g from (hr_0 h163).trans b12) ?_
          refine g_cmp_lt (tgt := 177) C (by decide) dX7_succeeds_170 (fun c_170 => ?_) (fun c_170 => ?_)
          · refine g_iconst (v := 0) C (by decide) dX7_succeeds_177 ?_
            refine g_zret C F (rfl) dX7_succeeds_178 ?_
            have hd := cw_succ_3 (u := u) hsx_41
            exact ⟨by rw [hd, cw_it (P := cw_ga g = 0 ∧ cw_gb g = 0 ∧ cw_gc g < 10) ⟨c_143, c_150, Int32.not_le.mp c_159⟩]; exact cw_q0 (fun q => q c_170), by rw [hd, cw_it (P := cw_ga g = 0 ∧ cw_gb g = 0 ∧ cw_gc g < 10) ⟨c_143, c_150, Int32.not_le.mp c_159⟩, cw_nf_nf]; rw [h163, cw_S1]; exact hsc.2, fun q a b => (hr_q h163 b).trans (b0 q a), fun k hk => (hr_0 h163).trans (bk k hk)⟩
          · refine g_iconst (v := 1) C (by decide) dX7_succeeds_173 ?_
            refine g_goto (tgt := 178) C (by decide) dX7_succeeds_174 ?_
            refine g_zret C F (rfl) dX7_succeeds_178 ?_
            have hd := cw_succ_3 (u := u) hsx_41
            exact ⟨by rw [hd, cw_it (P := cw_ga g = 0 ∧ cw_gb g = 0 ∧ cw_gc g < 10) ⟨c_143, c_150, Int32.not_le.mp c_159⟩]; exact cw_q1 c_170, by rw [hd, cw_it (P := cw_ga g = 0 ∧ cw_gb g = 0 ∧ cw_gc g < 10) ⟨c_143, c_150, Int32.not_le.mp c_159⟩, cw_nf_nf]; rw [h163, cw_S1]; exact hsc.2, fun q a b => (hr_q h163 b).trans (b0 q a), fun k hk => (hr_0 h163).trans (bk k hk)⟩
  · have hsx_41 : (g / 100000) = 4 := gw_toInt hsw_41
    refine g_tabIn (off := 138) (tgt := 179) C (by omega) (by omega) (by rw [hsw_41]; rfl) (by decide) dX7_succeeds_41 ?_
    refine g_aload_n C rfl dX7_succeeds_179 ?_
    refine g_bipush (v := 114) C (by decide) dX7_succeeds_180 ?_
    refine g_putf C fl_X7_110 fp_5_9 rfl rfl (rfl) (rfl) dX7_succeeds_182 ?_
    refine g_genP (P := fun v => (∀ q, q ≠ 0 → v q = w5 q) ∧ v 0 9 = 114 ∧ (∀ k, k ≠ 9 → v 0 k = w5 0 k)) ⟨fun q hq => gw_set_ne _ _ _ _ hq, by simp [gw_set], fun k hk => by rw [gw_set_self, cw_upn _ _ hk]⟩ (fun w6 h6 => ?_)
    obtain ⟨d0, d9, dk⟩ := h6
    have e6 : cw_eq (w6 1) u := by show cw_nf _ = _; rw [d0 1 (by decide)]; exact e5
    have hI6 := cw_I_cg hI e6
    have hcg := cw_does_cg hI hB e6 114 (cw_ga g) (cw_gb g) (cw_gc g) (fun q => absurd q (by decide))
    refine g_aload_n C rfl dX7_succeeds_185 ?_
    refine g_getf C fl_X7_131 rfl rfl dX7_succeeds_186 ?_
    refine g_top (show _ = cw_gc g from (dk 12 (by decide)).trans b12) ?_
    refine g_if_ne (tgt := 205) C (by decide) dX7_succeeds_189 (fun c_189 => ?_) (fun c_189 => ?_)
    · refine g_iconst (v := 0) C (by decide) dX7_succeeds_205 ?_
      refine g_zret C F (rfl) dX7_succeeds_206 ?_
      have hd := cw_succ_4 (u := u) hsx_41
      exact ⟨by rw [hd, cw_ie c_189], by rw [hd, cw_ie c_189]; exact e6, fun q a b => (d0 q a).trans (b0 q a), fun k hk => (dk k (by omega)).trans (bk k hk)⟩
    · refine g_aload_n C rfl dX7_succeeds_192 ?_
      refine g_call C (ok_X7_does 114 (cw_ga g) (cw_gb g) (cw_gc g) hI6 hB (fun q => absurd q (by decide))) my_X7_does vi_X7_202 (by decide) ⟨Nat.le_refl _, Nat.le_refl _⟩ rfl rfl rfl (Nat.le_of_ble_eq_true rfl) dX7_succeeds_193 rfl (⟨rfl, d9, (dk 10 (by decide)).trans b10, (dk 11 (by decide)).trans b11, (dk 12 (by decide)).trans b12⟩) (fun v_193 w_193 hp_193 => ?_)
      obtain ⟨rfl, s193, h193, hn193⟩ := hp_193
      refine g_top (show _ = (cw_dd u g 114).1 from hcg.1) ?_
      refine g_bipush (v := (-9)) C (by decide) dX7_succeeds_196 ?_
      refine g_cmp_eq (tgt := 205) C (by decide) dX7_succeeds_198 (fun c_198 => ?_) (fun c_198 => ?_)
      · refine g_iconst (v := 0) C (by decide) dX7_succeeds_205 ?_
        refine g_zret C F (rfl) dX7_succeeds_206 ?_
        have hd := cw_succ_4 (u := u) hsx_41
        exact ⟨by rw [hd, cw_it c_189]; exact cw_q0 (fun q => q c_198), by rw [hd, cw_it c_189, cw_nf_nf]; rw [h193, cw_S1, hn193]; exact hcg.2, fun q a b => (hr_q h193 b).trans ((d0 q a).trans (b0 q a)), fun k hk => (hr_0 h193).trans ((dk k (by omega)).trans (bk k hk))⟩
      · refine g_iconst (v := 1) C (by decide) dX7_succeeds_201 ?_
        refine g_goto (tgt := 206) C (by decide) dX7_succeeds_202 ?_
        refine g_zret C F (rfl) dX7_succeeds_206 ?_
        have hd := cw_succ_4 (u := u) hsx_41
        exact ⟨by rw [hd, cw_it c_189]; exact cw_q1 c_198, by rw [hd, cw_it c_189, cw_nf_nf]; rw [h193, cw_S1, hn193]; exact hcg.2, fun q a b => (hr_q h193 b).trans ((d0 q a).trans (b0 q a)), fun k hk => (hr_0 h193).trans ((dk k (by omega)).trans (bk k hk))⟩
  · have hsx_41 : (g / 100000) = 5 := gw_toInt hsw_41
    refine g_tabIn (off := 166) (tgt := 207) C (by omega) (by omega) (by rw [hsw_41]; rfl) (by decide) dX7_succeeds_41 ?_
    refine g_aload_n C rfl dX7_succeeds_207 ?_
    refine g_bipush (v := 102) C (by decide) dX7_succeeds_208 ?_
    refine g_putf C fl_X7_110 fp_5_9 rfl rfl (rfl) (rfl) dX7_succeeds_210 ?_
    refine g_genP (P := fun v => (∀ q, q ≠ 0 → v q = w5 q) ∧ v 0 9 = 102 ∧ (∀ k, k ≠ 9 → v 0 k = w5 0 k)) ⟨fun q hq => gw_set_ne _ _ _ _ hq, by simp [gw_set], fun k hk => by rw [gw_set_self, cw_upn _ _ hk]⟩ (fun w6 h6 => ?_)
    obtain ⟨d0, d9, dk⟩ := h6
    have e6 : cw_eq (w6 1) u := by show cw_nf _ = _; rw [d0 1 (by decide)]; exact e5
    have hI6 := cw_I_cg hI e6
    have hcg := cw_does_cg hI hB e6 102 (cw_ga g) (cw_gb g) (cw_gc g) (fun q => absurd q (by decide))
    refine g_aload_n C rfl dX7_succeeds_213 ?_
    refine g_call C (ok_X7_does 102 (cw_ga g) (cw_gb g) (cw_gc g) hI6 hB (fun q => absurd q (by decide))) my_X7_does vi_X7_202 (by decide) ⟨Nat.le_refl _, Nat.le_refl _⟩ rfl rfl rfl (Nat.le_of_ble_eq_true rfl) dX7_succeeds_214 rfl (⟨rfl, d9, (dk 10 (by decide)).trans b10, (dk 11 (by decide)).trans b11, (dk 12 (by decide)).trans b12⟩) (fun v_214 w_214 hp_214 => ?_)
    obtain ⟨rfl, s214, h214, hn214⟩ := hp_214
    refine g_top (show _ = (cw_dd u g 102).1 from hcg.1) ?_
    refine g_bipush (v := (-9)) C (by decide) dX7_succeeds_217 ?_
    refine g_cmp_eq (tgt := 226) C (by decide) dX7_succeeds_219 (fun c_219 => ?_) (fun c_219 => ?_)
    · refine g_iconst (v := 0) C (by decide) dX7_succeeds_226 ?_
      refine g_zret C F (rfl) dX7_succeeds_227 ?_
      have hd := cw_succ_5 (u := u) hsx_41
      exact ⟨by rw [hd]; exact cw_q0 (fun q => q c_219), by rw [hd, cw_nf_nf]; rw [h214, cw_S1, hn214]; exact hcg.2, fun q a b => (hr_q h214 b).trans ((d0 q a).trans (b0 q a)), fun k hk => (hr_0 h214).trans ((dk k (by omega)).trans (bk k hk))⟩
    · refine g_iconst (v := 1) C (by decide) dX7_succeeds_222 ?_
      refine g_goto (tgt := 227) C (by decide) dX7_succeeds_223 ?_
      refine g_zret C F (rfl) dX7_succeeds_227 ?_
      have hd := cw_succ_5 (u := u) hsx_41
      exact ⟨by rw [hd]; exact cw_q1 c_219, by rw [hd, cw_nf_nf]; rw [h214, cw_S1, hn214]; exact hcg.2, fun q a b => (hr_q h214 b).trans ((d0 q a).trans (b0 q a)), fun k hk => (hr_0 h214).trans ((dk k (by omega)).trans (bk k hk))⟩
  · have hsx_41 : (g / 100000) = 6 := gw_toInt hsw_41
    refine g_tabIn (off := 187) (tgt := 228) C (by omega) (by omega) (by rw [hsw_41]; rfl) (by decide) dX7_succeeds_41 ?_
    refine g_aload_n C rfl dX7_succeeds_228 ?_
    refine g_bipush (v := 97) C (by decide) dX7_succeeds_229 ?_
    refine g_putf C fl_X7_110 fp_5_9 rfl rfl (rfl) (rfl) dX7_succeeds_231 ?_
    refine g_genP (P := fun v => (∀ q, q ≠ 0 → v q = w5 q) ∧ v 0 9 = 97 ∧ (∀ k, k ≠ 9 → v 0 k = w5 0 k)) ⟨fun q hq => gw_set_ne _ _ _ _ hq, by simp [gw_set], fun k hk => by rw [gw_set_self, cw_upn _ _ hk]⟩ (fun w6 h6 => ?_)
    obtain ⟨d0, d9, dk⟩ := h6
    have e6 : cw_eq (w6 1) u := by show cw_nf _ = _; rw [d0 1 (by decide)]; exact e5
    have hI6 := cw_I_cg hI e6
    have hcg := cw_does_cg hI hB e6 97 (cw_ga g) (cw_gb g) (cw_gc g) (fun q => absurd q (by decide))
    refine g_aload_n C rfl dX7_succeeds_234 ?_
    refine g_getf C fl_X7_122 rfl rfl dX7_succeeds_235 ?_
    refine g_top (show _ = cw_gb g from (dk 11 (by decide)).trans b11) ?_
    refine g_if_ne (tgt := 260) C (by decide) dX7_succeeds_238 (fun c_238 => ?_) (fun c_238 => ?_)
    · refine g_iconst (v := 0) C (by decide) dX7_succeeds_260 ?_
      refine g_zret C F (rfl) dX7_succeeds_261 ?_
      have hd := cw_succ_6 (u := u) hsx_41
      exact ⟨by rw [hd, cw_ie (fun q => c_238 q.1)], by rw [hd, cw_ie (fun q => c_238 q.1)]; exact e6, fun q a b => (d0 q a).trans (b0 q a), fun k hk => (dk k (by omega)).trans (bk k hk)⟩
    · refine g_aload_n C rfl dX7_succeeds_241 ?_
      refine g_getf C fl_X7_131 rfl rfl dX7_succeeds_242 ?_
      refine g_top (show _ = cw_gc g from (dk 12 (by decide)).trans b12) ?_
      refine g_if_ne (tgt := 260) C (by decide) dX7_succeeds_245 (fun c_245 => ?_) (fun c_245 => ?_)
      · refine g_iconst (v := 0) C (by decide) dX7_succeeds_260 ?_
        refine g_zret C F (rfl) dX7_succeeds_261 ?_
        have hd := cw_succ_6 (u := u) hsx_41
        exact ⟨by rw [hd, cw_ie (fun q => c_245 q.2)], by rw [hd, cw_ie (fun q => c_245 q.2)]; exact e6, fun q a b => (d0 q a).trans (b0 q a), fun k hk => (dk k (by omega)).trans (bk k hk)⟩
      · refine g_aload_n C rfl dX7_succeeds_248 ?_
        refine g_call C (ok_X7_does 97 (cw_ga g) (cw_gb g) (cw_gc g) hI6 hB (fun q => absurd q (by decide))) my_X7_does vi_X7_202 (by decide) ⟨Nat.le_refl _, Nat.le_refl _⟩ rfl rfl rfl (Nat.le_of_ble_eq_true rfl) dX7_succeeds_249 rfl (⟨rfl, d9, (dk 10 (by decide)).trans b10, (dk 11 (by decide)).trans b11, (dk 12 (by decide)).trans b12⟩) (fun v_249 w_249 hp_249 => ?_)
        obtain ⟨rfl, s249, h249, hn249⟩ := hp_249
        refine g_top (show _ = (cw_dd u g 97).1 from hcg.1) ?_
        refine g_iconst (v := 1) C (by decide) dX7_succeeds_252 ?_
        refine g_cmp_ne (tgt := 260) C (by decide) dX7_succeeds_253 (fun c_253 => ?_) (fun c_253 => ?_)
        · refine g_iconst (v := 0) C (by decide) dX7_succeeds_260 ?_
          refine g_zret C F (rfl) dX7_succeeds_261 ?_
          have hd := cw_succ_6 (u := u) hsx_41
          exact ⟨by rw [hd, cw_it (P := cw_gb g = 0 ∧ cw_gc g = 0) ⟨c_238, c_245⟩]; exact cw_q0 c_253, by rw [hd, cw_it (P := cw_gb g = 0 ∧ cw_gc g = 0) ⟨c_238, c_245⟩, cw_nf_nf]; rw [h249, cw_S1, hn249]; exact hcg.2, fun q a b => (hr_q h249 b).trans ((d0 q a).trans (b0 q a)), fun k hk => (hr_0 h249).trans ((dk k (by omega)).trans (bk k hk))⟩
        · refine g_iconst (v := 1) C (by decide) dX7_succeeds_256 ?_
          refine g_goto (tgt := 261) C (by decide) dX7_succeeds_257 ?_
          refine g_zret C F (rfl) dX7_succeeds_261 ?_
          have hd := cw_succ_6 (u := u) hsx_41
          exact ⟨by rw [hd, cw_it (P := cw_gb g = 0 ∧ cw_gc g = 0) ⟨c_238, c_245⟩]; exact cw_q1 c_253, by rw [hd, cw_it (P := cw_gb g = 0 ∧ cw_gc g = 0) ⟨c_238, c_245⟩, cw_nf_nf]; rw [h249, cw_S1, hn249]; exact hcg.2, fun q a b => (hr_q h249 b).trans ((d0 q a).trans (b0 q a)), fun k hk => (hr_0 h249).trans ((dk k (by omega)).trans (bk k hk))⟩
  · have hsx_41 : (g / 100000) = 7 := gw_toInt hsw_41
    refine g_tabIn (off := 221) (tgt := 262) C (by omega) (by omega) (by rw [hsw_41]; rfl) (by decide) dX7_succeeds_41 ?_
    refine g_aload_n C rfl dX7_succeeds_262 ?_
    refine g_bipush (v := 121) C (by decide) dX7_succeeds_263 ?_
    refine g_putf C fl_X7_110 fp_5_9 rfl rfl (rfl) (rfl) dX7_succeeds_265 ?_
    refine g_genP (P := fun v => (∀ q, q ≠ 0 → v q = w5 q) ∧ v 0 9 = 121 ∧ (∀ k, k ≠ 9 → v 0 k = w5 0 k)) ⟨fun q hq => gw_set_ne _ _ _ _ hq, by simp [gw_set], fun k hk => by rw [gw_set_self, cw_upn _ _ hk]⟩ (fun w6 h6 => ?_)
    obtain ⟨d0, d9, dk⟩ := h6
    have e6 : cw_eq (w6 1) u := by show cw_nf _ = _; rw [d0 1 (by decide)]; exact e5
    have hI6 := cw_I_cg hI e6
    have hcg := cw_does_cg hI hB e6 121 (cw_ga g) (cw_gb g) (cw_gc g) (fun q => absurd q (by decide))
    refine g_iload_n C rfl dX7_succeeds_268 ?_
    refine g_ldc_w C kc_X7_265 dX7_succeeds_269 ?_
    refine g_cmp_ne (tgt := 288) C (by decide) dX7_succeeds_272 (fun c_272 => ?_) (fun c_272 => ?_)
    · refine g_iconst (v := 0) C (by decide) dX7_succeeds_288 ?_
      refine g_zret C F (rfl) dX7_succeeds_289 ?_
      have hd := cw_succ_7 (u := u) hsx_41
      exact ⟨by rw [hd, cw_ie c_272], by rw [hd, cw_ie c_272]; exact e6, fun q a b => (d0 q a).trans (b0 q a), fun k hk => (dk k (by omega)).trans (bk k hk)⟩
    · refine g_aload_n C rfl dX7_succeeds_275 ?_
      refine g_call C (ok_X7_does 121 (cw_ga g) (cw_gb g) (cw_gc g) hI6 hB (fun q => absurd q (by decide))) my_X7_does vi_X7_202 (by decide) ⟨Nat.le_refl _, Nat.le_refl _⟩ rfl rfl rfl (Nat.le_of_ble_eq_true rfl) dX7_succeeds_276 rfl (⟨rfl, d9, (dk 10 (by decide)).trans b10, (dk 11 (by decide)).trans b11, (dk 12 (by decide)).trans b12⟩) (fun v_276 w_276 hp_276 => ?_)
      obtain ⟨rfl, s276, h276, hn276⟩ := hp_276
      refine g_top (show _ = (cw_dd u g 121).1 from hcg.1) ?_
      refine g_bipush (v := (-9)) C (by decide) dX7_succeeds_279 ?_
      refine g_cmp_eq (tgt := 288) C (by decide) dX7_succeeds_281 (fun c_281 => ?_) (fun c_281 => ?_)
      · refine g_iconst (v := 0) C (by decide) dX7_succeeds_288 ?_
        refine g_zret C F (rfl) dX7_succeeds_289 ?_
        have hd := cw_succ_7 (u := u) hsx_41
        exact ⟨by rw [hd, cw_it c_272]; exact cw_q0 (fun q => q c_281), by rw [hd, cw_it c_272, cw_nf_nf]; rw [h276, cw_S1, hn276]; exact hcg.2, fun q a b => (hr_q h276 b).trans ((d0 q a).trans (b0 q a)), fun k hk => (hr_0 h276).trans ((dk k (by omega)).trans (bk k hk))⟩
      · refine g_iconst (v := 1) C (by decide) dX7_succeeds_284 ?_
        refine g_goto (tgt := 289) C (by decide) dX7_succeeds_285 ?_
        refine g_zret C F (rfl) dX7_succeeds_289 ?_
        have hd := cw_succ_7 (u := u) hsx_41
        exact ⟨by rw [hd, cw_it c_272]; exact cw_q1 c_281, by rw [hd, cw_it c_272, cw_nf_nf]; rw [h276, cw_S1, hn276]; exact hcg.2, fun q a b => (hr_q h276 b).trans ((d0 q a).trans (b0 q a)), fun k hk => (hr_0 h276).trans ((dk k (by omega)).trans (bk k hk))⟩
  · have hsx_41 : (g / 100000) = 8 := gw_toInt hsw_41
    refine g_tabIn (off := 249) (tgt := 290) C (by omega) (by omega) (by rw [hsw_41]; rfl) (by decide) dX7_succeeds_41 ?_
    refine g_aload_n C rfl dX7_succeeds_290 ?_
    refine g_getf C fl_X7_122 rfl rfl dX7_succeeds_291 ?_
    refine g_top (show _ = cw_gb g from b11) ?_
    refine g_if_ne (tgt := 332) C (by decide) dX7_succeeds_294 (fun c_294 => ?_) (fun c_294 => ?_)
    · refine g_iconst (v := 0) C (by decide) dX7_succeeds_332 ?_
      refine g_zret C F (rfl) dX7_succeeds_333 ?_
      have hd := cw_succ_8 (u := u) hsx_41
      exact ⟨by rw [hd]; exact cw_q0 (fun q => c_294 q.1), by rw [hd]; exact e5, fun q a b => (b0 q a), bk⟩
    · refine g_aload_n C rfl dX7_succeeds_297 ?_
      refine g_aload_n C rfl dX7_succeeds_298 ?_
      refine g_getf C fl_X7_113 rfl rfl dX7_succeeds_299 ?_
      refine g_top (show _ = cw_ga g from b10) ?_
      refine g_call C (ok_X7_isOwner _) my_X7_isOwner vi_X7_44 (by decide) ⟨Nat.le_refl _, Nat.le_refl _⟩ rfl rfl rfl (Nat.le_of_ble_eq_true rfl) dX7_succeeds_302 rfl (rfl) (fun v_302 w_302 hp_302 => ?_)
      obtain ⟨rfl, hw_302⟩ := hp_302
      have hw_302 := hw_302.symm; subst hw_302
      refine g_top (show _ = cw_b (cw_isO u (cw_ga g)) by rw [cw_isO_cg e5]) ?_
      refine g_if_eq (tgt := 332) C (by decide) dX7_succeeds_305 (fun c_305 => ?_) (fun c_305 => ?_)
      · refine g_iconst (v := 0) C (by decide) dX7_succeeds_332 ?_
        refine g_zret C F (rfl) dX7_succeeds_333 ?_
        have hd := cw_succ_8 (u := u) hsx_41
        exact ⟨by rw [hd]; exact cw_q0 (fun q => cw_b0.mp c_305 q.2.1), by rw [hd]; exact e5, fun q a b => (b0 q a), bk⟩
      · obtain ⟨j, ej0, hj⟩ := cw_isO_ix hI.m (cw_bn c_305)
        have h6 := hI.m.2
        have ej : cw_x (cw_ga g) = j := by rw [ej0, cw_xn (by omega)]
        refine g_aload_n C rfl dX7_succeeds_308 ?_
        refine g_getr C fl_X7_7 rfl rfl dX7_succeeds_309 ?_
        refine g_aload_n C rfl dX7_succeeds_312 ?_
        refine g_getf C fl_X7_113 rfl rfl dX7_succeeds_313 ?_
        refine g_top (show _ = cw_ga g from b10) ?_
        refine g_iconst (v := 1) C (by decide) dX7_succeeds_316 ?_
        refine g_callS C (ok_X7_of (i := 1) _ _ j ej0 rfl) my_X7_of si_X7_54 (by decide) ⟨Nat.le_refl _, Nat.le_refl _⟩ rfl (Nat.le_of_ble_eq_true rfl) dX7_succeeds_317 rfl (trivial) (fun v_317 w_317 hp_317 => ?_)
        obtain ⟨rfl, hw_317⟩ := hp_317
        have hw_317 := hw_317.symm; subst hw_317
        refine g_iald (j := 1 + 4 * j + 1) C rfl (rfl) (by omega) (by decide) dX7_succeeds_320 ?_
        refine g_top (cw_rd e5 (by omega) (by omega)) ?_
        refine g_aload_n C rfl dX7_succeeds_321 ?_
        refine g_getf C fl_X7_131 rfl rfl dX7_succeeds_322 ?_
        refine g_top (show _ = cw_gc g from b12) ?_
        refine g_cmp_lt (tgt := 332) C (by decide) dX7_succeeds_325 (fun c_325 => ?_) (fun c_325 => ?_)
        · refine g_iconst (v := 0) C (by decide) dX7_succeeds_332 ?_
          refine g_zret C F (rfl) dX7_succeeds_333 ?_
          have hd := cw_succ_8 (u := u) hsx_41
          exact ⟨by rw [hd]; exact cw_q0 (fun q => q.2.2 (by rw [ej]; exact c_325)), by rw [hd]; exact e5, fun q a b => (b0 q a), bk⟩
        · refine g_iconst (v := 1) C (by decide) dX7_succeeds_328 ?_
          refine g_goto (tgt := 333) C (by decide) dX7_succeeds_329 ?_
          refine g_zret C F (rfl) dX7_succeeds_333 ?_
          have hd := cw_succ_8 (u := u) hsx_41
          exact ⟨by rw [hd]; exact cw_q1 ⟨c_294, cw_bn c_305, by rw [ej]; exact c_325⟩, by rw [hd]; exact e5, fun q a b => (b0 q a), bk⟩
  · have hsx_41 : (g / 100000) = 9 := gw_toInt hsw_41
    refine g_tabIn (off := 293) (tgt := 334) C (by omega) (by omega) (by rw [hsw_41]; rfl) (by decide) dX7_succeeds_41 ?_
    refine g_aload_n C rfl dX7_succeeds_334 ?_
    refine g_getf C fl_X7_131 rfl rfl dX7_succeeds_335 ?_
    refine g_top (show _ = cw_gc g from b12) ?_
    refine g_if_ne (tgt := 380) C (by decide) dX7_succeeds_338 (fun c_338 => ?_) (fun c_338 => ?_)
    · refine g_iconst (v := 0) C (by decide) dX7_succeeds_380 ?_
      refine g_zret C F (rfl) dX7_succeeds_381 ?_
      have hd := cw_succ_9 (u := u) hsx_41
      exact ⟨by rw [hd]; exact cw_q0 (fun q => c_338 q.1), by rw [hd]; exact e5, fun q a b => (b0 q a), bk⟩
    · refine g_aload_n C rfl dX7_succeeds_341 ?_
      refine g_aload_n C rfl dX7_succeeds_342 ?_
      refine g_getf C fl_X7_113 rfl rfl dX7_succeeds_343 ?_
      refine g_top (show _ = cw_ga g from b10) ?_
      refine g_aload_n C rfl dX7_succeeds_346 ?_
      refine g_getf C fl_X7_122 rfl rfl dX7_succeeds_347 ?_
      refine g_top (show _ = cw_gb g from b11) ?_
      refine g_call C (ok_X7_areThere _ _) my_X7_areThere vi_X7_107 (by decide) ⟨Nat.le_refl _, Nat.le_refl _⟩ rfl rfl rfl (Nat.le_of_ble_eq_true rfl) dX7_succeeds_350 rfl (rfl) (fun v_350 w_350 hp_350 => ?_)
      obtain ⟨rfl, hw_350⟩ := hp_350
      have hw_350 := hw_350.symm; subst hw_350
      refine g_top (show _ = cw_b (cw_th u (cw_ga g) (cw_gb g)) by rw [cw_th_cg e5]) ?_
      refine g_if_eq (tgt := 380) C (by decide) dX7_succeeds_353 (fun c_353 => ?_) (fun c_353 => ?_)
      · refine g_iconst (v := 0) C (by decide) dX7_succeeds_380 ?_
        refine g_zret C F (rfl) dX7_succeeds_381 ?_
        have hd := cw_succ_9 (u := u) hsx_41
        exact ⟨by rw [hd]; exact cw_q0 (fun q => cw_b0.mp c_353 q.2.1), by rw [hd]; exact e5, fun q a b => (b0 q a), bk⟩
      · obtain ⟨i, ei0, hi⟩ := cw_isW_ix (cw_bn c_353).2
        have ei : cw_x (cw_gb g) = i := by rw [ei0, cw_xn (by omega)]
        refine g_aload_n C rfl dX7_succeeds_356 ?_
        refine g_getr C fl_X7_7 rfl rfl dX7_succeeds_357 ?_
        refine g_aload_n C rfl dX7_succeeds_360 ?_
        refine g_getf C fl_X7_122 rfl rfl dX7_succeeds_361 ?_
        refine g_top (show _ = cw_gb g from b11) ?_
        refine g_iconst (v := 2) C (by decide) dX7_succeeds_364 ?_
        refine g_callS C (ok_X7_ofWeek (i := 2) _ _ i ei0 rfl) my_X7_ofWeek si_X7_36 (by decide) ⟨Nat.le_refl _, Nat.le_refl _⟩ rfl (Nat.le_of_ble_eq_true rfl) dX7_succeeds_365 rfl (trivial) (fun v_365 w_365 hp_365 => ?_)
        obtain ⟨rfl, hw_365⟩ := hp_365
        have hw_365 := hw_365.symm; subst hw_365
        refine g_iald (j := 25 + 3 * i + 2) C rfl (rfl) (by omega) (by decide) dX7_succeeds_368 ?_
        refine g_top (cw_rd e5 (by omega) (by omega)) ?_
        refine g_aload_n C rfl dX7_succeeds_369 ?_
        refine g_getf C fl_X7_113 rfl rfl dX7_succeeds_370 ?_
        refine g_top (show _ = cw_ga g from b10) ?_
        refine g_cmp_ne (tgt := 380) C (by decide) dX7_succeeds_373 (fun c_373 => ?_) (fun c_373 => ?_)
        · refine g_iconst (v := 0) C (by decide) dX7_succeeds_380 ?_
          refine g_zret C F (rfl) dX7_succeeds_381 ?_
          have hd := cw_succ_9 (u := u) hsx_41
          exact ⟨by rw [hd]; exact cw_q0 (fun q => c_373 (by have z := q.2.2; rwa [ei] at z)), by rw [hd]; exact e5, fun q a b => (b0 q a), bk⟩
        · refine g_iconst (v := 1) C (by decide) dX7_succeeds_376 ?_
          refine g_goto (tgt := 381) C (by decide) dX7_succeeds_377 ?_
          refine g_zret C F (rfl) dX7_succeeds_381 ?_
          have hd := cw_succ_9 (u := u) hsx_41
          exact ⟨by rw [hd]; exact cw_q1 ⟨c_338, cw_bn c_353, by rw [ei]; exact c_373⟩, by rw [hd]; exact e5, fun q a b => (b0 q a), bk⟩

