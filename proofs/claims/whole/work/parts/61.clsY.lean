theorem cw_take_ok {tx : Nat → Int32} {len : Nat} {lo hi : Int32} {g : cw_sg} (h : (cw_take tx len lo hi g).2.1 = false) : g.1 = false := by
  obtain ⟨gw, p⟩ := g
  cases gw with
  | false => rfl
  | true => rw [cw_take_w] at h; exact h
theorem cw_week_ok {tx : Nat → Int32} {len : Nat} {g : cw_sg} (h : (cw_week tx len g).2.1 = false) : g.1 = false := cw_take_ok (cw_take_ok h)
theorem cw_extra_ok {tx : Nat → Int32} {len : Nat} {g : cw_sg} (h : (cw_extra tx len g).2.1 = false) : g.1 = false := cw_take_ok (cw_take_ok h)
theorem cw_sign_ok {tx : Nat → Int32} {len : Nat} {g : cw_sg} (h : (cw_sign tx len g).1 = false) : g.1 = false :=
  Classical.byContradiction (fun q => by rw [cw_sign_w q] at h; exact q h)

set_option maxHeartbeats 8000000 in
set_option maxRecDepth 100000 in
theorem ok_X5_readValues {tx : Nat → Int32} {len : Nat} (hx : cw_ch tx len) (p : Nat) (hL : cw_isL (tx p)) : gw_Ok yX5_readValues cX5_readValues 2 none sT 4 [.ref 0, .int (tx p)] (fun w => cw_TS tx len (false, p + 1) w ∧ w 0 5 = nI 0) (fun w vr w1 => vr = none ∧ cw_TS tx len (cw_cmd tx len p).1 w1 ∧ w1 1 = w 1 ∧ ((cw_cmd tx len p).1.1 = false → (tx p = 115 → w1 2 0 = (cw_cmd tx len p).2.1 ∧ w1 2 1 = (cw_cmd tx len p).2.2.1) ∧ ∀ s, cw_does s (tx p) (w1 2 0) (w1 2 1) (w1 2 2) = cw_does s (tx p) (cw_cmd tx len p).2.1 (cw_cmd tx len p).2.2.1 (cw_cmd tx len p).2.2.2)) := by
  refine gw_of (by decide) (Nat.le_of_ble_eq_true rfl) ?_
  intro X w h C F
  refine g_iload_n C rfl dX5_readValues_0 ?_
  have hsw_1 : ((tx p).toInt < 97 ∨ 117 < (tx p).toInt) ∨ (tx p).toInt = 97 ∨ (tx p).toInt = 98 ∨ (tx p).toInt = 99 ∨ (tx p).toInt = 100 ∨ (tx p).toInt = 101 ∨ (tx p).toInt = 102 ∨ (tx p).toInt = 103 ∨ (tx p).toInt = 104 ∨ (tx p).toInt = 105 ∨ (tx p).toInt = 106 ∨ (tx p).toInt = 107 ∨ (tx p).toInt = 108 ∨ (tx p).toInt = 109 ∨ (tx p).toInt = 110 ∨ (tx p).toInt = 111 ∨ (tx p).toInt = 112 ∨ (tx p).toInt = 113 ∨ (tx p).toInt = 114 ∨ (tx p).toInt = 115 ∨ (tx p).toInt = 116 ∨ (tx p).toInt = 117 := by omega
  rcases hsw_1 with hsw_1 | hsw_1 | hsw_1 | hsw_1 | hsw_1 | hsw_1 | hsw_1 | hsw_1 | hsw_1 | hsw_1 | hsw_1 | hsw_1 | hsw_1 | hsw_1 | hsw_1 | hsw_1 | hsw_1 | hsw_1 | hsw_1 | hsw_1 | hsw_1 | hsw_1
  · refine g_tabOut (tgt := 205) C hsw_1 (by decide) dX5_readValues_1 ?_
    refine g_vret C F dX5_readValues_205 ?_
    have hl : tx p = 121 := by
      unfold cw_isL at hL
      rcases hL with q | q | q | q | q | q | q | q | q | q | q <;> first | exact q | (exfalso; rw [q] at hsw_1; revert hsw_1; decide)
    rw [cw_cmd_121 hl]
    exact ⟨rfl, h.1, rfl, fun _ => ⟨fun q => absurd (hl.symm.trans q) (by decide), fun s => by rw [hl]; rw [cw_does_y _ _ _ _ (by decide) (by decide) (by decide) (by decide) (by decide) (by decide) (by decide) (by decide) (by decide) (by decide), cw_does_y _ _ _ _ (by decide) (by decide) (by decide) (by decide) (by decide) (by decide) (by decide) (by decide) (by decide) (by decide)]⟩⟩
  · have hsx_1 : (tx p) = 97 := gw_toInt hsw_1
    refine g_tabIn (off := 181) (tgt := 182) C (by omega) (by omega) (by rw [hsw_1]; rfl) (by decide) dX5_readValues_1 ?_
    refine g_aload_n C rfl dX5_readValues_182 ?_
    refine g_iconst (v := 1) C (by decide) dX5_readValues_183 ?_
    refine g_iconst (v := 0) C (by decide) dX5_readValues_184 ?_
    refine g_bipush (v := 7) C (by decide) dX5_readValues_185 ?_
    refine g_call C (ok_X5_readNumber (tx := tx) (len := len) 1 (by decide) 0 7 (false, p + 1) 0 (by decide)) my_X5_readNumber vi_X5_66 (by decide) ⟨Nat.le_refl _, Nat.le_refl _⟩ rfl rfl rfl (Nat.le_of_ble_eq_true rfl) dX5_readValues_187 rfl (h) (fun v_187 w_187 hp_187 => ?_)
    obtain ⟨rfl, hts187, h5187, h2187, h1187⟩ := hp_187
    have hk187 : cw_K tx len (cw_take tx len 48 55 (false, p + 1)).2 0 ((cw_take tx len 48 55 (false, p + 1)).1) w w_187 := cw_Kn hts187 h5187 h2187 h1187 (cw_num1 hx (false, p + 1) (a := 0) (b := 7) (by decide) (by decide)).1 (fun z => ((cw_num1 hx (false, p + 1) (a := 0) (b := 7) (by decide) (by decide)).2 z).trans (Int32.zero_add _))
    refine g_goto (tgt := 205) C (by decide) dX5_readValues_190 ?_
    refine g_vret C F dX5_readValues_205 ?_
    have hl : tx p = 97 := hsx_1
    rw [cw_cmd_97 hl]
    refine ⟨rfl, hk187.1, hk187.2.2.1, fun z0 => ?_⟩
    have e0 := hk187.2.2.2.2 z0
    refine ⟨fun q => absurd (hl.symm.trans q) (by decide), fun s => ?_⟩
    rw [hl]
    simp only [cw_does_97, e0]
  · have hsx_1 : (tx p) = 98 := gw_toInt hsw_1
    refine g_tabIn (off := 147) (tgt := 148) C (by omega) (by omega) (by rw [hsw_1]; rfl) (by decide) dX5_readValues_1 ?_
    refine g_aload_n C rfl dX5_readValues_148 ?_
    refine g_call C (ok_X5_readOwner (tx := tx) (len := len) hx (false, p + 1) 0 (by decide)) my_X5_readOwner vi_X5_76 (by decide) ⟨Nat.le_refl _, Nat.le_refl _⟩ rfl rfl rfl (Nat.le_of_ble_eq_true rfl) dX5_readValues_149 rfl (h) (fun v_149 w_149 hp_149 => ?_)
    obtain ⟨rfl, hk149⟩ := hp_149
    refine g_aload_n C rfl dX5_readValues_152 ?_
    refine g_call C (ok_X5_readWeek (tx := tx) (len := len) hx (cw_take tx len 48 53 (false, p + 1)).2 1 (by decide)) my_X5_readWeek vi_X5_70 (by decide) ⟨Nat.le_refl _, Nat.le_refl _⟩ rfl rfl rfl (Nat.le_of_ble_eq_true rfl) dX5_readValues_153 rfl (⟨hk149.1, hk149.2.1⟩) (fun v_153 w_153 hp_153 => ?_)
    obtain ⟨rfl, hk153⟩ := hp_153
    refine g_aload_n C rfl dX5_readValues_156 ?_
    refine g_iconst (v := 2) C (by decide) dX5_readValues_157 ?_
    refine g_iconst (v := 0) C (by decide) dX5_readValues_158 ?_
    refine g_bipush (v := 20) C (by decide) dX5_readValues_159 ?_
    refine g_call C (ok_X5_readNumber (tx := tx) (len := len) 2 (by decide) 0 20 (cw_week tx len (cw_take tx len 48 53 (false, p + 1)).2).2 2 (by decide)) my_X5_readNumber vi_X5_66 (by decide) ⟨Nat.le_refl _, Nat.le_refl _⟩ rfl rfl rfl (Nat.le_of_ble_eq_true rfl) dX5_readValues_161 rfl (⟨hk153.1, hk153.2.1⟩) (fun v_161 w_161 hp_161 => ?_)
    obtain ⟨rfl, hts161, h5161, h2161, h1161⟩ := hp_161
    have hk161 : cw_K tx len (cw_extra tx len (cw_week tx len (cw_take tx len 48 53 (false, p + 1)).2).2).2 2 ((cw_extra tx len (cw_week tx len (cw_take tx len 48 53 (false, p + 1)).2).2).1) w_153 w_161 := cw_Kn hts161 h5161 h2161 h1161 (cw_numE hx (cw_week tx len (cw_take tx len 48 53 (false, p + 1)).2).2).1 ((cw_numE hx (cw_week tx len (cw_take tx len 48 53 (false, p + 1)).2).2).2)
    refine g_goto (tgt := 205) C (by decide) dX5_readValues_164 ?_
    refine g_vret C F dX5_readValues_205 ?_
    have hl : tx p = 98 := hsx_1
    rw [cw_cmd_98 hl]
    refine ⟨rfl, hk161.1, ((hk161.2.2.1).trans (hk153.2.2.1)).trans (hk149.2.2.1), fun z2 => ?_⟩
    have z1 := cw_extra_ok z2
    have z0 := cw_week_ok z1
    have e0 := (hk161.2.2.2.1 0 (by decide)).trans ((hk153.2.2.2.1 0 (by decide)).trans (hk149.2.2.2.2 z0))
    have e1 := (hk161.2.2.2.1 1 (by decide)).trans (hk153.2.2.2.2 z1)
    have e2 := hk161.2.2.2.2 z2
    refine ⟨fun q => absurd (hl.symm.trans q) (by decide), fun s => ?_⟩
    rw [hl]
    simp only [cw_does_98, e0, e1, e2]
  · have hsx_1 : (tx p) = 99 := gw_toInt hsw_1
    refine g_tabIn (off := 204) (tgt := 205) C (by omega) (by omega) (by rw [hsw_1]; rfl) (by decide) dX5_readValues_1 ?_
    exact absurd hsx_1 (fun q => by rw [q] at hL; revert hL; unfold cw_isL; decide)
  · have hsx_1 : (tx p) = 100 := gw_toInt hsw_1
    refine g_tabIn (off := 204) (tgt := 205) C (by omega) (by omega) (by rw [hsw_1]; rfl) (by decide) dX5_readValues_1 ?_
    exact absurd hsx_1 (fun q => by rw [q] at hL; revert hL; unfold cw_isL; decide)
  · have hsx_1 : (tx p) = 101 := gw_toInt hsw_1
    refine g_tabIn (off := 204) (tgt := 205) C (by omega) (by omega) (by rw [hsw_1]; rfl) (by decide) dX5_readValues_1 ?_
    refine g_vret C F dX5_readValues_205 ?_
    have hl : tx p = 101 := hsx_1
    rw [cw_cmd_101 hl]
    exact ⟨rfl, h.1, rfl, fun _ => ⟨fun q => absurd (hl.symm.trans q) (by decide), fun s => by rw [hl]; simp only [cw_does_101]⟩⟩
  · have hsx_1 : (tx p) = 102 := gw_toInt hsw_1
    refine g_tabIn (off := 166) (tgt := 167) C (by omega) (by omega) (by rw [hsw_1]; rfl) (by decide) dX5_readValues_1 ?_
    refine g_aload_n C rfl dX5_readValues_167 ?_
    refine g_call C (ok_X5_readOwner (tx := tx) (len := len) hx (false, p + 1) 0 (by decide)) my_X5_readOwner vi_X5_76 (by decide) ⟨Nat.le_refl _, Nat.le_refl _⟩ rfl rfl rfl (Nat.le_of_ble_eq_true rfl) dX5_readValues_168 rfl (h) (fun v_168 w_168 hp_168 => ?_)
    obtain ⟨rfl, hk168⟩ := hp_168
    refine g_aload_n C rfl dX5_readValues_171 ?_
    refine g_call C (ok_X5_readWeek (tx := tx) (len := len) hx (cw_take tx len 48 53 (false, p + 1)).2 1 (by decide)) my_X5_readWeek vi_X5_70 (by decide) ⟨Nat.le_refl _, Nat.le_refl _⟩ rfl rfl rfl (Nat.le_of_ble_eq_true rfl) dX5_readValues_172 rfl (⟨hk168.1, hk168.2.1⟩) (fun v_172 w_172 hp_172 => ?_)
    obtain ⟨rfl, hk172⟩ := hp_172
    refine g_aload_n C rfl dX5_readValues_175 ?_
    refine g_call C (ok_X5_readWeek (tx := tx) (len := len) hx (cw_week tx len (cw_take tx len 48 53 (false, p + 1)).2).2 2 (by decide)) my_X5_readWeek vi_X5_70 (by decide) ⟨Nat.le_refl _, Nat.le_refl _⟩ rfl rfl rfl (Nat.le_of_ble_eq_true rfl) dX5_readValues_176 rfl (⟨hk172.1, hk172.2.1⟩) (fun v_176 w_176 hp_176 => ?_)
    obtain ⟨rfl, hk176⟩ := hp_176
    refine g_goto (tgt := 205) C (by decide) dX5_readValues_179 ?_
    refine g_vret C F dX5_readValues_205 ?_
    have hl : tx p = 102 := hsx_1
    rw [cw_cmd_102 hl]
    refine ⟨rfl, hk176.1, ((hk176.2.2.1).trans (hk172.2.2.1)).trans (hk168.2.2.1), fun z2 => ?_⟩
    have z1 := cw_week_ok z2
    have z0 := cw_week_ok z1
    have e0 := (hk176.2.2.2.1 0 (by decide)).trans ((hk172.2.2.2.1 0 (by decide)).trans (hk168.2.2.2.2 z0))
    have e1 := (hk176.2.2.2.1 1 (by decide)).trans (hk172.2.2.2.2 z1)
    have e2 := hk176.2.2.2.2 z2
    refine ⟨fun q => absurd (hl.symm.trans q) (by decide), fun s => ?_⟩
    rw [hl]
    simp only [cw_does_102, e0, e1, e2]
  · have hsx_1 : (tx p) = 103 := gw_toInt hsw_1
    refine g_tabIn (off := 204) (tgt := 205) C (by omega) (by omega) (by rw [hsw_1]; rfl) (by decide) dX5_readValues_1 ?_
    exact absurd hsx_1 (fun q => by rw [q] at hL; revert hL; unfold cw_isL; decide)
  · have hsx_1 : (tx p) = 104 := gw_toInt hsw_1
    refine g_tabIn (off := 204) (tgt := 205) C (by omega) (by omega) (by rw [hsw_1]; rfl) (by decide) dX5_readValues_1 ?_
    exact absurd hsx_1 (fun q => by rw [q] at hL; revert hL; unfold cw_isL; decide)
  · have hsx_1 : (tx p) = 105 := gw_toInt hsw_1
    refine g_tabIn (off := 204) (tgt := 205) C (by omega) (by omega) (by rw [hsw_1]; rfl) (by decide) dX5_readValues_1 ?_
    exact absurd hsx_1 (fun q => by rw [q] at hL; revert hL; unfold cw_isL; decide)
  · have hsx_1 : (tx p) = 106 := gw_toInt hsw_1
    refine g_tabIn (off := 204) (tgt := 205) C (by omega) (by omega) (by rw [hsw_1]; rfl) (by decide) dX5_readValues_1 ?_
    exact absurd hsx_1 (fun q => by rw [q] at hL; revert hL; unfold cw_isL; decide)
  · have hsx_1 : (tx p) = 107 := gw_toInt hsw_1
    refine g_tabIn (off := 110) (tgt := 111) C (by omega) (by omega) (by rw [hsw_1]; rfl) (by decide) dX5_readValues_1 ?_
    refine g_aload_n C rfl dX5_readValues_111 ?_
    refine g_call C (ok_X5_readWeek (tx := tx) (len := len) hx (false, p + 1) 0 (by decide)) my_X5_readWeek vi_X5_70 (by decide) ⟨Nat.le_refl _, Nat.le_refl _⟩ rfl rfl rfl (Nat.le_of_ble_eq_true rfl) dX5_readValues_112 rfl (h) (fun v_112 w_112 hp_112 => ?_)
    obtain ⟨rfl, hk112⟩ := hp_112
    refine g_aload_n C rfl dX5_readValues_115 ?_
    refine g_iconst (v := 1) C (by decide) dX5_readValues_116 ?_
    refine g_iconst (v := 1) C (by decide) dX5_readValues_117 ?_
    refine g_bipush (v := 9) C (by decide) dX5_readValues_118 ?_
    refine g_call C (ok_X5_readNumber (tx := tx) (len := len) 1 (by decide) 1 9 (cw_week tx len (false, p + 1)).2 1 (by decide)) my_X5_readNumber vi_X5_66 (by decide) ⟨Nat.le_refl _, Nat.le_refl _⟩ rfl rfl rfl (Nat.le_of_ble_eq_true rfl) dX5_readValues_120 rfl (⟨hk112.1, hk112.2.1⟩) (fun v_120 w_120 hp_120 => ?_)
    obtain ⟨rfl, hts120, h5120, h2120, h1120⟩ := hp_120
    have hk120 : cw_K tx len (cw_take tx len 49 57 (cw_week tx len (false, p + 1)).2).2 1 (1 + (cw_take tx len 49 57 (cw_week tx len (false, p + 1)).2).1) w_112 w_120 := cw_Kn hts120 h5120 h2120 h1120 (cw_num1 hx (cw_week tx len (false, p + 1)).2 (a := 1) (b := 9) (by decide) (by decide)).1 ((cw_num1 hx (cw_week tx len (false, p + 1)).2 (a := 1) (b := 9) (by decide) (by decide)).2)
    refine g_goto (tgt := 205) C (by decide) dX5_readValues_123 ?_
    refine g_vret C F dX5_readValues_205 ?_
    have hl : tx p = 107 := hsx_1
    rw [cw_cmd_107 hl]
    refine ⟨rfl, hk120.1, (hk120.2.2.1).trans (hk112.2.2.1), fun z1 => ?_⟩
    have z0 := cw_take_ok z1
    have e0 := (hk120.2.2.2.1 0 (by decide)).trans (hk112.2.2.2.2 z0)
    have e1 := hk120.2.2.2.2 z1
    refine ⟨fun q => absurd (hl.symm.trans q) (by decide), fun s => ?_⟩
    rw [hl]
    simp only [cw_does_107, e0, e1]
  · have hsx_1 : (tx p) = 108 := gw_toInt hsw_1
    refine g_tabIn (off := 204) (tgt := 205) C (by omega) (by omega) (by rw [hsw_1]; rfl) (by decide) dX5_readValues_1 ?_
    exact absurd hsx_1 (fun q => by rw [q] at hL; revert hL; unfold cw_isL; decide)
  · have hsx_1 : (tx p) = 109 := gw_toInt hsw_1
    refine g_tabIn (off := 204) (tgt := 205) C (by omega) (by omega) (by rw [hsw_1]; rfl) (by decide) dX5_readValues_1 ?_
    exact absurd hsx_1 (fun q => by rw [q] at hL; revert hL; unfold cw_isL; decide)
  · have hsx_1 : (tx p) = 110 := gw_toInt hsw_1
    refine g_tabIn (off := 204) (tgt := 205) C (by omega) (by omega) (by rw [hsw_1]; rfl) (by decide) dX5_readValues_1 ?_
    exact absurd hsx_1 (fun q => by rw [q] at hL; revert hL; unfold cw_isL; decide)
  · have hsx_1 : (tx p) = 111 := gw_toInt hsw_1
    refine g_tabIn (off := 99) (tgt := 100) C (by omega) (by omega) (by rw [hsw_1]; rfl) (by decide) dX5_readValues_1 ?_
    refine g_aload_n C rfl dX5_readValues_100 ?_
    refine g_iconst (v := 1) C (by decide) dX5_readValues_101 ?_
    refine g_iconst (v := 1) C (by decide) dX5_readValues_102 ?_
    refine g_bipush (v := 9) C (by decide) dX5_readValues_103 ?_
    refine g_call C (ok_X5_readNumber (tx := tx) (len := len) 1 (by decide) 1 9 (false, p + 1) 0 (by decide)) my_X5_readNumber vi_X5_66 (by decide) ⟨Nat.le_refl _, Nat.le_refl _⟩ rfl rfl rfl (Nat.le_of_ble_eq_true rfl) dX5_readValues_105 rfl (h) (fun v_105 w_105 hp_105 => ?_)
    obtain ⟨rfl, hts105, h5105, h2105, h1105⟩ := hp_105
    have hk105 : cw_K tx len (cw_take tx len 49 57 (false, p + 1)).2 0 (1 + (cw_take tx len 49 57 (false, p + 1)).1) w w_105 := cw_Kn hts105 h5105 h2105 h1105 (cw_num1 hx (false, p + 1) (a := 1) (b := 9) (by decide) (by decide)).1 ((cw_num1 hx (false, p + 1) (a := 1) (b := 9) (by decide) (by decide)).2)
    refine g_goto (tgt := 205) C (by decide) dX5_readValues_108 ?_
    refine g_vret C F dX5_readValues_205 ?_
    have hl : tx p = 111 := hsx_1
    rw [cw_cmd_111 hl]
    refine ⟨rfl, hk105.1, hk105.2.2.1, fun z0 => ?_⟩
    have e0 := hk105.2.2.2.2 z0
    refine ⟨fun q => absurd (hl.symm.trans q) (by decide), fun s => ?_⟩
    rw [hl]
    simp only [cw_does_111, e0]
  · have hsx_1 : (tx p) = 112 := gw_toInt hsw_1
    refine g_tabIn (off := 204) (tgt := 205) C (by omega) (by omega) (by rw [hsw_1]; rfl) (by decide) dX5_readValues_1 ?_
    exact absurd hsx_1 (fun q => by rw [q] at hL; revert hL; unfold cw_isL; decide)
  · have hsx_1 : (tx p) = 113 := gw_toInt hsw_1
    refine g_tabIn (off := 204) (tgt := 205) C (by omega) (by omega) (by rw [hsw_1]; rfl) (by decide) dX5_readValues_1 ?_
    exact absurd hsx_1 (fun q => by rw [q] at hL; revert hL; unfold cw_isL; decide)
  · have hsx_1 : (tx p) = 114 := gw_toInt hsw_1
    refine g_tabIn (off := 136) (tgt := 137) C (by omega) (by omega) (by rw [hsw_1]; rfl) (by decide) dX5_readValues_1 ?_
    refine g_aload_n C rfl dX5_readValues_137 ?_
    refine g_call C (ok_X5_readOwner (tx := tx) (len := len) hx (false, p + 1) 0 (by decide)) my_X5_readOwner vi_X5_76 (by decide) ⟨Nat.le_refl _, Nat.le_refl _⟩ rfl rfl rfl (Nat.le_of_ble_eq_true rfl) dX5_readValues_138 rfl (h) (fun v_138 w_138 hp_138 => ?_)
    obtain ⟨rfl, hk138⟩ := hp_138
    refine g_aload_n C rfl dX5_readValues_141 ?_
    refine g_call C (ok_X5_readWeek (tx := tx) (len := len) hx (cw_take tx len 48 53 (false, p + 1)).2 1 (by decide)) my_X5_readWeek vi_X5_70 (by decide) ⟨Nat.le_refl _, Nat.le_refl _⟩ rfl rfl rfl (Nat.le_of_ble_eq_true rfl) dX5_readValues_142 rfl (⟨hk138.1, hk138.2.1⟩) (fun v_142 w_142 hp_142 => ?_)
    obtain ⟨rfl, hk142⟩ := hp_142
    refine g_goto (tgt := 205) C (by decide) dX5_readValues_145 ?_
    refine g_vret C F dX5_readValues_205 ?_
    have hl : tx p = 114 := hsx_1
    rw [cw_cmd_114 hl]
    refine ⟨rfl, hk142.1, (hk142.2.2.1).trans (hk138.2.2.1), fun z1 => ?_⟩
    have z0 := cw_week_ok z1
    have e0 := (hk142.2.2.2.1 0 (by decide)).trans (hk138.2.2.2.2 z0)
    have e1 := hk142.2.2.2.2 z1
    refine ⟨fun q => absurd (hl.symm.trans q) (by decide), fun s => ?_⟩
    rw [hl]
    simp only [cw_does_114, e0, e1]
  · have hsx_1 : (tx p) = 115 := gw_toInt hsw_1
    refine g_tabIn (off := 125) (tgt := 126) C (by omega) (by omega) (by rw [hsw_1]; rfl) (by decide) dX5_readValues_1 ?_
    refine g_aload_n C rfl dX5_readValues_126 ?_
    refine g_call C (ok_X5_readWeek (tx := tx) (len := len) hx (false, p + 1) 0 (by decide)) my_X5_readWeek vi_X5_70 (by decide) ⟨Nat.le_refl _, Nat.le_refl _⟩ rfl rfl rfl (Nat.le_of_ble_eq_true rfl) dX5_readValues_127 rfl (h) (fun v_127 w_127 hp_127 => ?_)
    obtain ⟨rfl, hk127⟩ := hp_127
    refine g_aload_n C rfl dX5_readValues_130 ?_
    refine g_call C (ok_X5_readPlusOrMinus (tx := tx) (len := len) hx (cw_week tx len (false, p + 1)).2 1 (by decide)) my_X5_readPlusOrMinus vi_X5_73 (by decide) ⟨Nat.le_refl _, Nat.le_refl _⟩ rfl rfl rfl (Nat.le_of_ble_eq_true rfl) dX5_readValues_131 rfl (⟨hk127.1, hk127.2.1⟩) (fun v_131 w_131 hp_131 => ?_)
    obtain ⟨rfl, hts131, h1131, hf131, hv131⟩ := hp_131
    refine g_goto (tgt := 205) C (by decide) dX5_readValues_134 ?_
    refine g_vret C F dX5_readValues_205 ?_
    have hl : tx p = 115 := hsx_1
    rw [cw_cmd_115 hl]
    refine ⟨rfl, hts131, (h1131).trans (hk127.2.2.1), fun z1 => ?_⟩
    have z0 := cw_sign_ok z1
    have e0 := (hf131 0 (by decide)).trans (hk127.2.2.2.2 z0)
    have e1 := hv131 z1
    refine ⟨fun _ => ⟨e0, e1⟩, fun s => ?_⟩
    rw [hl]
    simp only [cw_does_115, e0, e1]
  · have hsx_1 : (tx p) = 116 := gw_toInt hsw_1
    refine g_tabIn (off := 136) (tgt := 137) C (by omega) (by omega) (by rw [hsw_1]; rfl) (by decide) dX5_readValues_1 ?_
    refine g_aload_n C rfl dX5_readValues_137 ?_
    refine g_call C (ok_X5_readOwner (tx := tx) (len := len) hx (false, p + 1) 0 (by decide)) my_X5_readOwner vi_X5_76 (by decide) ⟨Nat.le_refl _, Nat.le_refl _⟩ rfl rfl rfl (Nat.le_of_ble_eq_true rfl) dX5_readValues_138 rfl (h) (fun v_138 w_138 hp_138 => ?_)
    obtain ⟨rfl, hk138⟩ := hp_138
    refine g_aload_n C rfl dX5_readValues_141 ?_
    refine g_call C (ok_X5_readWeek (tx := tx) (len := len) hx (cw_take tx len 48 53 (false, p + 1)).2 1 (by decide)) my_X5_readWeek vi_X5_70 (by decide) ⟨Nat.le_refl _, Nat.le_refl _⟩ rfl rfl rfl (Nat.le_of_ble_eq_true rfl) dX5_readValues_142 rfl (⟨hk138.1, hk138.2.1⟩) (fun v_142 w_142 hp_142 => ?_)
    obtain ⟨rfl, hk142⟩ := hp_142
    refine g_goto (tgt := 205) C (by decide) dX5_readValues_145 ?_
    refine g_vret C F dX5_readValues_205 ?_
    have hl : tx p = 116 := hsx_1
    rw [cw_cmd_116 hl]
    refine ⟨rfl, hk142.1, (hk142.2.2.1).trans (hk138.2.2.1), fun z1 => ?_⟩
    have z0 := cw_week_ok z1
    have e0 := (hk142.2.2.2.1 0 (by decide)).trans (hk138.2.2.2.2 z0)
    have e1 := hk142.2.2.2.2 z1
    refine ⟨fun q => absurd (hl.symm.trans q) (by decide), fun s => ?_⟩
    rw [hl]
    simp only [cw_does_116, e0, e1]
  · have hsx_1 : (tx p) = 117 := gw_toInt hsw_1
    refine g_tabIn (off := 192) (tgt := 193) C (by omega) (by omega) (by rw [hsw_1]; rfl) (by decide) dX5_readValues_1 ?_
    refine g_aload_n C rfl dX5_readValues_193 ?_
    refine g_iconst (v := 3) C (by decide) dX5_readValues_194 ?_
    refine g_iconst (v := 1) C (by decide) dX5_readValues_195 ?_
    refine g_sipush (v := 999) C (by decide) dX5_readValues_196 ?_
    refine g_call C (ok_X5_readNumber (tx := tx) (len := len) 3 (by decide) 1 999 (false, p + 1) 0 (by decide)) my_X5_readNumber vi_X5_66 (by decide) ⟨Nat.le_refl _, Nat.le_refl _⟩ rfl rfl rfl (Nat.le_of_ble_eq_true rfl) dX5_readValues_199 rfl (h) (fun v_199 w_199 hp_199 => ?_)
    obtain ⟨rfl, hts199, h5199, h2199, h1199⟩ := hp_199
    have hk199 : cw_K tx len (cw_coins tx len (false, p + 1)).2 0 ((cw_coins tx len (false, p + 1)).1) w w_199 := cw_Kn hts199 h5199 h2199 h1199 (cw_numC hx (false, p + 1)).1 ((cw_numC hx (false, p + 1)).2)
    refine g_goto (tgt := 205) C (by decide) dX5_readValues_202 ?_
    refine g_vret C F dX5_readValues_205 ?_
    have hl : tx p = 117 := hsx_1
    rw [cw_cmd_117 hl]
    refine ⟨rfl, hk199.1, hk199.2.2.1, fun z0 => ?_⟩
    have e0 := hk199.2.2.2.2 z0
    refine ⟨fun q => absurd (hl.symm.trans q) (by decide), fun s => ?_⟩
    rw [hl]
    simp only [cw_does_117, e0]

