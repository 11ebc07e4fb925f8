set_option maxHeartbeats 8000000 in
set_option maxRecDepth 100000 in
theorem ok_X7_does {s : cw_s} (l a b c : Int32) {n m : Nat} (hI : cw_I n m s) (hB : cw_B n (m + 20)) (h115 : l = 115 → cw_isW a) : gw_Ok yX7_does cX7_does 1 (some .int) sM 6 [.ref 0] (fun w => w 1 = s ∧ w 0 9 = l ∧ w 0 10 = a ∧ w 0 11 = b ∧ w 0 12 = c) (fun w vr w1 => vr = some (.int (cw_does s l a b c).1) ∧ ∃ s2, w1 = cw_S w s2 ∧ cw_nf s2 = cw_nf (cw_does s l a b c).2) := by
  refine gw_of (by decide) (Nat.le_of_ble_eq_true rfl) ?_
  intro X w h C F
  obtain ⟨h, e9, e10, e11, e12⟩ := h
  have h := hr_in h
  have hm := hI.m
  have h6 := hm.2
  have hxq := cw_x_lt hI
  refine g_aload_n C rfl dX7_does_0 ?_
  refine g_getf C fl_X7_110 rfl rfl dX7_does_1 ?_
  refine g_top (e9) ?_
  have hsw_4 : (l.toInt < 97 ∨ 117 < l.toInt) ∨ l.toInt = 97 ∨ l.toInt = 98 ∨ l.toInt = 99 ∨ l.toInt = 100 ∨ l.toInt = 101 ∨ l.toInt = 102 ∨ l.toInt = 103 ∨ l.toInt = 104 ∨ l.toInt = 105 ∨ l.toInt = 106 ∨ l.toInt = 107 ∨ l.toInt = 108 ∨ l.toInt = 109 ∨ l.toInt = 110 ∨ l.toInt = 111 ∨ l.toInt = 112 ∨ l.toInt = 113 ∨ l.toInt = 114 ∨ l.toInt = 115 ∨ l.toInt = 116 ∨ l.toInt = 117 := by omega
  rcases hsw_4 with hsw_4 | hsw_4 | hsw_4 | hsw_4 | hsw_4 | hsw_4 | hsw_4 | hsw_4 | hsw_4 | hsw_4 | hsw_4 | hsw_4 | hsw_4 | hsw_4 | hsw_4 | hsw_4 | hsw_4 | hsw_4 | hsw_4 | hsw_4 | hsw_4 | hsw_4
  · refine g_tabOut (tgt := 386) C hsw_4 (by decide) dX7_does_4 ?_
    refine g_aload_n C rfl dX7_does_386 ?_
    refine g_call C (ok_X7_goesOn hI) my_X7_goesOn vi_X7_168 (by decide) ⟨Nat.le_refl _, Nat.le_refl _⟩ rfl rfl rfl (Nat.le_of_ble_eq_true rfl) dX7_does_387 rfl (hr_1 h) (fun v_387 w_387 hp_387 => ?_)
    obtain ⟨rfl, h_387⟩ := hp_387
    have h_387 := hr_call h h_387
    refine g_iret C F dX7_does_390 ?_
    have hd : cw_does s l a b c = cw_oYear s := cw_does_y s a b c (fun q => by rw [q] at hsw_4; revert hsw_4; decide) (fun q => by rw [q] at hsw_4; revert hsw_4; decide) (fun q => by rw [q] at hsw_4; revert hsw_4; decide) (fun q => by rw [q] at hsw_4; revert hsw_4; decide) (fun q => by rw [q] at hsw_4; revert hsw_4; decide) (fun q => by rw [q] at hsw_4; revert hsw_4; decide) (fun q => by rw [q] at hsw_4; revert hsw_4; decide) (fun q => by rw [q] at hsw_4; revert hsw_4; decide) (fun q => by rw [q] at hsw_4; revert hsw_4; decide) (fun q => by rw [q] at hsw_4; revert hsw_4; decide)
    exact ⟨by rw [hd], _, h_387, by rw [hd]⟩
  · obtain rfl : l = 97 := gw_toInt hsw_4
    refine g_tabIn (off := 332) (tgt := 336) C (by decide) (by decide) rfl (by decide) dX7_does_4 ?_
    refine g_aload_n C rfl dX7_does_336 ?_
    refine g_aload_n C rfl dX7_does_337 ?_
    refine g_getf C fl_X7_113 rfl rfl dX7_does_338 ?_
    refine g_top (e10) ?_
    refine g_call C (ok_X7_isOffer _) my_X7_isOffer vi_X7_156 (by decide) ⟨Nat.le_refl _, Nat.le_refl _⟩ rfl rfl rfl (Nat.le_of_ble_eq_true rfl) dX7_does_341 rfl (hr_1 h) (fun v_341 w_341 hp_341 => ?_)
    obtain ⟨rfl, hw_341⟩ := hp_341
    have hw_341 := hw_341.symm; subst hw_341
    refine g_if_eq (tgt := 358) C (by decide) dX7_does_344 (fun c_344 => ?_) (fun c_344 => ?_)
    · refine g_bipush (v := (-9)) C (by decide) dX7_does_358 ?_
      refine g_iret C F dX7_does_360 ?_
      have hd : cw_does s 97 a b c = (-9, s) := (cw_does_97 s a b c).trans (by unfold cw_oAccept; exact cw_ie (cw_b0.mp c_344))
      exact ⟨by rw [hd], s, h, by rw [hd]⟩
    · obtain ⟨k, rfl, hk⟩ := cw_isK_ix hI (cw_bn c_344)
      refine g_aload_n C rfl dX7_does_347 ?_
      refine g_aload_n C rfl dX7_does_348 ?_
      refine g_getf C fl_X7_113 rfl rfl dX7_does_349 ?_
      refine g_top (e10) ?_
      refine g_call C (ok_X7_accepts _ k rfl hk hI) my_X7_accepts vi_X7_159 (by decide) ⟨Nat.le_refl _, Nat.le_refl _⟩ rfl rfl rfl (Nat.le_of_ble_eq_true rfl) dX7_does_352 rfl (hr_1 h) (fun v_352 w_352 hp_352 => ?_)
      obtain ⟨rfl, s9, h9, hn9⟩ := hp_352
      refine g_goto (tgt := 360) C (by decide) dX7_does_355 ?_
      refine g_iret C F dX7_does_360 ?_
      exact ⟨by rw [cw_does_97], s9, hr_call h h9, by rw [cw_does_97]; exact hn9⟩
  · obtain rfl : l = 98 := gw_toInt hsw_4
    refine g_tabIn (off := 212) (tgt := 216) C (by decide) (by decide) rfl (by decide) dX7_does_4 ?_
    refine g_aload_n C rfl dX7_does_216 ?_
    refine g_aload_n C rfl dX7_does_217 ?_
    refine g_getf C fl_X7_113 rfl rfl dX7_does_218 ?_
    refine g_top (e10) ?_
    refine g_aload_n C rfl dX7_does_221 ?_
    refine g_getf C fl_X7_122 rfl rfl dX7_does_222 ?_
    refine g_top (e11) ?_
    refine g_aload_n C rfl dX7_does_225 ?_
    refine g_getf C fl_X7_131 rfl rfl dX7_does_226 ?_
    refine g_top (e12) ?_
    refine g_call C (ok_X7_errorOfBid _ _ _) my_X7_errorOfBid vi_X7_134 (by decide) ⟨Nat.le_refl _, Nat.le_refl _⟩ rfl rfl rfl (Nat.le_of_ble_eq_true rfl) dX7_does_229 rfl (hr_1 h) (fun v_229 w_229 hp_229 => ?_)
    obtain ⟨rfl, hw_229⟩ := hp_229
    have hw_229 := hw_229.symm; subst hw_229
    refine g_if_ne (tgt := 254) C (by decide) dX7_does_232 (fun c_232 => ?_) (fun c_232 => ?_)
    · refine g_bipush (v := (-9)) C (by decide) dX7_does_254 ?_
      refine g_iret C F dX7_does_256 ?_
      have hd : cw_does s 98 a b c = (-9, s) := (cw_does_98 s a b c).trans (cw_ie (fun q => c_232 (cw_if3.mpr q)))
      exact ⟨by rw [hd], s, h, by rw [hd]⟩
    · have hqq := cw_if3.mp c_232
      obtain ⟨j, rfl, hj⟩ := cw_isO_ix hI.m hqq.1.1.1
      obtain ⟨k, rfl, hk⟩ := cw_isW_ix hqq.1.1.2
      have ej : cw_x (nI j) = j := cw_xn (by omega)
      have ek : cw_x (nI k) = k := cw_xn (by omega)
      have hj6 : j < 6 := by omega
      refine g_aload_n C rfl dX7_does_235 ?_
      refine g_aload_n C rfl dX7_does_236 ?_
      refine g_getf C fl_X7_113 rfl rfl dX7_does_237 ?_
      refine g_top (e10) ?_
      refine g_aload_n C rfl dX7_does_240 ?_
      refine g_getf C fl_X7_122 rfl rfl dX7_does_241 ?_
      refine g_top (e11) ?_
      refine g_aload_n C rfl dX7_does_244 ?_
      refine g_getf C fl_X7_131 rfl rfl dX7_does_245 ?_
      refine g_top (e12) ?_
      refine g_call C (ok_X7_bids _ _ _ j k rfl rfl hj6 hk hm) my_X7_bids vi_X7_138 (by decide) ⟨Nat.le_refl _, Nat.le_refl _⟩ rfl rfl rfl (Nat.le_of_ble_eq_true rfl) dX7_does_248 rfl (hr_1 h) (fun v_248 w_248 hp_248 => ?_)
      obtain ⟨rfl, h_248⟩ := hp_248
      have h_248 := hr_call h h_248
      refine g_goto (tgt := 256) C (by decide) dX7_does_251 ?_
      refine g_iret C F dX7_does_256 ?_
      have hd : cw_does s 98 (nI j) (nI k) c = (cw_bidsFor (upd s (85 + 20 * j + k) c) k, upd s (85 + 20 * j + k) c) := (cw_does_98 s _ _ c).trans (by rw [cw_oBid, cw_it hqq, ej, ek])
      exact ⟨by rw [hd], _, h_248, by rw [hd]⟩
  · obtain rfl : l = 99 := gw_toInt hsw_4
    refine g_tabIn (off := 382) (tgt := 386) C (by decide) (by decide) rfl (by decide) dX7_does_4 ?_
    refine g_aload_n C rfl dX7_does_386 ?_
    refine g_call C (ok_X7_goesOn hI) my_X7_goesOn vi_X7_168 (by decide) ⟨Nat.le_refl _, Nat.le_refl _⟩ rfl rfl rfl (Nat.le_of_ble_eq_true rfl) dX7_does_387 rfl (hr_1 h) (fun v_387 w_387 hp_387 => ?_)
    obtain ⟨rfl, h_387⟩ := hp_387
    have h_387 := hr_call h h_387
    refine g_iret C F dX7_does_390 ?_
    have hd : cw_does s 99 a b c = cw_oYear s := cw_does_y s a b c (by decide) (by decide) (by decide) (by decide) (by decide) (by decide) (by decide) (by decide) (by decide) (by decide)
    exact ⟨by rw [hd], _, h_387, by rw [hd]⟩
  · obtain rfl : l = 100 := gw_toInt hsw_4
    refine g_tabIn (off := 382) (tgt := 386) C (by decide) (by decide) rfl (by decide) dX7_does_4 ?_
    refine g_aload_n C rfl dX7_does_386 ?_
    refine g_call C (ok_X7_goesOn hI) my_X7_goesOn vi_X7_168 (by decide) ⟨Nat.le_refl _, Nat.le_refl _⟩ rfl rfl rfl (Nat.le_of_ble_eq_true rfl) dX7_does_387 rfl (hr_1 h) (fun v_387 w_387 hp_387 => ?_)
    obtain ⟨rfl, h_387⟩ := hp_387
    have h_387 := hr_call h h_387
    refine g_iret C F dX7_does_390 ?_
    have hd : cw_does s 100 a b c = cw_oYear s := cw_does_y s a b c (by decide) (by decide) (by decide) (by decide) (by decide) (by decide) (by decide) (by decide) (by decide) (by decide)
    exact ⟨by rw [hd], _, h_387, by rw [hd]⟩
  · obtain rfl : l = 101 := gw_toInt hsw_4
    refine g_tabIn (off := 253) (tgt := 257) C (by decide) (by decide) rfl (by decide) dX7_does_4 ?_
    refine g_aload_n C rfl dX7_does_257 ?_
    refine g_call C (ok_X7_settles hI hB) my_X7_settles vi_X7_141 (by decide) ⟨Nat.le_refl _, Nat.le_refl _⟩ rfl rfl rfl (Nat.le_of_ble_eq_true rfl) dX7_does_258 rfl (hr_1 h) (fun v_258 w_258 hp_258 => ?_)
    obtain ⟨rfl, h_258⟩ := hp_258
    have h_258 := hr_call h h_258
    refine g_iret C F dX7_does_261 ?_
    exact ⟨by rw [cw_does_101], _, h_258, by rw [cw_does_101]⟩
  · obtain rfl : l = 102 := gw_toInt hsw_4
    refine g_tabIn (off := 291) (tgt := 295) C (by decide) (by decide) rfl (by decide) dX7_does_4 ?_
    refine g_aload_n C rfl dX7_does_295 ?_
    refine g_aload_n C rfl dX7_does_296 ?_
    refine g_getf C fl_X7_113 rfl rfl dX7_does_297 ?_
    refine g_top (e10) ?_
    refine g_aload_n C rfl dX7_does_300 ?_
    refine g_getf C fl_X7_122 rfl rfl dX7_does_301 ?_
    refine g_top (e11) ?_
    refine g_aload_n C rfl dX7_does_304 ?_
    refine g_getf C fl_X7_131 rfl rfl dX7_does_305 ?_
    refine g_top (e12) ?_
    refine g_call C (ok_X7_errorOfOffer _ _ _) my_X7_errorOfOffer vi_X7_150 (by decide) ⟨Nat.le_refl _, Nat.le_refl _⟩ rfl rfl rfl (Nat.le_of_ble_eq_true rfl) dX7_does_308 rfl (hr_1 h) (fun v_308 w_308 hp_308 => ?_)
    obtain ⟨rfl, hw_308⟩ := hp_308
    have hw_308 := hw_308.symm; subst hw_308
    refine g_if_ne (tgt := 333) C (by decide) dX7_does_311 (fun c_311 => ?_) (fun c_311 => ?_)
    · refine g_bipush (v := (-9)) C (by decide) dX7_does_333 ?_
      refine g_iret C F dX7_does_335 ?_
      have hd : cw_does s 102 a b c = (-9, s) := (cw_does_102 s a b c).trans (cw_ie (fun q => c_311 (cw_if1.mpr ⟨⟨q.1.1.1, q.1.2.1⟩, q.1, fun z => by have y := q.2; rw [z] at y; exact absurd y (by decide)⟩)))
      exact ⟨by rw [hd], s, h, by rw [hd]⟩
    · have hqq := cw_if1.mp c_311
      have h8 : cw_x (s 205) < 8 := by
        rcases Nat.lt_or_ge (cw_x (s 205)) 8 with z | z
        · exact z
        · exact absurd (by rw [hxq.2, show cw_x (s 205) = 8 by omega]; rfl) hqq.2.2
      have h8s : s 205 < 8 := by rw [hxq.2, cw_lt, cw_ni (by omega)]; have z : (8 : Int32).toInt = 8 := rfl; omega
      refine g_aload_n C rfl dX7_does_314 ?_
      refine g_aload_n C rfl dX7_does_315 ?_
      refine g_getf C fl_X7_113 rfl rfl dX7_does_316 ?_
      refine g_top (e10) ?_
      refine g_aload_n C rfl dX7_does_319 ?_
      refine g_getf C fl_X7_122 rfl rfl dX7_does_320 ?_
      refine g_top (e11) ?_
      refine g_aload_n C rfl dX7_does_323 ?_
      refine g_getf C fl_X7_131 rfl rfl dX7_does_324 ?_
      refine g_top (e12) ?_
      refine g_call C (ok_X7_offers _ _ _ h8 hI) my_X7_offers vi_X7_153 (by decide) ⟨Nat.le_refl _, Nat.le_refl _⟩ rfl rfl rfl (Nat.le_of_ble_eq_true rfl) dX7_does_327 rfl (hr_1 h) (fun v_327 w_327 hp_327 => ?_)
      obtain ⟨rfl, h_327⟩ := hp_327
      have h_327 := hr_call h h_327
      refine g_goto (tgt := 335) C (by decide) dX7_does_330 ?_
      refine g_iret C F dX7_does_335 ?_
      have hd : cw_does s 102 a b c = (s 205, cw_offd s (cw_x (s 205)) a b c) := (cw_does_102 s a b c).trans (cw_it ⟨hqq.2.1, h8s⟩)
      exact ⟨by rw [hd], _, h_327, by rw [hd]⟩
  · obtain rfl : l = 103 := gw_toInt hsw_4
    refine g_tabIn (off := 382) (tgt := 386) C (by decide) (by decide) rfl (by decide) dX7_does_4 ?_
    refine g_aload_n C rfl dX7_does_386 ?_
    refine g_call C (ok_X7_goesOn hI) my_X7_goesOn vi_X7_168 (by decide) ⟨Nat.le_refl _, Nat.le_refl _⟩ rfl rfl rfl (Nat.le_of_ble_eq_true rfl) dX7_does_387 rfl (hr_1 h) (fun v_387 w_387 hp_387 => ?_)
    obtain ⟨rfl, h_387⟩ := hp_387
    have h_387 := hr_call h h_387
    refine g_iret C F dX7_does_390 ?_
    have hd : cw_does s 103 a b c = cw_oYear s := cw_does_y s a b c (by decide) (by decide) (by decide) (by decide) (by decide) (by decide) (by decide) (by decide) (by decide) (by decide)
    exact ⟨by rw [hd], _, h_387, by rw [hd]⟩
  · obtain rfl : l = 104 := gw_toInt hsw_4
    refine g_tabIn (off := 382) (tgt := 386) C (by decide) (by decide) rfl (by decide) dX7_does_4 ?_
    refine g_aload_n C rfl dX7_does_386 ?_
    refine g_call C (ok_X7_goesOn hI) my_X7_goesOn vi_X7_168 (by decide) ⟨Nat.le_refl _, Nat.le_refl _⟩ rfl rfl rfl (Nat.le_of_ble_eq_true rfl) dX7_does_387 rfl (hr_1 h) (fun v_387 w_387 hp_387 => ?_)
    obtain ⟨rfl, h_387⟩ := hp_387
    have h_387 := hr_call h h_387
    refine g_iret C F dX7_does_390 ?_
    have hd : cw_does s 104 a b c = cw_oYear s := cw_does_y s a b c (by decide) (by decide) (by decide) (by decide) (by decide) (by decide) (by decide) (by decide) (by decide) (by decide)
    exact ⟨by rw [hd], _, h_387, by rw [hd]⟩
  · obtain rfl : l = 105 := gw_toInt hsw_4
    refine g_tabIn (off := 382) (tgt := 386) C (by decide) (by decide) rfl (by decide) dX7_does_4 ?_
    refine g_aload_n C rfl dX7_does_386 ?_
    refine g_call C (ok_X7_goesOn hI) my_X7_goesOn vi_X7_168 (by decide) ⟨Nat.le_refl _, Nat.le_refl _⟩ rfl rfl rfl (Nat.le_of_ble_eq_true rfl) dX7_does_387 rfl (hr_1 h) (fun v_387 w_387 hp_387 => ?_)
    obtain ⟨rfl, h_387⟩ := hp_387
    have h_387 := hr_call h h_387
    refine g_iret C F dX7_does_390 ?_
    have hd : cw_does s 105 a b c = cw_oYear s := cw_does_y s a b c (by decide) (by decide) (by decide) (by decide) (by decide) (by decide) (by decide) (by decide) (by decide) (by decide)
    exact ⟨by rw [hd], _, h_387, by rw [hd]⟩
  · obtain rfl : l = 106 := gw_toInt hsw_4
    refine g_tabIn (off := 382) (tgt := 386) C (by decide) (by decide) rfl (by decide) dX7_does_4 ?_
    refine g_aload_n C rfl dX7_does_386 ?_
    refine g_call C (ok_X7_goesOn hI) my_X7_goesOn vi_X7_168 (by decide) ⟨Nat.le_refl _, Nat.le_refl _⟩ rfl rfl rfl (Nat.le_of_ble_eq_true rfl) dX7_does_387 rfl (hr_1 h) (fun v_387 w_387 hp_387 => ?_)
    obtain ⟨rfl, h_387⟩ := hp_387
    have h_387 := hr_call h h_387
    refine g_iret C F dX7_does_390 ?_
    have hd : cw_does s 106 a b c = cw_oYear s := cw_does_y s a b c (by decide) (by decide) (by decide) (by decide) (by decide) (by decide) (by decide) (by decide) (by decide) (by decide)
    exact ⟨by rw [hd], _, h_387, by rw [hd]⟩
  · obtain rfl : l = 107 := gw_toInt hsw_4
    refine g_tabIn (off := 125) (tgt := 129) C (by decide) (by decide) rfl (by decide) dX7_does_4 ?_
    refine g_aload_n C rfl dX7_does_129 ?_
    refine g_aload_n C rfl dX7_does_130 ?_
    refine g_getf C fl_X7_113 rfl rfl dX7_does_131 ?_
    refine g_top (e10) ?_
    refine g_aload_n C rfl dX7_does_134 ?_
    refine g_getf C fl_X7_122 rfl rfl dX7_does_135 ?_
    refine g_top (e11) ?_
    refine g_call C (ok_X7_errorOfCost _ _) my_X7_errorOfCost vi_X7_125 (by decide) ⟨Nat.le_refl _, Nat.le_refl _⟩ rfl rfl rfl (Nat.le_of_ble_eq_true rfl) dX7_does_138 rfl (hr_1 h) (fun v_138 w_138 hp_138 => ?_)
    obtain ⟨rfl, hw_138⟩ := hp_138
    have hw_138 := hw_138.symm; subst hw_138
    refine g_if_ne (tgt := 163) C (by decide) dX7_does_141 (fun c_141 => ?_) (fun c_141 => ?_)
    · refine g_bipush (v := (-9)) C (by decide) dX7_does_163 ?_
      refine g_iret C F dX7_does_165 ?_
      have hd : cw_does s 107 a b c = (-9, s) := (cw_does_107 s a b c).trans (cw_ie (fun q => c_141 (cw_if1.mpr q)))
      exact ⟨by rw [hd], s, h, by rw [hd]⟩
    · have hqq := cw_if1.mp c_141
      obtain ⟨k, rfl, hk⟩ := cw_isW_ix hqq.1
      have ek : cw_x (nI k) = k := cw_xn (by omega)
      refine g_aload_n C rfl dX7_does_144 ?_
      refine g_aload_n C rfl dX7_does_145 ?_
      refine g_getf C fl_X7_113 rfl rfl dX7_does_146 ?_
      refine g_top (e10) ?_
      refine g_iconst (v := 0) C (by decide) dX7_does_149 ?_
      refine g_callS C (ok_X7_ofWeek (i := 0) _ _ k rfl rfl) my_X7_ofWeek si_X7_36 (by decide) ⟨Nat.le_refl _, Nat.le_refl _⟩ rfl (Nat.le_of_ble_eq_true rfl) dX7_does_150 rfl (trivial) (fun v_150 w_150 hp_150 => ?_)
      obtain ⟨rfl, hw_150⟩ := hp_150
      have hw_150 := hw_150.symm; subst hw_150
      refine g_aload_n C rfl dX7_does_153 ?_
      refine g_getf C fl_X7_122 rfl rfl dX7_does_154 ?_
      refine g_top (e11) ?_
      refine g_call C (ok_X7_becomes _ _ (25 + 3 * k + 0) rfl (by omega)) my_X7_becomes vi_X7_97 (by decide) ⟨Nat.le_refl _, Nat.le_refl _⟩ rfl rfl rfl (Nat.le_of_ble_eq_true rfl) dX7_does_157 rfl (hr_1 h) (fun v_157 w_157 hp_157 => ?_)
      obtain ⟨rfl, h_157⟩ := hp_157
      have h_157 := hr_call h h_157
      refine g_goto (tgt := 165) C (by decide) dX7_does_160 ?_
      refine g_iret C F dX7_does_165 ?_
      have hd : cw_does s 107 (nI k) b c = (s (25 + 3 * k + 0), upd s (25 + 3 * k + 0) b) := (cw_does_107 s _ b c).trans (by rw [cw_oCost, cw_it hqq, ek])
      exact ⟨by rw [hd], _, h_157, by rw [hd]⟩
  · obtain rfl : l = 108 := gw_toInt hsw_4
    refine g_tabIn (off := 382) (tgt := 386) C (by decide) (by decide) rfl (by decide) dX7_does_4 ?_
    refine g_aload_n C rfl dX7_does_386 ?_
    refine g_call C (ok_X7_goesOn hI) my_X7_goesOn vi_X7_168 (by decide) ⟨Nat.le_refl _, Nat.le_refl _⟩ rfl rfl rfl (Nat.le_of_ble_eq_true rfl) dX7_does_387 rfl (hr_1 h) (fun v_387 w_387 hp_387 => ?_)
    obtain ⟨rfl, h_387⟩ := hp_387
    have h_387 := hr_call h h_387
    refine g_iret C F dX7_does_390 ?_
    have hd : cw_does s 108 a b c = cw_oYear s := cw_does_y s a b c (by decide) (by decide) (by decide) (by decide) (by decide) (by decide) (by decide) (by decide) (by decide) (by decide)
    exact ⟨by rw [hd], _, h_387, by rw [hd]⟩
  · obtain rfl : l = 109 := gw_toInt hsw_4
    refine g_tabIn (off := 382) (tgt := 386) C (by decide) (by decide) rfl (by decide) dX7_does_4 ?_
    refine g_aload_n C rfl dX7_does_386 ?_
    refine g_call C (ok_X7_goesOn hI) my_X7_goesOn vi_X7_168 (by decide) ⟨Nat.le_refl _, Nat.le_refl _⟩ rfl rfl rfl (Nat.le_of_ble_eq_true rfl) dX7_does_387 rfl (hr_1 h) (fun v_387 w_387 hp_387 => ?_)
    obtain ⟨rfl, h_387⟩ := hp_387
    have h_387 := hr_call h h_387
    refine g_iret C F dX7_does_390 ?_
    have hd : cw_does s 109 a b c = cw_oYear s := cw_does_y s a b c (by decide) (by decide) (by decide) (by decide) (by decide) (by decide) (by decide) (by decide) (by decide) (by decide)
    exact ⟨by rw [hd], _, h_387, by rw [hd]⟩
  · obtain rfl : l = 110 := gw_toInt hsw_4
    refine g_tabIn (off := 382) (tgt := 386) C (by decide) (by decide) rfl (by decide) dX7_does_4 ?_
    refine g_aload_n C rfl dX7_does_386 ?_
    refine g_call C (ok_X7_goesOn hI) my_X7_goesOn vi_X7_168 (by decide) ⟨Nat.le_refl _, Nat.le_refl _⟩ rfl rfl rfl (Nat.le_of_ble_eq_true rfl) dX7_does_387 rfl (hr_1 h) (fun v_387 w_387 hp_387 => ?_)
    obtain ⟨rfl, h_387⟩ := hp_387
    have h_387 := hr_call h h_387
    refine g_iret C F dX7_does_390 ?_
    have hd : cw_does s 110 a b c = cw_oYear s := cw_does_y s a b c (by decide) (by decide) (by decide) (by decide) (by decide) (by decide) (by decide) (by decide) (by decide) (by decide)
    exact ⟨by rw [hd], _, h_387, by rw [hd]⟩
  · obtain rfl : l = 111 := gw_toInt hsw_4
    refine g_tabIn (off := 100) (tgt := 104) C (by decide) (by decide) rfl (by decide) dX7_does_4 ?_
    refine g_aload_n C rfl dX7_does_104 ?_
    refine g_aload_n C rfl dX7_does_105 ?_
    refine g_getf C fl_X7_113 rfl rfl dX7_does_106 ?_
    refine g_top (e10) ?_
    refine g_call C (ok_X7_errorOfOwner _) my_X7_errorOfOwner vi_X7_116 (by decide) ⟨Nat.le_refl _, Nat.le_refl _⟩ rfl rfl rfl (Nat.le_of_ble_eq_true rfl) dX7_does_109 rfl (hr_1 h) (fun v_109 w_109 hp_109 => ?_)
    obtain ⟨rfl, hw_109⟩ := hp_109
    have hw_109 := hw_109.symm; subst hw_109
    refine g_if_ne (tgt := 126) C (by decide) dX7_does_112 (fun c_112 => ?_) (fun c_112 => ?_)
    · refine g_bipush (v := (-9)) C (by decide) dX7_does_126 ?_
      refine g_iret C F dX7_does_128 ?_
      have hd : cw_does s 111 a b c = (-9, s) := (cw_does_111 s a b c).trans (cw_ie (fun q => c_112 (cw_if0.mpr q)))
      exact ⟨by rw [hd], s, h, by rw [hd]⟩
    · have hqq := cw_if0.mp c_112
      have h6n : cw_no s < 6 := by
        rcases Nat.lt_or_ge (cw_no s) 6 with z | z
        · exact z
        · exact absurd (by rw [hm.1, show cw_no s = 6 by omega]; rfl) hqq.2
      refine g_aload_n C rfl dX7_does_115 ?_
      refine g_aload_n C rfl dX7_does_116 ?_
      refine g_getf C fl_X7_113 rfl rfl dX7_does_117 ?_
      refine g_top (e10) ?_
      refine g_call C (ok_X7_comes _ hm h6n) my_X7_comes vi_X7_119 (by decide) ⟨Nat.le_refl _, Nat.le_refl _⟩ rfl rfl rfl (Nat.le_of_ble_eq_true rfl) dX7_does_120 rfl (hr_1 h) (fun v_120 w_120 hp_120 => ?_)
      obtain ⟨rfl, h_120⟩ := hp_120
      have h_120 := hr_call h h_120
      refine g_goto (tgt := 128) C (by decide) dX7_does_123 ?_
      refine g_iret C F dX7_does_128 ?_
      have hd : cw_does s 111 a b c = (s 0, cw_comes s (cw_no s) a) := (cw_does_111 s a b c).trans (cw_it hqq)
      exact ⟨by rw [hd], _, h_120, by rw [hd]⟩
  · obtain rfl : l = 112 := gw_toInt hsw_4
    refine g_tabIn (off := 382) (tgt := 386) C (by decide) (by decide) rfl (by decide) dX7_does_4 ?_
    refine g_aload_n C rfl dX7_does_386 ?_
    refine g_call C (ok_X7_goesOn hI) my_X7_goesOn vi_X7_168 (by decide) ⟨Nat.le_refl _, Nat.le_refl _⟩ rfl rfl rfl (Nat.le_of_ble_eq_true rfl) dX7_does_387 rfl (hr_1 h) (fun v_387 w_387 hp_387 => ?_)
    obtain ⟨rfl, h_387⟩ := hp_387
    have h_387 := hr_call h h_387
    refine g_iret C F dX7_does_390 ?_
    have hd : cw_does s 112 a b c = cw_oYear s := cw_does_y s a b c (by decide) (by decide) (by decide) (by decide) (by decide) (by decide) (by decide) (by decide) (by decide) (by decide)
    exact ⟨by rw [hd], _, h_387, by rw [hd]⟩
  · obtain rfl : l = 113 := gw_toInt hsw_4
    refine g_tabIn (off := 382) (tgt := 386) C (by decide) (by decide) rfl (by decide) dX7_does_4 ?_
    refine g_aload_n C rfl dX7_does_386 ?_
    refine g_call C (ok_X7_goesOn hI) my_X7_goesOn vi_X7_168 (by decide) ⟨Nat.le_refl _, Nat.le_refl _⟩ rfl rfl rfl (Nat.le_of_ble_eq_true rfl) dX7_does_387 rfl (hr_1 h) (fun v_387 w_387 hp_387 => ?_)
    obtain ⟨rfl, h_387⟩ := hp_387
    have h_387 := hr_call h h_387
    refine g_iret C F dX7_does_390 ?_
    have hd : cw_does s 113 a b c = cw_oYear s := cw_does_y s a b c (by decide) (by decide) (by decide) (by decide) (by decide) (by decide) (by decide) (by decide) (by decide) (by decide)
    exact ⟨by rw [hd], _, h_387, by rw [hd]⟩
  · obtain rfl : l = 114 := gw_toInt hsw_4
    refine g_tabIn (off := 258) (tgt := 262) C (by decide) (by decide) rfl (by decide) dX7_does_4 ?_
    refine g_aload_n C rfl dX7_does_262 ?_
    refine g_aload_n C rfl dX7_does_263 ?_
    refine g_getf C fl_X7_113 rfl rfl dX7_does_264 ?_
    refine g_top (e10) ?_
    refine g_aload_n C rfl dX7_does_267 ?_
    refine g_getf C fl_X7_122 rfl rfl dX7_does_268 ?_
    refine g_top (e11) ?_
    refine g_call C (ok_X7_errorOfRelease _ _) my_X7_errorOfRelease vi_X7_144 (by decide) ⟨Nat.le_refl _, Nat.le_refl _⟩ rfl rfl rfl (Nat.le_of_ble_eq_true rfl) dX7_does_271 rfl (hr_1 h) (fun v_271 w_271 hp_271 => ?_)
    obtain ⟨rfl, hw_271⟩ := hp_271
    have hw_271 := hw_271.symm; subst hw_271
    refine g_if_ne (tgt := 292) C (by decide) dX7_does_274 (fun c_274 => ?_) (fun c_274 => ?_)
    · refine g_bipush (v := (-9)) C (by decide) dX7_does_292 ?_
      refine g_iret C F dX7_does_294 ?_
      have hd : cw_does s 114 a b c = (-9, s) := (cw_does_114 s a b c).trans (cw_ie (fun q => c_274 (cw_if2.mpr q)))
      exact ⟨by rw [hd], s, h, by rw [hd]⟩
    · have hqq := cw_if2.mp c_274
      obtain ⟨j, rfl, hj⟩ := cw_isO_ix hI.m hqq.1.1
      obtain ⟨k, rfl, hk⟩ := cw_isW_ix hqq.1.2
      have ej : cw_x (nI j) = j := cw_xn (by omega)
      have ek : cw_x (nI k) = k := cw_xn (by omega)
      have hj6 : j < 6 := by omega
      refine g_aload_n C rfl dX7_does_277 ?_
      refine g_aload_n C rfl dX7_does_278 ?_
      refine g_getf C fl_X7_113 rfl rfl dX7_does_279 ?_
      refine g_top (e10) ?_
      refine g_aload_n C rfl dX7_does_282 ?_
      refine g_getf C fl_X7_122 rfl rfl dX7_does_283 ?_
      refine g_top (e11) ?_
      refine g_call C (ok_X7_releases _ _ j k rfl rfl hj6 hk) my_X7_releases vi_X7_147 (by decide) ⟨Nat.le_refl _, Nat.le_refl _⟩ rfl rfl rfl (Nat.le_of_ble_eq_true rfl) dX7_does_286 rfl (hr_1 h) (fun v_286 w_286 hp_286 => ?_)
      obtain ⟨rfl, h_286⟩ := hp_286
      have h_286 := hr_call h h_286
      refine g_goto (tgt := 294) C (by decide) dX7_does_289 ?_
      refine g_iret C F dX7_does_294 ?_
      have hd : cw_does s 114 (nI j) (nI k) c = (s (25 + 3 * k + 0) / 2, cw_releases s j k) := (cw_does_114 s _ _ c).trans (by rw [cw_oRelease, cw_it hqq, ej, ek])
      exact ⟨by rw [hd], _, h_286, by rw [hd]⟩
  · obtain rfl : l = 115 := gw_toInt hsw_4
    refine g_tabIn (off := 162) (tgt := 166) C (by decide) (by decide) rfl (by decide) dX7_does_4 ?_
    obtain ⟨k, rfl, hk⟩ := cw_isW_ix (h115 rfl)
    have ek : cw_x (nI k) = k := cw_xn (by omega)
    refine g_aload_n C rfl dX7_does_166 ?_
    refine g_aload_n C rfl dX7_does_167 ?_
    refine g_getf C fl_X7_113 rfl rfl dX7_does_168 ?_
    refine g_top (e10) ?_
    refine g_iconst (v := 1) C (by decide) dX7_does_171 ?_
    refine g_callS C (ok_X7_ofWeek (i := 1) _ _ k rfl rfl) my_X7_ofWeek si_X7_36 (by decide) ⟨Nat.le_refl _, Nat.le_refl _⟩ rfl (Nat.le_of_ble_eq_true rfl) dX7_does_172 rfl (trivial) (fun v_172 w_172 hp_172 => ?_)
    obtain ⟨rfl, hw_172⟩ := hp_172
    have hw_172 := hw_172.symm; subst hw_172
    refine g_aload_n C rfl dX7_does_175 ?_
    refine g_getf C fl_X7_122 rfl rfl dX7_does_176 ?_
    refine g_top (e11) ?_
    refine g_call C (ok_X7_becomes _ _ (25 + 3 * k + 1) rfl (by omega)) my_X7_becomes vi_X7_97 (by decide) ⟨Nat.le_refl _, Nat.le_refl _⟩ rfl rfl rfl (Nat.le_of_ble_eq_true rfl) dX7_does_179 rfl (hr_1 h) (fun v_179 w_179 hp_179 => ?_)
    obtain ⟨rfl, h_179⟩ := hp_179
    have h_179 := hr_call h h_179
    refine g_iret C F dX7_does_182 ?_
    have hd : cw_does s 115 (nI k) b c = (s (25 + 3 * k + 1), upd s (25 + 3 * k + 1) b) := (cw_does_115 s _ b c).trans (by rw [ek])
    exact ⟨by rw [hd], _, h_179, by rw [hd]⟩
  · obtain rfl : l = 116 := gw_toInt hsw_4
    refine g_tabIn (off := 179) (tgt := 183) C (by decide) (by decide) rfl (by decide) dX7_does_4 ?_
    refine g_aload_n C rfl dX7_does_183 ?_
    refine g_aload_n C rfl dX7_does_184 ?_
    refine g_getf C fl_X7_113 rfl rfl dX7_does_185 ?_
    refine g_top (e10) ?_
    refine g_aload_n C rfl dX7_does_188 ?_
    refine g_getf C fl_X7_122 rfl rfl dX7_does_189 ?_
    refine g_top (e11) ?_
    refine g_call C (ok_X7_areThere _ _) my_X7_areThere vi_X7_107 (by decide) ⟨Nat.le_refl _, Nat.le_refl _⟩ rfl rfl rfl (Nat.le_of_ble_eq_true rfl) dX7_does_192 rfl (hr_1 h) (fun v_192 w_192 hp_192 => ?_)
    obtain ⟨rfl, hw_192⟩ := hp_192
    have hw_192 := hw_192.symm; subst hw_192
    refine g_if_eq (tgt := 213) C (by decide) dX7_does_195 (fun c_195 => ?_) (fun c_195 => ?_)
    · refine g_bipush (v := (-9)) C (by decide) dX7_does_213 ?_
      refine g_iret C F dX7_does_215 ?_
      have hd : cw_does s 116 a b c = (-9, s) := (cw_does_116 s a b c).trans (cw_ie (cw_b0.mp c_195))
      exact ⟨by rw [hd], s, h, by rw [hd]⟩
    · have hqq := cw_bn c_195
      obtain ⟨j, rfl, hj⟩ := cw_isO_ix hI.m hqq.1
      obtain ⟨k, rfl, hk⟩ := cw_isW_ix hqq.2
      have ej : cw_x (nI j) = j := cw_xn (by omega)
      have ek : cw_x (nI k) = k := cw_xn (by omega)
      have hj6 : j < 6 := by omega
      refine g_aload_n C rfl dX7_does_198 ?_
      refine g_aload_n C rfl dX7_does_199 ?_
      refine g_getf C fl_X7_113 rfl rfl dX7_does_200 ?_
      refine g_top (e10) ?_
      refine g_aload_n C rfl dX7_does_203 ?_
      refine g_getf C fl_X7_122 rfl rfl dX7_does_204 ?_
      refine g_top (e11) ?_
      refine g_call C (ok_X7_takes _ _ j k rfl rfl hj6 hk) my_X7_takes vi_X7_128 (by decide) ⟨Nat.le_refl _, Nat.le_refl _⟩ rfl rfl rfl (Nat.le_of_ble_eq_true rfl) dX7_does_207 rfl (hr_1 h) (fun v_207 w_207 hp_207 => ?_)
      obtain ⟨rfl, h_207⟩ := hp_207
      have h_207 := hr_call h h_207
      refine g_goto (tgt := 215) C (by decide) dX7_does_210 ?_
      refine g_iret C F dX7_does_215 ?_
      have hd : cw_does s 116 (nI j) (nI k) c = (cw_hind s j k, cw_takes s j k) := (cw_does_116 s _ _ c).trans (by rw [cw_oTake, cw_it hqq, ej, ek])
      exact ⟨by rw [hd], _, h_207, by rw [hd]⟩
  · obtain rfl : l = 117 := gw_toInt hsw_4
    refine g_tabIn (off := 357) (tgt := 361) C (by decide) (by decide) rfl (by decide) dX7_does_4 ?_
    refine g_aload_n C rfl dX7_does_361 ?_
    refine g_aload_n C rfl dX7_does_362 ?_
    refine g_getf C fl_X7_113 rfl rfl dX7_does_363 ?_
    refine g_top (e10) ?_
    refine g_call C (ok_X7_errorOfUpkeep _) my_X7_errorOfUpkeep vi_X7_162 (by decide) ⟨Nat.le_refl _, Nat.le_refl _⟩ rfl rfl rfl (Nat.le_of_ble_eq_true rfl) dX7_does_366 rfl (hr_1 h) (fun v_366 w_366 hp_366 => ?_)
    obtain ⟨rfl, hw_366⟩ := hp_366
    have hw_366 := hw_366.symm; subst hw_366
    refine g_if_ne (tgt := 383) C (by decide) dX7_does_369 (fun c_369 => ?_) (fun c_369 => ?_)
    · refine g_bipush (v := (-9)) C (by decide) dX7_does_383 ?_
      refine g_iret C F dX7_does_385 ?_
      have hd : cw_does s 117 a b c = (-9, s) := (cw_does_117 s a b c).trans (cw_ie (fun q => c_369 (cw_if0.mpr q)))
      exact ⟨by rw [hd], s, h, by rw [hd]⟩
    · have hqq := cw_if0.mp c_369
      have z1 : (1 : Int32).toInt = 1 := rfl
      have z2 : (999 : Int32).toInt = 999 := rfl
      have hc1 : 0 ≤ a.toInt := by have := cw_le.mp hqq.1.1; omega
      have hc2 : a.toInt ≤ 999 := by have := cw_le.mp hqq.1.2; omega
      refine g_aload_n C rfl dX7_does_372 ?_
      refine g_aload_n C rfl dX7_does_373 ?_
      refine g_getf C fl_X7_113 rfl rfl dX7_does_374 ?_
      refine g_top (e10) ?_
      refine g_call C (ok_X7_parts _ hI hc1 hc2) my_X7_parts vi_X7_165 (by decide) ⟨Nat.le_refl _, Nat.le_refl _⟩ rfl rfl rfl (Nat.le_of_ble_eq_true rfl) dX7_does_377 rfl (hr_1 h) (fun v_377 w_377 hp_377 => ?_)
      obtain ⟨rfl, h_377⟩ := hp_377
      have h_377 := hr_call h h_377
      refine g_goto (tgt := 385) C (by decide) dX7_does_380 ?_
      refine g_iret C F dX7_does_385 ?_
      have hd : cw_does s 117 a b c = ((cw_fold (cw_pays s a) 0 (cw_no s) (0, s)).1, upd (cw_fold (cw_pays s a) 0 (cw_no s) (0, s)).2 241 ((cw_fold (cw_pays s a) 0 (cw_no s) (0, s)).2 241 + a)) := (cw_does_117 s a b c).trans (cw_it hqq)
      exact ⟨by rw [hd], _, h_377, by rw [hd]⟩

