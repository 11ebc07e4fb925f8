theorem cw_ho_wp (w w1 : gw_M) : ho (cw_ws 3 (cw_wp 3 14 w w1)) = ho w1 := by
  have key : ∀ q, q < 14 → cw_ws 3 (cw_wp 3 14 w w1) q = w1 q := fun q hq => cw_wp_i w1 q hq
  exact ho_eq (by rw [key 0 (by decide)]) (by rw [key 0 (by decide)]) (by rw [key 0 (by decide)]) (fun j _ => by rw [key 1 (by decide)]) (fun j _ => by rw [key 2 (by decide)]) (fun j _ => by rw [key 3 (by decide)]) (fun j _ => by rw [key 4 (by decide)]) (fun j _ => by rw [key 5 (by decide)]) (fun j _ => by rw [key 6 (by decide)]) (fun j _ => by rw [key 7 (by decide)]) (fun j _ => by rw [key 8 (by decide)]) (fun j _ => by rw [key 9 (by decide)]) (fun j _ => by rw [key 10 (by decide)]) (fun j _ => by rw [key 11 (by decide)]) (fun j _ => by rw [key 12 (by decide)]) (fun j _ => by rw [key 13 (by decide)])
theorem cw_wp_self (w : gw_M) : cw_wp 3 14 w (cw_ws 3 w) = w := by
  funext j
  unfold cw_wp cw_ws
  split
  · next q => rw [show 3 + (j - 3) = j by omega]
  · rfl
theorem cw_wp_lo (w w1 : gw_M) {q : Nat} (h : q < 3) : cw_wp 3 14 w w1 q = w q := by unfold cw_wp; rw [if_neg (by omega)]
theorem cw_schools_r {t : cw_s} (h : ∀ k, k < 20 → cw_r 0 1 (t (25 + 3 * k + 1))) : cw_r 0 20 (cw_schools t) := by
  have key := cw_fold_P (f := fun k (x : Int32) => x + t (25 + 3 * k + 1)) (fun i (x : Int32) => cw_r 0 i x) 20 0 ⟨0, Nat.zero_le _, by decide, rfl⟩ (fun j y hj hy => by
    show cw_r 0 (j + 1) (y + t (25 + 3 * j + 1))
    obtain ⟨a, a1, a2, a3⟩ := hy
    obtain ⟨b, b1, b2, b3⟩ := h j hj
    exact ⟨a + b, Nat.zero_le _, by omega, by rw [a3, b3, nI_add]⟩)
  exact key 20 (Nat.le_refl _)
/-- what of a command is done -/
def cw_dn (d l : Int32) : Prop := ¬ (d = -9 ∨ (l = 116 ∧ ¬ d ≤ 0))
theorem cw_dn1 {d l : Int32} (hl : ¬ l = 116) (h : ¬ d = -9) : cw_dn d l := fun q => q.elim h (fun z => hl z.1)

theorem cw_take_pos {n m : Nat} {u : cw_s} (hI : cw_I n m u) {a b : Int32} (h : ¬ (cw_oTake u a b).1 = 0) : (cw_oTake u a b).1 = -9 ∨ ¬ (cw_oTake u a b).1 ≤ 0 := by
  unfold cw_oTake at h ⊢
  by_cases q : cw_th u a b
  · rw [cw_it q] at h ⊢
    right
    have h : ¬ cw_hind u (cw_x a) (cw_x b) = 0 := h
    show ¬ cw_hind u (cw_x a) (cw_x b) ≤ 0
    revert h
    unfold cw_hind
    repeat' split
    all_goals first | (intro _; decide) | (intro h; exact absurd rfl h)
  · rw [cw_ie q]; exact Or.inl rfl

set_option maxHeartbeats 8000000 in
set_option maxRecDepth 100000 in
theorem ok_X5_isDone (l a b c : Int32) (u : cw_s) {n m : Nat} (hI : cw_I n m u) (hB : cw_B n (m + 20)) (hL : cw_isL l) (h115 : l = 115 → cw_isW a ∧ cw_r 0 1 b) : gw_Ok yX5_isDone cX5_isDone 6 (some .boolean) sTH 6 [.ref 0, .ref 3, .int l] (fun w => w 2 0 = a ∧ w 2 1 = b ∧ w 2 2 = c ∧ cw_nf (ho (cw_ws 3 w)) = cw_nf u) (fun w vr w1 => vr = some (.int (cw_b (cw_dn (cw_does u l a b c).1 l))) ∧ cw_nf (ho (cw_ws 3 w1)) = cw_nf (cw_does u l a b c).2 ∧ ∀ q, q < 3 → w1 q = w q) := by
  refine gw_of (by decide) (Nat.le_of_ble_eq_true rfl) ?_
  intro X w h C F
  obtain ⟨ha, hb, hc, hh⟩ := h
  have e : cw_eq (ho (cw_ws 3 w)) u := hh
  have hIt := cw_I_cg hI e
  have hBt := hB
  refine g_aload_n C rfl dX5_isDone_0 ?_
  refine g_getr C fl_X5_15 rfl rfl dX5_isDone_1 ?_
  refine g_iconst (v := 0) C (by decide) dX5_isDone_4 ?_
  refine g_iald (j := 0) C rfl (rfl) (by decide) (by decide) dX5_isDone_5 ?_
  refine g_top ha ?_
  refine g_istore_n C (by decide) dX5_isDone_6 ?_
  refine g_aload_n C rfl dX5_isDone_7 ?_
  refine g_getr C fl_X5_15 rfl rfl dX5_isDone_8 ?_
  refine g_iconst (v := 1) C (by decide) dX5_isDone_11 ?_
  refine g_iald (j := 1) C rfl (rfl) (by decide) (by decide) dX5_isDone_12 ?_
  refine g_top hb ?_
  refine g_istore C (by decide) dX5_isDone_13 ?_
  refine g_aload_n C rfl dX5_isDone_15 ?_
  refine g_getr C fl_X5_15 rfl rfl dX5_isDone_16 ?_
  refine g_iconst (v := 2) C (by decide) dX5_isDone_19 ?_
  refine g_iald (j := 2) C rfl (rfl) (by decide) (by decide) dX5_isDone_20 ?_
  refine g_top hc ?_
  refine g_istore C (by decide) dX5_isDone_21 ?_
  refine g_iload_n C rfl dX5_isDone_23 ?_
  have hsw_24 : (l.toInt < 97 ∨ 117 < l.toInt) ∨ l.toInt = 97 ∨ l.toInt = 98 ∨ l.toInt = 99 ∨ l.toInt = 100 ∨ l.toInt = 101 ∨ l.toInt = 102 ∨ l.toInt = 103 ∨ l.toInt = 104 ∨ l.toInt = 105 ∨ l.toInt = 106 ∨ l.toInt = 107 ∨ l.toInt = 108 ∨ l.toInt = 109 ∨ l.toInt = 110 ∨ l.toInt = 111 ∨ l.toInt = 112 ∨ l.toInt = 113 ∨ l.toInt = 114 ∨ l.toInt = 115 ∨ l.toInt = 116 ∨ l.toInt = 117 := by omega
  rcases hsw_24 with hsw_24 | hsw_24 | hsw_24 | hsw_24 | hsw_24 | hsw_24 | hsw_24 | hsw_24 | hsw_24 | hsw_24 | hsw_24 | hsw_24 | hsw_24 | hsw_24 | hsw_24 | hsw_24 | hsw_24 | hsw_24 | hsw_24 | hsw_24 | hsw_24 | hsw_24
  · refine g_tabOut (tgt := 316) C hsw_24 (by decide) dX5_isDone_24 ?_
    refine g_aload_n C rfl dX5_isDone_316 ?_
    refine g_callW C cw_emb_H (ok_X1_beginYear (t := ho (cw_ws 3 w))  hIt) my_X1_beginYear vi_X5_120 (by decide) ⟨Nat.le_refl _, Nat.le_refl _⟩ rfl rfl rfl (cw_wp 3 14 w) (cw_wp_i) (cw_wp_o) (cw_ws 3 w) (fun i _ => rfl) (Nat.le_of_ble_eq_true rfl) dX5_isDone_317 rfl (rfl) (fun v_317 w_317 hp_317 => ?_)
    obtain ⟨rfl, h_317⟩ := hp_317
    refine g_bipush (v := (-2)) C (by decide) dX5_isDone_320 ?_
    refine g_cmp_eq (tgt := 329) C (by decide) dX5_isDone_322 (fun c_322 => ?_) (fun c_322 => ?_)
    · refine g_iconst (v := 0) C (by decide) dX5_isDone_329 ?_
      refine g_zret C F (rfl) dX5_isDone_330 ?_
      have hl : l = 121 := by
        unfold cw_isL at hL
        rcases hL with q | q | q | q | q | q | q | q | q | q | q <;> first | exact q | (exfalso; rw [q] at hsw_24; revert hsw_24; decide)
      have dq := cw_does_cg hI hB e l a b c (fun q => (h115 q).1)
      rw [hl] at dq ⊢
      have hy : ∀ s : cw_s, cw_does s 121 a b c = cw_oYear s := fun s => cw_does_y s _ _ _ (by decide) (by decide) (by decide) (by decide) (by decide) (by decide) (by decide) (by decide) (by decide) (by decide)
      rw [hy, hy] at dq
      rw [hy]
      have hr := cw_year_r hI hB
      have n2 := cw_r_2 hr.1 hr.2
      have n9 := cw_r_9 hr.1 hr.2
      exact absurd (dq.1.symm.trans c_322) n2
    · refine g_iconst (v := 1) C (by decide) dX5_isDone_325 ?_
      refine g_goto (tgt := 330) C (by decide) dX5_isDone_326 ?_
      refine g_zret C F (rfl) dX5_isDone_330 ?_
      have hl : l = 121 := by
        unfold cw_isL at hL
        rcases hL with q | q | q | q | q | q | q | q | q | q | q <;> first | exact q | (exfalso; rw [q] at hsw_24; revert hsw_24; decide)
      have dq := cw_does_cg hI hB e l a b c (fun q => (h115 q).1)
      rw [hl] at dq ⊢
      have hy : ∀ s : cw_s, cw_does s 121 a b c = cw_oYear s := fun s => cw_does_y s _ _ _ (by decide) (by decide) (by decide) (by decide) (by decide) (by decide) (by decide) (by decide) (by decide) (by decide)
      rw [hy, hy] at dq
      rw [hy]
      have hr := cw_year_r hI hB
      have n2 := cw_r_2 hr.1 hr.2
      have n9 := cw_r_9 hr.1 hr.2
      exact ⟨cw_q1 (cw_dn1 (by decide) n9), by rw [cw_ho_wp, h_317]; exact dq.2, fun q hq => cw_wp_lo _ _ hq⟩
  · have hsx_24 : l = 97 := gw_toInt hsw_24
    refine g_tabIn (off := 260) (tgt := 284) C (by omega) (by omega) (by rw [hsw_24]; rfl) (by decide) dX5_isDone_24 ?_
    refine g_aload_n C rfl dX5_isDone_284 ?_
    refine g_iload_n C rfl dX5_isDone_285 ?_
    refine g_callW C cw_emb_H (ok_X1_acceptOffer (t := ho (cw_ws 3 w)) _ hIt) my_X1_acceptOffer vi_X5_114 (by decide) ⟨Nat.le_refl _, Nat.le_refl _⟩ rfl rfl rfl (cw_wp 3 14 w) (cw_wp_i) (cw_wp_o) (cw_ws 3 w) (fun i _ => rfl) (Nat.le_of_ble_eq_true rfl) dX5_isDone_286 rfl (rfl) (fun v_286 w_286 hp_286 => ?_)
    obtain ⟨rfl, h_286⟩ := hp_286
    refine g_bipush (v := (-2)) C (by decide) dX5_isDone_289 ?_
    refine g_cmp_eq (tgt := 298) C (by decide) dX5_isDone_291 (fun c_291 => ?_) (fun c_291 => ?_)
    · refine g_iconst (v := 0) C (by decide) dX5_isDone_298 ?_
      refine g_zret C F (rfl) dX5_isDone_299 ?_
      have hl : l = 97 := hsx_24
      have dq := cw_does_cg hI hB e l a b c (fun q => (h115 q).1)
      rw [hl] at dq ⊢
      rw [cw_does_97, cw_does_97] at dq
      rw [cw_does_97]
      have n2 := cw_2acc hI a
      have cq : cw_re (cw_oAccept u a).1 = -2 := by rw [← dq.1]; exact c_291
      rw [cw_re2 n2] at cq
      exact ⟨cw_q0 (fun z => z (Or.inl cq)), by rw [cw_ho_wp]; exact h_286.trans dq.2, fun q hq => cw_wp_lo _ _ hq⟩
    · refine g_iconst (v := 1) C (by decide) dX5_isDone_294 ?_
      refine g_goto (tgt := 299) C (by decide) dX5_isDone_295 ?_
      refine g_zret C F (rfl) dX5_isDone_299 ?_
      have hl : l = 97 := hsx_24
      have dq := cw_does_cg hI hB e l a b c (fun q => (h115 q).1)
      rw [hl] at dq ⊢
      rw [cw_does_97, cw_does_97] at dq
      rw [cw_does_97]
      have n2 := cw_2acc hI a
      have cq : ¬ cw_re (cw_oAccept u a).1 = -2 := by rw [← dq.1]; exact c_291
      rw [cw_re2 n2] at cq
      exact ⟨cw_q1 (cw_dn1 (by decide) cq), by rw [cw_ho_wp]; exact h_286.trans dq.2, fun q hq => cw_wp_lo _ _ hq⟩
  · have hsx_24 : l = 98 := gw_toInt hsw_24
    refine g_tabIn (off := 187) (tgt := 211) C (by omega) (by omega) (by rw [hsw_24]; rfl) (by decide) dX5_isDone_24 ?_
    refine g_aload_n C rfl dX5_isDone_211 ?_
    refine g_iload_n C rfl dX5_isDone_212 ?_
    refine g_iload C rfl dX5_isDone_213 ?_
    refine g_iload C rfl dX5_isDone_215 ?_
    refine g_callW C cw_emb_H (ok_X1_placeBid (t := ho (cw_ws 3 w)) _ _ _ hIt) my_X1_placeBid vi_X5_101 (by decide) ⟨Nat.le_refl _, Nat.le_refl _⟩ rfl rfl rfl (cw_wp 3 14 w) (cw_wp_i) (cw_wp_o) (cw_ws 3 w) (fun i _ => rfl) (Nat.le_of_ble_eq_true rfl) dX5_isDone_217 rfl (rfl) (fun v_217 w_217 hp_217 => ?_)
    obtain ⟨rfl, h_217⟩ := hp_217
    refine g_bipush (v := (-2)) C (by decide) dX5_isDone_220 ?_
    refine g_cmp_eq (tgt := 229) C (by decide) dX5_isDone_222 (fun c_222 => ?_) (fun c_222 => ?_)
    · refine g_iconst (v := 0) C (by decide) dX5_isDone_229 ?_
      refine g_zret C F (rfl) dX5_isDone_230 ?_
      have hl : l = 98 := hsx_24
      have dq := cw_does_cg hI hB e l a b c (fun q => (h115 q).1)
      rw [hl] at dq ⊢
      rw [cw_does_98, cw_does_98] at dq
      rw [cw_does_98]
      have n2 := cw_2bid hI a b c
      have cq : cw_re (cw_oBid u a b c).1 = -2 := by rw [← dq.1]; exact c_222
      rw [cw_re2 n2] at cq
      exact ⟨cw_q0 (fun z => z (Or.inl cq)), by rw [cw_ho_wp, h_217]; exact dq.2, fun q hq => cw_wp_lo _ _ hq⟩
    · refine g_iconst (v := 1) C (by decide) dX5_isDone_225 ?_
      refine g_goto (tgt := 230) C (by decide) dX5_isDone_226 ?_
      refine g_zret C F (rfl) dX5_isDone_230 ?_
      have hl : l = 98 := hsx_24
      have dq := cw_does_cg hI hB e l a b c (fun q => (h115 q).1)
      rw [hl] at dq ⊢
      rw [cw_does_98, cw_does_98] at dq
      rw [cw_does_98]
      have n2 := cw_2bid hI a b c
      have cq : ¬ cw_re (cw_oBid u a b c).1 = -2 := by rw [← dq.1]; exact c_222
      rw [cw_re2 n2] at cq
      exact ⟨cw_q1 (cw_dn1 (by decide) cq), by rw [cw_ho_wp, h_217]; exact dq.2, fun q hq => cw_wp_lo _ _ hq⟩
  · have hsx_24 : l = 99 := gw_toInt hsw_24
    refine g_tabIn (off := 292) (tgt := 316) C (by omega) (by omega) (by rw [hsw_24]; rfl) (by decide) dX5_isDone_24 ?_
    exact absurd hsx_24 (fun q => by rw [q] at hL; revert hL; unfold cw_isL; decide)
  · have hsx_24 : l = 100 := gw_toInt hsw_24
    refine g_tabIn (off := 292) (tgt := 316) C (by omega) (by omega) (by rw [hsw_24]; rfl) (by decide) dX5_isDone_24 ?_
    exact absurd hsx_24 (fun q => by rw [q] at hL; revert hL; unfold cw_isL; decide)
  · have hsx_24 : l = 101 := gw_toInt hsw_24
    refine g_tabIn (off := 207) (tgt := 231) C (by omega) (by omega) (by rw [hsw_24]; rfl) (by decide) dX5_isDone_24 ?_
    refine g_aload_n C rfl dX5_isDone_231 ?_
    refine g_callW C cw_emb_H (ok_X1_settleBids (t := ho (cw_ws 3 w))  hIt hBt) my_X1_settleBids vi_X5_105 (by decide) ⟨Nat.le_refl _, Nat.le_refl _⟩ rfl rfl rfl (cw_wp 3 14 w) (cw_wp_i) (cw_wp_o) (cw_ws 3 w) (fun i _ => rfl) (Nat.le_of_ble_eq_true rfl) dX5_isDone_232 rfl (rfl) (fun v_232 w_232 hp_232 => ?_)
    obtain ⟨rfl, h_232⟩ := hp_232
    refine g_bipush (v := (-2)) C (by decide) dX5_isDone_235 ?_
    refine g_cmp_eq (tgt := 244) C (by decide) dX5_isDone_237 (fun c_237 => ?_) (fun c_237 => ?_)
    · refine g_iconst (v := 0) C (by decide) dX5_isDone_244 ?_
      refine g_zret C F (rfl) dX5_isDone_245 ?_
      have hl : l = 101 := hsx_24
      have dq := cw_does_cg hI hB e l a b c (fun q => (h115 q).1)
      rw [hl] at dq ⊢
      rw [cw_does_101, cw_does_101] at dq
      rw [cw_does_101]
      have hr := cw_settles_r u
      have n2 := cw_r_2 hr (by decide)
      have n9 := cw_r_9 hr (by decide)
      exact absurd (dq.1.symm.trans c_237) n2
    · refine g_iconst (v := 1) C (by decide) dX5_isDone_240 ?_
      refine g_goto (tgt := 245) C (by decide) dX5_isDone_241 ?_
      refine g_zret C F (rfl) dX5_isDone_245 ?_
      have hl : l = 101 := hsx_24
      have dq := cw_does_cg hI hB e l a b c (fun q => (h115 q).1)
      rw [hl] at dq ⊢
      rw [cw_does_101, cw_does_101] at dq
      rw [cw_does_101]
      have hr := cw_settles_r u
      have n2 := cw_r_2 hr (by decide)
      have n9 := cw_r_9 hr (by decide)
      exact ⟨cw_q1 (cw_dn1 (by decide) n9), by rw [cw_ho_wp, h_232]; exact dq.2, fun q hq => cw_wp_lo _ _ hq⟩
  · have hsx_24 : l = 102 := gw_toInt hsw_24
    refine g_tabIn (off := 240) (tgt := 264) C (by omega) (by omega) (by rw [hsw_24]; rfl) (by decide) dX5_isDone_24 ?_
    refine g_aload_n C rfl dX5_isDone_264 ?_
    refine g_iload_n C rfl dX5_isDone_265 ?_
    refine g_iload C rfl dX5_isDone_266 ?_
    refine g_iload C rfl dX5_isDone_268 ?_
    refine g_callW C cw_emb_H (ok_X1_placeOffer (t := ho (cw_ws 3 w)) _ _ _ hIt) my_X1_placeOffer vi_X5_111 (by decide) ⟨Nat.le_refl _, Nat.le_refl _⟩ rfl rfl rfl (cw_wp 3 14 w) (cw_wp_i) (cw_wp_o) (cw_ws 3 w) (fun i _ => rfl) (Nat.le_of_ble_eq_true rfl) dX5_isDone_270 rfl (rfl) (fun v_270 w_270 hp_270 => ?_)
    obtain ⟨rfl, h_270⟩ := hp_270
    refine g_bipush (v := (-2)) C (by decide) dX5_isDone_273 ?_
    refine g_cmp_eq (tgt := 282) C (by decide) dX5_isDone_275 (fun c_275 => ?_) (fun c_275 => ?_)
    · refine g_iconst (v := 0) C (by decide) dX5_isDone_282 ?_
      refine g_zret C F (rfl) dX5_isDone_283 ?_
      have hl : l = 102 := hsx_24
      have dq := cw_does_cg hI hB e l a b c (fun q => (h115 q).1)
      rw [hl] at dq ⊢
      rw [cw_does_102, cw_does_102] at dq
      rw [cw_does_102]
      have n2 := cw_2off hI a b c
      have cq : cw_re (cw_oOffer u a b c).1 = -2 := by rw [← dq.1]; exact c_275
      rw [cw_re2 n2] at cq
      exact ⟨cw_q0 (fun z => z (Or.inl cq)), by rw [cw_ho_wp, h_270]; exact dq.2, fun q hq => cw_wp_lo _ _ hq⟩
    · refine g_iconst (v := 1) C (by decide) dX5_isDone_278 ?_
      refine g_goto (tgt := 283) C (by decide) dX5_isDone_279 ?_
      refine g_zret C F (rfl) dX5_isDone_283 ?_
      have hl : l = 102 := hsx_24
      have dq := cw_does_cg hI hB e l a b c (fun q => (h115 q).1)
      rw [hl] at dq ⊢
      rw [cw_does_102, cw_does_102] at dq
      rw [cw_does_102]
      have n2 := cw_2off hI a b c
      have cq : ¬ cw_re (cw_oOffer u a b c).1 = -2 := by rw [← dq.1]; exact c_275
      rw [cw_re2 n2] at cq
      exact ⟨cw_q1 (cw_dn1 (by decide) cq), by rw [cw_ho_wp, h_270]; exact dq.2, fun q hq => cw_wp_lo _ _ hq⟩
  · have hsx_24 : l = 103 := gw_toInt hsw_24
    refine g_tabIn (off := 292) (tgt := 316) C (by omega) (by omega) (by rw [hsw_24]; rfl) (by decide) dX5_isDone_24 ?_
    exact absurd hsx_24 (fun q => by rw [q] at hL; revert hL; unfold cw_isL; decide)
  · have hsx_24 : l = 104 := gw_toInt hsw_24
    refine g_tabIn (off := 292) (tgt := 316) C (by omega) (by omega) (by rw [hsw_24]; rfl) (by decide) dX5_isDone_24 ?_
    exact absurd hsx_24 (fun q => by rw [q] at hL; revert hL; unfold cw_isL; decide)
  · have hsx_24 : l = 105 := gw_toInt hsw_24
    refine g_tabIn (off := 292) (tgt := 316) C (by omega) (by omega) (by rw [hsw_24]; rfl) (by decide) dX5_isDone_24 ?_
    exact absurd hsx_24 (fun q => by rw [q] at hL; revert hL; unfold cw_isL; decide)
  · have hsx_24 : l = 106 := gw_toInt hsw_24
    refine g_tabIn (off := 292) (tgt := 316) C (by omega) (by omega) (by rw [hsw_24]; rfl) (by decide) dX5_isDone_24 ?_
    exact absurd hsx_24 (fun q => by rw [q] at hL; revert hL; unfold cw_isL; decide)
  · have hsx_24 : l = 107 := gw_toInt hsw_24
    refine g_tabIn (off := 116) (tgt := 140) C (by omega) (by omega) (by rw [hsw_24]; rfl) (by decide) dX5_isDone_24 ?_
    refine g_aload_n C rfl dX5_isDone_140 ?_
    refine g_iload_n C rfl dX5_isDone_141 ?_
    refine g_iload C rfl dX5_isDone_142 ?_
    refine g_callW C cw_emb_H (ok_X1_changeCost (t := ho (cw_ws 3 w)) _ _ hIt) my_X1_changeCost vi_X5_87 (by decide) ⟨Nat.le_refl _, Nat.le_refl _⟩ rfl rfl rfl (cw_wp 3 14 w) (cw_wp_i) (cw_wp_o) (cw_ws 3 w) (fun i _ => rfl) (Nat.le_of_ble_eq_true rfl) dX5_isDone_144 rfl (rfl) (fun v_144 w_144 hp_144 => ?_)
    obtain ⟨rfl, h_144⟩ := hp_144
    refine g_bipush (v := (-2)) C (by decide) dX5_isDone_147 ?_
    refine g_cmp_eq (tgt := 156) C (by decide) dX5_isDone_149 (fun c_149 => ?_) (fun c_149 => ?_)
    · refine g_iconst (v := 0) C (by decide) dX5_isDone_156 ?_
      refine g_zret C F (rfl) dX5_isDone_157 ?_
      have hl : l = 107 := hsx_24
      have dq := cw_does_cg hI hB e l a b c (fun q => (h115 q).1)
      rw [hl] at dq ⊢
      rw [cw_does_107, cw_does_107] at dq
      rw [cw_does_107]
      have n2 := cw_2cost hI a b
      have cq : cw_re (cw_oCost u a b).1 = -2 := by rw [← dq.1]; exact c_149
      rw [cw_re2 n2] at cq
      exact ⟨cw_q0 (fun z => z (Or.inl cq)), by rw [cw_ho_wp, h_144]; exact dq.2, fun q hq => cw_wp_lo _ _ hq⟩
    · refine g_iconst (v := 1) C (by decide) dX5_isDone_152 ?_
      refine g_goto (tgt := 157) C (by decide) dX5_isDone_153 ?_
      refine g_zret C F (rfl) dX5_isDone_157 ?_
      have hl : l = 107 := hsx_24
      have dq := cw_does_cg hI hB e l a b c (fun q => (h115 q).1)
      rw [hl] at dq ⊢
      rw [cw_does_107, cw_does_107] at dq
      rw [cw_does_107]
      have n2 := cw_2cost hI a b
      have cq : ¬ cw_re (cw_oCost u a b).1 = -2 := by rw [← dq.1]; exact c_149
      rw [cw_re2 n2] at cq
      exact ⟨cw_q1 (cw_dn1 (by decide) cq), by rw [cw_ho_wp, h_144]; exact dq.2, fun q hq => cw_wp_lo _ _ hq⟩
  · have hsx_24 : l = 108 := gw_toInt hsw_24
    refine g_tabIn (off := 292) (tgt := 316) C (by omega) (by omega) (by rw [hsw_24]; rfl) (by decide) dX5_isDone_24 ?_
    exact absurd hsx_24 (fun q => by rw [q] at hL; revert hL; unfold cw_isL; decide)
  · have hsx_24 : l = 109 := gw_toInt hsw_24
    refine g_tabIn (off := 292) (tgt := 316) C (by omega) (by omega) (by rw [hsw_24]; rfl) (by decide) dX5_isDone_24 ?_
    exact absurd hsx_24 (fun q => by rw [q] at hL; revert hL; unfold cw_isL; decide)
  · have hsx_24 : l = 110 := gw_toInt hsw_24
    refine g_tabIn (off := 292) (tgt := 316) C (by omega) (by omega) (by rw [hsw_24]; rfl) (by decide) dX5_isDone_24 ?_
    exact absurd hsx_24 (fun q => by rw [q] at hL; revert hL; unfold cw_isL; decide)
  · have hsx_24 : l = 111 := gw_toInt hsw_24
    refine g_tabIn (off := 100) (tgt := 124) C (by omega) (by omega) (by rw [hsw_24]; rfl) (by decide) dX5_isDone_24 ?_
    refine g_aload_n C rfl dX5_isDone_124 ?_
    refine g_iload_n C rfl dX5_isDone_125 ?_
    refine g_callW C cw_emb_H (ok_X1_addOwner (t := ho (cw_ws 3 w)) _ hIt) my_X1_addOwner vi_X5_82 (by decide) ⟨Nat.le_refl _, Nat.le_refl _⟩ rfl rfl rfl (cw_wp 3 14 w) (cw_wp_i) (cw_wp_o) (cw_ws 3 w) (fun i _ => rfl) (Nat.le_of_ble_eq_true rfl) dX5_isDone_126 rfl (rfl) (fun v_126 w_126 hp_126 => ?_)
    obtain ⟨rfl, h_126⟩ := hp_126
    refine g_bipush (v := (-2)) C (by decide) dX5_isDone_129 ?_
    refine g_cmp_eq (tgt := 138) C (by decide) dX5_isDone_131 (fun c_131 => ?_) (fun c_131 => ?_)
    · refine g_iconst (v := 0) C (by decide) dX5_isDone_138 ?_
      refine g_zret C F (rfl) dX5_isDone_139 ?_
      have hl : l = 111 := hsx_24
      have dq := cw_does_cg hI hB e l a b c (fun q => (h115 q).1)
      rw [hl] at dq ⊢
      rw [cw_does_111, cw_does_111] at dq
      rw [cw_does_111]
      have n2 := cw_2own hI a
      have cq : cw_re (cw_oOwner u a).1 = -2 := by rw [← dq.1]; exact c_131
      rw [cw_re2 n2] at cq
      exact ⟨cw_q0 (fun z => z (Or.inl cq)), by rw [cw_ho_wp, h_126]; exact dq.2, fun q hq => cw_wp_lo _ _ hq⟩
    · refine g_iconst (v := 1) C (by decide) dX5_isDone_134 ?_
      refine g_goto (tgt := 139) C (by decide) dX5_isDone_135 ?_
      refine g_zret C F (rfl) dX5_isDone_139 ?_
      have hl : l = 111 := hsx_24
      have dq := cw_does_cg hI hB e l a b c (fun q => (h115 q).1)
      rw [hl] at dq ⊢
      rw [cw_does_111, cw_does_111] at dq
      rw [cw_does_111]
      have n2 := cw_2own hI a
      have cq : ¬ cw_re (cw_oOwner u a).1 = -2 := by rw [← dq.1]; exact c_131
      rw [cw_re2 n2] at cq
      exact ⟨cw_q1 (cw_dn1 (by decide) cq), by rw [cw_ho_wp, h_126]; exact dq.2, fun q hq => cw_wp_lo _ _ hq⟩
  · have hsx_24 : l = 112 := gw_toInt hsw_24
    refine g_tabIn (off := 292) (tgt := 316) C (by omega) (by omega) (by rw [hsw_24]; rfl) (by decide) dX5_isDone_24 ?_
    exact absurd hsx_24 (fun q => by rw [q] at hL; revert hL; unfold cw_isL; decide)
  · have hsx_24 : l = 113 := gw_toInt hsw_24
    refine g_tabIn (off := 292) (tgt := 316) C (by omega) (by omega) (by rw [hsw_24]; rfl) (by decide) dX5_isDone_24 ?_
    exact absurd hsx_24 (fun q => by rw [q] at hL; revert hL; unfold cw_isL; decide)
  · have hsx_24 : l = 114 := gw_toInt hsw_24
    refine g_tabIn (off := 222) (tgt := 246) C (by omega) (by omega) (by rw [hsw_24]; rfl) (by decide) dX5_isDone_24 ?_
    refine g_aload_n C rfl dX5_isDone_246 ?_
    refine g_iload_n C rfl dX5_isDone_247 ?_
    refine g_iload C rfl dX5_isDone_248 ?_
    refine g_callW C cw_emb_H (ok_X1_giveBack (t := ho (cw_ws 3 w)) _ _ hIt) my_X1_giveBack vi_X5_108 (by decide) ⟨Nat.le_refl _, Nat.le_refl _⟩ rfl rfl rfl (cw_wp 3 14 w) (cw_wp_i) (cw_wp_o) (cw_ws 3 w) (fun i _ => rfl) (Nat.le_of_ble_eq_true rfl) dX5_isDone_250 rfl (rfl) (fun v_250 w_250 hp_250 => ?_)
    obtain ⟨rfl, h_250⟩ := hp_250
    refine g_bipush (v := (-2)) C (by decide) dX5_isDone_253 ?_
    refine g_cmp_eq (tgt := 262) C (by decide) dX5_isDone_255 (fun c_255 => ?_) (fun c_255 => ?_)
    · refine g_iconst (v := 0) C (by decide) dX5_isDone_262 ?_
      refine g_zret C F (rfl) dX5_isDone_263 ?_
      have hl : l = 114 := hsx_24
      have dq := cw_does_cg hI hB e l a b c (fun q => (h115 q).1)
      rw [hl] at dq ⊢
      rw [cw_does_114, cw_does_114] at dq
      rw [cw_does_114]
      have n2 := cw_2rel hI a b
      have cq : cw_re (cw_oRelease u a b).1 = -2 := by rw [← dq.1]; exact c_255
      rw [cw_re2 n2] at cq
      exact ⟨cw_q0 (fun z => z (Or.inl cq)), by rw [cw_ho_wp, h_250]; exact dq.2, fun q hq => cw_wp_lo _ _ hq⟩
    · refine g_iconst (v := 1) C (by decide) dX5_isDone_258 ?_
      refine g_goto (tgt := 263) C (by decide) dX5_isDone_259 ?_
      refine g_zret C F (rfl) dX5_isDone_263 ?_
      have hl : l = 114 := hsx_24
      have dq := cw_does_cg hI hB e l a b c (fun q => (h115 q).1)
      rw [hl] at dq ⊢
      rw [cw_does_114, cw_does_114] at dq
      rw [cw_does_114]
      have n2 := cw_2rel hI a b
      have cq : ¬ cw_re (cw_oRelease u a b).1 = -2 := by rw [← dq.1]; exact c_255
      rw [cw_re2 n2] at cq
      exact ⟨cw_q1 (cw_dn1 (by decide) cq), by rw [cw_ho_wp, h_250]; exact dq.2, fun q hq => cw_wp_lo _ _ hq⟩
  · have hsx_24 : l = 115 := gw_toInt hsw_24
    refine g_tabIn (off := 134) (tgt := 158) C (by omega) (by omega) (by rw [hsw_24]; rfl) (by decide) dX5_isDone_24 ?_
    obtain ⟨hw, h01⟩ := h115 hsx_24
    refine g_aload_n C rfl dX5_isDone_158 ?_
    refine g_iload_n C rfl dX5_isDone_159 ?_
    refine g_iload C rfl dX5_isDone_160 ?_
    refine g_iconst (v := 1) C (by decide) dX5_isDone_162 ?_
    refine g_join2 171 (b) (fun k_171 => ?_) ?_
    · refine g_cmp_ne (tgt := 170) C (by decide) dX5_isDone_163 (fun c_163 => ?_) (fun c_163 => ?_)
      · refine g_iconst (v := 0) C (by decide) dX5_isDone_170 ?_
        exact k_171 _ (cw_01n h01 c_163)
      · refine g_iconst (v := 1) C (by decide) dX5_isDone_166 ?_
        refine g_goto (tgt := 171) C (by decide) dX5_isDone_167 ?_
        exact k_171 _ ((show b = 1 from c_163).symm)
    refine g_callW C cw_emb_H (ok_X1_markSchool (t := ho (cw_ws 3 w)) _ _ h01 hIt) my_X1_markSchool vi_X5_91 (by decide) ⟨Nat.le_refl _, Nat.le_refl _⟩ rfl rfl rfl (cw_wp 3 14 w) (cw_wp_i) (cw_wp_o) (cw_ws 3 w) (fun i _ => rfl) (Nat.le_of_ble_eq_true rfl) dX5_isDone_171 rfl (rfl) (fun v_171 w_171 hp_171 => ?_)
    obtain ⟨rfl, h_171⟩ := hp_171
    refine g_bipush (v := (-2)) C (by decide) dX5_isDone_174 ?_
    refine g_cmp_eq (tgt := 183) C (by decide) dX5_isDone_176 (fun c_176 => ?_) (fun c_176 => ?_)
    · refine g_iconst (v := 0) C (by decide) dX5_isDone_183 ?_
      refine g_zret C F (rfl) dX5_isDone_184 ?_
      have hl : l = 115 := hsx_24
      have dq := cw_does_cg hI hB e l a b c (fun q => (h115 q).1)
      rw [hl] at dq ⊢
      rw [cw_does_115, cw_does_115] at dq
      rw [cw_does_115]
      have hm : ho w_171 = cw_if (cw_isW a) (upd (ho (cw_ws 3 w)) (25 + 3 * cw_x a + 1) b) (ho (cw_ws 3 w)) := h_171
      rw [cw_it hw] at hm
      have hsr : cw_r 0 20 (cw_schools (upd (ho (cw_ws 3 w)) (25 + 3 * cw_x a + 1) b)) := cw_schools_r (fun k hk => by
        by_cases q : 25 + 3 * k + 1 = 25 + 3 * cw_x a + 1
        · rw [q, cw_ups]; exact h01
        · rw [cw_upn _ _ q]; exact hIt.sch k hk)
      rw [cw_it hw] at c_176
      exact absurd c_176 (cw_r_2 hsr (by decide))
    · refine g_iconst (v := 1) C (by decide) dX5_isDone_179 ?_
      refine g_goto (tgt := 184) C (by decide) dX5_isDone_180 ?_
      refine g_zret C F (rfl) dX5_isDone_184 ?_
      have hl : l = 115 := hsx_24
      have dq := cw_does_cg hI hB e l a b c (fun q => (h115 q).1)
      rw [hl] at dq ⊢
      rw [cw_does_115, cw_does_115] at dq
      rw [cw_does_115]
      have hm : ho w_171 = cw_if (cw_isW a) (upd (ho (cw_ws 3 w)) (25 + 3 * cw_x a + 1) b) (ho (cw_ws 3 w)) := h_171
      rw [cw_it hw] at hm
      have hsr : cw_r 0 20 (cw_schools (upd (ho (cw_ws 3 w)) (25 + 3 * cw_x a + 1) b)) := cw_schools_r (fun k hk => by
        by_cases q : 25 + 3 * k + 1 = 25 + 3 * cw_x a + 1
        · rw [q, cw_ups]; exact h01
        · rw [cw_upn _ _ q]; exact hIt.sch k hk)
      have n9 : ¬ u (25 + 3 * cw_x a + 1) = -9 := by
        obtain ⟨i, rfl, hi⟩ := cw_isW_ix hw
        rw [cw_xn (by omega)]
        exact cw_r_9 (hI.sch i hi) (by decide)
      exact ⟨cw_q1 (cw_dn1 (by decide) n9), by rw [cw_ho_wp, hm]; exact dq.2, fun q hq => cw_wp_lo _ _ hq⟩
  · have hsx_24 : l = 116 := gw_toInt hsw_24
    refine g_tabIn (off := 161) (tgt := 185) C (by omega) (by omega) (by rw [hsw_24]; rfl) (by decide) dX5_isDone_24 ?_
    refine g_aload_n C rfl dX5_isDone_185 ?_
    refine g_iload_n C rfl dX5_isDone_186 ?_
    refine g_iload C rfl dX5_isDone_187 ?_
    refine g_callW C cw_emb_H (ok_X1_reasonAgainst (t := ho (cw_ws 3 w)) _ _ hIt) my_X1_reasonAgainst vi_X5_95 (by decide) ⟨Nat.le_refl _, Nat.le_refl _⟩ rfl rfl rfl (cw_wp 3 14 w) (cw_wp_i) (cw_wp_o) (cw_ws 3 w) (fun i _ => rfl) (Nat.le_of_ble_eq_true rfl) dX5_isDone_189 rfl (rfl) (fun v_189 w_189 hp_189 => ?_)
    obtain ⟨rfl, hw_189⟩ := hp_189
    have hw_189 := hw_189.symm; subst hw_189
    rw [cw_wp_self]
    refine g_if_ne (tgt := 209) C (by decide) dX5_isDone_192 (fun c_192 => ?_) (fun c_192 => ?_)
    · refine g_iconst (v := 0) C (by decide) dX5_isDone_209 ?_
      refine g_zret C F (rfl) dX5_isDone_210 ?_
      have hl : l = 116 := hsx_24
      have dq := cw_does_cg hI hB e l a b c (fun q => (h115 q).1)
      rw [hl] at dq ⊢
      rw [cw_does_116, cw_does_116] at dq
      rw [cw_does_116]
      have hno : ¬ (cw_oTake u a b).1 = 0 ∧ cw_nf (cw_oTake u a b).2 = cw_nf u := by
        unfold cw_oTake
        by_cases q : cw_th u a b
        · rw [cw_it q]
          obtain ⟨h1, h2, -, -⟩ := cw_thx hI q
          have h6 := hI.m.2
          rw [cw_it (by rw [cw_th_cg e]; exact q), cw_hind_cg e (by omega) h2] at c_192
          refine ⟨c_192, ?_⟩
          show cw_nf (cw_takes u (cw_x a) (cw_x b)) = _
          unfold cw_takes
          rw [if_neg c_192]
        · rw [cw_ie q]; exact ⟨by show ¬ (-9 : Int32) = 0; decide, rfl⟩
      have hpos : (cw_oTake u a b).1 = -9 ∨ ¬ (cw_oTake u a b).1 ≤ 0 := cw_take_pos hI hno.1
      exact ⟨cw_q0 (fun z => z (hpos.elim Or.inl (fun y => Or.inr ⟨rfl, y⟩))), by rw [hno.2]; exact hh, fun _ _ => rfl⟩
    · refine g_aload_n C rfl dX5_isDone_195 ?_
      refine g_iload_n C rfl dX5_isDone_196 ?_
      refine g_iload C rfl dX5_isDone_197 ?_
      refine g_callW C cw_emb_H (ok_X1_takeWeek (t := ho (cw_ws 3 w)) _ _ hIt) my_X1_takeWeek vi_X5_98 (by decide) ⟨Nat.le_refl _, Nat.le_refl _⟩ rfl rfl rfl (cw_wp 3 14 w) (cw_wp_i) (cw_wp_o) (cw_ws 3 w) (fun i _ => rfl) (Nat.le_of_ble_eq_true rfl) dX5_isDone_199 rfl (rfl) (fun v_199 w_199 hp_199 => ?_)
      obtain ⟨rfl, h_199⟩ := hp_199
      refine g_if_ne (tgt := 209) C (by decide) dX5_isDone_202 (fun c_202 => ?_) (fun c_202 => ?_)
      · refine g_iconst (v := 0) C (by decide) dX5_isDone_209 ?_
        refine g_zret C F (rfl) dX5_isDone_210 ?_
        have hl : l = 116 := hsx_24
        have dq := cw_does_cg hI hB e l a b c (fun q => (h115 q).1)
        rw [hl] at dq ⊢
        rw [cw_does_116, cw_does_116] at dq
        rw [cw_does_116]
        have hth : cw_th u a b := Classical.byContradiction (fun q => by rw [cw_ie (by rw [cw_th_cg e]; exact q)] at c_192; exact absurd c_192 (by decide))
        obtain ⟨h1, h2, -, -⟩ := cw_thx hI hth
        have h6 := hI.m.2
        rw [cw_it (by rw [cw_th_cg e]; exact hth)] at c_192
        have hR : cw_oTakeR (ho (cw_ws 3 w)) a b = cw_oTake (ho (cw_ws 3 w)) a b := by
          unfold cw_oTakeR cw_oTake
          rw [cw_it (by rw [cw_th_cg e]; exact hth), cw_it (by rw [cw_th_cg e]; exact hth), if_pos c_192]
        have hz : (cw_oTake u a b).1 = 0 := by
          unfold cw_oTake
          rw [cw_it hth]
          rw [cw_hind_cg e (by omega) h2] at c_192
          exact c_192
        rw [hR] at h_199 c_202
        rw [dq.1, hz] at c_202
        exact absurd (show cw_re 0 = 0 from rfl) c_202
      · refine g_iconst (v := 1) C (by decide) dX5_isDone_205 ?_
        refine g_goto (tgt := 210) C (by decide) dX5_isDone_206 ?_
        refine g_zret C F (rfl) dX5_isDone_210 ?_
        have hl : l = 116 := hsx_24
        have dq := cw_does_cg hI hB e l a b c (fun q => (h115 q).1)
        rw [hl] at dq ⊢
        rw [cw_does_116, cw_does_116] at dq
        rw [cw_does_116]
        have hth : cw_th u a b := Classical.byContradiction (fun q => by rw [cw_ie (by rw [cw_th_cg e]; exact q)] at c_192; exact absurd c_192 (by decide))
        obtain ⟨h1, h2, -, -⟩ := cw_thx hI hth
        have h6 := hI.m.2
        rw [cw_it (by rw [cw_th_cg e]; exact hth)] at c_192
        have hR : cw_oTakeR (ho (cw_ws 3 w)) a b = cw_oTake (ho (cw_ws 3 w)) a b := by
          unfold cw_oTakeR cw_oTake
          rw [cw_it (by rw [cw_th_cg e]; exact hth), cw_it (by rw [cw_th_cg e]; exact hth), if_pos c_192]
        have hz : (cw_oTake u a b).1 = 0 := by
          unfold cw_oTake
          rw [cw_it hth]
          rw [cw_hind_cg e (by omega) h2] at c_192
          exact c_192
        rw [hR] at h_199 c_202
        rw [dq.1, hz] at c_202
        exact ⟨cw_q1 (fun z => z.elim (fun y => by rw [hz] at y; exact absurd y (by decide)) (fun y => y.2 (by rw [hz]; decide))), by rw [cw_ho_wp, h_199]; exact dq.2, fun q hq => cw_wp_lo _ _ hq⟩
  · have hsx_24 : l = 117 := gw_toInt hsw_24
    refine g_tabIn (off := 276) (tgt := 300) C (by omega) (by omega) (by rw [hsw_24]; rfl) (by decide) dX5_isDone_24 ?_
    refine g_aload_n C rfl dX5_isDone_300 ?_
    refine g_iload_n C rfl dX5_isDone_301 ?_
    refine g_callW C cw_emb_H (ok_X1_payUpkeep (t := ho (cw_ws 3 w)) _ hIt) my_X1_payUpkeep vi_X5_117 (by decide) ⟨Nat.le_refl _, Nat.le_refl _⟩ rfl rfl rfl (cw_wp 3 14 w) (cw_wp_i) (cw_wp_o) (cw_ws 3 w) (fun i _ => rfl) (Nat.le_of_ble_eq_true rfl) dX5_isDone_302 rfl (rfl) (fun v_302 w_302 hp_302 => ?_)
    obtain ⟨rfl, h_302⟩ := hp_302
    refine g_bipush (v := (-2)) C (by decide) dX5_isDone_305 ?_
    refine g_cmp_eq (tgt := 314) C (by decide) dX5_isDone_307 (fun c_307 => ?_) (fun c_307 => ?_)
    · refine g_iconst (v := 0) C (by decide) dX5_isDone_314 ?_
      refine g_zret C F (rfl) dX5_isDone_315 ?_
      have hl : l = 117 := hsx_24
      have dq := cw_does_cg hI hB e l a b c (fun q => (h115 q).1)
      rw [hl] at dq ⊢
      rw [cw_does_117, cw_does_117] at dq
      rw [cw_does_117]
      have n2 := cw_2upk hI a
      have cq : cw_re (cw_oUpkeep u a).1 = -2 := by rw [← dq.1]; exact c_307
      rw [cw_re2 n2] at cq
      exact ⟨cw_q0 (fun z => z (Or.inl cq)), by rw [cw_ho_wp, h_302]; exact dq.2, fun q hq => cw_wp_lo _ _ hq⟩
    · refine g_iconst (v := 1) C (by decide) dX5_isDone_310 ?_
      refine g_goto (tgt := 315) C (by decide) dX5_isDone_311 ?_
      refine g_zret C F (rfl) dX5_isDone_315 ?_
      have hl : l = 117 := hsx_24
      have dq := cw_does_cg hI hB e l a b c (fun q => (h115 q).1)
      rw [hl] at dq ⊢
      rw [cw_does_117, cw_does_117] at dq
      rw [cw_does_117]
      have n2 := cw_2upk hI a
      have cq : ¬ cw_re (cw_oUpkeep u a).1 = -2 := by rw [← dq.1]; exact c_307
      rw [cw_re2 n2] at cq
      exact ⟨cw_q1 (cw_dn1 (by decide) cq), by rw [cw_ho_wp, h_302]; exact dq.2, fun q hq => cw_wp_lo _ _ hq⟩

