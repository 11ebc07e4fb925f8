/-! THE LAW'S LOOP -/
theorem cw_sub4 {L j : Nat} (hL : L ≤ 2048) (hj : j ≤ 512) (h : ¬ nI L - 4 < nI (4 * j)) : 4 * j + 3 < L := by
  rw [Int32.lt_iff_toInt_lt] at h
  have e4 : nI 4 = (4 : Int32) := rfl
  have e := pk_sub_toInt (a := L) (b := 4) (by omega) (by omega)
  rw [← e4, e, nI_toInt (by omega)] at h
  omega

set_option maxHeartbeats 8000000 in
set_option maxRecDepth 100000 in
/-- THE LAW'S LOOP: at its head, behind j calls, class and reference are in one state -/
theorem law_loop {X : gw_X} (C : gw_ok X RL cL_law 7 20 601024 7293034) {L : Nat} {xs : Nat → Int32} (hX : gw_lx X L xs) (hL : L ≤ 2048) {k0 n0 : Nat} (hk : k0 + 513 ≤ 601024 ∧ n0 + 3078 ≤ 7293034)
    (K : ∀ (k n : Nat) (lv : gw_LV) (w : gw_M), k ≤ 601024 → n ≤ 7293034 → gw_G X sL 7 k n 2018 lv [] w) :
    ∀ (r j : Nat), j + r = 512 → ∀ (A : cw_A) (w : gw_M), cw_IA (21600 * j) (2400 * j) A → cw_RC A w → cw_RM A (cw_ws 264 w) → gw_G X sL 7 (k0 + j) (n0 + 6 * j) 23 [(0, .ref 271), (1, .ref 252), (2, .ref 264), (3, .ref 263), (4, .int (nI (4 * j)))] [] w := by
  intro r
  induction r with
  | zero =>
    intro j hj A w hA hc hm
    refine g_iload C rfl dL_law_23 ?_
    refine g_aload_n C rfl dL_law_25 ?_
    refine g_slen2 C hX dL_law_26 ?_
    refine g_iconst (v := 4) C (by decide) dL_law_27 ?_
    refine g_isub C dL_law_28 ?_
    refine g_cmp_gt (tgt := 2018) C (by decide) dL_law_29 (fun _ => K _ _ _ _ (by omega) (by omega)) (fun c_29 => ?_)
    have hs := cw_sub4 (L := L) (j := j) (by omega) (by omega) c_29
    omega
  | succ r ih =>
    intro j hj A w hA hc hm
    refine g_iload C rfl dL_law_23 ?_
    refine g_aload_n C rfl dL_law_25 ?_
    refine g_slen2 C hX dL_law_26 ?_
    refine g_iconst (v := 4) C (by decide) dL_law_27 ?_
    refine g_isub C dL_law_28 ?_
    refine g_cmp_gt (tgt := 2018) C (by decide) dL_law_29 (fun _ => K _ _ _ _ (by omega) (by omega)) (fun c_29 => ?_)
    have hlt : 4 * j + 3 < L := cw_sub4 (by omega) (by omega) c_29
    refine g_aload_n C rfl dL_law_32 ?_
    refine g_iload C rfl dL_law_33 ?_
    refine g_scr C hX (j := 4 * j) rfl (by omega) (by omega) dL_law_35 ?_
    refine g_bipush (v := 31) C (by decide) dL_law_36 ?_
    refine g_iand C dL_law_38 ?_
    have hBB : cw_B (21600 * j + 21600) (2400 * j + 2400) := ⟨by omega, by omega⟩
    have hkk : k0 + j + 1 ≤ 601024 ∧ n0 + 6 * j + 6 ≤ 7293034 := ⟨by omega, by omega⟩
    have cont : ∀ (B : cw_A) (w1 : gw_M), cw_IA (21600 * j + 21600) (2400 * j + 2400) B → cw_RC B w1 → cw_RM B (cw_ws 264 w1) → gw_G X sL 7 (k0 + j + 1) (n0 + 6 * j + 6) 2012 [(0, .ref 271), (1, .ref 252), (2, .ref 264), (3, .ref 263), (4, .int (nI (4 * j)))] [] w1 := fun B w1 h1 h2 h3 => by
      refine g_iinc (v := nI (4 * (j + 1))) C rfl (show nI (4 * j) + nI 4 = _ by rw [nI_add]; rfl) (by decide) dL_law_2012 ?_
      refine g_goto (tgt := 23) C (by decide) dL_law_2015 ?_
      exact g_sub rfl (g_widen (k' := k0 + (j + 1)) (n' := n0 + 6 * (j + 1)) (by omega) (by omega) (ih (j + 1) (by omega) B w1 (h1.mono (by omega) (by omega)) h2 h3))
    obtain ⟨v, hv, ev⟩ := pk_andE (xs (4 * j)) (m := 31) 5 (by decide)
    rw [ev]
    have hvc : v = 0 ∨ v = 1 ∨ v = 2 ∨ v = 3 ∨ v = 4 ∨ v = 5 ∨ v = 6 ∨ v = 7 ∨ v = 8 ∨ v = 9 ∨ v = 10 ∨ v = 11 ∨ v = 12 ∨ v = 13 ∨ v = 14 ∨ v = 15 ∨ v = 16 ∨ v = 17 ∨ v = 18 ∨ v = 19 ∨ v = 20 ∨ v = 21 ∨ v = 22 ∨ v = 23 ∨ v = 24 ∨ v = 25 ∨ v = 26 ∨ v = 27 ∨ v = 28 ∨ v = 29 ∨ v = 30 ∨ v = 31 := by omega
    rcases hvc with rfl | rfl | rfl | rfl | rfl | rfl | rfl | rfl | rfl | rfl | rfl | rfl | rfl | rfl | rfl | rfl | rfl | rfl | rfl | rfl | rfl | rfl | rfl | rfl | rfl | rfl | rfl | rfl | rfl | rfl | rfl | rfl
    · refine g_tabIn (off := 137) (tgt := 176) C (by decide) (by decide) rfl (by decide) dL_law_39 ?_
      exact law_0 C hX hlt hL hkk A hA hBB hc hm cont
    · refine g_tabIn (off := 193) (tgt := 232) C (by decide) (by decide) rfl (by decide) dL_law_39 ?_
      exact law_1 C hX hlt hL hkk A hA hBB hc hm cont
    · refine g_tabIn (off := 206) (tgt := 245) C (by decide) (by decide) rfl (by decide) dL_law_39 ?_
      exact law_2 C hX hlt hL hkk A hA hBB hc hm cont
    · refine g_tabIn (off := 219) (tgt := 258) C (by decide) (by decide) rfl (by decide) dL_law_39 ?_
      exact law_3 C hX hlt hL hkk A hA hBB hc hm cont
    · refine g_tabIn (off := 263) (tgt := 302) C (by decide) (by decide) rfl (by decide) dL_law_39 ?_
      exact law_4 C hX hlt hL hkk A hA hBB hc hm cont
    · refine g_tabIn (off := 319) (tgt := 358) C (by decide) (by decide) rfl (by decide) dL_law_39 ?_
      exact law_5 C hX hlt hL hkk A hA hBB hc hm cont
    · refine g_tabIn (off := 387) (tgt := 426) C (by decide) (by decide) rfl (by decide) dL_law_39 ?_
      exact law_6 C hX hlt hL hkk A hA hBB hc hm cont
    · refine g_tabIn (off := 455) (tgt := 494) C (by decide) (by decide) rfl (by decide) dL_law_39 ?_
      exact law_7 C hX hlt hL hkk A hA hBB hc hm cont
    · refine g_tabIn (off := 523) (tgt := 562) C (by decide) (by decide) rfl (by decide) dL_law_39 ?_
      exact law_8 C hX hlt hL hkk A hA hBB hc hm cont
    · refine g_tabIn (off := 591) (tgt := 630) C (by decide) (by decide) rfl (by decide) dL_law_39 ?_
      exact law_9 C hX hlt hL hkk A hA hBB hc hm cont
    · refine g_tabIn (off := 647) (tgt := 686) C (by decide) (by decide) rfl (by decide) dL_law_39 ?_
      exact law_10 C hX hlt hL hkk A hA hBB hc hm cont
    · refine g_tabIn (off := 715) (tgt := 754) C (by decide) (by decide) rfl (by decide) dL_law_39 ?_
      exact law_11 C hX hlt hL hkk A hA hBB hc hm cont
    · refine g_tabIn (off := 799) (tgt := 838) C (by decide) (by decide) rfl (by decide) dL_law_39 ?_
      exact law_12 C hX hlt hL hkk A hA hBB hc hm cont
    · refine g_tabIn (off := 867) (tgt := 906) C (by decide) (by decide) rfl (by decide) dL_law_39 ?_
      exact law_13 C hX hlt hL hkk A hA hBB hc hm cont
    · refine g_tabIn (off := 935) (tgt := 974) C (by decide) (by decide) rfl (by decide) dL_law_39 ?_
      exact law_14 C hX hlt hL hkk A hA hBB hc hm cont
    · refine g_tabIn (off := 1015) (tgt := 1054) C (by decide) (by decide) rfl (by decide) dL_law_39 ?_
      exact law_15 C hX hlt hL hkk A hA hBB hc hm cont
    · refine g_tabIn (off := 1028) (tgt := 1067) C (by decide) (by decide) rfl (by decide) dL_law_39 ?_
      exact law_16 C hX hlt hL hkk A hA hBB hc hm cont
    · refine g_tabIn (off := 1108) (tgt := 1147) C (by decide) (by decide) rfl (by decide) dL_law_39 ?_
      exact law_17 C hX hlt hL hkk A hA hBB hc hm cont
    · refine g_tabIn (off := 1164) (tgt := 1203) C (by decide) (by decide) rfl (by decide) dL_law_39 ?_
      exact law_18 C hX hlt hL hkk A hA hBB hc hm cont
    · refine g_tabIn (off := 1220) (tgt := 1259) C (by decide) (by decide) rfl (by decide) dL_law_39 ?_
      exact law_19 C hX hlt hL hkk A hA hBB hc hm cont
    · refine g_tabIn (off := 1233) (tgt := 1272) C (by decide) (by decide) rfl (by decide) dL_law_39 ?_
      exact law_20 C hX hlt hL hkk A hA hBB hc hm cont
    · refine g_tabIn (off := 1301) (tgt := 1340) C (by decide) (by decide) rfl (by decide) dL_law_39 ?_
      exact law_21 C hX hlt hL hkk A hA hBB hc hm cont
    · refine g_tabIn (off := 1345) (tgt := 1384) C (by decide) (by decide) rfl (by decide) dL_law_39 ?_
      exact law_22 C hX hlt hL hkk A hA hBB hc hm cont
    · refine g_tabIn (off := 1413) (tgt := 1452) C (by decide) (by decide) rfl (by decide) dL_law_39 ?_
      exact law_23 C hX hlt hL hkk A hA hBB hc hm cont
    · refine g_tabIn (off := 1469) (tgt := 1508) C (by decide) (by decide) rfl (by decide) dL_law_39 ?_
      exact law_24 C hX hlt hL hkk A hA hBB hc hm cont
    · refine g_tabIn (off := 1525) (tgt := 1564) C (by decide) (by decide) rfl (by decide) dL_law_39 ?_
      exact law_25 C hX hlt hL hkk A hA hBB hc hm cont
    · refine g_tabIn (off := 1593) (tgt := 1632) C (by decide) (by decide) rfl (by decide) dL_law_39 ?_
      exact law_26 C hX hlt hL hkk A hA hBB hc hm cont
    · refine g_tabIn (off := 1661) (tgt := 1700) C (by decide) (by decide) rfl (by decide) dL_law_39 ?_
      exact law_27 C hX hlt hL hkk A hA hBB hc hm cont
    · refine g_tabIn (off := 1761) (tgt := 1800) C (by decide) (by decide) rfl (by decide) dL_law_39 ?_
      exact law_28 C hX hlt hL hkk A hA hBB hc hm cont
    · refine g_tabIn (off := 1861) (tgt := 1900) C (by decide) (by decide) rfl (by decide) dL_law_39 ?_
      exact law_29 C hX hlt hL hkk A hA hBB hc hm cont
    · refine g_tabIn (off := 1917) (tgt := 1956) C (by decide) (by decide) rfl (by decide) dL_law_39 ?_
      exact law_30 C hX hlt hL hkk A hA hBB hc hm cont
    · refine g_tabOut (tgt := 2012) C (Or.inr (by decide)) (by decide) dL_law_39 ?_
      exact g_widen (by omega) (by omega) (cont A w (ia_up hA) hc hm)

