/-! THE FACE OF THE CLASS: what is told -/
theorem cw_pA1 {A : cw_A} {w : gw_M} (h : cw_RC A w) {j : Nat} (hj : j < 3) : w 1 j = A.1 (231 + j) := (ho_r1 (w := cw_hs 0 w) rfl hj rfl).trans (cw_rd h.eq (by omega) (by omega))
theorem cw_pA2 {A : cw_A} {w : gw_M} (h : cw_RC A w) {j : Nat} (hj : j < 8) : w 2 j = A.1 (234 + j) := (ho_r2 (w := cw_hs 0 w) rfl hj rfl).trans (cw_rd h.eq (by omega) (by omega))
theorem cw_pA3 {A : cw_A} {w : gw_M} (h : cw_RC A w) {j : Nat} (hj : j < 6) : w 3 j = A.1 (1 + 4 * j + 0) := (ho_r3 (w := cw_hs 0 w) rfl hj rfl).trans (cw_rd h.eq (by omega) (by omega))
theorem cw_pA4 {A : cw_A} {w : gw_M} (h : cw_RC A w) {j : Nat} (hj : j < 6) : w 4 j = A.1 (1 + 4 * j + 1) := (ho_r4 (w := cw_hs 0 w) rfl hj rfl).trans (cw_rd h.eq (by omega) (by omega))
theorem cw_pA5 {A : cw_A} {w : gw_M} (h : cw_RC A w) {j : Nat} (hj : j < 6) : w 5 j = A.1 (1 + 4 * j + 2) := (ho_r5 (w := cw_hs 0 w) rfl hj rfl).trans (cw_rd h.eq (by omega) (by omega))
theorem cw_pA6 {A : cw_A} {w : gw_M} (h : cw_RC A w) {j : Nat} (hj : j < 6) : w 6 j = A.1 (1 + 4 * j + 3) := (ho_r6 (w := cw_hs 0 w) rfl hj rfl).trans (cw_rd h.eq (by omega) (by omega))
theorem cw_pA7 {A : cw_A} {w : gw_M} (h : cw_RC A w) {j : Nat} (hj : j < 20) : w 7 j = A.1 (25 + 3 * j + 0) := (ho_r7 (w := cw_hs 0 w) rfl hj rfl).trans (cw_rd h.eq (by omega) (by omega))
theorem cw_pA8 {A : cw_A} {w : gw_M} (h : cw_RC A w) {j : Nat} (hj : j < 20) : w 8 j = A.1 (25 + 3 * j + 1) := (ho_r8 (w := cw_hs 0 w) rfl hj rfl).trans (cw_rd h.eq (by omega) (by omega))
theorem cw_pA9 {A : cw_A} {w : gw_M} (h : cw_RC A w) {j : Nat} (hj : j < 20) : w 9 j = A.1 (25 + 3 * j + 2) := (ho_r9 (w := cw_hs 0 w) rfl hj rfl).trans (cw_rd h.eq (by omega) (by omega))
theorem cw_pA10 {A : cw_A} {w : gw_M} (h : cw_RC A w) {j : Nat} (hj : j < 120) : w 10 j = A.1 (85 + j) := (ho_r10 (w := cw_hs 0 w) rfl hj rfl).trans (cw_rd h.eq (by omega) (by omega))
theorem cw_pF2 {A : cw_A} {w : gw_M} (h : cw_RC A w) : w 0 2 = A.1 230 := (ho_f2 (w := cw_hs 0 w) rfl).trans (cw_rd h.eq (by omega) (by omega))
theorem cw_pF3 {A : cw_A} {w : gw_M} (h : cw_RC A w) : w 0 3 = A.1 0 := (ho_f3 (w := cw_hs 0 w) rfl).trans (cw_rd h.eq (by omega) (by omega))
theorem cw_pF12 {A : cw_A} {w : gw_M} (h : cw_RC A w) : w 0 12 = A.1 205 := (ho_f12 (w := cw_hs 0 w) rfl).trans (cw_rd h.eq (by omega) (by omega))
theorem cw_pK0 {A : cw_A} {w : gw_M} {n m : Nat} (h : cw_RC A w) (hI : cw_I n m A.1) {j : Nat} (hj : j < cw_x (A.1 205)) (h8 : j < 8) : w 11 j = A.1 (206 + 3 * j + 0) := (ho_r11 (w := cw_hs 0 w) rfl h8 rfl).trans (cw_live hI h.eq hj (by omega))
theorem cw_pK1 {A : cw_A} {w : gw_M} {n m : Nat} (h : cw_RC A w) (hI : cw_I n m A.1) {j : Nat} (hj : j < cw_x (A.1 205)) (h8 : j < 8) : w 12 j = A.1 (206 + 3 * j + 1) := (ho_r12 (w := cw_hs 0 w) rfl h8 rfl).trans (cw_live hI h.eq hj (by omega))
theorem cw_pK2 {A : cw_A} {w : gw_M} {n m : Nat} (h : cw_RC A w) (hI : cw_I n m A.1) {j : Nat} (hj : j < cw_x (A.1 205)) (h8 : j < 8) : w 13 j = A.1 (206 + 3 * j + 2) := (ho_r13 (w := cw_hs 0 w) rfl h8 rfl).trans (cw_live hI h.eq hj (by omega))

set_option maxHeartbeats 8000000 in
set_option maxRecDepth 100000 in
theorem ok_X6_about (A : cw_A) {n m : Nat} (hA : cw_IA n m A) (k : Int32) (hc : 0 ≤ k ∧ k ≤ 13) : gw_Ok yX6_about cX6_about 2 (some .int) sC 5 [.ref 252, .int k] (fun w => cw_RC A w) (fun _ vr w1 => vr = some (.int (cw_told A.1 k)) ∧ cw_RC (A) w1) := by
  refine gw_of (by decide) (Nat.le_of_ble_eq_true rfl) ?_
  intro X w h C F
  have hw := h
  have e := hw.eq
  have hI := hA.1
  have hIt := cw_I_cg hI e
  have h6 := hI.m.2
  refine g_iload_n C rfl dX6_about_0 ?_
  have hsw_1 : (k.toInt < 0 ∨ 13 < k.toInt) ∨ k.toInt = 0 ∨ k.toInt = 1 ∨ k.toInt = 2 ∨ k.toInt = 3 ∨ k.toInt = 4 ∨ k.toInt = 5 ∨ k.toInt = 6 ∨ k.toInt = 7 ∨ k.toInt = 8 ∨ k.toInt = 9 ∨ k.toInt = 10 ∨ k.toInt = 11 ∨ k.toInt = 12 ∨ k.toInt = 13 := by omega
  rcases hsw_1 with hsw_1 | hsw_1 | hsw_1 | hsw_1 | hsw_1 | hsw_1 | hsw_1 | hsw_1 | hsw_1 | hsw_1 | hsw_1 | hsw_1 | hsw_1 | hsw_1 | hsw_1
  · refine g_tabOut (tgt := 203) C hsw_1 (by decide) dX6_about_1 ?_
    exact absurd hsw_1 (by have q1 := cw_le.mp hc.1; have q2 := cw_le.mp hc.2; have z0 : (0 : Int32).toInt = 0 := rfl; have z1 : (13 : Int32).toInt = 13 := rfl; omega)
  · obtain rfl : k = 0 := gw_toInt hsw_1
    refine g_tabIn (off := 71) (tgt := 72) C (by decide) (by decide) rfl (by decide) dX6_about_1 ?_
    refine g_aload_n C rfl dX6_about_72 ?_
    refine g_getr C fl_X6_10 rfl rfl dX6_about_73 ?_
    refine g_getf C fl_X6_86 rfl rfl dX6_about_76 ?_
    refine g_top (cw_pF3 hw) ?_
    refine g_iret C F dX6_about_79 ?_
    exact ⟨by first | rfl | (unfold cw_told; simp), hw⟩
  · obtain rfl : k = 1 := gw_toInt hsw_1
    refine g_tabIn (off := 79) (tgt := 80) C (by decide) (by decide) rfl (by decide) dX6_about_1 ?_
    refine g_aload_n C rfl dX6_about_80 ?_
    refine g_getr C fl_X6_10 rfl rfl dX6_about_81 ?_
    refine g_getf C fl_X6_90 rfl rfl dX6_about_84 ?_
    refine g_top (cw_pF2 hw) ?_
    refine g_iret C F dX6_about_87 ?_
    exact ⟨by first | rfl | (unfold cw_told; simp), hw⟩
  · obtain rfl : k = 2 := gw_toInt hsw_1
    refine g_tabIn (off := 87) (tgt := 88) C (by decide) (by decide) rfl (by decide) dX6_about_1 ?_
    refine g_aload_n C rfl dX6_about_88 ?_
    refine g_getr C fl_X6_10 rfl rfl dX6_about_89 ?_
    refine g_iconst (v := (-1)) C (by decide) dX6_about_92 ?_
    refine g_callW C (cw_emb_h 0 (by decide)) (ok_X1_weeksHeldBy _ hIt) my_X1_weeksHeldBy vi_X6_93 (by decide) ⟨Nat.le_refl _, Nat.le_refl _⟩ rfl (((cw_emb_h 0 (by decide)).1 0 (by decide))) rfl (cw_wp (14 * 0) 14 w) (cw_wp_i) (cw_wp_o) (cw_hs 0 w) (fun _ _ => rfl) (Nat.le_of_ble_eq_true rfl) dX6_about_93 rfl (rfl) (fun v_93 w_93 hp_93 => ?_)
    obtain ⟨rfl, hw_93⟩ := hp_93
    have hw_93 := hw_93.symm; subst hw_93
    rw [cw_wp_hs]
    rw [cw_held_cg e]
    refine g_iret C F dX6_about_96 ?_
    exact ⟨by first | rfl | (unfold cw_told; simp), hw⟩
  · obtain rfl : k = 3 := gw_toInt hsw_1
    refine g_tabIn (off := 96) (tgt := 97) C (by decide) (by decide) rfl (by decide) dX6_about_1 ?_
    refine g_aload_n C rfl dX6_about_97 ?_
    refine g_getr C fl_X6_10 rfl rfl dX6_about_98 ?_
    refine g_getr C fl_X6_97 rfl rfl dX6_about_101 ?_
    refine g_iconst (v := 0) C (by decide) dX6_about_104 ?_
    refine g_iald (j := 0) C rfl (rfl) (by decide) (by decide) dX6_about_105 ?_
    refine g_top (cw_pA2 hw (j := 0) (by decide)) ?_
    refine g_iret C F dX6_about_106 ?_
    exact ⟨by first | rfl | (unfold cw_told; simp), hw⟩
  · obtain rfl : k = 4 := gw_toInt hsw_1
    refine g_tabIn (off := 106) (tgt := 107) C (by decide) (by decide) rfl (by decide) dX6_about_1 ?_
    refine g_aload_n C rfl dX6_about_107 ?_
    refine g_getr C fl_X6_10 rfl rfl dX6_about_108 ?_
    refine g_getr C fl_X6_97 rfl rfl dX6_about_111 ?_
    refine g_iconst (v := 1) C (by decide) dX6_about_114 ?_
    refine g_iald (j := 1) C rfl (rfl) (by decide) (by decide) dX6_about_115 ?_
    refine g_top (cw_pA2 hw (j := 1) (by decide)) ?_
    refine g_iret C F dX6_about_116 ?_
    exact ⟨by first | rfl | (unfold cw_told; simp), hw⟩
  · obtain rfl : k = 5 := gw_toInt hsw_1
    refine g_tabIn (off := 116) (tgt := 117) C (by decide) (by decide) rfl (by decide) dX6_about_1 ?_
    refine g_aload_n C rfl dX6_about_117 ?_
    refine g_getr C fl_X6_10 rfl rfl dX6_about_118 ?_
    refine g_getr C fl_X6_97 rfl rfl dX6_about_121 ?_
    refine g_iconst (v := 2) C (by decide) dX6_about_124 ?_
    refine g_iald (j := 2) C rfl (rfl) (by decide) (by decide) dX6_about_125 ?_
    refine g_top (cw_pA2 hw (j := 2) (by decide)) ?_
    refine g_iret C F dX6_about_126 ?_
    exact ⟨by first | rfl | (unfold cw_told; simp), hw⟩
  · obtain rfl : k = 6 := gw_toInt hsw_1
    refine g_tabIn (off := 126) (tgt := 127) C (by decide) (by decide) rfl (by decide) dX6_about_1 ?_
    refine g_aload_n C rfl dX6_about_127 ?_
    refine g_getr C fl_X6_10 rfl rfl dX6_about_128 ?_
    refine g_getr C fl_X6_97 rfl rfl dX6_about_131 ?_
    refine g_iconst (v := 3) C (by decide) dX6_about_134 ?_
    refine g_iald (j := 3) C rfl (rfl) (by decide) (by decide) dX6_about_135 ?_
    refine g_top (cw_pA2 hw (j := 3) (by decide)) ?_
    refine g_iret C F dX6_about_136 ?_
    exact ⟨by first | rfl | (unfold cw_told; simp), hw⟩
  · obtain rfl : k = 7 := gw_toInt hsw_1
    refine g_tabIn (off := 136) (tgt := 137) C (by decide) (by decide) rfl (by decide) dX6_about_1 ?_
    refine g_aload_n C rfl dX6_about_137 ?_
    refine g_getr C fl_X6_10 rfl rfl dX6_about_138 ?_
    refine g_callW C (cw_emb_h 0 (by decide)) (ok_X1_pointsOfAll  hIt) my_X1_pointsOfAll vi_X6_101 (by decide) ⟨Nat.le_refl _, Nat.le_refl _⟩ rfl (((cw_emb_h 0 (by decide)).1 0 (by decide))) rfl (cw_wp (14 * 0) 14 w) (cw_wp_i) (cw_wp_o) (cw_hs 0 w) (fun _ _ => rfl) (Nat.le_of_ble_eq_true rfl) dX6_about_141 rfl (rfl) (fun v_141 w_141 hp_141 => ?_)
    obtain ⟨rfl, hw_141⟩ := hp_141
    have hw_141 := hw_141.symm; subst hw_141
    rw [cw_wp_hs]
    rw [cw_points_cg e h6]
    refine g_iret C F dX6_about_144 ?_
    exact ⟨by first | rfl | (unfold cw_told; simp), hw⟩
  · obtain rfl : k = 8 := gw_toInt hsw_1
    refine g_tabIn (off := 144) (tgt := 145) C (by decide) (by decide) rfl (by decide) dX6_about_1 ?_
    refine g_aload_n C rfl dX6_about_145 ?_
    refine g_getr C fl_X6_10 rfl rfl dX6_about_146 ?_
    refine g_callW C (cw_emb_h 0 (by decide)) (ok_X1_bidsOfAll  hIt) my_X1_bidsOfAll vi_X6_104 (by decide) ⟨Nat.le_refl _, Nat.le_refl _⟩ rfl (((cw_emb_h 0 (by decide)).1 0 (by decide))) rfl (cw_wp (14 * 0) 14 w) (cw_wp_i) (cw_wp_o) (cw_hs 0 w) (fun _ _ => rfl) (Nat.le_of_ble_eq_true rfl) dX6_about_149 rfl (rfl) (fun v_149 w_149 hp_149 => ?_)
    obtain ⟨rfl, hw_149⟩ := hp_149
    have hw_149 := hw_149.symm; subst hw_149
    rw [cw_wp_hs]
    rw [cw_allBids_cg e h6]
    refine g_iret C F dX6_about_152 ?_
    exact ⟨by first | rfl | (unfold cw_told; simp), hw⟩
  · obtain rfl : k = 9 := gw_toInt hsw_1
    refine g_tabIn (off := 152) (tgt := 153) C (by decide) (by decide) rfl (by decide) dX6_about_1 ?_
    refine g_aload_n C rfl dX6_about_153 ?_
    refine g_getr C fl_X6_10 rfl rfl dX6_about_154 ?_
    refine g_getf C fl_X6_107 rfl rfl dX6_about_157 ?_
    refine g_top (cw_pF12 hw) ?_
    refine g_iret C F dX6_about_160 ?_
    exact ⟨by first | rfl | (unfold cw_told; simp), hw⟩
  · obtain rfl : k = 10 := gw_toInt hsw_1
    refine g_tabIn (off := 160) (tgt := 161) C (by decide) (by decide) rfl (by decide) dX6_about_1 ?_
    refine g_aload_n C rfl dX6_about_161 ?_
    refine g_getr C fl_X6_10 rfl rfl dX6_about_162 ?_
    refine g_getr C fl_X6_97 rfl rfl dX6_about_165 ?_
    refine g_iconst (v := 4) C (by decide) dX6_about_168 ?_
    refine g_iald (j := 4) C rfl (rfl) (by decide) (by decide) dX6_about_169 ?_
    refine g_top (cw_pA2 hw (j := 4) (by decide)) ?_
    refine g_iret C F dX6_about_170 ?_
    exact ⟨by first | rfl | (unfold cw_told; simp), hw⟩
  · obtain rfl : k = 11 := gw_toInt hsw_1
    refine g_tabIn (off := 170) (tgt := 171) C (by decide) (by decide) rfl (by decide) dX6_about_1 ?_
    refine g_aload_n C rfl dX6_about_171 ?_
    refine g_getr C fl_X6_10 rfl rfl dX6_about_172 ?_
    refine g_getr C fl_X6_97 rfl rfl dX6_about_175 ?_
    refine g_iconst (v := 5) C (by decide) dX6_about_178 ?_
    refine g_iald (j := 5) C rfl (rfl) (by decide) (by decide) dX6_about_179 ?_
    refine g_top (cw_pA2 hw (j := 5) (by decide)) ?_
    refine g_iret C F dX6_about_180 ?_
    exact ⟨by first | rfl | (unfold cw_told; simp), hw⟩
  · obtain rfl : k = 12 := gw_toInt hsw_1
    refine g_tabIn (off := 180) (tgt := 181) C (by decide) (by decide) rfl (by decide) dX6_about_1 ?_
    refine g_aload_n C rfl dX6_about_181 ?_
    refine g_getr C fl_X6_10 rfl rfl dX6_about_182 ?_
    refine g_getr C fl_X6_97 rfl rfl dX6_about_185 ?_
    refine g_bipush (v := 6) C (by decide) dX6_about_188 ?_
    refine g_iald (j := 6) C rfl (rfl) (by decide) (by decide) dX6_about_190 ?_
    refine g_top (cw_pA2 hw (j := 6) (by decide)) ?_
    refine g_iret C F dX6_about_191 ?_
    exact ⟨by first | rfl | (unfold cw_told; simp), hw⟩
  · obtain rfl : k = 13 := gw_toInt hsw_1
    refine g_tabIn (off := 191) (tgt := 192) C (by decide) (by decide) rfl (by decide) dX6_about_1 ?_
    refine g_aload_n C rfl dX6_about_192 ?_
    refine g_getr C fl_X6_10 rfl rfl dX6_about_193 ?_
    refine g_getr C fl_X6_97 rfl rfl dX6_about_196 ?_
    refine g_bipush (v := 7) C (by decide) dX6_about_199 ?_
    refine g_iald (j := 7) C rfl (rfl) (by decide) (by decide) dX6_about_201 ?_
    refine g_top (cw_pA2 hw (j := 7) (by decide)) ?_
    refine g_iret C F dX6_about_202 ?_
    exact ⟨by first | rfl | (unfold cw_told; simp), hw⟩

set_option maxHeartbeats 8000000 in
set_option maxRecDepth 100000 in
theorem thr_X6_about (A : cw_A) {n m : Nat} (hA : cw_IA n m A) (k : Int32) (hc : ¬ (0 ≤ k ∧ k ≤ 13)) : gw_Thr yX6_about cX6_about 2 (some .int) sC 8 [.ref 252, .int k] (fun w => cw_RC A w) "java/lang/IllegalArgumentException" (fun w w1 => w1 = w) := by
  refine gw_ofT (by decide) (Nat.le_of_ble_eq_true rfl) ?_
  intro X w h C F
  have hw := h
  have e := hw.eq
  have hI := hA.1
  have hIt := cw_I_cg hI e
  have h6 := hI.m.2
  refine g_iload_n C rfl dX6_about_0 ?_
  have hsw_1 : (k.toInt < 0 ∨ 13 < k.toInt) ∨ k.toInt = 0 ∨ k.toInt = 1 ∨ k.toInt = 2 ∨ k.toInt = 3 ∨ k.toInt = 4 ∨ k.toInt = 5 ∨ k.toInt = 6 ∨ k.toInt = 7 ∨ k.toInt = 8 ∨ k.toInt = 9 ∨ k.toInt = 10 ∨ k.toInt = 11 ∨ k.toInt = 12 ∨ k.toInt = 13 := by omega
  rcases hsw_1 with hsw_1 | hsw_1 | hsw_1 | hsw_1 | hsw_1 | hsw_1 | hsw_1 | hsw_1 | hsw_1 | hsw_1 | hsw_1 | hsw_1 | hsw_1 | hsw_1 | hsw_1
  · refine g_tabOut (tgt := 203) C hsw_1 (by decide) dX6_about_1 ?_
    exact g_throw C F tw_IAE (List.mem_of_getElem? (i := 0) rfl) (by decide) (Nat.le_of_ble_eq_true rfl) dX6_about_203 dX6_about_206 dX6_about_207 dX6_about_209 dX6_about_212 (rfl)
  · obtain rfl : k = 0 := gw_toInt hsw_1
    refine g_tabIn (off := 71) (tgt := 72) C (by decide) (by decide) rfl (by decide) dX6_about_1 ?_
    exact absurd (by decide) hc
  · obtain rfl : k = 1 := gw_toInt hsw_1
    refine g_tabIn (off := 79) (tgt := 80) C (by decide) (by decide) rfl (by decide) dX6_about_1 ?_
    exact absurd (by decide) hc
  · obtain rfl : k = 2 := gw_toInt hsw_1
    refine g_tabIn (off := 87) (tgt := 88) C (by decide) (by decide) rfl (by decide) dX6_about_1 ?_
    exact absurd (by decide) hc
  · obtain rfl : k = 3 := gw_toInt hsw_1
    refine g_tabIn (off := 96) (tgt := 97) C (by decide) (by decide) rfl (by decide) dX6_about_1 ?_
    exact absurd (by decide) hc
  · obtain rfl : k = 4 := gw_toInt hsw_1
    refine g_tabIn (off := 106) (tgt := 107) C (by decide) (by decide) rfl (by decide) dX6_about_1 ?_
    exact absurd (by decide) hc
  · obtain rfl : k = 5 := gw_toInt hsw_1
    refine g_tabIn (off := 116) (tgt := 117) C (by decide) (by decide) rfl (by decide) dX6_about_1 ?_
    exact absurd (by decide) hc
  · obtain rfl : k = 6 := gw_toInt hsw_1
    refine g_tabIn (off := 126) (tgt := 127) C (by decide) (by decide) rfl (by decide) dX6_about_1 ?_
    exact absurd (by decide) hc
  · obtain rfl : k = 7 := gw_toInt hsw_1
    refine g_tabIn (off := 136) (tgt := 137) C (by decide) (by decide) rfl (by decide) dX6_about_1 ?_
    exact absurd (by decide) hc
  · obtain rfl : k = 8 := gw_toInt hsw_1
    refine g_tabIn (off := 144) (tgt := 145) C (by decide) (by decide) rfl (by decide) dX6_about_1 ?_
    exact absurd (by decide) hc
  · obtain rfl : k = 9 := gw_toInt hsw_1
    refine g_tabIn (off := 152) (tgt := 153) C (by decide) (by decide) rfl (by decide) dX6_about_1 ?_
    exact absurd (by decide) hc
  · obtain rfl : k = 10 := gw_toInt hsw_1
    refine g_tabIn (off := 160) (tgt := 161) C (by decide) (by decide) rfl (by decide) dX6_about_1 ?_
    exact absurd (by decide) hc
  · obtain rfl : k = 11 := gw_toInt hsw_1
    refine g_tabIn (off := 170) (tgt := 171) C (by decide) (by decide) rfl (by decide) dX6_about_1 ?_
    exact absurd (by decide) hc
  · obtain rfl : k = 12 := gw_toInt hsw_1
    refine g_tabIn (off := 180) (tgt := 181) C (by decide) (by decide) rfl (by decide) dX6_about_1 ?_
    exact absurd (by decide) hc
  · obtain rfl : k = 13 := gw_toInt hsw_1
    refine g_tabIn (off := 191) (tgt := 192) C (by decide) (by decide) rfl (by decide) dX6_about_1 ?_
    exact absurd (by decide) hc

set_option maxHeartbeats 8000000 in
set_option maxRecDepth 100000 in
theorem ok_X6_ownerOf (A : cw_A) {n m : Nat} (hA : cw_IA n m A) (o k : Int32) (hc : cw_isO A.1 o) (hk : 0 ≤ k ∧ k ≤ 6) : gw_Ok yX6_ownerOf cX6_ownerOf 3 (some .int) sC 5 [.ref 252, .int o, .int k] (fun w => cw_RC A w) (fun _ vr w1 => vr = some (.int (cw_ofO A.1 (cw_x o) k)) ∧ cw_RC (A) w1) := by
  refine gw_of (by decide) (Nat.le_of_ble_eq_true rfl) ?_
  intro X w h C F
  have hw := h
  have e := hw.eq
  have hI := hA.1
  have hIt := cw_I_cg hI e
  have h6 := hI.m.2
  obtain ⟨j, rfl, hj⟩ := cw_isO_ix hI.m hc
  have ej : cw_x (nI j) = j := cw_xn (by omega)
  have hj6 : j < 6 := by omega
  refine g_aload_n C rfl dX6_ownerOf_0 ?_
  refine g_iload_n C rfl dX6_ownerOf_1 ?_
  refine g_call C (ok_X6_needOwner A hA (nI j) hc) my_X6_needOwner vi_X6_115 (by decide) ⟨Nat.le_refl _, Nat.le_refl _⟩ rfl rfl rfl (Nat.le_of_ble_eq_true rfl) dX6_ownerOf_2 rfl (h) (fun v_2 w_2 hp_2 => ?_)
  obtain ⟨rfl, hw_2⟩ := hp_2
  have hw_2 := hw_2.symm; subst hw_2
  refine g_iload_n C rfl dX6_ownerOf_5 ?_
  have hsw_6 : (k.toInt < 0 ∨ 6 < k.toInt) ∨ k.toInt = 0 ∨ k.toInt = 1 ∨ k.toInt = 2 ∨ k.toInt = 3 ∨ k.toInt = 4 ∨ k.toInt = 5 ∨ k.toInt = 6 := by omega
  rcases hsw_6 with hsw_6 | hsw_6 | hsw_6 | hsw_6 | hsw_6 | hsw_6 | hsw_6 | hsw_6
  · refine g_tabOut (tgt := 115) C hsw_6 (by decide) dX6_ownerOf_6 ?_
    exact absurd hsw_6 (by have q1 := cw_le.mp hk.1; have q2 := cw_le.mp hk.2; have z0 : (0 : Int32).toInt = 0 := rfl; have z1 : (6 : Int32).toInt = 6 := rfl; omega)
  · obtain rfl : k = 0 := gw_toInt hsw_6
    refine g_tabIn (off := 42) (tgt := 48) C (by decide) (by decide) rfl (by decide) dX6_ownerOf_6 ?_
    refine g_aload_n C rfl dX6_ownerOf_48 ?_
    refine g_getr C fl_X6_10 rfl rfl dX6_ownerOf_49 ?_
    refine g_getr C fl_X6_119 rfl rfl dX6_ownerOf_52 ?_
    refine g_iload_n C rfl dX6_ownerOf_55 ?_
    refine g_iald (j := j) C rfl (rfl) (hj6) (by decide) dX6_ownerOf_56 ?_
    refine g_top (cw_pA3 hw hj6) ?_
    refine g_iret C F dX6_ownerOf_57 ?_
    rw [ej]
    exact ⟨by first | rfl | (unfold cw_ofO; simp), hw⟩
  · obtain rfl : k = 1 := gw_toInt hsw_6
    refine g_tabIn (off := 52) (tgt := 58) C (by decide) (by decide) rfl (by decide) dX6_ownerOf_6 ?_
    refine g_aload_n C rfl dX6_ownerOf_58 ?_
    refine g_getr C fl_X6_10 rfl rfl dX6_ownerOf_59 ?_
    refine g_getr C fl_X6_122 rfl rfl dX6_ownerOf_62 ?_
    refine g_iload_n C rfl dX6_ownerOf_65 ?_
    refine g_iald (j := j) C rfl (rfl) (hj6) (by decide) dX6_ownerOf_66 ?_
    refine g_top (cw_pA4 hw hj6) ?_
    refine g_iret C F dX6_ownerOf_67 ?_
    rw [ej]
    exact ⟨by first | rfl | (unfold cw_ofO; simp), hw⟩
  · obtain rfl : k = 2 := gw_toInt hsw_6
    refine g_tabIn (off := 62) (tgt := 68) C (by decide) (by decide) rfl (by decide) dX6_ownerOf_6 ?_
    refine g_aload_n C rfl dX6_ownerOf_68 ?_
    refine g_getr C fl_X6_10 rfl rfl dX6_ownerOf_69 ?_
    refine g_iload_n C rfl dX6_ownerOf_72 ?_
    refine g_callW C (cw_emb_h 0 (by decide)) (ok_X1_weeksHeldBy _ hIt) my_X1_weeksHeldBy vi_X6_93 (by decide) ⟨Nat.le_refl _, Nat.le_refl _⟩ rfl (((cw_emb_h 0 (by decide)).1 0 (by decide))) rfl (cw_wp (14 * 0) 14 w) (cw_wp_i) (cw_wp_o) (cw_hs 0 w) (fun _ _ => rfl) (Nat.le_of_ble_eq_true rfl) dX6_ownerOf_73 rfl (rfl) (fun v_73 w_73 hp_73 => ?_)
    obtain ⟨rfl, hw_73⟩ := hp_73
    have hw_73 := hw_73.symm; subst hw_73
    rw [cw_wp_hs]
    rw [cw_held_cg e]
    refine g_iret C F dX6_ownerOf_76 ?_
    rw [ej]
    exact ⟨by first | rfl | (unfold cw_ofO; simp), hw⟩
  · obtain rfl : k = 3 := gw_toInt hsw_6
    refine g_tabIn (off := 71) (tgt := 77) C (by decide) (by decide) rfl (by decide) dX6_ownerOf_6 ?_
    refine g_aload_n C rfl dX6_ownerOf_77 ?_
    refine g_getr C fl_X6_10 rfl rfl dX6_ownerOf_78 ?_
    refine g_getr C fl_X6_125 rfl rfl dX6_ownerOf_81 ?_
    refine g_iload_n C rfl dX6_ownerOf_84 ?_
    refine g_iald (j := j) C rfl (rfl) (hj6) (by decide) dX6_ownerOf_85 ?_
    refine g_top (cw_pA5 hw hj6) ?_
    refine g_iret C F dX6_ownerOf_86 ?_
    rw [ej]
    exact ⟨by first | rfl | (unfold cw_ofO; simp), hw⟩
  · obtain rfl : k = 4 := gw_toInt hsw_6
    refine g_tabIn (off := 81) (tgt := 87) C (by decide) (by decide) rfl (by decide) dX6_ownerOf_6 ?_
    refine g_aload_n C rfl dX6_ownerOf_87 ?_
    refine g_getr C fl_X6_10 rfl rfl dX6_ownerOf_88 ?_
    refine g_getr C fl_X6_128 rfl rfl dX6_ownerOf_91 ?_
    refine g_iload_n C rfl dX6_ownerOf_94 ?_
    refine g_iald (j := j) C rfl (rfl) (hj6) (by decide) dX6_ownerOf_95 ?_
    refine g_top (cw_pA6 hw hj6) ?_
    refine g_iret C F dX6_ownerOf_96 ?_
    rw [ej]
    exact ⟨by first | rfl | (unfold cw_ofO; simp), hw⟩
  · obtain rfl : k = 5 := gw_toInt hsw_6
    refine g_tabIn (off := 91) (tgt := 97) C (by decide) (by decide) rfl (by decide) dX6_ownerOf_6 ?_
    refine g_aload_n C rfl dX6_ownerOf_97 ?_
    refine g_getr C fl_X6_10 rfl rfl dX6_ownerOf_98 ?_
    refine g_iload_n C rfl dX6_ownerOf_101 ?_
    refine g_callW C (cw_emb_h 0 (by decide)) (ok_X1_lowestWeekHeldBy _ hIt) my_X1_lowestWeekHeldBy vi_X6_131 (by decide) ⟨Nat.le_refl _, Nat.le_refl _⟩ rfl (((cw_emb_h 0 (by decide)).1 0 (by decide))) rfl (cw_wp (14 * 0) 14 w) (cw_wp_i) (cw_wp_o) (cw_hs 0 w) (fun _ _ => rfl) (Nat.le_of_ble_eq_true rfl) dX6_ownerOf_102 rfl (rfl) (fun v_102 w_102 hp_102 => ?_)
    obtain ⟨rfl, hw_102⟩ := hp_102
    have hw_102 := hw_102.symm; subst hw_102
    rw [cw_wp_hs]
    rw [cw_low_cg e]
    refine g_iret C F dX6_ownerOf_105 ?_
    rw [ej]
    exact ⟨by first | rfl | (unfold cw_ofO; simp), hw⟩
  · obtain rfl : k = 6 := gw_toInt hsw_6
    refine g_tabIn (off := 100) (tgt := 106) C (by decide) (by decide) rfl (by decide) dX6_ownerOf_6 ?_
    refine g_aload_n C rfl dX6_ownerOf_106 ?_
    refine g_getr C fl_X6_10 rfl rfl dX6_ownerOf_107 ?_
    refine g_iload_n C rfl dX6_ownerOf_110 ?_
    refine g_callW C (cw_emb_h 0 (by decide)) (ok_X1_bidsBy _ j hj6 rfl hIt) my_X1_bidsBy vi_X6_134 (by decide) ⟨Nat.le_refl _, Nat.le_refl _⟩ rfl (((cw_emb_h 0 (by decide)).1 0 (by decide))) rfl (cw_wp (14 * 0) 14 w) (cw_wp_i) (cw_wp_o) (cw_hs 0 w) (fun _ _ => rfl) (Nat.le_of_ble_eq_true rfl) dX6_ownerOf_111 rfl (rfl) (fun v_111 w_111 hp_111 => ?_)
    obtain ⟨rfl, hw_111⟩ := hp_111
    have hw_111 := hw_111.symm; subst hw_111
    rw [cw_wp_hs]
    rw [cw_bidsBy_cg e hj6]
    refine g_iret C F dX6_ownerOf_114 ?_
    rw [ej]
    exact ⟨by first | rfl | (unfold cw_ofO; simp), hw⟩

set_option maxHeartbeats 8000000 in
set_option maxRecDepth 100000 in
theorem thr_X6_ownerOf_1 (A : cw_A) {n m : Nat} (hA : cw_IA n m A) (o k : Int32) (hc : ¬ cw_isO A.1 o) : gw_Thr yX6_ownerOf cX6_ownerOf 3 (some .int) sC 8 [.ref 252, .int o, .int k] (fun w => cw_RC A w) "java/lang/IndexOutOfBoundsException" (fun w w1 => w1 = w) := by
  refine gw_ofT (by decide) (Nat.le_of_ble_eq_true rfl) ?_
  intro X w h C F
  have hw := h
  have e := hw.eq
  have hI := hA.1
  have hIt := cw_I_cg hI e
  have h6 := hI.m.2
  refine g_aload_n C rfl dX6_ownerOf_0 ?_
  refine g_iload_n C rfl dX6_ownerOf_1 ?_
  exact g_callT C F (gw_emb_id sC) (thr_X6_needOwner A hA o hc) my_X6_needOwner vi_X6_115 (by decide) rfl (rfl) rfl ((fun w1 => w1)) (fun _ _ _ => rfl) (fun w1 j hj h => absurd rfl (h j hj)) (w) (fun _ _ => rfl) (Nat.le_of_ble_eq_true rfl) dX6_ownerOf_2 rfl (h) (fun w1 hw => hw)

set_option maxHeartbeats 8000000 in
set_option maxRecDepth 100000 in
theorem thr_X6_ownerOf_2 (A : cw_A) {n m : Nat} (hA : cw_IA n m A) (o k : Int32) (hc : cw_isO A.1 o) (hk : ¬ (0 ≤ k ∧ k ≤ 6)) : gw_Thr yX6_ownerOf cX6_ownerOf 3 (some .int) sC 8 [.ref 252, .int o, .int k] (fun w => cw_RC A w) "java/lang/IllegalArgumentException" (fun w w1 => w1 = w) := by
  refine gw_ofT (by decide) (Nat.le_of_ble_eq_true rfl) ?_
  intro X w h C F
  have hw := h
  have e := hw.eq
  have hI := hA.1
  have hIt := cw_I_cg hI e
  have h6 := hI.m.2
  refine g_aload_n C rfl dX6_ownerOf_0 ?_
  refine g_iload_n C rfl dX6_ownerOf_1 ?_
  refine g_call C (ok_X6_needOwner A hA o hc) my_X6_needOwner vi_X6_115 (by decide) ⟨Nat.zero_le _, Nat.zero_le _⟩ rfl rfl rfl (Nat.le_of_ble_eq_true rfl) dX6_ownerOf_2 rfl (h) (fun v_2 w_2 hp_2 => ?_)
  obtain ⟨rfl, hw_2⟩ := hp_2
  have hw_2 := hw_2.symm; subst hw_2
  refine g_iload_n C rfl dX6_ownerOf_5 ?_
  have hsw_6 : (k.toInt < 0 ∨ 6 < k.toInt) ∨ k.toInt = 0 ∨ k.toInt = 1 ∨ k.toInt = 2 ∨ k.toInt = 3 ∨ k.toInt = 4 ∨ k.toInt = 5 ∨ k.toInt = 6 := by omega
  rcases hsw_6 with hsw_6 | hsw_6 | hsw_6 | hsw_6 | hsw_6 | hsw_6 | hsw_6 | hsw_6
  · refine g_tabOut (tgt := 115) C hsw_6 (by decide) dX6_ownerOf_6 ?_
    exact g_throw C F tw_IAE (List.mem_of_getElem? (i := 1) rfl) (by decide) (Nat.le_of_ble_eq_true rfl) dX6_ownerOf_115 dX6_ownerOf_118 dX6_ownerOf_119 dX6_ownerOf_121 dX6_ownerOf_124 (rfl)
  · obtain rfl : k = 0 := gw_toInt hsw_6
    refine g_tabIn (off := 42) (tgt := 48) C (by decide) (by decide) rfl (by decide) dX6_ownerOf_6 ?_
    exact absurd (by decide) hk
  · obtain rfl : k = 1 := gw_toInt hsw_6
    refine g_tabIn (off := 52) (tgt := 58) C (by decide) (by decide) rfl (by decide) dX6_ownerOf_6 ?_
    exact absurd (by decide) hk
  · obtain rfl : k = 2 := gw_toInt hsw_6
    refine g_tabIn (off := 62) (tgt := 68) C (by decide) (by decide) rfl (by decide) dX6_ownerOf_6 ?_
    exact absurd (by decide) hk
  · obtain rfl : k = 3 := gw_toInt hsw_6
    refine g_tabIn (off := 71) (tgt := 77) C (by decide) (by decide) rfl (by decide) dX6_ownerOf_6 ?_
    exact absurd (by decide) hk
  · obtain rfl : k = 4 := gw_toInt hsw_6
    refine g_tabIn (off := 81) (tgt := 87) C (by decide) (by decide) rfl (by decide) dX6_ownerOf_6 ?_
    exact absurd (by decide) hk
  · obtain rfl : k = 5 := gw_toInt hsw_6
    refine g_tabIn (off := 91) (tgt := 97) C (by decide) (by decide) rfl (by decide) dX6_ownerOf_6 ?_
    exact absurd (by decide) hk
  · obtain rfl : k = 6 := gw_toInt hsw_6
    refine g_tabIn (off := 100) (tgt := 106) C (by decide) (by decide) rfl (by decide) dX6_ownerOf_6 ?_
    exact absurd (by decide) hk

theorem cw_b01 {x : Int32} (h : cw_r 0 1 x) (hn : ¬ x = 0) : x = 1 := by
  obtain ⟨k, -, h2, rfl⟩ := h
  have : k = 0 ∨ k = 1 := by omega
  rcases this with rfl | rfl
  · exact absurd rfl hn
  · rfl

set_option maxHeartbeats 8000000 in
set_option maxRecDepth 100000 in
theorem ok_X6_weekOf (A : cw_A) {n m : Nat} (hA : cw_IA n m A) (o k : Int32) (hc : cw_isW o) (hk : 0 ≤ k ∧ k ≤ 4) : gw_Ok yX6_weekOf cX6_weekOf 3 (some .int) sC 5 [.ref 252, .int o, .int k] (fun w => cw_RC A w) (fun _ vr w1 => vr = some (.int (cw_ofW A.1 (cw_x o) k)) ∧ cw_RC (A) w1) := by
  refine gw_of (by decide) (Nat.le_of_ble_eq_true rfl) ?_
  intro X w h C F
  have hw := h
  have e := hw.eq
  have hI := hA.1
  have hIt := cw_I_cg hI e
  have h6 := hI.m.2
  obtain ⟨i, rfl, hi⟩ := cw_isW_ix hc
  have ei : cw_x (nI i) = i := cw_xn (by omega)
  have h01 := hI.sch i hi
  refine g_aload_n C rfl dX6_weekOf_0 ?_
  refine g_iload_n C rfl dX6_weekOf_1 ?_
  refine g_call C (ok_X6_needWeek A hA (nI i) hc) my_X6_needWeek vi_X6_139 (by decide) ⟨Nat.le_refl _, Nat.le_refl _⟩ rfl rfl rfl (Nat.le_of_ble_eq_true rfl) dX6_weekOf_2 rfl (h) (fun v_2 w_2 hp_2 => ?_)
  obtain ⟨rfl, hw_2⟩ := hp_2
  have hw_2 := hw_2.symm; subst hw_2
  refine g_iload_n C rfl dX6_weekOf_5 ?_
  have hsw_6 : (k.toInt < 0 ∨ 4 < k.toInt) ∨ k.toInt = 0 ∨ k.toInt = 1 ∨ k.toInt = 2 ∨ k.toInt = 3 ∨ k.toInt = 4 := by omega
  rcases hsw_6 with hsw_6 | hsw_6 | hsw_6 | hsw_6 | hsw_6 | hsw_6
  · refine g_tabOut (tgt := 96) C hsw_6 (by decide) dX6_weekOf_6 ?_
    exact absurd hsw_6 (by have q1 := cw_le.mp hk.1; have q2 := cw_le.mp hk.2; have z0 : (0 : Int32).toInt = 0 := rfl; have z1 : (4 : Int32).toInt = 4 := rfl; omega)
  · obtain rfl : k = 0 := gw_toInt hsw_6
    refine g_tabIn (off := 34) (tgt := 40) C (by decide) (by decide) rfl (by decide) dX6_weekOf_6 ?_
    refine g_aload_n C rfl dX6_weekOf_40 ?_
    refine g_getr C fl_X6_10 rfl rfl dX6_weekOf_41 ?_
    refine g_getr C fl_X6_142 rfl rfl dX6_weekOf_44 ?_
    refine g_iload_n C rfl dX6_weekOf_47 ?_
    refine g_iald (j := i) C rfl (rfl) (hi) (by decide) dX6_weekOf_48 ?_
    refine g_top (cw_pA7 hw hi) ?_
    refine g_iret C F dX6_weekOf_49 ?_
    rw [ei]
    exact ⟨by first | rfl | (unfold cw_ofW; simp), hw⟩
  · obtain rfl : k = 1 := gw_toInt hsw_6
    refine g_tabIn (off := 44) (tgt := 50) C (by decide) (by decide) rfl (by decide) dX6_weekOf_6 ?_
    refine g_aload_n C rfl dX6_weekOf_50 ?_
    refine g_getr C fl_X6_10 rfl rfl dX6_weekOf_51 ?_
    refine g_getr C fl_X6_145 rfl rfl dX6_weekOf_54 ?_
    refine g_iload_n C rfl dX6_weekOf_57 ?_
    refine g_zald (j := i) C rfl (rfl) (hi) (by decide) dX6_weekOf_58 ?_
    refine g_top (cw_pA8 hw hi) ?_
    refine g_if_eq (tgt := 66) C (by decide) dX6_weekOf_59 (fun c_59 => ?_) (fun c_59 => ?_)
    · refine g_iconst (v := 0) C (by decide) dX6_weekOf_66 ?_
      refine g_iret C F dX6_weekOf_67 ?_
      rw [ei]
      exact ⟨by unfold cw_ofW; rw [if_neg (by decide), if_pos rfl, c_59], hw⟩
    · refine g_iconst (v := 1) C (by decide) dX6_weekOf_62 ?_
      refine g_goto (tgt := 67) C (by decide) dX6_weekOf_63 ?_
      refine g_iret C F dX6_weekOf_67 ?_
      rw [ei]
      exact ⟨by unfold cw_ofW; rw [if_neg (by decide), if_pos rfl, cw_b01 h01 c_59], hw⟩
  · obtain rfl : k = 2 := gw_toInt hsw_6
    refine g_tabIn (off := 62) (tgt := 68) C (by decide) (by decide) rfl (by decide) dX6_weekOf_6 ?_
    refine g_aload_n C rfl dX6_weekOf_68 ?_
    refine g_getr C fl_X6_10 rfl rfl dX6_weekOf_69 ?_
    refine g_getr C fl_X6_148 rfl rfl dX6_weekOf_72 ?_
    refine g_iload_n C rfl dX6_weekOf_75 ?_
    refine g_iald (j := i) C rfl (rfl) (hi) (by decide) dX6_weekOf_76 ?_
    refine g_top (cw_pA9 hw hi) ?_
    refine g_iret C F dX6_weekOf_77 ?_
    rw [ei]
    exact ⟨by first | rfl | (unfold cw_ofW; simp), hw⟩
  · obtain rfl : k = 3 := gw_toInt hsw_6
    refine g_tabIn (off := 72) (tgt := 78) C (by decide) (by decide) rfl (by decide) dX6_weekOf_6 ?_
    refine g_aload_n C rfl dX6_weekOf_78 ?_
    refine g_getr C fl_X6_10 rfl rfl dX6_weekOf_79 ?_
    refine g_iload_n C rfl dX6_weekOf_82 ?_
    refine g_callW C (cw_emb_h 0 (by decide)) (ok_X1_bidsFor _ i hi rfl hIt) my_X1_bidsFor vi_X6_151 (by decide) ⟨Nat.le_refl _, Nat.le_refl _⟩ rfl (((cw_emb_h 0 (by decide)).1 0 (by decide))) rfl (cw_wp (14 * 0) 14 w) (cw_wp_i) (cw_wp_o) (cw_hs 0 w) (fun _ _ => rfl) (Nat.le_of_ble_eq_true rfl) dX6_weekOf_83 rfl (rfl) (fun v_83 w_83 hp_83 => ?_)
    obtain ⟨rfl, hw_83⟩ := hp_83
    have hw_83 := hw_83.symm; subst hw_83
    rw [cw_wp_hs]
    rw [cw_bidsFor_cg e h6 hi]
    refine g_iret C F dX6_weekOf_86 ?_
    rw [ei]
    exact ⟨by first | rfl | (unfold cw_ofW; simp), hw⟩
  · obtain rfl : k = 4 := gw_toInt hsw_6
    refine g_tabIn (off := 81) (tgt := 87) C (by decide) (by decide) rfl (by decide) dX6_weekOf_6 ?_
    refine g_aload_n C rfl dX6_weekOf_87 ?_
    refine g_getr C fl_X6_10 rfl rfl dX6_weekOf_88 ?_
    refine g_iload_n C rfl dX6_weekOf_91 ?_
    refine g_callW C (cw_emb_h 0 (by decide)) (ok_X1_greatestExtraFor _ i hi rfl hIt) my_X1_greatestExtraFor vi_X6_154 (by decide) ⟨Nat.le_refl _, Nat.le_refl _⟩ rfl (((cw_emb_h 0 (by decide)).1 0 (by decide))) rfl (cw_wp (14 * 0) 14 w) (cw_wp_i) (cw_wp_o) (cw_hs 0 w) (fun _ _ => rfl) (Nat.le_of_ble_eq_true rfl) dX6_weekOf_92 rfl (rfl) (fun v_92 w_92 hp_92 => ?_)
    obtain ⟨rfl, hw_92⟩ := hp_92
    have hw_92 := hw_92.symm; subst hw_92
    rw [cw_wp_hs]
    rw [cw_great_cg e h6 hi]
    refine g_iret C F dX6_weekOf_95 ?_
    rw [ei]
    exact ⟨by first | rfl | (unfold cw_ofW; simp), hw⟩

set_option maxHeartbeats 8000000 in
set_option maxRecDepth 100000 in
theorem thr_X6_weekOf_1 (A : cw_A) {n m : Nat} (hA : cw_IA n m A) (o k : Int32) (hc : ¬ cw_isW o) : gw_Thr yX6_weekOf cX6_weekOf 3 (some .int) sC 8 [.ref 252, .int o, .int k] (fun w => cw_RC A w) "java/lang/IndexOutOfBoundsException" (fun w w1 => w1 = w) := by
  refine gw_ofT (by decide) (Nat.le_of_ble_eq_true rfl) ?_
  intro X w h C F
  have hw := h
  have e := hw.eq
  have hI := hA.1
  have hIt := cw_I_cg hI e
  have h6 := hI.m.2
  refine g_aload_n C rfl dX6_weekOf_0 ?_
  refine g_iload_n C rfl dX6_weekOf_1 ?_
  exact g_callT C F (gw_emb_id sC) (thr_X6_needWeek A hA o hc) my_X6_needWeek vi_X6_139 (by decide) rfl (rfl) rfl ((fun w1 => w1)) (fun _ _ _ => rfl) (fun w1 j hj h => absurd rfl (h j hj)) (w) (fun _ _ => rfl) (Nat.le_of_ble_eq_true rfl) dX6_weekOf_2 rfl (h) (fun w1 hw => hw)

set_option maxHeartbeats 8000000 in
set_option maxRecDepth 100000 in
theorem thr_X6_weekOf_2 (A : cw_A) {n m : Nat} (hA : cw_IA n m A) (o k : Int32) (hc : cw_isW o) (hk : ¬ (0 ≤ k ∧ k ≤ 4)) : gw_Thr yX6_weekOf cX6_weekOf 3 (some .int) sC 8 [.ref 252, .int o, .int k] (fun w => cw_RC A w) "java/lang/IllegalArgumentException" (fun w w1 => w1 = w) := by
  refine gw_ofT (by decide) (Nat.le_of_ble_eq_true rfl) ?_
  intro X w h C F
  have hw := h
  have e := hw.eq
  have hI := hA.1
  have hIt := cw_I_cg hI e
  have h6 := hI.m.2
  refine g_aload_n C rfl dX6_weekOf_0 ?_
  refine g_iload_n C rfl dX6_weekOf_1 ?_
  refine g_call C (ok_X6_needWeek A hA o hc) my_X6_needWeek vi_X6_139 (by decide) ⟨Nat.zero_le _, Nat.zero_le _⟩ rfl rfl rfl (Nat.le_of_ble_eq_true rfl) dX6_weekOf_2 rfl (h) (fun v_2 w_2 hp_2 => ?_)
  obtain ⟨rfl, hw_2⟩ := hp_2
  have hw_2 := hw_2.symm; subst hw_2
  refine g_iload_n C rfl dX6_weekOf_5 ?_
  have hsw_6 : (k.toInt < 0 ∨ 4 < k.toInt) ∨ k.toInt = 0 ∨ k.toInt = 1 ∨ k.toInt = 2 ∨ k.toInt = 3 ∨ k.toInt = 4 := by omega
  rcases hsw_6 with hsw_6 | hsw_6 | hsw_6 | hsw_6 | hsw_6 | hsw_6
  · refine g_tabOut (tgt := 96) C hsw_6 (by decide) dX6_weekOf_6 ?_
    exact g_throw C F tw_IAE (List.mem_of_getElem? (i := 2) rfl) (by decide) (Nat.le_of_ble_eq_true rfl) dX6_weekOf_96 dX6_weekOf_99 dX6_weekOf_100 dX6_weekOf_102 dX6_weekOf_105 (rfl)
  · obtain rfl : k = 0 := gw_toInt hsw_6
    refine g_tabIn (off := 34) (tgt := 40) C (by decide) (by decide) rfl (by decide) dX6_weekOf_6 ?_
    exact absurd (by decide) hk
  · obtain rfl : k = 1 := gw_toInt hsw_6
    refine g_tabIn (off := 44) (tgt := 50) C (by decide) (by decide) rfl (by decide) dX6_weekOf_6 ?_
    exact absurd (by decide) hk
  · obtain rfl : k = 2 := gw_toInt hsw_6
    refine g_tabIn (off := 62) (tgt := 68) C (by decide) (by decide) rfl (by decide) dX6_weekOf_6 ?_
    exact absurd (by decide) hk
  · obtain rfl : k = 3 := gw_toInt hsw_6
    refine g_tabIn (off := 72) (tgt := 78) C (by decide) (by decide) rfl (by decide) dX6_weekOf_6 ?_
    exact absurd (by decide) hk
  · obtain rfl : k = 4 := gw_toInt hsw_6
    refine g_tabIn (off := 81) (tgt := 87) C (by decide) (by decide) rfl (by decide) dX6_weekOf_6 ?_
    exact absurd (by decide) hk

set_option maxHeartbeats 8000000 in
set_option maxRecDepth 100000 in
theorem ok_X6_bidOf (A : cw_A) {n m : Nat} (hA : cw_IA n m A) (o k : Int32) (hc : cw_th A.1 o k) : gw_Ok yX6_bidOf cX6_bidOf 3 (some .int) sC 5 [.ref 252, .int o, .int k] (fun w => cw_RC A w) (fun _ vr w1 => vr = some (.int (A.1 (85 + 20 * cw_x o + cw_x k))) ∧ cw_RC (A) w1) := by
  refine gw_of (by decide) (Nat.le_of_ble_eq_true rfl) ?_
  intro X w h C F
  have hw := h
  have e := hw.eq
  have hI := hA.1
  have hIt := cw_I_cg hI e
  have h6 := hI.m.2
  obtain ⟨hj, hi, eo, ek⟩ := cw_thx hI hc
  have hj6 : cw_x o < 6 := by omega
  refine g_aload_n C rfl dX6_bidOf_0 ?_
  refine g_iload_n C rfl dX6_bidOf_1 ?_
  refine g_call C (ok_X6_needOwner A hA o hc.1) my_X6_needOwner vi_X6_115 (by decide) ⟨Nat.le_refl _, Nat.le_refl _⟩ rfl rfl rfl (Nat.le_of_ble_eq_true rfl) dX6_bidOf_2 rfl (h) (fun v_2 w_2 hp_2 => ?_)
  obtain ⟨rfl, hw_2⟩ := hp_2
  have hw_2 := hw_2.symm; subst hw_2
  refine g_aload_n C rfl dX6_bidOf_5 ?_
  refine g_iload_n C rfl dX6_bidOf_6 ?_
  refine g_call C (ok_X6_needWeek A hA k hc.2) my_X6_needWeek vi_X6_139 (by decide) ⟨Nat.le_refl _, Nat.le_refl _⟩ rfl rfl rfl (Nat.le_of_ble_eq_true rfl) dX6_bidOf_7 rfl (h) (fun v_7 w_7 hp_7 => ?_)
  obtain ⟨rfl, hw_7⟩ := hp_7
  have hw_7 := hw_7.symm; subst hw_7
  refine g_aload_n C rfl dX6_bidOf_10 ?_
  refine g_getr C fl_X6_10 rfl rfl dX6_bidOf_11 ?_
  refine g_iload_n C rfl dX6_bidOf_14 ?_
  refine g_iload_n C rfl dX6_bidOf_15 ?_
  refine g_callW C (cw_emb_h 0 (by decide)) (ok_X1_extraOf _ _ _ _ hj6 hi eo ek hIt) my_X1_extraOf vi_X6_159 (by decide) ⟨Nat.le_refl _, Nat.le_refl _⟩ rfl (((cw_emb_h 0 (by decide)).1 0 (by decide))) rfl (cw_wp (14 * 0) 14 w) (cw_wp_i) (cw_wp_o) (cw_hs 0 w) (fun _ _ => rfl) (Nat.le_of_ble_eq_true rfl) dX6_bidOf_16 rfl (rfl) (fun v_16 w_16 hp_16 => ?_)
  obtain ⟨rfl, hw_16⟩ := hp_16
  have hw_16 := hw_16.symm; subst hw_16
  rw [cw_wp_hs]
  refine g_top (cw_rd e (p := 85 + 20 * cw_x o + cw_x k) (by omega) (by omega)) ?_
  refine g_iret C F dX6_bidOf_19 ?_
  exact ⟨rfl, hw⟩

set_option maxHeartbeats 8000000 in
set_option maxRecDepth 100000 in
theorem thr_X6_bidOf_o (A : cw_A) {n m : Nat} (hA : cw_IA n m A) (o k : Int32) (hc : ¬ cw_isO A.1 o) : gw_Thr yX6_bidOf cX6_bidOf 3 (some .int) sC 8 [.ref 252, .int o, .int k] (fun w => cw_RC A w) "java/lang/IndexOutOfBoundsException" (fun w w1 => w1 = w) := by
  refine gw_ofT (by decide) (Nat.le_of_ble_eq_true rfl) ?_
  intro X w h C F
  have hw := h
  have e := hw.eq
  have hI := hA.1
  have hIt := cw_I_cg hI e
  have h6 := hI.m.2
  refine g_aload_n C rfl dX6_bidOf_0 ?_
  refine g_iload_n C rfl dX6_bidOf_1 ?_
  exact g_callT C F (gw_emb_id sC) (thr_X6_needOwner A hA o hc) my_X6_needOwner vi_X6_115 (by decide) rfl (rfl) rfl ((fun w1 => w1)) (fun _ _ _ => rfl) (fun w1 j hj h => absurd rfl (h j hj)) (w) (fun _ _ => rfl) (Nat.le_of_ble_eq_true rfl) dX6_bidOf_2 rfl (h) (fun w1 hw => hw)

set_option maxHeartbeats 8000000 in
set_option maxRecDepth 100000 in
theorem thr_X6_bidOf_w (A : cw_A) {n m : Nat} (hA : cw_IA n m A) (o k : Int32) (hc : cw_isO A.1 o) (hk : ¬ cw_isW k) : gw_Thr yX6_bidOf cX6_bidOf 3 (some .int) sC 8 [.ref 252, .int o, .int k] (fun w => cw_RC A w) "java/lang/IndexOutOfBoundsException" (fun w w1 => w1 = w) := by
  refine gw_ofT (by decide) (Nat.le_of_ble_eq_true rfl) ?_
  intro X w h C F
  have hw := h
  have e := hw.eq
  have hI := hA.1
  have hIt := cw_I_cg hI e
  have h6 := hI.m.2
  refine g_aload_n C rfl dX6_bidOf_0 ?_
  refine g_iload_n C rfl dX6_bidOf_1 ?_
  refine g_call C (ok_X6_needOwner A hA o hc) my_X6_needOwner vi_X6_115 (by decide) ⟨Nat.zero_le _, Nat.zero_le _⟩ rfl rfl rfl (Nat.le_of_ble_eq_true rfl) dX6_bidOf_2 rfl (h) (fun v_2 w_2 hp_2 => ?_)
  obtain ⟨rfl, hw_2⟩ := hp_2
  have hw_2 := hw_2.symm; subst hw_2
  refine g_aload_n C rfl dX6_bidOf_5 ?_
  refine g_iload_n C rfl dX6_bidOf_6 ?_
  exact g_callT C F (gw_emb_id sC) (thr_X6_needWeek A hA k hk) my_X6_needWeek vi_X6_139 (by decide) rfl (rfl) rfl ((fun w1 => w1)) (fun _ _ _ => rfl) (fun w1 j hj h => absurd rfl (h j hj)) (w) (fun _ _ => rfl) (Nat.le_of_ble_eq_true rfl) dX6_bidOf_7 rfl (h) (fun w1 hw => hw)

theorem thr_X6_bidOf_1 (A : cw_A) {n m : Nat} (hA : cw_IA n m A) (o k : Int32) (hc : ¬ cw_th A.1 o k) : gw_Thr yX6_bidOf cX6_bidOf 3 (some .int) sC 8 [.ref 252, .int o, .int k] (fun w => cw_RC A w) "java/lang/IndexOutOfBoundsException" (fun w w1 => w1 = w) := by
  by_cases h1 : cw_isO A.1 o
  · exact thr_X6_bidOf_w A hA o k h1 (fun h2 => hc ⟨h1, h2⟩)
  · exact thr_X6_bidOf_o A hA o k h1

set_option maxHeartbeats 8000000 in
set_option maxRecDepth 100000 in
theorem ok_X6_why (A : cw_A) {n m : Nat} (hA : cw_IA n m A) (o k : Int32) (hc : cw_th A.1 o k) : gw_Ok yX6_why cX6_why 3 (some .int) sC 5 [.ref 252, .int o, .int k] (fun w => cw_RC A w) (fun _ vr w1 => vr = some (.int (cw_hind A.1 (cw_x o) (cw_x k))) ∧ cw_RC (A) w1) := by
  refine gw_of (by decide) (Nat.le_of_ble_eq_true rfl) ?_
  intro X w h C F
  have hw := h
  have e := hw.eq
  have hI := hA.1
  have hIt := cw_I_cg hI e
  have h6 := hI.m.2
  obtain ⟨hj, hi, eo, ek⟩ := cw_thx hI hc
  have hj6 : cw_x o < 6 := by omega
  refine g_aload_n C rfl dX6_why_0 ?_
  refine g_iload_n C rfl dX6_why_1 ?_
  refine g_call C (ok_X6_needOwner A hA o hc.1) my_X6_needOwner vi_X6_115 (by decide) ⟨Nat.le_refl _, Nat.le_refl _⟩ rfl rfl rfl (Nat.le_of_ble_eq_true rfl) dX6_why_2 rfl (h) (fun v_2 w_2 hp_2 => ?_)
  obtain ⟨rfl, hw_2⟩ := hp_2
  have hw_2 := hw_2.symm; subst hw_2
  refine g_aload_n C rfl dX6_why_5 ?_
  refine g_iload_n C rfl dX6_why_6 ?_
  refine g_call C (ok_X6_needWeek A hA k hc.2) my_X6_needWeek vi_X6_139 (by decide) ⟨Nat.le_refl _, Nat.le_refl _⟩ rfl rfl rfl (Nat.le_of_ble_eq_true rfl) dX6_why_7 rfl (h) (fun v_7 w_7 hp_7 => ?_)
  obtain ⟨rfl, hw_7⟩ := hp_7
  have hw_7 := hw_7.symm; subst hw_7
  refine g_aload_n C rfl dX6_why_10 ?_
  refine g_getr C fl_X6_10 rfl rfl dX6_why_11 ?_
  refine g_iload_n C rfl dX6_why_14 ?_
  refine g_iload_n C rfl dX6_why_15 ?_
  refine g_callW C (cw_emb_h 0 (by decide)) (ok_X1_reasonAgainst _ _ hIt) my_X1_reasonAgainst vi_X6_260 (by decide) ⟨Nat.le_refl _, Nat.le_refl _⟩ rfl (((cw_emb_h 0 (by decide)).1 0 (by decide))) rfl (cw_wp (14 * 0) 14 w) (cw_wp_i) (cw_wp_o) (cw_hs 0 w) (fun _ _ => rfl) (Nat.le_of_ble_eq_true rfl) dX6_why_16 rfl (rfl) (fun v_16 w_16 hp_16 => ?_)
  obtain ⟨rfl, hw_16⟩ := hp_16
  have hw_16 := hw_16.symm; subst hw_16
  rw [cw_wp_hs]
  rw [cw_th_cg e, cw_it hc, cw_hind_cg e hj6 hi]
  refine g_iret C F dX6_why_19 ?_
  exact ⟨rfl, hw⟩

set_option maxHeartbeats 8000000 in
set_option maxRecDepth 100000 in
theorem thr_X6_why_o (A : cw_A) {n m : Nat} (hA : cw_IA n m A) (o k : Int32) (hc : ¬ cw_isO A.1 o) : gw_Thr yX6_why cX6_why 3 (some .int) sC 8 [.ref 252, .int o, .int k] (fun w => cw_RC A w) "java/lang/IndexOutOfBoundsException" (fun w w1 => w1 = w) := by
  refine gw_ofT (by decide) (Nat.le_of_ble_eq_true rfl) ?_
  intro X w h C F
  have hw := h
  have e := hw.eq
  have hI := hA.1
  have hIt := cw_I_cg hI e
  have h6 := hI.m.2
  refine g_aload_n C rfl dX6_why_0 ?_
  refine g_iload_n C rfl dX6_why_1 ?_
  exact g_callT C F (gw_emb_id sC) (thr_X6_needOwner A hA o hc) my_X6_needOwner vi_X6_115 (by decide) rfl (rfl) rfl ((fun w1 => w1)) (fun _ _ _ => rfl) (fun w1 j hj h => absurd rfl (h j hj)) (w) (fun _ _ => rfl) (Nat.le_of_ble_eq_true rfl) dX6_why_2 rfl (h) (fun w1 hw => hw)

set_option maxHeartbeats 8000000 in
set_option maxRecDepth 100000 in
theorem thr_X6_why_w (A : cw_A) {n m : Nat} (hA : cw_IA n m A) (o k : Int32) (hc : cw_isO A.1 o) (hk : ¬ cw_isW k) : gw_Thr yX6_why cX6_why 3 (some .int) sC 8 [.ref 252, .int o, .int k] (fun w => cw_RC A w) "java/lang/IndexOutOfBoundsException" (fun w w1 => w1 = w) := by
  refine gw_ofT (by decide) (Nat.le_of_ble_eq_true rfl) ?_
  intro X w h C F
  have hw := h
  have e := hw.eq
  have hI := hA.1
  have hIt := cw_I_cg hI e
  have h6 := hI.m.2
  refine g_aload_n C rfl dX6_why_0 ?_
  refine g_iload_n C rfl dX6_why_1 ?_
  refine g_call C (ok_X6_needOwner A hA o hc) my_X6_needOwner vi_X6_115 (by decide) ⟨Nat.zero_le _, Nat.zero_le _⟩ rfl rfl rfl (Nat.le_of_ble_eq_true rfl) dX6_why_2 rfl (h) (fun v_2 w_2 hp_2 => ?_)
  obtain ⟨rfl, hw_2⟩ := hp_2
  have hw_2 := hw_2.symm; subst hw_2
  refine g_aload_n C rfl dX6_why_5 ?_
  refine g_iload_n C rfl dX6_why_6 ?_
  exact g_callT C F (gw_emb_id sC) (thr_X6_needWeek A hA k hk) my_X6_needWeek vi_X6_139 (by decide) rfl (rfl) rfl ((fun w1 => w1)) (fun _ _ _ => rfl) (fun w1 j hj h => absurd rfl (h j hj)) (w) (fun _ _ => rfl) (Nat.le_of_ble_eq_true rfl) dX6_why_7 rfl (h) (fun w1 hw => hw)

theorem thr_X6_why_1 (A : cw_A) {n m : Nat} (hA : cw_IA n m A) (o k : Int32) (hc : ¬ cw_th A.1 o k) : gw_Thr yX6_why cX6_why 3 (some .int) sC 8 [.ref 252, .int o, .int k] (fun w => cw_RC A w) "java/lang/IndexOutOfBoundsException" (fun w w1 => w1 = w) := by
  by_cases h1 : cw_isO A.1 o
  · exact thr_X6_why_w A hA o k h1 (fun h2 => hc ⟨h1, h2⟩)
  · exact thr_X6_why_o A hA o k h1

set_option maxHeartbeats 8000000 in
set_option maxRecDepth 100000 in
theorem ok_X6_offerOf (A : cw_A) {n m : Nat} (hA : cw_IA n m A) (o k : Int32) (hc : cw_isK A.1 o) (hk : 0 ≤ k ∧ k ≤ 3) : gw_Ok yX6_offerOf cX6_offerOf 3 (some .int) sC 5 [.ref 252, .int o, .int k] (fun w => cw_RC A w) (fun _ vr w1 => vr = some (.int (cw_ofK A.1 (cw_x o) k)) ∧ cw_RC (A) w1) := by
  refine gw_of (by decide) (Nat.le_of_ble_eq_true rfl) ?_
  intro X w h C F
  have hw := h
  have e := hw.eq
  have hI := hA.1
  have hIt := cw_I_cg hI e
  have h6 := hI.m.2
  obtain ⟨i, rfl, hi⟩ := cw_isK_ix hI hc
  obtain ⟨q9, hq8, hq, hqq⟩ := hI.off
  have hx205 : cw_x (A.1 205) = q9 := by rw [hq]; exact cw_xn (by omega)
  have h8 : i < 8 := by omega
  have ei : cw_x (nI i) = i := cw_xn (by omega)
  refine g_aload_n C rfl dX6_offerOf_0 ?_
  refine g_iload_n C rfl dX6_offerOf_1 ?_
  refine g_call C (ok_X6_needOffer A hA (nI i) hc) my_X6_needOffer vi_X6_163 (by decide) ⟨Nat.le_refl _, Nat.le_refl _⟩ rfl rfl rfl (Nat.le_of_ble_eq_true rfl) dX6_offerOf_2 rfl (h) (fun v_2 w_2 hp_2 => ?_)
  obtain ⟨rfl, hw_2⟩ := hp_2
  have hw_2 := hw_2.symm; subst hw_2
  refine g_iload_n C rfl dX6_offerOf_5 ?_
  have hsw_6 : (k.toInt < 0 ∨ 3 < k.toInt) ∨ k.toInt = 0 ∨ k.toInt = 1 ∨ k.toInt = 2 ∨ k.toInt = 3 := by omega
  rcases hsw_6 with hsw_6 | hsw_6 | hsw_6 | hsw_6 | hsw_6
  · refine g_tabOut (tgt := 109) C hsw_6 (by decide) dX6_offerOf_6 ?_
    exact absurd hsw_6 (by have q1 := cw_le.mp hk.1; have q2 := cw_le.mp hk.2; have z0 : (0 : Int32).toInt = 0 := rfl; have z1 : (3 : Int32).toInt = 3 := rfl; omega)
  · obtain rfl : k = 0 := gw_toInt hsw_6
    refine g_tabIn (off := 30) (tgt := 36) C (by decide) (by decide) rfl (by decide) dX6_offerOf_6 ?_
    refine g_aload_n C rfl dX6_offerOf_36 ?_
    refine g_getr C fl_X6_10 rfl rfl dX6_offerOf_37 ?_
    refine g_getr C fl_X6_166 rfl rfl dX6_offerOf_40 ?_
    refine g_iload_n C rfl dX6_offerOf_43 ?_
    refine g_iald (j := i) C rfl (rfl) (h8) (by decide) dX6_offerOf_44 ?_
    refine g_top (cw_pK0 hw hI hi h8) ?_
    refine g_iret C F dX6_offerOf_45 ?_
    rw [ei]
    exact ⟨by first | rfl | (unfold cw_ofK; simp), hw⟩
  · obtain rfl : k = 1 := gw_toInt hsw_6
    refine g_tabIn (off := 40) (tgt := 46) C (by decide) (by decide) rfl (by decide) dX6_offerOf_6 ?_
    refine g_aload_n C rfl dX6_offerOf_46 ?_
    refine g_getr C fl_X6_10 rfl rfl dX6_offerOf_47 ?_
    refine g_getr C fl_X6_169 rfl rfl dX6_offerOf_50 ?_
    refine g_iload_n C rfl dX6_offerOf_53 ?_
    refine g_iald (j := i) C rfl (rfl) (h8) (by decide) dX6_offerOf_54 ?_
    refine g_top (cw_pK1 hw hI hi h8) ?_
    refine g_iret C F dX6_offerOf_55 ?_
    rw [ei]
    exact ⟨by first | rfl | (unfold cw_ofK; simp), hw⟩
  · obtain rfl : k = 2 := gw_toInt hsw_6
    refine g_tabIn (off := 50) (tgt := 56) C (by decide) (by decide) rfl (by decide) dX6_offerOf_6 ?_
    refine g_aload_n C rfl dX6_offerOf_56 ?_
    refine g_getr C fl_X6_10 rfl rfl dX6_offerOf_57 ?_
    refine g_getr C fl_X6_172 rfl rfl dX6_offerOf_60 ?_
    refine g_iload_n C rfl dX6_offerOf_63 ?_
    refine g_iald (j := i) C rfl (rfl) (h8) (by decide) dX6_offerOf_64 ?_
    refine g_top (cw_pK2 hw hI hi h8) ?_
    refine g_iret C F dX6_offerOf_65 ?_
    rw [ei]
    exact ⟨by first | rfl | (unfold cw_ofK; simp), hw⟩
  · obtain rfl : k = 3 := gw_toInt hsw_6
    refine g_tabIn (off := 60) (tgt := 66) C (by decide) (by decide) rfl (by decide) dX6_offerOf_6 ?_
    refine g_aload_n C rfl dX6_offerOf_66 ?_
    refine g_getr C fl_X6_10 rfl rfl dX6_offerOf_67 ?_
    refine g_aload_n C rfl dX6_offerOf_70 ?_
    refine g_getr C fl_X6_10 rfl rfl dX6_offerOf_71 ?_
    refine g_getr C fl_X6_166 rfl rfl dX6_offerOf_74 ?_
    refine g_iload_n C rfl dX6_offerOf_77 ?_
    refine g_iald (j := i) C rfl (rfl) (h8) (by decide) dX6_offerOf_78 ?_
    refine g_top (cw_pK0 hw hI hi h8) ?_
    refine g_aload_n C rfl dX6_offerOf_79 ?_
    refine g_getr C fl_X6_10 rfl rfl dX6_offerOf_80 ?_
    refine g_getr C fl_X6_169 rfl rfl dX6_offerOf_83 ?_
    refine g_iload_n C rfl dX6_offerOf_86 ?_
    refine g_iald (j := i) C rfl (rfl) (h8) (by decide) dX6_offerOf_87 ?_
    refine g_top (cw_pK1 hw hI hi h8) ?_
    refine g_aload_n C rfl dX6_offerOf_88 ?_
    refine g_getr C fl_X6_10 rfl rfl dX6_offerOf_89 ?_
    refine g_getr C fl_X6_172 rfl rfl dX6_offerOf_92 ?_
    refine g_iload_n C rfl dX6_offerOf_95 ?_
    refine g_iald (j := i) C rfl (rfl) (h8) (by decide) dX6_offerOf_96 ?_
    refine g_top (cw_pK2 hw hI hi h8) ?_
    refine g_callW C (cw_emb_h 0 (by decide)) (ok_X1_canSwap _ _ _ hIt) my_X1_canSwap vi_X6_175 (by decide) ⟨Nat.le_refl _, Nat.le_refl _⟩ rfl (((cw_emb_h 0 (by decide)).1 0 (by decide))) rfl (cw_wp (14 * 0) 14 w) (cw_wp_i) (cw_wp_o) (cw_hs 0 w) (fun _ _ => rfl) (Nat.le_of_ble_eq_true rfl) dX6_offerOf_97 rfl (rfl) (fun v_97 w_97 hp_97 => ?_)
    obtain ⟨rfl, hw_97⟩ := hp_97
    have hw_97 := hw_97.symm; subst hw_97
    rw [cw_wp_hs]
    rw [cw_swap_cg2 e]
    refine g_if_eq (tgt := 107) C (by decide) dX6_offerOf_100 (fun c_100 => ?_) (fun c_100 => ?_)
    · refine g_iconst (v := 1) C (by decide) dX6_offerOf_107 ?_
      refine g_iret C F dX6_offerOf_108 ?_
      rw [ei]
      exact ⟨by unfold cw_ofK; rw [if_neg (by decide), if_neg (by decide), if_neg (by decide), cw_b1 (cw_b0.mp c_100)], hw⟩
    · refine g_iconst (v := 0) C (by decide) dX6_offerOf_103 ?_
      refine g_goto (tgt := 108) C (by decide) dX6_offerOf_104 ?_
      refine g_iret C F dX6_offerOf_108 ?_
      rw [ei]
      exact ⟨by unfold cw_ofK; rw [if_neg (by decide), if_neg (by decide), if_neg (by decide), cw_bf (fun z => z (cw_bn c_100))], hw⟩

set_option maxHeartbeats 8000000 in
set_option maxRecDepth 100000 in
theorem thr_X6_offerOf_1 (A : cw_A) {n m : Nat} (hA : cw_IA n m A) (o k : Int32) (hc : ¬ cw_isK A.1 o) : gw_Thr yX6_offerOf cX6_offerOf 3 (some .int) sC 8 [.ref 252, .int o, .int k] (fun w => cw_RC A w) "java/lang/IndexOutOfBoundsException" (fun w w1 => w1 = w) := by
  refine gw_ofT (by decide) (Nat.le_of_ble_eq_true rfl) ?_
  intro X w h C F
  have hw := h
  have e := hw.eq
  have hI := hA.1
  have hIt := cw_I_cg hI e
  have h6 := hI.m.2
  refine g_aload_n C rfl dX6_offerOf_0 ?_
  refine g_iload_n C rfl dX6_offerOf_1 ?_
  exact g_callT C F (gw_emb_id sC) (thr_X6_needOffer A hA o hc) my_X6_needOffer vi_X6_163 (by decide) rfl (rfl) rfl ((fun w1 => w1)) (fun _ _ _ => rfl) (fun w1 j hj h => absurd rfl (h j hj)) (w) (fun _ _ => rfl) (Nat.le_of_ble_eq_true rfl) dX6_offerOf_2 rfl (h) (fun w1 hw => hw)

set_option maxHeartbeats 8000000 in
set_option maxRecDepth 100000 in
theorem thr_X6_offerOf_2 (A : cw_A) {n m : Nat} (hA : cw_IA n m A) (o k : Int32) (hc : cw_isK A.1 o) (hk : ¬ (0 ≤ k ∧ k ≤ 3)) : gw_Thr yX6_offerOf cX6_offerOf 3 (some .int) sC 8 [.ref 252, .int o, .int k] (fun w => cw_RC A w) "java/lang/IllegalArgumentException" (fun w w1 => w1 = w) := by
  refine gw_ofT (by decide) (Nat.le_of_ble_eq_true rfl) ?_
  intro X w h C F
  have hw := h
  have e := hw.eq
  have hI := hA.1
  have hIt := cw_I_cg hI e
  have h6 := hI.m.2
  refine g_aload_n C rfl dX6_offerOf_0 ?_
  refine g_iload_n C rfl dX6_offerOf_1 ?_
  refine g_call C (ok_X6_needOffer A hA o hc) my_X6_needOffer vi_X6_163 (by decide) ⟨Nat.zero_le _, Nat.zero_le _⟩ rfl rfl rfl (Nat.le_of_ble_eq_true rfl) dX6_offerOf_2 rfl (h) (fun v_2 w_2 hp_2 => ?_)
  obtain ⟨rfl, hw_2⟩ := hp_2
  have hw_2 := hw_2.symm; subst hw_2
  refine g_iload_n C rfl dX6_offerOf_5 ?_
  have hsw_6 : (k.toInt < 0 ∨ 3 < k.toInt) ∨ k.toInt = 0 ∨ k.toInt = 1 ∨ k.toInt = 2 ∨ k.toInt = 3 := by omega
  rcases hsw_6 with hsw_6 | hsw_6 | hsw_6 | hsw_6 | hsw_6
  · refine g_tabOut (tgt := 109) C hsw_6 (by decide) dX6_offerOf_6 ?_
    exact g_throw C F tw_IAE (List.mem_of_getElem? (i := 3) rfl) (by decide) (Nat.le_of_ble_eq_true rfl) dX6_offerOf_109 dX6_offerOf_112 dX6_offerOf_113 dX6_offerOf_115 dX6_offerOf_118 (rfl)
  · obtain rfl : k = 0 := gw_toInt hsw_6
    refine g_tabIn (off := 30) (tgt := 36) C (by decide) (by decide) rfl (by decide) dX6_offerOf_6 ?_
    exact absurd (by decide) hk
  · obtain rfl : k = 1 := gw_toInt hsw_6
    refine g_tabIn (off := 40) (tgt := 46) C (by decide) (by decide) rfl (by decide) dX6_offerOf_6 ?_
    exact absurd (by decide) hk
  · obtain rfl : k = 2 := gw_toInt hsw_6
    refine g_tabIn (off := 50) (tgt := 56) C (by decide) (by decide) rfl (by decide) dX6_offerOf_6 ?_
    exact absurd (by decide) hk
  · obtain rfl : k = 3 := gw_toInt hsw_6
    refine g_tabIn (off := 60) (tgt := 66) C (by decide) (by decide) rfl (by decide) dX6_offerOf_6 ?_
    exact absurd (by decide) hk

set_option maxHeartbeats 8000000 in
set_option maxRecDepth 100000 in
theorem ok_X6_ifUpkeep (A : cw_A) {n m : Nat} (hA : cw_IA n m A) (o k : Int32) (hc : cw_isO A.1 o) (hk : 1 ≤ k ∧ k ≤ 999) : gw_Ok yX6_ifUpkeep cX6_ifUpkeep 3 (some .int) sC 6 [.ref 252, .int o, .int k] (fun w => cw_RC A w) (fun _ vr w1 => vr = some (.int (cw_partOf A.1 (cw_x o) k)) ∧ cw_RC (A) w1) := by
  refine gw_of (by decide) (Nat.le_of_ble_eq_true rfl) ?_
  intro X w h C F
  have hw := h
  have e := hw.eq
  have hI := hA.1
  have hIt := cw_I_cg hI e
  have h6 := hI.m.2
  obtain ⟨j, rfl, hj⟩ := cw_isO_ix hI.m hc
  have ej : cw_x (nI j) = j := cw_xn (by omega)
  have hj6 : j < 6 := by omega
  have q1 := cw_le.mp hk.1
  have q2 := cw_le.mp hk.2
  have z1 : (1 : Int32).toInt = 1 := rfl
  have z9 : (999 : Int32).toInt = 999 := rfl
  refine g_aload_n C rfl dX6_ifUpkeep_0 ?_
  refine g_iload_n C rfl dX6_ifUpkeep_1 ?_
  refine g_call C (ok_X6_needOwner A hA (nI j) hc) my_X6_needOwner vi_X6_115 (by decide) ⟨Nat.le_refl _, Nat.le_refl _⟩ rfl rfl rfl (Nat.le_of_ble_eq_true rfl) dX6_ifUpkeep_2 rfl (h) (fun v_2 w_2 hp_2 => ?_)
  obtain ⟨rfl, hw_2⟩ := hp_2
  have hw_2 := hw_2.symm; subst hw_2
  refine g_aload_n C rfl dX6_ifUpkeep_5 ?_
  refine g_iload_n C rfl dX6_ifUpkeep_6 ?_
  refine g_iconst (v := 1) C (by decide) dX6_ifUpkeep_7 ?_
  refine g_sipush (v := 999) C (by decide) dX6_ifUpkeep_8 ?_
  refine g_call C (ok_X6_needRange k 1 999 hk) my_X6_needRange vi_X6_48 (by decide) ⟨Nat.le_refl _, Nat.le_refl _⟩ rfl rfl rfl (Nat.le_of_ble_eq_true rfl) dX6_ifUpkeep_11 rfl (trivial) (fun v_11 w_11 hp_11 => ?_)
  obtain ⟨rfl, hw_11⟩ := hp_11
  have hw_11 := hw_11.symm; subst hw_11
  refine g_aload_n C rfl dX6_ifUpkeep_14 ?_
  refine g_getr C fl_X6_10 rfl rfl dX6_ifUpkeep_15 ?_
  refine g_iload_n C rfl dX6_ifUpkeep_18 ?_
  refine g_iload_n C rfl dX6_ifUpkeep_19 ?_
  refine g_callW C (cw_emb_h 0 (by decide)) (ok_X1_partOf _ k j hj6 rfl hIt (by omega) (by omega)) my_X1_partOf vi_X6_277 (by decide) ⟨Nat.le_refl _, Nat.le_refl _⟩ rfl (((cw_emb_h 0 (by decide)).1 0 (by decide))) rfl (cw_wp (14 * 0) 14 w) (cw_wp_i) (cw_wp_o) (cw_hs 0 w) (fun _ _ => rfl) (Nat.le_of_ble_eq_true rfl) dX6_ifUpkeep_20 rfl (rfl) (fun v_20 w_20 hp_20 => ?_)
  obtain ⟨rfl, hw_20⟩ := hp_20
  have hw_20 := hw_20.symm; subst hw_20
  rw [cw_wp_hs]
  refine g_top (show _ = cw_partOf A.1 j k by rw [cw_part, cw_it (by rw [cw_no_cg e]; exact hj)]; exact cw_partOf_cg (cw_rd e (by omega) (by omega)) h6 (fun q hq => cw_rd e (by omega) (by omega)) hj6 k) ?_
  refine g_iret C F dX6_ifUpkeep_23 ?_
  rw [ej]
  exact ⟨rfl, hw⟩

set_option maxHeartbeats 8000000 in
set_option maxRecDepth 100000 in
theorem thr_X6_ifUpkeep_1 (A : cw_A) {n m : Nat} (hA : cw_IA n m A) (o k : Int32) (hc : ¬ cw_isO A.1 o) : gw_Thr yX6_ifUpkeep cX6_ifUpkeep 3 (some .int) sC 8 [.ref 252, .int o, .int k] (fun w => cw_RC A w) "java/lang/IndexOutOfBoundsException" (fun w w1 => w1 = w) := by
  refine gw_ofT (by decide) (Nat.le_of_ble_eq_true rfl) ?_
  intro X w h C F
  have hw := h
  have e := hw.eq
  have hI := hA.1
  have hIt := cw_I_cg hI e
  have h6 := hI.m.2
  refine g_aload_n C rfl dX6_ifUpkeep_0 ?_
  refine g_iload_n C rfl dX6_ifUpkeep_1 ?_
  exact g_callT C F (gw_emb_id sC) (thr_X6_needOwner A hA o hc) my_X6_needOwner vi_X6_115 (by decide) rfl (rfl) rfl ((fun w1 => w1)) (fun _ _ _ => rfl) (fun w1 j hj h => absurd rfl (h j hj)) (w) (fun _ _ => rfl) (Nat.le_of_ble_eq_true rfl) dX6_ifUpkeep_2 rfl (h) (fun w1 hw => hw)

set_option maxHeartbeats 8000000 in
set_option maxRecDepth 100000 in
theorem thr_X6_ifUpkeep_2 (A : cw_A) {n m : Nat} (hA : cw_IA n m A) (o k : Int32) (hc : cw_isO A.1 o) (hk : ¬ (1 ≤ k ∧ k ≤ 999)) : gw_Thr yX6_ifUpkeep cX6_ifUpkeep 3 (some .int) sC 8 [.ref 252, .int o, .int k] (fun w => cw_RC A w) "java/lang/IllegalArgumentException" (fun w w1 => w1 = w) := by
  refine gw_ofT (by decide) (Nat.le_of_ble_eq_true rfl) ?_
  intro X w h C F
  have hw := h
  have e := hw.eq
  have hI := hA.1
  have hIt := cw_I_cg hI e
  have h6 := hI.m.2
  refine g_aload_n C rfl dX6_ifUpkeep_0 ?_
  refine g_iload_n C rfl dX6_ifUpkeep_1 ?_
  refine g_call C (ok_X6_needOwner A hA o hc) my_X6_needOwner vi_X6_115 (by decide) ⟨Nat.zero_le _, Nat.zero_le _⟩ rfl rfl rfl (Nat.le_of_ble_eq_true rfl) dX6_ifUpkeep_2 rfl (h) (fun v_2 w_2 hp_2 => ?_)
  obtain ⟨rfl, hw_2⟩ := hp_2
  have hw_2 := hw_2.symm; subst hw_2
  refine g_aload_n C rfl dX6_ifUpkeep_5 ?_
  refine g_iload_n C rfl dX6_ifUpkeep_6 ?_
  refine g_iconst (v := 1) C (by decide) dX6_ifUpkeep_7 ?_
  refine g_sipush (v := 999) C (by decide) dX6_ifUpkeep_8 ?_
  exact g_callT C F (gw_emb_id sC) (thr_X6_needRange k 1 999 hk) my_X6_needRange vi_X6_48 (by decide) rfl (rfl) rfl ((fun w1 => w1)) (fun _ _ _ => rfl) (fun w1 j hj h => absurd rfl (h j hj)) (w) (fun _ _ => rfl) (Nat.le_of_ble_eq_true rfl) dX6_ifUpkeep_11 rfl (trivial) (fun w1 hw => hw)
