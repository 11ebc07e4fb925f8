theorem inT_X0 : ∀ w ∈ u_ws RX0 TX0 3, w ∈ gw_T := by
  have h : u_ws RX0 TX0 3 = [120, 122, 124].filterMap (fun i => tables_1[i]?) := by decide +kernel
  have hg : (u_ws RX0 TX0 3).all goodWord = true := by decide +kernel
  intro w hw
  have h2 := List.all_eq_true.mp hg w hw
  rw [h] at hw
  obtain ⟨i, -, hi⟩ := List.mem_filterMap.mp hw
  exact gw_T_at i hi h2
theorem fp_0_1 : gw_fp 0 1 .int := ⟨RX0, TX0, 3, tyX0, rfl, tyX0_ok, nmX0, rfl, rfl⟩
theorem fp_0_2 : gw_fp 0 2 .int := ⟨RX0, TX0, 3, tyX0, rfl, tyX0_ok, nmX0, rfl, rfl⟩
theorem inT_X1 : ∀ w ∈ u_ws RX1 TX1 16, w ∈ gw_T := by
  have h : u_ws RX1 TX1 16 = [73, 75, 77, 79, 81, 83, 85, 87, 89, 91, 93, 95, 97, 99, 101, 103].filterMap (fun i => tables_1[i]?) := by decide +kernel
  have hg : (u_ws RX1 TX1 16).all goodWord = true := by decide +kernel
  intro w hw
  have h2 := List.all_eq_true.mp hg w hw
  rw [h] at hw
  obtain ⟨i, -, hi⟩ := List.mem_filterMap.mp hw
  exact gw_T_at i hi h2
theorem fp_1_2 : gw_fp 1 2 .int := ⟨RX1, TX1, 16, tyX1, rfl, tyX1_ok, nmX1, rfl, rfl⟩
theorem fp_1_3 : gw_fp 1 3 .int := ⟨RX1, TX1, 16, tyX1, rfl, tyX1_ok, nmX1, rfl, rfl⟩
theorem fp_1_12 : gw_fp 1 12 .int := ⟨RX1, TX1, 16, tyX1, rfl, tyX1_ok, nmX1, rfl, rfl⟩
theorem inT_X2 : ∀ w ∈ u_ws RX2 TX2 2, w ∈ gw_T := by
  have h : u_ws RX2 TX2 2 = [157, 159].filterMap (fun i => tables_1[i]?) := by decide +kernel
  have hg : (u_ws RX2 TX2 2).all goodWord = true := by decide +kernel
  intro w hw
  have h2 := List.all_eq_true.mp hg w hw
  rw [h] at hw
  obtain ⟨i, -, hi⟩ := List.mem_filterMap.mp hw
  exact gw_T_at i hi h2
theorem inT_X5 : ∀ w ∈ u_ws RX5 TX5 6, w ∈ gw_T := by
  have h : u_ws RX5 TX5 6 = [135, 137, 139, 141, 143, 145].filterMap (fun i => tables_1[i]?) := by decide +kernel
  have hg : (u_ws RX5 TX5 6).all goodWord = true := by decide +kernel
  intro w hw
  have h2 := List.all_eq_true.mp hg w hw
  rw [h] at hw
  obtain ⟨i, -, hi⟩ := List.mem_filterMap.mp hw
  exact gw_T_at i hi h2
theorem fp_3_1 : gw_fp 3 1 .int := ⟨RX5, TX5, 6, tyX5, rfl, tyX5_ok, nmX5, rfl, rfl⟩
theorem fp_3_2 : gw_fp 3 2 .int := ⟨RX5, TX5, 6, tyX5, rfl, tyX5_ok, nmX5, rfl, rfl⟩
theorem fp_3_3 : gw_fp 3 3 .boolean := ⟨RX5, TX5, 6, tyX5, rfl, tyX5_ok, nmX5, rfl, rfl⟩
theorem fp_3_5 : gw_fp 3 5 .int := ⟨RX5, TX5, 6, tyX5, rfl, tyX5_ok, nmX5, rfl, rfl⟩
theorem inT_X6 : ∀ w ∈ u_ws RX6 TX6 7, w ∈ gw_T := by
  have h : u_ws RX6 TX6 7 = [169, 171, 173, 175, 177, 179, 181].filterMap (fun i => tables_1[i]?) := by decide +kernel
  have hg : (u_ws RX6 TX6 7).all goodWord = true := by decide +kernel
  intro w hw
  have h2 := List.all_eq_true.mp hg w hw
  rw [h] at hw
  obtain ⟨i, -, hi⟩ := List.mem_filterMap.mp hw
  exact gw_T_at i hi h2
theorem fl_X1_9 : gw_fl RX1 9 1 0 := ⟨RX1, TX1, 16, rfl, by decide, inT_X1, Or.inl (gw_T_at 42 (by decide +kernel) rfl)⟩
theorem fl_X1_15 : gw_fl RX1 15 1 1 := ⟨RX1, TX1, 16, rfl, by decide, inT_X1, Or.inl (gw_T_at 44 (by decide +kernel) rfl)⟩
theorem fl_X1_70 : gw_fl RX1 70 1 2 := ⟨RX1, TX1, 16, rfl, by decide, inT_X1, Or.inl (gw_T_at 46 (by decide +kernel) rfl)⟩
theorem fl_X1_74 : gw_fl RX1 74 1 3 := ⟨RX1, TX1, 16, rfl, by decide, inT_X1, Or.inl (gw_T_at 48 (by decide +kernel) rfl)⟩
theorem fl_X1_18 : gw_fl RX1 18 1 4 := ⟨RX1, TX1, 16, rfl, by decide, inT_X1, Or.inl (gw_T_at 50 (by decide +kernel) rfl)⟩
theorem fl_X1_21 : gw_fl RX1 21 1 5 := ⟨RX1, TX1, 16, rfl, by decide, inT_X1, Or.inl (gw_T_at 52 (by decide +kernel) rfl)⟩
theorem fl_X1_24 : gw_fl RX1 24 1 6 := ⟨RX1, TX1, 16, rfl, by decide, inT_X1, Or.inl (gw_T_at 54 (by decide +kernel) rfl)⟩
theorem fl_X1_27 : gw_fl RX1 27 1 7 := ⟨RX1, TX1, 16, rfl, by decide, inT_X1, Or.inl (gw_T_at 56 (by decide +kernel) rfl)⟩
theorem fl_X1_30 : gw_fl RX1 30 1 8 := ⟨RX1, TX1, 16, rfl, by decide, inT_X1, Or.inl (gw_T_at 58 (by decide +kernel) rfl)⟩
theorem fl_X1_33 : gw_fl RX1 33 1 9 := ⟨RX1, TX1, 16, rfl, by decide, inT_X1, Or.inl (gw_T_at 60 (by decide +kernel) rfl)⟩
theorem fl_X1_37 : gw_fl RX1 37 1 10 := ⟨RX1, TX1, 16, rfl, by decide, inT_X1, Or.inl (gw_T_at 62 (by decide +kernel) rfl)⟩
theorem fl_X1_40 : gw_fl RX1 40 1 11 := ⟨RX1, TX1, 16, rfl, by decide, inT_X1, Or.inl (gw_T_at 64 (by decide +kernel) rfl)⟩
theorem fl_X1_77 : gw_fl RX1 77 1 12 := ⟨RX1, TX1, 16, rfl, by decide, inT_X1, Or.inl (gw_T_at 65 (by decide +kernel) rfl)⟩
theorem fl_X1_43 : gw_fl RX1 43 1 13 := ⟨RX1, TX1, 16, rfl, by decide, inT_X1, Or.inl (gw_T_at 67 (by decide +kernel) rfl)⟩
theorem fl_X1_46 : gw_fl RX1 46 1 14 := ⟨RX1, TX1, 16, rfl, by decide, inT_X1, Or.inl (gw_T_at 69 (by decide +kernel) rfl)⟩
theorem fl_X1_49 : gw_fl RX1 49 1 15 := ⟨RX1, TX1, 16, rfl, by decide, inT_X1, Or.inl (gw_T_at 71 (by decide +kernel) rfl)⟩
theorem fl_X0_11 : gw_fl RX0 11 0 0 := ⟨RX0, TX0, 3, rfl, by decide, inT_X0, Or.inl (gw_T_at 117 (by decide +kernel) rfl)⟩
theorem fl_X0_22 : gw_fl RX0 22 0 1 := ⟨RX0, TX0, 3, rfl, by decide, inT_X0, Or.inl (gw_T_at 118 (by decide +kernel) rfl)⟩
theorem fl_X0_18 : gw_fl RX0 18 0 2 := ⟨RX0, TX0, 3, rfl, by decide, inT_X0, Or.inl (gw_T_at 119 (by decide +kernel) rfl)⟩
theorem fl_X5_9 : gw_fl RX5 9 3 0 := ⟨RX5, TX5, 6, rfl, by decide, inT_X5, Or.inl (gw_T_at 133 (by decide +kernel) rfl)⟩
theorem fl_X5_15 : gw_fl RX5 15 3 4 := ⟨RX5, TX5, 6, rfl, by decide, inT_X5, Or.inl (gw_T_at 134 (by decide +kernel) rfl)⟩
theorem fl_X2_9 : gw_fl RX2 9 2 0 := ⟨RX2, TX2, 2, rfl, by decide, inT_X2, Or.inl (gw_T_at 155 (by decide +kernel) rfl)⟩
theorem fl_X2_15 : gw_fl RX2 15 2 1 := ⟨RX2, TX2, 2, rfl, by decide, inT_X2, Or.inl (gw_T_at 156 (by decide +kernel) rfl)⟩
theorem fl_X6_10 : gw_fl RX6 10 4 0 := ⟨RX6, TX6, 7, rfl, by decide, inT_X6, Or.inl (gw_T_at 162 (by decide +kernel) rfl)⟩
theorem fl_X6_16 : gw_fl RX6 16 4 1 := ⟨RX6, TX6, 7, rfl, by decide, inT_X6, Or.inl (gw_T_at 163 (by decide +kernel) rfl)⟩
theorem fl_X6_22 : gw_fl RX6 22 4 2 := ⟨RX6, TX6, 7, rfl, by decide, inT_X6, Or.inl (gw_T_at 164 (by decide +kernel) rfl)⟩
theorem fl_X6_26 : gw_fl RX6 26 4 3 := ⟨RX6, TX6, 7, rfl, by decide, inT_X6, Or.inl (gw_T_at 165 (by decide +kernel) rfl)⟩
theorem fl_X6_30 : gw_fl RX6 30 4 4 := ⟨RX6, TX6, 7, rfl, by decide, inT_X6, Or.inl (gw_T_at 166 (by decide +kernel) rfl)⟩
theorem fl_X6_37 : gw_fl RX6 37 4 5 := ⟨RX6, TX6, 7, rfl, by decide, inT_X6, Or.inl (gw_T_at 167 (by decide +kernel) rfl)⟩
theorem fl_X6_44 : gw_fl RX6 44 4 6 := ⟨RX6, TX6, 7, rfl, by decide, inT_X6, Or.inl (gw_T_at 168 (by decide +kernel) rfl)⟩
theorem fl_X6_249 : gw_fl RX6 249 1 0 := ⟨RX1, TX1, 16, rfl, by decide, inT_X1, Or.inr ⟨"CottageWeeks", gw_N_at 43 (by decide +kernel) rfl⟩⟩
theorem fl_X6_97 : gw_fl RX6 97 1 1 := ⟨RX1, TX1, 16, rfl, by decide, inT_X1, Or.inr ⟨"CottageWeeks", gw_N_at 45 (by decide +kernel) rfl⟩⟩
theorem fl_X6_90 : gw_fl RX6 90 1 2 := ⟨RX1, TX1, 16, rfl, by decide, inT_X1, Or.inr ⟨"CottageWeeks", gw_N_at 47 (by decide +kernel) rfl⟩⟩
theorem fl_X6_86 : gw_fl RX6 86 1 3 := ⟨RX1, TX1, 16, rfl, by decide, inT_X1, Or.inr ⟨"CottageWeeks", gw_N_at 49 (by decide +kernel) rfl⟩⟩
theorem fl_X6_119 : gw_fl RX6 119 1 4 := ⟨RX1, TX1, 16, rfl, by decide, inT_X1, Or.inr ⟨"CottageWeeks", gw_N_at 51 (by decide +kernel) rfl⟩⟩
theorem fl_X6_122 : gw_fl RX6 122 1 5 := ⟨RX1, TX1, 16, rfl, by decide, inT_X1, Or.inr ⟨"CottageWeeks", gw_N_at 53 (by decide +kernel) rfl⟩⟩
theorem fl_X6_125 : gw_fl RX6 125 1 6 := ⟨RX1, TX1, 16, rfl, by decide, inT_X1, Or.inr ⟨"CottageWeeks", gw_N_at 55 (by decide +kernel) rfl⟩⟩
theorem fl_X6_128 : gw_fl RX6 128 1 7 := ⟨RX1, TX1, 16, rfl, by decide, inT_X1, Or.inr ⟨"CottageWeeks", gw_N_at 57 (by decide +kernel) rfl⟩⟩
theorem fl_X6_142 : gw_fl RX6 142 1 8 := ⟨RX1, TX1, 16, rfl, by decide, inT_X1, Or.inr ⟨"CottageWeeks", gw_N_at 59 (by decide +kernel) rfl⟩⟩
theorem fl_X6_145 : gw_fl RX6 145 1 9 := ⟨RX1, TX1, 16, rfl, by decide, inT_X1, Or.inr ⟨"CottageWeeks", gw_N_at 61 (by decide +kernel) rfl⟩⟩
theorem fl_X6_148 : gw_fl RX6 148 1 10 := ⟨RX1, TX1, 16, rfl, by decide, inT_X1, Or.inr ⟨"CottageWeeks", gw_N_at 63 (by decide +kernel) rfl⟩⟩
theorem fl_X6_107 : gw_fl RX6 107 1 12 := ⟨RX1, TX1, 16, rfl, by decide, inT_X1, Or.inr ⟨"CottageWeeks", gw_N_at 66 (by decide +kernel) rfl⟩⟩
theorem fl_X6_166 : gw_fl RX6 166 1 13 := ⟨RX1, TX1, 16, rfl, by decide, inT_X1, Or.inr ⟨"CottageWeeks", gw_N_at 68 (by decide +kernel) rfl⟩⟩
theorem fl_X6_169 : gw_fl RX6 169 1 14 := ⟨RX1, TX1, 16, rfl, by decide, inT_X1, Or.inr ⟨"CottageWeeks", gw_N_at 70 (by decide +kernel) rfl⟩⟩
theorem fl_X6_172 : gw_fl RX6 172 1 15 := ⟨RX1, TX1, 16, rfl, by decide, inT_X1, Or.inr ⟨"CottageWeeks", gw_N_at 72 (by decide +kernel) rfl⟩⟩
theorem my_X6_init : gw_my yX6_init cX6_init 2 none 0 := ⟨gw_T_at 20 (by decide +kernel) rfl, gw_T_at 1 (by decide +kernel) rfl, by decide +kernel, by decide +kernel, by decide +kernel, by decide⟩
theorem my_X1_init : gw_my yX1_init cX1_init 1 none 0 := ⟨gw_T_at 28 (by decide +kernel) rfl, gw_T_at 2 (by decide +kernel) rfl, by decide +kernel, by decide +kernel, by decide +kernel, by decide⟩
theorem my_X1_clear : gw_my yX1_clear cX1_clear 2 none 0 := ⟨gw_T_at 33 (by decide +kernel) rfl, gw_T_at 2 (by decide +kernel) rfl, by decide +kernel, by decide +kernel, by decide +kernel, by decide⟩
theorem my_J7_fill_53178 : gw_my yJ7_fill_53178 cJ7_fill_53178 4 none 2 := ⟨gw_T_at 41 (by decide +kernel) rfl, gw_T_at 4 (by decide +kernel) rfl, by decide +kernel, by decide +kernel, by decide +kernel, by decide⟩
theorem my_X0_init : gw_my yX0_init cX0_init 2 none 0 := ⟨gw_T_at 112 (by decide +kernel) rfl, gw_T_at 5 (by decide +kernel) rfl, by decide +kernel, by decide +kernel, by decide +kernel, by decide⟩
theorem my_X5_init : gw_my yX5_init cX5_init 1 none 0 := ⟨gw_T_at 131 (by decide +kernel) rfl, gw_T_at 6 (by decide +kernel) rfl, by decide +kernel, by decide +kernel, by decide +kernel, by decide⟩
theorem my_X2_init : gw_my yX2_init cX2_init 1 none 0 := ⟨gw_T_at 153 (by decide +kernel) rfl, gw_T_at 7 (by decide +kernel) rfl, by decide +kernel, by decide +kernel, by decide +kernel, by decide⟩
theorem my_X6_about : gw_my yX6_about cX6_about 2 (some .int) 1 := ⟨gw_T_at 187 (by decide +kernel) rfl, gw_T_at 1 (by decide +kernel) rfl, by decide +kernel, by decide +kernel, by decide +kernel, by decide⟩
theorem my_X1_weeksHeldBy : gw_my yX1_weeksHeldBy cX1_weeksHeldBy 4 (some .int) 1 := ⟨gw_T_at 191 (by decide +kernel) rfl, gw_T_at 2 (by decide +kernel) rfl, by decide +kernel, by decide +kernel, by decide +kernel, by decide⟩
theorem my_X1_pointsOfAll : gw_my yX1_pointsOfAll cX1_pointsOfAll 3 (some .int) 0 := ⟨gw_T_at 195 (by decide +kernel) rfl, gw_T_at 2 (by decide +kernel) rfl, by decide +kernel, by decide +kernel, by decide +kernel, by decide⟩
theorem my_X1_bidsOfAll : gw_my yX1_bidsOfAll cX1_bidsOfAll 3 (some .int) 0 := ⟨gw_T_at 199 (by decide +kernel) rfl, gw_T_at 2 (by decide +kernel) rfl, by decide +kernel, by decide +kernel, by decide +kernel, by decide⟩
theorem my_X1_bidsBy : gw_my yX1_bidsBy cX1_bidsBy 4 (some .int) 1 := ⟨gw_T_at 203 (by decide +kernel) rfl, gw_T_at 2 (by decide +kernel) rfl, by decide +kernel, by decide +kernel, by decide +kernel, by decide⟩
theorem my_X1_extraOf : gw_my yX1_extraOf cX1_extraOf 4 (some .int) 2 := ⟨gw_T_at 207 (by decide +kernel) rfl, gw_T_at 2 (by decide +kernel) rfl, by decide +kernel, by decide +kernel, by decide +kernel, by decide⟩
theorem my_L_cell : gw_my yL_cell cL_cell 2 (some .int) 2 := ⟨gw_T_at 278 (by decide +kernel) rfl, gw_T_at 0 (by decide +kernel) rfl, by decide +kernel, by decide +kernel, by decide +kernel, by decide⟩
theorem my_L_low : gw_my yL_low cL_low 2 (some .int) 2 := ⟨gw_T_at 281 (by decide +kernel) rfl, gw_T_at 0 (by decide +kernel) rfl, by decide +kernel, by decide +kernel, by decide +kernel, by decide⟩
theorem my_X6_undo : gw_my yX6_undo cX6_undo 1 (some .int) 0 := ⟨gw_T_at 290 (by decide +kernel) rfl, gw_T_at 1 (by decide +kernel) rfl, by decide +kernel, by decide +kernel, by decide +kernel, by decide⟩
theorem my_X0_isEmpty : gw_my yX0_isEmpty cX0_isEmpty 1 (some .boolean) 0 := ⟨gw_T_at 294 (by decide +kernel) rfl, gw_T_at 5 (by decide +kernel) rfl, by decide +kernel, by decide +kernel, by decide +kernel, by decide⟩
theorem my_X0_takeBack : gw_my yX0_takeBack cX0_takeBack 2 (some .int) 1 := ⟨gw_T_at 314 (by decide +kernel) rfl, gw_T_at 5 (by decide +kernel) rfl, by decide +kernel, by decide +kernel, by decide +kernel, by decide⟩
theorem my_X1_copyFrom : gw_my yX1_copyFrom cX1_copyFrom 2 none 1 := ⟨gw_T_at 318 (by decide +kernel) rfl, gw_T_at 2 (by decide +kernel) rfl, by decide +kernel, by decide +kernel, by decide +kernel, by decide⟩
theorem my_L_act : gw_my yL_act cL_act 9 (some .int) 3 := ⟨gw_T_at 321 (by decide +kernel) rfl, gw_T_at 0 (by decide +kernel) rfl, by decide +kernel, by decide +kernel, by decide +kernel, by decide⟩
theorem my_X6_owner : gw_my yX6_owner cX6_owner 2 (some .int) 1 := ⟨gw_T_at 330 (by decide +kernel) rfl, gw_T_at 1 (by decide +kernel) rfl, by decide +kernel, by decide +kernel, by decide +kernel, by decide⟩
theorem my_X6_needRange : gw_my yX6_needRange cX6_needRange 4 none 3 := ⟨gw_T_at 334 (by decide +kernel) rfl, gw_T_at 1 (by decide +kernel) rfl, by decide +kernel, by decide +kernel, by decide +kernel, by decide⟩
theorem my_X0_remember : gw_my yX0_remember cX0_remember 2 none 1 := ⟨gw_T_at 340 (by decide +kernel) rfl, gw_T_at 5 (by decide +kernel) rfl, by decide +kernel, by decide +kernel, by decide +kernel, by decide⟩
theorem my_X1_addOwner : gw_my yX1_addOwner cX1_addOwner 3 (some .int) 1 := ⟨gw_T_at 344 (by decide +kernel) rfl, gw_T_at 2 (by decide +kernel) rfl, by decide +kernel, by decide +kernel, by decide +kernel, by decide⟩
theorem my_X1_givePoints : gw_my yX1_givePoints cX1_givePoints 3 none 1 := ⟨gw_T_at 348 (by decide +kernel) rfl, gw_T_at 2 (by decide +kernel) rfl, by decide +kernel, by decide +kernel, by decide +kernel, by decide⟩
theorem my_X6_take : gw_my yX6_take cX6_take 3 (some .int) 2 := ⟨gw_T_at 352 (by decide +kernel) rfl, gw_T_at 1 (by decide +kernel) rfl, by decide +kernel, by decide +kernel, by decide +kernel, by decide⟩
theorem my_X6_needOwner : gw_my yX6_needOwner cX6_needOwner 2 none 1 := ⟨gw_T_at 356 (by decide +kernel) rfl, gw_T_at 1 (by decide +kernel) rfl, by decide +kernel, by decide +kernel, by decide +kernel, by decide⟩
theorem my_X1_hasOwner : gw_my yX1_hasOwner cX1_hasOwner 2 (some .boolean) 1 := ⟨gw_T_at 360 (by decide +kernel) rfl, gw_T_at 2 (by decide +kernel) rfl, by decide +kernel, by decide +kernel, by decide +kernel, by decide⟩
theorem my_X6_needWeek : gw_my yX6_needWeek cX6_needWeek 2 none 1 := ⟨gw_T_at 380 (by decide +kernel) rfl, gw_T_at 1 (by decide +kernel) rfl, by decide +kernel, by decide +kernel, by decide +kernel, by decide⟩
theorem my_X1_hasWeek : gw_my yX1_hasWeek cX1_hasWeek 2 (some .boolean) 1 := ⟨gw_T_at 384 (by decide +kernel) rfl, gw_T_at 2 (by decide +kernel) rfl, by decide +kernel, by decide +kernel, by decide +kernel, by decide⟩
theorem my_X1_takeWeek : gw_my yX1_takeWeek cX1_takeWeek 4 (some .int) 2 := ⟨gw_T_at 389 (by decide +kernel) rfl, gw_T_at 2 (by decide +kernel) rfl, by decide +kernel, by decide +kernel, by decide +kernel, by decide⟩
theorem my_X1_reasonAgainst : gw_my yX1_reasonAgainst cX1_reasonAgainst 3 (some .int) 2 := ⟨gw_T_at 395 (by decide +kernel) rfl, gw_T_at 2 (by decide +kernel) rfl, by decide +kernel, by decide +kernel, by decide +kernel, by decide⟩
theorem my_X1_spendPoints : gw_my yX1_spendPoints cX1_spendPoints 3 none 2 := ⟨gw_T_at 400 (by decide +kernel) rfl, gw_T_at 2 (by decide +kernel) rfl, by decide +kernel, by decide +kernel, by decide +kernel, by decide⟩
theorem my_X6_release : gw_my yX6_release cX6_release 3 (some .int) 2 := ⟨gw_T_at 404 (by decide +kernel) rfl, gw_T_at 1 (by decide +kernel) rfl, by decide +kernel, by decide +kernel, by decide +kernel, by decide⟩
theorem my_X1_holds : gw_my yX1_holds cX1_holds 3 (some .boolean) 2 := ⟨gw_T_at 408 (by decide +kernel) rfl, gw_T_at 2 (by decide +kernel) rfl, by decide +kernel, by decide +kernel, by decide +kernel, by decide⟩
theorem my_X1_giveBack : gw_my yX1_giveBack cX1_giveBack 4 (some .int) 2 := ⟨gw_T_at 413 (by decide +kernel) rfl, gw_T_at 2 (by decide +kernel) rfl, by decide +kernel, by decide +kernel, by decide +kernel, by decide⟩
theorem my_X6_accept : gw_my yX6_accept cX6_accept 2 (some .int) 1 := ⟨gw_T_at 418 (by decide +kernel) rfl, gw_T_at 1 (by decide +kernel) rfl, by decide +kernel, by decide +kernel, by decide +kernel, by decide⟩
theorem my_X6_needOffer : gw_my yX6_needOffer cX6_needOffer 2 none 1 := ⟨gw_T_at 422 (by decide +kernel) rfl, gw_T_at 1 (by decide +kernel) rfl, by decide +kernel, by decide +kernel, by decide +kernel, by decide⟩
theorem my_X1_hasOffer : gw_my yX1_hasOffer cX1_hasOffer 2 (some .boolean) 1 := ⟨gw_T_at 426 (by decide +kernel) rfl, gw_T_at 2 (by decide +kernel) rfl, by decide +kernel, by decide +kernel, by decide +kernel, by decide⟩
theorem my_X1_acceptOffer : gw_my yX1_acceptOffer cX1_acceptOffer 5 (some .int) 1 := ⟨gw_T_at 431 (by decide +kernel) rfl, gw_T_at 2 (by decide +kernel) rfl, by decide +kernel, by decide +kernel, by decide +kernel, by decide⟩
theorem my_X1_dropOffer : gw_my yX1_dropOffer cX1_dropOffer 3 none 1 := ⟨gw_T_at 436 (by decide +kernel) rfl, gw_T_at 2 (by decide +kernel) rfl, by decide +kernel, by decide +kernel, by decide +kernel, by decide⟩
theorem my_X1_canSwap : gw_my yX1_canSwap cX1_canSwap 4 (some .boolean) 3 := ⟨gw_T_at 440 (by decide +kernel) rfl, gw_T_at 2 (by decide +kernel) rfl, by decide +kernel, by decide +kernel, by decide +kernel, by decide⟩
theorem my_X6_upkeep : gw_my yX6_upkeep cX6_upkeep 2 (some .int) 1 := ⟨gw_T_at 444 (by decide +kernel) rfl, gw_T_at 1 (by decide +kernel) rfl, by decide +kernel, by decide +kernel, by decide +kernel, by decide⟩
theorem my_X1_payUpkeep : gw_my yX1_payUpkeep cX1_payUpkeep 5 (some .int) 1 := ⟨gw_T_at 449 (by decide +kernel) rfl, gw_T_at 2 (by decide +kernel) rfl, by decide +kernel, by decide +kernel, by decide +kernel, by decide⟩
theorem my_X1_partOf : gw_my yX1_partOf cX1_partOf 9 (some .int) 2 := ⟨gw_T_at 453 (by decide +kernel) rfl, gw_T_at 2 (by decide +kernel) rfl, by decide +kernel, by decide +kernel, by decide +kernel, by decide⟩
theorem my_X1_sharesOfAll : gw_my yX1_sharesOfAll cX1_sharesOfAll 3 (some .int) 0 := ⟨gw_T_at 457 (by decide +kernel) rfl, gw_T_at 2 (by decide +kernel) rfl, by decide +kernel, by decide +kernel, by decide +kernel, by decide⟩
theorem my_J9_max_7cf53 : gw_my yJ9_max_7cf53 cJ9_max_7cf53 2 (some .int) 2 := ⟨gw_T_at 460 (by decide +kernel) rfl, gw_T_at 14 (by decide +kernel) rfl, by decide +kernel, by decide +kernel, by decide +kernel, by decide⟩
theorem my_X6_set : gw_my yX6_set cX6_set 4 (some .int) 2 := ⟨gw_T_at 464 (by decide +kernel) rfl, gw_T_at 1 (by decide +kernel) rfl, by decide +kernel, by decide +kernel, by decide +kernel, by decide⟩
theorem my_X6_cost : gw_my yX6_cost cX6_cost 3 (some .int) 2 := ⟨gw_T_at 473 (by decide +kernel) rfl, gw_T_at 1 (by decide +kernel) rfl, by decide +kernel, by decide +kernel, by decide +kernel, by decide⟩
theorem my_X1_changeCost : gw_my yX1_changeCost cX1_changeCost 4 (some .int) 2 := ⟨gw_T_at 477 (by decide +kernel) rfl, gw_T_at 2 (by decide +kernel) rfl, by decide +kernel, by decide +kernel, by decide +kernel, by decide⟩
theorem my_X6_school : gw_my yX6_school cX6_school 3 (some .int) 2 := ⟨gw_T_at 481 (by decide +kernel) rfl, gw_T_at 1 (by decide +kernel) rfl, by decide +kernel, by decide +kernel, by decide +kernel, by decide⟩
theorem my_X1_markSchool : gw_my yX1_markSchool cX1_markSchool 5 (some .int) 2 := ⟨gw_T_at 485 (by decide +kernel) rfl, gw_T_at 2 (by decide +kernel) rfl, by decide +kernel, by decide +kernel, by decide +kernel, by decide⟩
theorem my_X6_ownerOf : gw_my yX6_ownerOf cX6_ownerOf 3 (some .int) 2 := ⟨gw_T_at 489 (by decide +kernel) rfl, gw_T_at 1 (by decide +kernel) rfl, by decide +kernel, by decide +kernel, by decide +kernel, by decide⟩
theorem my_X1_lowestWeekHeldBy : gw_my yX1_lowestWeekHeldBy cX1_lowestWeekHeldBy 3 (some .int) 1 := ⟨gw_T_at 493 (by decide +kernel) rfl, gw_T_at 2 (by decide +kernel) rfl, by decide +kernel, by decide +kernel, by decide +kernel, by decide⟩
theorem my_X6_bid : gw_my yX6_bid cX6_bid 4 (some .int) 3 := ⟨gw_T_at 502 (by decide +kernel) rfl, gw_T_at 1 (by decide +kernel) rfl, by decide +kernel, by decide +kernel, by decide +kernel, by decide⟩
theorem my_X1_isOpenForBids : gw_my yX1_isOpenForBids cX1_isOpenForBids 2 (some .boolean) 1 := ⟨gw_T_at 506 (by decide +kernel) rfl, gw_T_at 2 (by decide +kernel) rfl, by decide +kernel, by decide +kernel, by decide +kernel, by decide⟩
theorem my_X1_placeBid : gw_my yX1_placeBid cX1_placeBid 4 (some .int) 3 := ⟨gw_T_at 511 (by decide +kernel) rfl, gw_T_at 2 (by decide +kernel) rfl, by decide +kernel, by decide +kernel, by decide +kernel, by decide⟩
theorem my_X1_bidsFor : gw_my yX1_bidsFor cX1_bidsFor 4 (some .int) 1 := ⟨gw_T_at 516 (by decide +kernel) rfl, gw_T_at 2 (by decide +kernel) rfl, by decide +kernel, by decide +kernel, by decide +kernel, by decide⟩
theorem my_X6_offer : gw_my yX6_offer cX6_offer 4 (some .int) 3 := ⟨gw_T_at 520 (by decide +kernel) rfl, gw_T_at 1 (by decide +kernel) rfl, by decide +kernel, by decide +kernel, by decide +kernel, by decide⟩
theorem my_X1_canOffer : gw_my yX1_canOffer cX1_canOffer 4 (some .boolean) 3 := ⟨gw_T_at 524 (by decide +kernel) rfl, gw_T_at 2 (by decide +kernel) rfl, by decide +kernel, by decide +kernel, by decide +kernel, by decide⟩
theorem my_X1_placeOffer : gw_my yX1_placeOffer cX1_placeOffer 5 (some .int) 3 := ⟨gw_T_at 529 (by decide +kernel) rfl, gw_T_at 2 (by decide +kernel) rfl, by decide +kernel, by decide +kernel, by decide +kernel, by decide⟩
theorem my_X6_settle : gw_my yX6_settle cX6_settle 1 (some .int) 0 := ⟨gw_T_at 534 (by decide +kernel) rfl, gw_T_at 1 (by decide +kernel) rfl, by decide +kernel, by decide +kernel, by decide +kernel, by decide⟩
theorem my_X1_settleBids : gw_my yX1_settleBids cX1_settleBids 3 (some .int) 0 := ⟨gw_T_at 538 (by decide +kernel) rfl, gw_T_at 2 (by decide +kernel) rfl, by decide +kernel, by decide +kernel, by decide +kernel, by decide⟩
theorem my_X1_settleWeek : gw_my yX1_settleWeek cX1_settleWeek 3 (some .boolean) 1 := ⟨gw_T_at 542 (by decide +kernel) rfl, gw_T_at 2 (by decide +kernel) rfl, by decide +kernel, by decide +kernel, by decide +kernel, by decide⟩
theorem my_X1_bestBidder : gw_my yX1_bestBidder cX1_bestBidder 4 (some .int) 1 := ⟨gw_T_at 546 (by decide +kernel) rfl, gw_T_at 2 (by decide +kernel) rfl, by decide +kernel, by decide +kernel, by decide +kernel, by decide⟩
theorem my_X1_canWin : gw_my yX1_canWin cX1_canWin 4 (some .boolean) 2 := ⟨gw_T_at 550 (by decide +kernel) rfl, gw_T_at 2 (by decide +kernel) rfl, by decide +kernel, by decide +kernel, by decide +kernel, by decide⟩
theorem my_X1_isAhead : gw_my yX1_isAhead cX1_isAhead 6 (some .boolean) 3 := ⟨gw_T_at 554 (by decide +kernel) rfl, gw_T_at 2 (by decide +kernel) rfl, by decide +kernel, by decide +kernel, by decide +kernel, by decide⟩
theorem my_X6_year : gw_my yX6_year cX6_year 1 (some .int) 0 := ⟨gw_T_at 558 (by decide +kernel) rfl, gw_T_at 1 (by decide +kernel) rfl, by decide +kernel, by decide +kernel, by decide +kernel, by decide⟩
theorem my_X1_beginYear : gw_my yX1_beginYear cX1_beginYear 4 (some .int) 0 := ⟨gw_T_at 562 (by decide +kernel) rfl, gw_T_at 2 (by decide +kernel) rfl, by decide +kernel, by decide +kernel, by decide +kernel, by decide⟩
theorem my_L_areAlike : gw_my yL_areAlike cL_areAlike 4 (some .boolean) 2 := ⟨gw_T_at 565 (by decide +kernel) rfl, gw_T_at 0 (by decide +kernel) rfl, by decide +kernel, by decide +kernel, by decide +kernel, by decide⟩
theorem my_X6_weekOf : gw_my yX6_weekOf cX6_weekOf 3 (some .int) 2 := ⟨gw_T_at 569 (by decide +kernel) rfl, gw_T_at 1 (by decide +kernel) rfl, by decide +kernel, by decide +kernel, by decide +kernel, by decide⟩
theorem my_X1_greatestExtraFor : gw_my yX1_greatestExtraFor cX1_greatestExtraFor 4 (some .int) 1 := ⟨gw_T_at 574 (by decide +kernel) rfl, gw_T_at 2 (by decide +kernel) rfl, by decide +kernel, by decide +kernel, by decide +kernel, by decide⟩
theorem my_X6_offerOf : gw_my yX6_offerOf cX6_offerOf 3 (some .int) 2 := ⟨gw_T_at 579 (by decide +kernel) rfl, gw_T_at 1 (by decide +kernel) rfl, by decide +kernel, by decide +kernel, by decide +kernel, by decide⟩
theorem my_L_areSums : gw_my yL_areSums cL_areSums 12 (some .boolean) 1 := ⟨gw_T_at 584 (by decide +kernel) rfl, gw_T_at 0 (by decide +kernel) rfl, by decide +kernel, by decide +kernel, by decide +kernel, by decide⟩
theorem my_L_most : gw_my yL_most cL_most 3 (some .int) 1 := ⟨gw_T_at 587 (by decide +kernel) rfl, gw_T_at 0 (by decide +kernel) rfl, by decide +kernel, by decide +kernel, by decide +kernel, by decide⟩
theorem my_X6_bidOf : gw_my yX6_bidOf cX6_bidOf 3 (some .int) 2 := ⟨gw_T_at 591 (by decide +kernel) rfl, gw_T_at 1 (by decide +kernel) rfl, by decide +kernel, by decide +kernel, by decide +kernel, by decide⟩
theorem my_X6_why : gw_my yX6_why cX6_why 3 (some .int) 2 := ⟨gw_T_at 596 (by decide +kernel) rfl, gw_T_at 1 (by decide +kernel) rfl, by decide +kernel, by decide +kernel, by decide +kernel, by decide⟩
theorem my_L_isWinSo : gw_my yL_isWinSo cL_isWinSo 12 (some .boolean) 4 := ⟨gw_T_at 600 (by decide +kernel) rfl, gw_T_at 0 (by decide +kernel) rfl, by decide +kernel, by decide +kernel, by decide +kernel, by decide⟩
theorem my_X6_winner : gw_my yX6_winner cX6_winner 2 (some .int) 1 := ⟨gw_T_at 604 (by decide +kernel) rfl, gw_T_at 1 (by decide +kernel) rfl, by decide +kernel, by decide +kernel, by decide +kernel, by decide⟩
theorem my_X6_settleCopyBefore : gw_my yX6_settleCopyBefore cX6_settleCopyBefore 3 none 1 := ⟨gw_T_at 608 (by decide +kernel) rfl, gw_T_at 1 (by decide +kernel) rfl, by decide +kernel, by decide +kernel, by decide +kernel, by decide⟩
theorem my_X6_leastBid : gw_my yX6_leastBid cX6_leastBid 4 (some .int) 2 := ⟨gw_T_at 615 (by decide +kernel) rfl, gw_T_at 1 (by decide +kernel) rfl, by decide +kernel, by decide +kernel, by decide +kernel, by decide⟩
theorem my_X6_could : gw_my yX6_could cX6_could 2 (some .int) 1 := ⟨gw_T_at 619 (by decide +kernel) rfl, gw_T_at 1 (by decide +kernel) rfl, by decide +kernel, by decide +kernel, by decide +kernel, by decide⟩
theorem my_X2_countByMoving : gw_my yX2_countByMoving cX2_countByMoving 4 (some .int) 1 := ⟨gw_T_at 623 (by decide +kernel) rfl, gw_T_at 7 (by decide +kernel) rfl, by decide +kernel, by decide +kernel, by decide +kernel, by decide⟩
theorem my_X2_findWeek : gw_my yX2_findWeek cX2_findWeek 6 (some .boolean) 5 := ⟨gw_T_at 627 (by decide +kernel) rfl, gw_T_at 7 (by decide +kernel) rfl, by decide +kernel, by decide +kernel, by decide +kernel, by decide⟩
theorem my_X2_countBySets : gw_my yX2_countBySets cX2_countBySets 6 (some .int) 1 := ⟨gw_T_at 632 (by decide +kernel) rfl, gw_T_at 7 (by decide +kernel) rfl, by decide +kernel, by decide +kernel, by decide +kernel, by decide⟩
theorem my_X2_growSets : gw_my yX2_growSets cX2_growSets 8 (some .long) 3 := ⟨gw_T_at 635 (by decide +kernel) rfl, gw_T_at 7 (by decide +kernel) rfl, by decide +kernel, by decide +kernel, by decide +kernel, by decide⟩
theorem my_J6_bitCount_0f7a4 : gw_my yJ6_bitCount_0f7a4 cJ6_bitCount_0f7a4 1 (some .int) 1 := ⟨gw_T_at 638 (by decide +kernel) rfl, gw_T_at 15 (by decide +kernel) rfl, by decide +kernel, by decide +kernel, by decide +kernel, by decide⟩
theorem my_L_isUpkeepSo : gw_my yL_isUpkeepSo cL_isUpkeepSo 9 (some .boolean) 2 := ⟨gw_T_at 646 (by decide +kernel) rfl, gw_T_at 0 (by decide +kernel) rfl, by decide +kernel, by decide +kernel, by decide +kernel, by decide⟩
theorem my_X6_ifUpkeep : gw_my yX6_ifUpkeep cX6_ifUpkeep 3 (some .int) 2 := ⟨gw_T_at 650 (by decide +kernel) rfl, gw_T_at 1 (by decide +kernel) rfl, by decide +kernel, by decide +kernel, by decide +kernel, by decide⟩
theorem vi_X1_52 : gw_vi RX1 52 yX1_clear := ⟨gw_T_at 30 (by decide +kernel) rfl, gw_T_at 31 (by decide +kernel) rfl, gw_T_at 32 (by decide +kernel) rfl⟩
theorem si_X1_64 : gw_si RX1 64 yJ7_fill_53178 := ⟨gw_T_at 39 (by decide +kernel) rfl, gw_T_at 40 (by decide +kernel) rfl⟩
theorem vi_L_59 : gw_vi RL 59 yX6_about := ⟨gw_T_at 184 (by decide +kernel) rfl, gw_T_at 185 (by decide +kernel) rfl, gw_T_at 186 (by decide +kernel) rfl⟩
theorem vi_X6_93 : gw_vi RX6 93 yX1_weeksHeldBy := ⟨gw_T_at 188 (by decide +kernel) rfl, gw_T_at 189 (by decide +kernel) rfl, gw_T_at 190 (by decide +kernel) rfl⟩
theorem vi_X6_101 : gw_vi RX6 101 yX1_pointsOfAll := ⟨gw_T_at 192 (by decide +kernel) rfl, gw_T_at 193 (by decide +kernel) rfl, gw_T_at 194 (by decide +kernel) rfl⟩
theorem vi_X6_104 : gw_vi RX6 104 yX1_bidsOfAll := ⟨gw_T_at 196 (by decide +kernel) rfl, gw_T_at 197 (by decide +kernel) rfl, gw_T_at 198 (by decide +kernel) rfl⟩
theorem vi_X1_91 : gw_vi RX1 91 yX1_bidsBy := ⟨gw_T_at 200 (by decide +kernel) rfl, gw_T_at 201 (by decide +kernel) rfl, gw_T_at 202 (by decide +kernel) rfl⟩
theorem vi_X1_87 : gw_vi RX1 87 yX1_extraOf := ⟨gw_T_at 204 (by decide +kernel) rfl, gw_T_at 205 (by decide +kernel) rfl, gw_T_at 206 (by decide +kernel) rfl⟩
theorem si_L_112 : gw_si RL 112 yL_cell := ⟨gw_T_at 276 (by decide +kernel) rfl, gw_T_at 277 (by decide +kernel) rfl⟩
theorem si_L_54 : gw_si RL 54 yL_low := ⟨gw_T_at 279 (by decide +kernel) rfl, gw_T_at 280 (by decide +kernel) rfl⟩
theorem si_L_104 : gw_si RL 104 yL_undoes := ⟨gw_T_at 283 (by decide +kernel) rfl, gw_T_at 284 (by decide +kernel) rfl⟩
theorem vi_L_50 : gw_vi RL 50 yX6_undo := ⟨gw_T_at 287 (by decide +kernel) rfl, gw_T_at 288 (by decide +kernel) rfl, gw_T_at 289 (by decide +kernel) rfl⟩
theorem vi_X6_252 : gw_vi RX6 252 yX0_isEmpty := ⟨gw_T_at 291 (by decide +kernel) rfl, gw_T_at 292 (by decide +kernel) rfl, gw_T_at 293 (by decide +kernel) rfl⟩
theorem vi_X6_257 : gw_vi RX6 257 yX0_takeBack := ⟨gw_T_at 311 (by decide +kernel) rfl, gw_T_at 312 (by decide +kernel) rfl, gw_T_at 313 (by decide +kernel) rfl⟩
theorem vi_X0_25 : gw_vi RX0 25 yX1_copyFrom := ⟨gw_T_at 315 (by decide +kernel) rfl, gw_T_at 316 (by decide +kernel) rfl, gw_T_at 317 (by decide +kernel) rfl⟩
theorem si_L_116 : gw_si RL 116 yL_act := ⟨gw_T_at 319 (by decide +kernel) rfl, gw_T_at 320 (by decide +kernel) rfl⟩
theorem si_L_62 : gw_si RL 62 yL_changes := ⟨gw_T_at 322 (by decide +kernel) rfl, gw_T_at 323 (by decide +kernel) rfl⟩
theorem vi_L_8 : gw_vi RL 8 yX6_owner := ⟨gw_T_at 327 (by decide +kernel) rfl, gw_T_at 328 (by decide +kernel) rfl, gw_T_at 329 (by decide +kernel) rfl⟩
theorem vi_X6_48 : gw_vi RX6 48 yX6_needRange := ⟨gw_T_at 331 (by decide +kernel) rfl, gw_T_at 333 (by decide +kernel) rfl, gw_T_of (List.mem_append_left _ (List.mem_of_getElem? (i := 1) (by decide +kernel))) rfl⟩
theorem vi_X6_183 : gw_vi RX6 183 yX0_remember := ⟨gw_T_at 337 (by decide +kernel) rfl, gw_T_at 338 (by decide +kernel) rfl, gw_T_at 339 (by decide +kernel) rfl⟩
theorem vi_X6_187 : gw_vi RX6 187 yX1_addOwner := ⟨gw_T_at 341 (by decide +kernel) rfl, gw_T_at 342 (by decide +kernel) rfl, gw_T_at 343 (by decide +kernel) rfl⟩
theorem vi_X1_100 : gw_vi RX1 100 yX1_givePoints := ⟨gw_T_at 345 (by decide +kernel) rfl, gw_T_at 347 (by decide +kernel) rfl, gw_T_of (List.mem_append_left _ (List.mem_of_getElem? (i := 2) (by decide +kernel))) rfl⟩
theorem vi_L_14 : gw_vi RL 14 yX6_take := ⟨gw_T_at 349 (by decide +kernel) rfl, gw_T_at 350 (by decide +kernel) rfl, gw_T_at 351 (by decide +kernel) rfl⟩
theorem vi_X6_115 : gw_vi RX6 115 yX6_needOwner := ⟨gw_T_at 353 (by decide +kernel) rfl, gw_T_at 355 (by decide +kernel) rfl, gw_T_of (List.mem_append_left _ (List.mem_of_getElem? (i := 3) (by decide +kernel))) rfl⟩
theorem vi_X6_308 : gw_vi RX6 308 yX1_hasOwner := ⟨gw_T_at 357 (by decide +kernel) rfl, gw_T_at 358 (by decide +kernel) rfl, gw_T_at 359 (by decide +kernel) rfl⟩
theorem vi_X6_139 : gw_vi RX6 139 yX6_needWeek := ⟨gw_T_at 377 (by decide +kernel) rfl, gw_T_at 379 (by decide +kernel) rfl, gw_T_of (List.mem_append_left _ (List.mem_of_getElem? (i := 4) (by decide +kernel))) rfl⟩
theorem vi_X6_316 : gw_vi RX6 316 yX1_hasWeek := ⟨gw_T_at 381 (by decide +kernel) rfl, gw_T_at 382 (by decide +kernel) rfl, gw_T_at 383 (by decide +kernel) rfl⟩
theorem vi_X6_197 : gw_vi RX6 197 yX1_takeWeek := ⟨gw_T_at 386 (by decide +kernel) rfl, gw_T_at 387 (by decide +kernel) rfl, gw_T_at 388 (by decide +kernel) rfl⟩
theorem vi_X1_80 : gw_vi RX1 80 yX1_hasOwner := ⟨gw_T_at 390 (by decide +kernel) rfl, gw_T_at 358 (by decide +kernel) rfl, gw_T_at 359 (by decide +kernel) rfl⟩
theorem vi_X1_84 : gw_vi RX1 84 yX1_hasWeek := ⟨gw_T_at 391 (by decide +kernel) rfl, gw_T_at 382 (by decide +kernel) rfl, gw_T_at 383 (by decide +kernel) rfl⟩
theorem vi_X1_107 : gw_vi RX1 107 yX1_reasonAgainst := ⟨gw_T_at 392 (by decide +kernel) rfl, gw_T_at 393 (by decide +kernel) rfl, gw_T_at 394 (by decide +kernel) rfl⟩
theorem vi_X1_104 : gw_vi RX1 104 yX1_weeksHeldBy := ⟨gw_T_at 396 (by decide +kernel) rfl, gw_T_at 189 (by decide +kernel) rfl, gw_T_at 190 (by decide +kernel) rfl⟩
theorem vi_X1_110 : gw_vi RX1 110 yX1_spendPoints := ⟨gw_T_at 397 (by decide +kernel) rfl, gw_T_at 399 (by decide +kernel) rfl, gw_T_of (List.mem_append_left _ (List.mem_of_getElem? (i := 5) (by decide +kernel))) rfl⟩
theorem vi_L_18 : gw_vi RL 18 yX6_release := ⟨gw_T_at 401 (by decide +kernel) rfl, gw_T_at 402 (by decide +kernel) rfl, gw_T_at 403 (by decide +kernel) rfl⟩
theorem vi_X6_200 : gw_vi RX6 200 yX1_holds := ⟨gw_T_at 405 (by decide +kernel) rfl, gw_T_at 406 (by decide +kernel) rfl, gw_T_at 407 (by decide +kernel) rfl⟩
theorem vi_X6_206 : gw_vi RX6 206 yX1_giveBack := ⟨gw_T_at 410 (by decide +kernel) rfl, gw_T_at 411 (by decide +kernel) rfl, gw_T_at 412 (by decide +kernel) rfl⟩
theorem vi_X1_114 : gw_vi RX1 114 yX1_holds := ⟨gw_T_at 414 (by decide +kernel) rfl, gw_T_at 406 (by decide +kernel) rfl, gw_T_at 407 (by decide +kernel) rfl⟩
theorem vi_L_21 : gw_vi RL 21 yX6_accept := ⟨gw_T_at 415 (by decide +kernel) rfl, gw_T_at 416 (by decide +kernel) rfl, gw_T_at 417 (by decide +kernel) rfl⟩
theorem vi_X6_163 : gw_vi RX6 163 yX6_needOffer := ⟨gw_T_at 419 (by decide +kernel) rfl, gw_T_at 421 (by decide +kernel) rfl, gw_T_of (List.mem_append_left _ (List.mem_of_getElem? (i := 6) (by decide +kernel))) rfl⟩
theorem vi_X6_321 : gw_vi RX6 321 yX1_hasOffer := ⟨gw_T_at 423 (by decide +kernel) rfl, gw_T_at 424 (by decide +kernel) rfl, gw_T_at 425 (by decide +kernel) rfl⟩
theorem vi_X6_230 : gw_vi RX6 230 yX1_acceptOffer := ⟨gw_T_at 428 (by decide +kernel) rfl, gw_T_at 429 (by decide +kernel) rfl, gw_T_at 430 (by decide +kernel) rfl⟩
theorem vi_X1_143 : gw_vi RX1 143 yX1_hasOffer := ⟨gw_T_at 432 (by decide +kernel) rfl, gw_T_at 424 (by decide +kernel) rfl, gw_T_at 425 (by decide +kernel) rfl⟩
theorem vi_X1_146 : gw_vi RX1 146 yX1_dropOffer := ⟨gw_T_at 433 (by decide +kernel) rfl, gw_T_at 435 (by decide +kernel) rfl, gw_T_of (List.mem_append_left _ (List.mem_of_getElem? (i := 7) (by decide +kernel))) rfl⟩
theorem vi_X1_137 : gw_vi RX1 137 yX1_canSwap := ⟨gw_T_at 437 (by decide +kernel) rfl, gw_T_at 438 (by decide +kernel) rfl, gw_T_at 439 (by decide +kernel) rfl⟩
theorem vi_L_24 : gw_vi RL 24 yX6_upkeep := ⟨gw_T_at 441 (by decide +kernel) rfl, gw_T_at 442 (by decide +kernel) rfl, gw_T_at 443 (by decide +kernel) rfl⟩
theorem vi_X6_235 : gw_vi RX6 235 yX1_payUpkeep := ⟨gw_T_at 446 (by decide +kernel) rfl, gw_T_at 447 (by decide +kernel) rfl, gw_T_at 448 (by decide +kernel) rfl⟩
theorem vi_X1_149 : gw_vi RX1 149 yX1_partOf := ⟨gw_T_at 450 (by decide +kernel) rfl, gw_T_at 451 (by decide +kernel) rfl, gw_T_at 452 (by decide +kernel) rfl⟩
theorem vi_X1_152 : gw_vi RX1 152 yX1_sharesOfAll := ⟨gw_T_at 454 (by decide +kernel) rfl, gw_T_at 456 (by decide +kernel) rfl, gw_T_of (List.mem_append_left _ (List.mem_of_getElem? (i := 8) (by decide +kernel))) rfl⟩
theorem si_X1_95 : gw_si RX1 95 yJ9_max_7cf53 := ⟨gw_T_at 458 (by decide +kernel) rfl, gw_T_at 459 (by decide +kernel) rfl⟩
theorem vi_L_27 : gw_vi RL 27 yX6_set := ⟨gw_T_at 461 (by decide +kernel) rfl, gw_T_at 462 (by decide +kernel) rfl, gw_T_at 463 (by decide +kernel) rfl⟩
theorem vi_L_30 : gw_vi RL 30 yX6_cost := ⟨gw_T_at 470 (by decide +kernel) rfl, gw_T_at 471 (by decide +kernel) rfl, gw_T_at 472 (by decide +kernel) rfl⟩
theorem vi_X6_190 : gw_vi RX6 190 yX1_changeCost := ⟨gw_T_at 474 (by decide +kernel) rfl, gw_T_at 475 (by decide +kernel) rfl, gw_T_at 476 (by decide +kernel) rfl⟩
theorem vi_L_33 : gw_vi RL 33 yX6_school := ⟨gw_T_at 478 (by decide +kernel) rfl, gw_T_at 479 (by decide +kernel) rfl, gw_T_at 480 (by decide +kernel) rfl⟩
theorem vi_X6_193 : gw_vi RX6 193 yX1_markSchool := ⟨gw_T_at 482 (by decide +kernel) rfl, gw_T_at 483 (by decide +kernel) rfl, gw_T_at 484 (by decide +kernel) rfl⟩
theorem vi_L_66 : gw_vi RL 66 yX6_ownerOf := ⟨gw_T_at 486 (by decide +kernel) rfl, gw_T_at 487 (by decide +kernel) rfl, gw_T_at 488 (by decide +kernel) rfl⟩
theorem vi_X6_131 : gw_vi RX6 131 yX1_lowestWeekHeldBy := ⟨gw_T_at 490 (by decide +kernel) rfl, gw_T_at 491 (by decide +kernel) rfl, gw_T_at 492 (by decide +kernel) rfl⟩
theorem vi_X6_134 : gw_vi RX6 134 yX1_bidsBy := ⟨gw_T_at 494 (by decide +kernel) rfl, gw_T_at 201 (by decide +kernel) rfl, gw_T_at 202 (by decide +kernel) rfl⟩
theorem si_L_69 : gw_si RL 69 yL_asks := ⟨gw_T_at 496 (by decide +kernel) rfl, gw_T_at 497 (by decide +kernel) rfl⟩
theorem vi_L_43 : gw_vi RL 43 yX6_bid := ⟨gw_T_at 499 (by decide +kernel) rfl, gw_T_at 500 (by decide +kernel) rfl, gw_T_at 501 (by decide +kernel) rfl⟩
theorem vi_X6_209 : gw_vi RX6 209 yX1_isOpenForBids := ⟨gw_T_at 503 (by decide +kernel) rfl, gw_T_at 504 (by decide +kernel) rfl, gw_T_at 505 (by decide +kernel) rfl⟩
theorem vi_X6_215 : gw_vi RX6 215 yX1_placeBid := ⟨gw_T_at 508 (by decide +kernel) rfl, gw_T_at 509 (by decide +kernel) rfl, gw_T_at 510 (by decide +kernel) rfl⟩
theorem vi_X1_118 : gw_vi RX1 118 yX1_isOpenForBids := ⟨gw_T_at 512 (by decide +kernel) rfl, gw_T_at 504 (by decide +kernel) rfl, gw_T_at 505 (by decide +kernel) rfl⟩
theorem vi_X1_121 : gw_vi RX1 121 yX1_bidsFor := ⟨gw_T_at 513 (by decide +kernel) rfl, gw_T_at 514 (by decide +kernel) rfl, gw_T_at 515 (by decide +kernel) rfl⟩
theorem vi_L_47 : gw_vi RL 47 yX6_offer := ⟨gw_T_at 517 (by decide +kernel) rfl, gw_T_at 518 (by decide +kernel) rfl, gw_T_at 519 (by decide +kernel) rfl⟩
theorem vi_X6_222 : gw_vi RX6 222 yX1_canOffer := ⟨gw_T_at 521 (by decide +kernel) rfl, gw_T_at 522 (by decide +kernel) rfl, gw_T_at 523 (by decide +kernel) rfl⟩
theorem vi_X6_227 : gw_vi RX6 227 yX1_placeOffer := ⟨gw_T_at 526 (by decide +kernel) rfl, gw_T_at 527 (by decide +kernel) rfl, gw_T_at 528 (by decide +kernel) rfl⟩
theorem vi_X1_140 : gw_vi RX1 140 yX1_canOffer := ⟨gw_T_at 530 (by decide +kernel) rfl, gw_T_at 522 (by decide +kernel) rfl, gw_T_at 523 (by decide +kernel) rfl⟩
theorem vi_L_73 : gw_vi RL 73 yX6_settle := ⟨gw_T_at 531 (by decide +kernel) rfl, gw_T_at 532 (by decide +kernel) rfl, gw_T_at 533 (by decide +kernel) rfl⟩
theorem vi_X6_219 : gw_vi RX6 219 yX1_settleBids := ⟨gw_T_at 535 (by decide +kernel) rfl, gw_T_at 536 (by decide +kernel) rfl, gw_T_at 537 (by decide +kernel) rfl⟩
theorem vi_X1_124 : gw_vi RX1 124 yX1_settleWeek := ⟨gw_T_at 539 (by decide +kernel) rfl, gw_T_at 540 (by decide +kernel) rfl, gw_T_at 541 (by decide +kernel) rfl⟩
theorem vi_X1_127 : gw_vi RX1 127 yX1_bestBidder := ⟨gw_T_at 543 (by decide +kernel) rfl, gw_T_at 544 (by decide +kernel) rfl, gw_T_at 545 (by decide +kernel) rfl⟩
theorem vi_X1_130 : gw_vi RX1 130 yX1_canWin := ⟨gw_T_at 547 (by decide +kernel) rfl, gw_T_at 549 (by decide +kernel) rfl, gw_T_of (List.mem_append_left _ (List.mem_of_getElem? (i := 9) (by decide +kernel))) rfl⟩
theorem vi_X1_133 : gw_vi RX1 133 yX1_isAhead := ⟨gw_T_at 551 (by decide +kernel) rfl, gw_T_at 553 (by decide +kernel) rfl, gw_T_of (List.mem_append_left _ (List.mem_of_getElem? (i := 10) (by decide +kernel))) rfl⟩
theorem vi_L_76 : gw_vi RL 76 yX6_year := ⟨gw_T_at 555 (by decide +kernel) rfl, gw_T_at 556 (by decide +kernel) rfl, gw_T_at 557 (by decide +kernel) rfl⟩
theorem vi_X6_238 : gw_vi RX6 238 yX1_beginYear := ⟨gw_T_at 559 (by decide +kernel) rfl, gw_T_at 560 (by decide +kernel) rfl, gw_T_at 561 (by decide +kernel) rfl⟩
theorem si_L_120 : gw_si RL 120 yL_areAlike := ⟨gw_T_at 563 (by decide +kernel) rfl, gw_T_at 564 (by decide +kernel) rfl⟩
theorem vi_L_79 : gw_vi RL 79 yX6_weekOf := ⟨gw_T_at 566 (by decide +kernel) rfl, gw_T_at 567 (by decide +kernel) rfl, gw_T_at 568 (by decide +kernel) rfl⟩
theorem vi_X6_151 : gw_vi RX6 151 yX1_bidsFor := ⟨gw_T_at 570 (by decide +kernel) rfl, gw_T_at 514 (by decide +kernel) rfl, gw_T_at 515 (by decide +kernel) rfl⟩
theorem vi_X6_154 : gw_vi RX6 154 yX1_greatestExtraFor := ⟨gw_T_at 571 (by decide +kernel) rfl, gw_T_at 572 (by decide +kernel) rfl, gw_T_at 573 (by decide +kernel) rfl⟩
theorem vi_L_82 : gw_vi RL 82 yX6_offerOf := ⟨gw_T_at 576 (by decide +kernel) rfl, gw_T_at 577 (by decide +kernel) rfl, gw_T_at 578 (by decide +kernel) rfl⟩
theorem vi_X6_175 : gw_vi RX6 175 yX1_canSwap := ⟨gw_T_at 580 (by decide +kernel) rfl, gw_T_at 438 (by decide +kernel) rfl, gw_T_at 439 (by decide +kernel) rfl⟩
theorem si_L_124 : gw_si RL 124 yL_areSums := ⟨gw_T_at 582 (by decide +kernel) rfl, gw_T_at 583 (by decide +kernel) rfl⟩
theorem si_L_85 : gw_si RL 85 yL_most := ⟨gw_T_at 585 (by decide +kernel) rfl, gw_T_at 586 (by decide +kernel) rfl⟩
theorem vi_L_89 : gw_vi RL 89 yX6_bidOf := ⟨gw_T_at 588 (by decide +kernel) rfl, gw_T_at 589 (by decide +kernel) rfl, gw_T_at 590 (by decide +kernel) rfl⟩
theorem vi_X6_159 : gw_vi RX6 159 yX1_extraOf := ⟨gw_T_at 592 (by decide +kernel) rfl, gw_T_at 205 (by decide +kernel) rfl, gw_T_at 206 (by decide +kernel) rfl⟩
theorem vi_L_92 : gw_vi RL 92 yX6_why := ⟨gw_T_at 593 (by decide +kernel) rfl, gw_T_at 594 (by decide +kernel) rfl, gw_T_at 595 (by decide +kernel) rfl⟩
theorem vi_X6_260 : gw_vi RX6 260 yX1_reasonAgainst := ⟨gw_T_at 597 (by decide +kernel) rfl, gw_T_at 393 (by decide +kernel) rfl, gw_T_at 394 (by decide +kernel) rfl⟩
theorem si_L_128 : gw_si RL 128 yL_isWinSo := ⟨gw_T_at 598 (by decide +kernel) rfl, gw_T_at 599 (by decide +kernel) rfl⟩
theorem vi_L_95 : gw_vi RL 95 yX6_winner := ⟨gw_T_at 601 (by decide +kernel) rfl, gw_T_at 602 (by decide +kernel) rfl, gw_T_at 603 (by decide +kernel) rfl⟩
theorem vi_X6_271 : gw_vi RX6 271 yX6_settleCopyBefore := ⟨gw_T_at 605 (by decide +kernel) rfl, gw_T_at 607 (by decide +kernel) rfl, gw_T_of (List.mem_append_left _ (List.mem_of_getElem? (i := 11) (by decide +kernel))) rfl⟩
theorem vi_X6_284 : gw_vi RX6 284 yX1_copyFrom := ⟨gw_T_at 609 (by decide +kernel) rfl, gw_T_at 316 (by decide +kernel) rfl, gw_T_at 317 (by decide +kernel) rfl⟩
theorem vi_X6_330 : gw_vi RX6 330 yX1_settleWeek := ⟨gw_T_at 610 (by decide +kernel) rfl, gw_T_at 540 (by decide +kernel) rfl, gw_T_at 541 (by decide +kernel) rfl⟩
theorem vi_X6_274 : gw_vi RX6 274 yX1_bestBidder := ⟨gw_T_at 611 (by decide +kernel) rfl, gw_T_at 544 (by decide +kernel) rfl, gw_T_at 545 (by decide +kernel) rfl⟩
theorem vi_L_98 : gw_vi RL 98 yX6_leastBid := ⟨gw_T_at 612 (by decide +kernel) rfl, gw_T_at 613 (by decide +kernel) rfl, gw_T_at 614 (by decide +kernel) rfl⟩
theorem vi_L_101 : gw_vi RL 101 yX6_could := ⟨gw_T_at 616 (by decide +kernel) rfl, gw_T_at 617 (by decide +kernel) rfl, gw_T_at 618 (by decide +kernel) rfl⟩
theorem vi_X6_263 : gw_vi RX6 263 yX2_countByMoving := ⟨gw_T_at 620 (by decide +kernel) rfl, gw_T_at 621 (by decide +kernel) rfl, gw_T_at 622 (by decide +kernel) rfl⟩
theorem si_X2_18 : gw_si RX2 18 yJ7_fill_53178 := ⟨gw_T_at 624 (by decide +kernel) rfl, gw_T_at 40 (by decide +kernel) rfl⟩
theorem si_X2_24 : gw_si RX2 24 yX2_findWeek := ⟨gw_T_at 625 (by decide +kernel) rfl, gw_T_at 626 (by decide +kernel) rfl⟩
theorem vi_X2_28 : gw_vi RX2 28 yX1_reasonAgainst := ⟨gw_T_at 628 (by decide +kernel) rfl, gw_T_at 393 (by decide +kernel) rfl, gw_T_at 394 (by decide +kernel) rfl⟩
theorem vi_X6_266 : gw_vi RX6 266 yX2_countBySets := ⟨gw_T_at 629 (by decide +kernel) rfl, gw_T_at 630 (by decide +kernel) rfl, gw_T_at 631 (by decide +kernel) rfl⟩
theorem si_X2_34 : gw_si RX2 34 yX2_growSets := ⟨gw_T_at 633 (by decide +kernel) rfl, gw_T_at 634 (by decide +kernel) rfl⟩
theorem si_X2_38 : gw_si RX2 38 yJ6_bitCount_0f7a4 := ⟨gw_T_at 636 (by decide +kernel) rfl, gw_T_at 637 (by decide +kernel) rfl⟩
theorem si_X2_44 : gw_si RX2 44 yJ9_max_7cf53 := ⟨gw_T_at 642 (by decide +kernel) rfl, gw_T_at 459 (by decide +kernel) rfl⟩
theorem si_L_132 : gw_si RL 132 yL_isUpkeepSo := ⟨gw_T_at 644 (by decide +kernel) rfl, gw_T_at 645 (by decide +kernel) rfl⟩
theorem vi_L_108 : gw_vi RL 108 yX6_ifUpkeep := ⟨gw_T_at 647 (by decide +kernel) rfl, gw_T_at 648 (by decide +kernel) rfl, gw_T_at 649 (by decide +kernel) rfl⟩
theorem vi_X6_277 : gw_vi RX6 277 yX1_partOf := ⟨gw_T_at 651 (by decide +kernel) rfl, gw_T_at 451 (by decide +kernel) rfl, gw_T_at 452 (by decide +kernel) rfl⟩
theorem kc_L_7 : Jvm.Cond.constant RL 7 2147483647 ∈ gw_T := gw_T_at 282 (by decide +kernel) rfl
