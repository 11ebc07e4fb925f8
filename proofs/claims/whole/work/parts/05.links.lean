theorem inT_X0 : ∀ w ∈ u_ws RX0 TX0 3, w ∈ gw_T := by
  have h : u_ws RX0 TX0 3 = [128, 130, 132].filterMap (fun i => tables_1[i]?) := by decide +kernel
  have hg : (u_ws RX0 TX0 3).all goodWord = true := by decide +kernel
  intro w hw
  have h2 := List.all_eq_true.mp hg w hw
  rw [h] at hw
  obtain ⟨i, -, hi⟩ := List.mem_filterMap.mp hw
  exact gw_T_at i hi h2
theorem fp_0_1 : gw_fp 0 1 .int := ⟨RX0, TX0, 3, tyX0, rfl, tyX0_ok, nmX0, rfl, rfl⟩
theorem fp_0_2 : gw_fp 0 2 .int := ⟨RX0, TX0, 3, tyX0, rfl, tyX0_ok, nmX0, rfl, rfl⟩
theorem inT_X1 : ∀ w ∈ u_ws RX1 TX1 16, w ∈ gw_T := by
  have h : u_ws RX1 TX1 16 = [81, 83, 85, 87, 89, 91, 93, 95, 97, 99, 101, 103, 105, 107, 109, 111].filterMap (fun i => tables_1[i]?) := by decide +kernel
  have hg : (u_ws RX1 TX1 16).all goodWord = true := by decide +kernel
  intro w hw
  have h2 := List.all_eq_true.mp hg w hw
  rw [h] at hw
  obtain ⟨i, -, hi⟩ := List.mem_filterMap.mp hw
  exact gw_T_at i hi h2
theorem fp_1_2 : gw_fp 1 2 .int := ⟨RX1, TX1, 16, tyX1, rfl, tyX1_ok, nmX1, rfl, rfl⟩
theorem fp_1_3 : gw_fp 1 3 .int := ⟨RX1, TX1, 16, tyX1, rfl, tyX1_ok, nmX1, rfl, rfl⟩
theorem fp_1_12 : gw_fp 1 12 .int := ⟨RX1, TX1, 16, tyX1, rfl, tyX1_ok, nmX1, rfl, rfl⟩
theorem inT_X2 : ∀ w ∈ u_ws RX2 TX2 2, w ∈ gw_T := by
  have h : u_ws RX2 TX2 2 = [169, 171].filterMap (fun i => tables_1[i]?) := by decide +kernel
  have hg : (u_ws RX2 TX2 2).all goodWord = true := by decide +kernel
  intro w hw
  have h2 := List.all_eq_true.mp hg w hw
  rw [h] at hw
  obtain ⟨i, -, hi⟩ := List.mem_filterMap.mp hw
  exact gw_T_at i hi h2
theorem inT_X5 : ∀ w ∈ u_ws RX5 TX5 6, w ∈ gw_T := by
  have h : u_ws RX5 TX5 6 = [147, 149, 151, 153, 155, 157].filterMap (fun i => tables_1[i]?) := by decide +kernel
  have hg : (u_ws RX5 TX5 6).all goodWord = true := by decide +kernel
  intro w hw
  have h2 := List.all_eq_true.mp hg w hw
  rw [h] at hw
  obtain ⟨i, -, hi⟩ := List.mem_filterMap.mp hw
  exact gw_T_at i hi h2
theorem fp_3_1 : gw_fp 3 1 .int := ⟨RX5, TX5, 6, tyX5, rfl, tyX5_ok, nmX5, rfl, rfl⟩
theorem fp_3_2 : gw_fp 3 2 .int := ⟨RX5, TX5, 6, tyX5, rfl, tyX5_ok, nmX5, rfl, rfl⟩
theorem fp_3_3 : gw_fp 3 3 .boolean := ⟨RX5, TX5, 6, tyX5, rfl, tyX5_ok, nmX5, rfl, rfl⟩
theorem fp_3_5 : gw_fp 3 5 .int := ⟨RX5, TX5, 6, tyX5, rfl, tyX5_ok, nmX5, rfl, rfl⟩
theorem inT_X6 : ∀ w ∈ u_ws RX6 TX6 7, w ∈ gw_T := by
  have h : u_ws RX6 TX6 7 = [181, 183, 185, 187, 189, 191, 193].filterMap (fun i => tables_1[i]?) := by decide +kernel
  have hg : (u_ws RX6 TX6 7).all goodWord = true := by decide +kernel
  intro w hw
  have h2 := List.all_eq_true.mp hg w hw
  rw [h] at hw
  obtain ⟨i, -, hi⟩ := List.mem_filterMap.mp hw
  exact gw_T_at i hi h2
theorem inT_X7 : ∀ w ∈ u_ws RX7 TX7 16, w ∈ gw_T := by
  have h : u_ws RX7 TX7 16 = [981, 983, 985, 987, 989, 991, 993, 995, 997, 999, 1001, 1003, 1005, 1007, 1009, 1011].filterMap (fun i => tables_1[i]?) := by decide +kernel
  have hg : (u_ws RX7 TX7 16).all goodWord = true := by decide +kernel
  intro w hw
  have h2 := List.all_eq_true.mp hg w hw
  rw [h] at hw
  obtain ⟨i, -, hi⟩ := List.mem_filterMap.mp hw
  exact gw_T_at i hi h2
theorem fp_5_0 : gw_fp 5 0 .int := ⟨RX7, TX7, 16, tyX7, rfl, tyX7_ok, nmX7, rfl, rfl⟩
theorem fp_5_4 : gw_fp 5 4 .int := ⟨RX7, TX7, 16, tyX7, rfl, tyX7_ok, nmX7, rfl, rfl⟩
theorem fp_5_6 : gw_fp 5 6 .int := ⟨RX7, TX7, 16, tyX7, rfl, tyX7_ok, nmX7, rfl, rfl⟩
theorem fp_5_8 : gw_fp 5 8 .int := ⟨RX7, TX7, 16, tyX7, rfl, tyX7_ok, nmX7, rfl, rfl⟩
theorem fp_5_9 : gw_fp 5 9 .int := ⟨RX7, TX7, 16, tyX7, rfl, tyX7_ok, nmX7, rfl, rfl⟩
theorem fp_5_10 : gw_fp 5 10 .int := ⟨RX7, TX7, 16, tyX7, rfl, tyX7_ok, nmX7, rfl, rfl⟩
theorem fp_5_11 : gw_fp 5 11 .int := ⟨RX7, TX7, 16, tyX7, rfl, tyX7_ok, nmX7, rfl, rfl⟩
theorem fp_5_12 : gw_fp 5 12 .int := ⟨RX7, TX7, 16, tyX7, rfl, tyX7_ok, nmX7, rfl, rfl⟩
theorem fp_5_13 : gw_fp 5 13 .int := ⟨RX7, TX7, 16, tyX7, rfl, tyX7_ok, nmX7, rfl, rfl⟩
theorem fp_5_14 : gw_fp 5 14 .boolean := ⟨RX7, TX7, 16, tyX7, rfl, tyX7_ok, nmX7, rfl, rfl⟩
theorem fl_X1_9 : gw_fl RX1 9 1 0 := ⟨RX1, TX1, 16, rfl, by decide, inT_X1, Or.inl (gw_T_at 50 (by decide +kernel) rfl)⟩
theorem fl_X1_15 : gw_fl RX1 15 1 1 := ⟨RX1, TX1, 16, rfl, by decide, inT_X1, Or.inl (gw_T_at 52 (by decide +kernel) rfl)⟩
theorem fl_X1_70 : gw_fl RX1 70 1 2 := ⟨RX1, TX1, 16, rfl, by decide, inT_X1, Or.inl (gw_T_at 54 (by decide +kernel) rfl)⟩
theorem fl_X1_74 : gw_fl RX1 74 1 3 := ⟨RX1, TX1, 16, rfl, by decide, inT_X1, Or.inl (gw_T_at 56 (by decide +kernel) rfl)⟩
theorem fl_X1_18 : gw_fl RX1 18 1 4 := ⟨RX1, TX1, 16, rfl, by decide, inT_X1, Or.inl (gw_T_at 58 (by decide +kernel) rfl)⟩
theorem fl_X1_21 : gw_fl RX1 21 1 5 := ⟨RX1, TX1, 16, rfl, by decide, inT_X1, Or.inl (gw_T_at 60 (by decide +kernel) rfl)⟩
theorem fl_X1_24 : gw_fl RX1 24 1 6 := ⟨RX1, TX1, 16, rfl, by decide, inT_X1, Or.inl (gw_T_at 62 (by decide +kernel) rfl)⟩
theorem fl_X1_27 : gw_fl RX1 27 1 7 := ⟨RX1, TX1, 16, rfl, by decide, inT_X1, Or.inl (gw_T_at 64 (by decide +kernel) rfl)⟩
theorem fl_X1_30 : gw_fl RX1 30 1 8 := ⟨RX1, TX1, 16, rfl, by decide, inT_X1, Or.inl (gw_T_at 66 (by decide +kernel) rfl)⟩
theorem fl_X1_33 : gw_fl RX1 33 1 9 := ⟨RX1, TX1, 16, rfl, by decide, inT_X1, Or.inl (gw_T_at 68 (by decide +kernel) rfl)⟩
theorem fl_X1_37 : gw_fl RX1 37 1 10 := ⟨RX1, TX1, 16, rfl, by decide, inT_X1, Or.inl (gw_T_at 70 (by decide +kernel) rfl)⟩
theorem fl_X1_40 : gw_fl RX1 40 1 11 := ⟨RX1, TX1, 16, rfl, by decide, inT_X1, Or.inl (gw_T_at 72 (by decide +kernel) rfl)⟩
theorem fl_X1_77 : gw_fl RX1 77 1 12 := ⟨RX1, TX1, 16, rfl, by decide, inT_X1, Or.inl (gw_T_at 73 (by decide +kernel) rfl)⟩
theorem fl_X1_43 : gw_fl RX1 43 1 13 := ⟨RX1, TX1, 16, rfl, by decide, inT_X1, Or.inl (gw_T_at 75 (by decide +kernel) rfl)⟩
theorem fl_X1_46 : gw_fl RX1 46 1 14 := ⟨RX1, TX1, 16, rfl, by decide, inT_X1, Or.inl (gw_T_at 77 (by decide +kernel) rfl)⟩
theorem fl_X1_49 : gw_fl RX1 49 1 15 := ⟨RX1, TX1, 16, rfl, by decide, inT_X1, Or.inl (gw_T_at 79 (by decide +kernel) rfl)⟩
theorem fl_X0_11 : gw_fl RX0 11 0 0 := ⟨RX0, TX0, 3, rfl, by decide, inT_X0, Or.inl (gw_T_at 125 (by decide +kernel) rfl)⟩
theorem fl_X0_22 : gw_fl RX0 22 0 1 := ⟨RX0, TX0, 3, rfl, by decide, inT_X0, Or.inl (gw_T_at 126 (by decide +kernel) rfl)⟩
theorem fl_X0_18 : gw_fl RX0 18 0 2 := ⟨RX0, TX0, 3, rfl, by decide, inT_X0, Or.inl (gw_T_at 127 (by decide +kernel) rfl)⟩
theorem fl_X5_9 : gw_fl RX5 9 3 0 := ⟨RX5, TX5, 6, rfl, by decide, inT_X5, Or.inl (gw_T_at 141 (by decide +kernel) rfl)⟩
theorem fl_X5_19 : gw_fl RX5 19 3 1 := ⟨RX5, TX5, 6, rfl, by decide, inT_X5, Or.inl (gw_T_at 142 (by decide +kernel) rfl)⟩
theorem fl_X5_41 : gw_fl RX5 41 3 2 := ⟨RX5, TX5, 6, rfl, by decide, inT_X5, Or.inl (gw_T_at 143 (by decide +kernel) rfl)⟩
theorem fl_X5_37 : gw_fl RX5 37 3 3 := ⟨RX5, TX5, 6, rfl, by decide, inT_X5, Or.inl (gw_T_at 144 (by decide +kernel) rfl)⟩
theorem fl_X5_15 : gw_fl RX5 15 3 4 := ⟨RX5, TX5, 6, rfl, by decide, inT_X5, Or.inl (gw_T_at 145 (by decide +kernel) rfl)⟩
theorem fl_X5_51 : gw_fl RX5 51 3 5 := ⟨RX5, TX5, 6, rfl, by decide, inT_X5, Or.inl (gw_T_at 146 (by decide +kernel) rfl)⟩
theorem fl_X2_9 : gw_fl RX2 9 2 0 := ⟨RX2, TX2, 2, rfl, by decide, inT_X2, Or.inl (gw_T_at 167 (by decide +kernel) rfl)⟩
theorem fl_X2_15 : gw_fl RX2 15 2 1 := ⟨RX2, TX2, 2, rfl, by decide, inT_X2, Or.inl (gw_T_at 168 (by decide +kernel) rfl)⟩
theorem fl_X6_10 : gw_fl RX6 10 4 0 := ⟨RX6, TX6, 7, rfl, by decide, inT_X6, Or.inl (gw_T_at 174 (by decide +kernel) rfl)⟩
theorem fl_X6_16 : gw_fl RX6 16 4 1 := ⟨RX6, TX6, 7, rfl, by decide, inT_X6, Or.inl (gw_T_at 175 (by decide +kernel) rfl)⟩
theorem fl_X6_22 : gw_fl RX6 22 4 2 := ⟨RX6, TX6, 7, rfl, by decide, inT_X6, Or.inl (gw_T_at 176 (by decide +kernel) rfl)⟩
theorem fl_X6_26 : gw_fl RX6 26 4 3 := ⟨RX6, TX6, 7, rfl, by decide, inT_X6, Or.inl (gw_T_at 177 (by decide +kernel) rfl)⟩
theorem fl_X6_30 : gw_fl RX6 30 4 4 := ⟨RX6, TX6, 7, rfl, by decide, inT_X6, Or.inl (gw_T_at 178 (by decide +kernel) rfl)⟩
theorem fl_X6_37 : gw_fl RX6 37 4 5 := ⟨RX6, TX6, 7, rfl, by decide, inT_X6, Or.inl (gw_T_at 179 (by decide +kernel) rfl)⟩
theorem fl_X6_44 : gw_fl RX6 44 4 6 := ⟨RX6, TX6, 7, rfl, by decide, inT_X6, Or.inl (gw_T_at 180 (by decide +kernel) rfl)⟩
theorem fl_X7_32 : gw_fl RX7 32 5 0 := ⟨RX7, TX7, 16, rfl, by decide, inT_X7, Or.inl (gw_T_at 965 (by decide +kernel) rfl)⟩
theorem fl_X7_7 : gw_fl RX7 7 5 1 := ⟨RX7, TX7, 16, rfl, by decide, inT_X7, Or.inl (gw_T_at 966 (by decide +kernel) rfl)⟩
theorem fl_X7_13 : gw_fl RX7 13 5 2 := ⟨RX7, TX7, 16, rfl, by decide, inT_X7, Or.inl (gw_T_at 967 (by decide +kernel) rfl)⟩
theorem fl_X7_16 : gw_fl RX7 16 5 3 := ⟨RX7, TX7, 16, rfl, by decide, inT_X7, Or.inl (gw_T_at 968 (by decide +kernel) rfl)⟩
theorem fl_X7_51 : gw_fl RX7 51 5 4 := ⟨RX7, TX7, 16, rfl, by decide, inT_X7, Or.inl (gw_T_at 969 (by decide +kernel) rfl)⟩
theorem fl_X7_19 : gw_fl RX7 19 5 5 := ⟨RX7, TX7, 16, rfl, by decide, inT_X7, Or.inl (gw_T_at 970 (by decide +kernel) rfl)⟩
theorem fl_X7_209 : gw_fl RX7 209 5 6 := ⟨RX7, TX7, 16, rfl, by decide, inT_X7, Or.inl (gw_T_at 971 (by decide +kernel) rfl)⟩
theorem fl_X7_22 : gw_fl RX7 22 5 7 := ⟨RX7, TX7, 16, rfl, by decide, inT_X7, Or.inl (gw_T_at 972 (by decide +kernel) rfl)⟩
theorem fl_X7_171 : gw_fl RX7 171 5 8 := ⟨RX7, TX7, 16, rfl, by decide, inT_X7, Or.inl (gw_T_at 973 (by decide +kernel) rfl)⟩
theorem fl_X7_110 : gw_fl RX7 110 5 9 := ⟨RX7, TX7, 16, rfl, by decide, inT_X7, Or.inl (gw_T_at 974 (by decide +kernel) rfl)⟩
theorem fl_X7_113 : gw_fl RX7 113 5 10 := ⟨RX7, TX7, 16, rfl, by decide, inT_X7, Or.inl (gw_T_at 975 (by decide +kernel) rfl)⟩
theorem fl_X7_122 : gw_fl RX7 122 5 11 := ⟨RX7, TX7, 16, rfl, by decide, inT_X7, Or.inl (gw_T_at 976 (by decide +kernel) rfl)⟩
theorem fl_X7_131 : gw_fl RX7 131 5 12 := ⟨RX7, TX7, 16, rfl, by decide, inT_X7, Or.inl (gw_T_at 977 (by decide +kernel) rfl)⟩
theorem fl_X7_181 : gw_fl RX7 181 5 13 := ⟨RX7, TX7, 16, rfl, by decide, inT_X7, Or.inl (gw_T_at 978 (by decide +kernel) rfl)⟩
theorem fl_X7_177 : gw_fl RX7 177 5 14 := ⟨RX7, TX7, 16, rfl, by decide, inT_X7, Or.inl (gw_T_at 979 (by decide +kernel) rfl)⟩
theorem fl_X7_25 : gw_fl RX7 25 5 15 := ⟨RX7, TX7, 16, rfl, by decide, inT_X7, Or.inl (gw_T_at 980 (by decide +kernel) rfl)⟩
theorem fl_X6_249 : gw_fl RX6 249 1 0 := ⟨RX1, TX1, 16, rfl, by decide, inT_X1, Or.inr ⟨"CottageWeeks", gw_N_at 51 (by decide +kernel) rfl⟩⟩
theorem fl_X6_97 : gw_fl RX6 97 1 1 := ⟨RX1, TX1, 16, rfl, by decide, inT_X1, Or.inr ⟨"CottageWeeks", gw_N_at 53 (by decide +kernel) rfl⟩⟩
theorem fl_X6_90 : gw_fl RX6 90 1 2 := ⟨RX1, TX1, 16, rfl, by decide, inT_X1, Or.inr ⟨"CottageWeeks", gw_N_at 55 (by decide +kernel) rfl⟩⟩
theorem fl_X6_86 : gw_fl RX6 86 1 3 := ⟨RX1, TX1, 16, rfl, by decide, inT_X1, Or.inr ⟨"CottageWeeks", gw_N_at 57 (by decide +kernel) rfl⟩⟩
theorem fl_X6_119 : gw_fl RX6 119 1 4 := ⟨RX1, TX1, 16, rfl, by decide, inT_X1, Or.inr ⟨"CottageWeeks", gw_N_at 59 (by decide +kernel) rfl⟩⟩
theorem fl_X6_122 : gw_fl RX6 122 1 5 := ⟨RX1, TX1, 16, rfl, by decide, inT_X1, Or.inr ⟨"CottageWeeks", gw_N_at 61 (by decide +kernel) rfl⟩⟩
theorem fl_X6_125 : gw_fl RX6 125 1 6 := ⟨RX1, TX1, 16, rfl, by decide, inT_X1, Or.inr ⟨"CottageWeeks", gw_N_at 63 (by decide +kernel) rfl⟩⟩
theorem fl_X6_128 : gw_fl RX6 128 1 7 := ⟨RX1, TX1, 16, rfl, by decide, inT_X1, Or.inr ⟨"CottageWeeks", gw_N_at 65 (by decide +kernel) rfl⟩⟩
theorem fl_X6_142 : gw_fl RX6 142 1 8 := ⟨RX1, TX1, 16, rfl, by decide, inT_X1, Or.inr ⟨"CottageWeeks", gw_N_at 67 (by decide +kernel) rfl⟩⟩
theorem fl_X6_145 : gw_fl RX6 145 1 9 := ⟨RX1, TX1, 16, rfl, by decide, inT_X1, Or.inr ⟨"CottageWeeks", gw_N_at 69 (by decide +kernel) rfl⟩⟩
theorem fl_X6_148 : gw_fl RX6 148 1 10 := ⟨RX1, TX1, 16, rfl, by decide, inT_X1, Or.inr ⟨"CottageWeeks", gw_N_at 71 (by decide +kernel) rfl⟩⟩
theorem fl_X6_107 : gw_fl RX6 107 1 12 := ⟨RX1, TX1, 16, rfl, by decide, inT_X1, Or.inr ⟨"CottageWeeks", gw_N_at 74 (by decide +kernel) rfl⟩⟩
theorem fl_X6_166 : gw_fl RX6 166 1 13 := ⟨RX1, TX1, 16, rfl, by decide, inT_X1, Or.inr ⟨"CottageWeeks", gw_N_at 76 (by decide +kernel) rfl⟩⟩
theorem fl_X6_169 : gw_fl RX6 169 1 14 := ⟨RX1, TX1, 16, rfl, by decide, inT_X1, Or.inr ⟨"CottageWeeks", gw_N_at 78 (by decide +kernel) rfl⟩⟩
theorem fl_X6_172 : gw_fl RX6 172 1 15 := ⟨RX1, TX1, 16, rfl, by decide, inT_X1, Or.inr ⟨"CottageWeeks", gw_N_at 80 (by decide +kernel) rfl⟩⟩
theorem my_X6_init : gw_my yX6_init cX6_init 2 none 0 := ⟨gw_T_at 28 (by decide +kernel) rfl, gw_T_at 1 (by decide +kernel) rfl, by decide +kernel, by decide +kernel, by decide +kernel, by decide⟩
theorem my_X1_init : gw_my yX1_init cX1_init 1 none 0 := ⟨gw_T_at 36 (by decide +kernel) rfl, gw_T_at 2 (by decide +kernel) rfl, by decide +kernel, by decide +kernel, by decide +kernel, by decide⟩
theorem my_X1_clear : gw_my yX1_clear cX1_clear 2 none 0 := ⟨gw_T_at 41 (by decide +kernel) rfl, gw_T_at 2 (by decide +kernel) rfl, by decide +kernel, by decide +kernel, by decide +kernel, by decide⟩
theorem my_J7_fill_53178 : gw_my yJ7_fill_53178 cJ7_fill_53178 4 none 2 := ⟨gw_T_at 49 (by decide +kernel) rfl, gw_T_at 4 (by decide +kernel) rfl, by decide +kernel, by decide +kernel, by decide +kernel, by decide⟩
theorem my_X0_init : gw_my yX0_init cX0_init 2 none 0 := ⟨gw_T_at 120 (by decide +kernel) rfl, gw_T_at 5 (by decide +kernel) rfl, by decide +kernel, by decide +kernel, by decide +kernel, by decide⟩
theorem my_X5_init : gw_my yX5_init cX5_init 1 none 0 := ⟨gw_T_at 139 (by decide +kernel) rfl, gw_T_at 6 (by decide +kernel) rfl, by decide +kernel, by decide +kernel, by decide +kernel, by decide⟩
theorem my_X2_init : gw_my yX2_init cX2_init 1 none 0 := ⟨gw_T_at 165 (by decide +kernel) rfl, gw_T_at 7 (by decide +kernel) rfl, by decide +kernel, by decide +kernel, by decide +kernel, by decide⟩
theorem my_X6_clearText : gw_my yX6_clearText cX6_clearText 1 (some .int) 0 := ⟨gw_T_at 199 (by decide +kernel) rfl, gw_T_at 1 (by decide +kernel) rfl, by decide +kernel, by decide +kernel, by decide +kernel, by decide⟩
theorem my_X5_empty : gw_my yX5_empty cX5_empty 2 (some .int) 0 := ⟨gw_T_at 203 (by decide +kernel) rfl, gw_T_at 6 (by decide +kernel) rfl, by decide +kernel, by decide +kernel, by decide +kernel, by decide⟩
theorem my_X6_errorPosition : gw_my yX6_errorPosition cX6_errorPosition 1 (some .int) 0 := ⟨gw_T_at 207 (by decide +kernel) rfl, gw_T_at 1 (by decide +kernel) rfl, by decide +kernel, by decide +kernel, by decide +kernel, by decide⟩
theorem my_X5_findError : gw_my yX5_findError cX5_findError 2 (some .int) 0 := ⟨gw_T_at 211 (by decide +kernel) rfl, gw_T_at 6 (by decide +kernel) rfl, by decide +kernel, by decide +kernel, by decide +kernel, by decide⟩
theorem my_X5_startReading : gw_my yX5_startReading cX5_startReading 1 none 0 := ⟨gw_T_at 215 (by decide +kernel) rfl, gw_T_at 6 (by decide +kernel) rfl, by decide +kernel, by decide +kernel, by decide +kernel, by decide⟩
theorem my_X5_nextSign : gw_my yX5_nextSign cX5_nextSign 1 (some .int) 0 := ⟨gw_T_at 219 (by decide +kernel) rfl, gw_T_at 6 (by decide +kernel) rfl, by decide +kernel, by decide +kernel, by decide +kernel, by decide⟩
theorem my_X5_hasMore : gw_my yX5_hasMore cX5_hasMore 1 (some .boolean) 0 := ⟨gw_T_at 223 (by decide +kernel) rfl, gw_T_at 6 (by decide +kernel) rfl, by decide +kernel, by decide +kernel, by decide +kernel, by decide⟩
theorem my_X5_readCommand : gw_my yX5_readCommand cX5_readCommand 2 (some .int) 0 := ⟨gw_T_at 227 (by decide +kernel) rfl, gw_T_at 6 (by decide +kernel) rfl, by decide +kernel, by decide +kernel, by decide +kernel, by decide⟩
theorem my_J0_indexOf_0f7a4 : gw_my yJ0_indexOf_0f7a4 cJ0_indexOf_0f7a4 2 (some .int) 1 := ⟨gw_T_at 232 (by decide +kernel) rfl, gw_T_at 14 (by decide +kernel) rfl, by decide +kernel, by decide +kernel, by decide +kernel, by decide⟩
theorem my_J0_indexOf_7cf53 : gw_my yJ0_indexOf_7cf53 cJ0_indexOf_7cf53 3 (some .int) 2 := ⟨gw_T_at 236 (by decide +kernel) rfl, gw_T_at 14 (by decide +kernel) rfl, by decide +kernel, by decide +kernel, by decide +kernel, by decide⟩
theorem my_J0_isLatin1_aae02 : gw_my yJ0_isLatin1_aae02 cJ0_isLatin1_aae02 1 (some .boolean) 0 := ⟨gw_T_at 240 (by decide +kernel) rfl, gw_T_at 14 (by decide +kernel) rfl, by decide +kernel, by decide +kernel, by decide +kernel, by decide⟩
theorem my_J1_indexOf_4cfef : gw_my yJ1_indexOf_4cfef cJ1_indexOf_4cfef 4 (some .int) 4 := ⟨gw_T_at 253 (by decide +kernel) rfl, gw_T_at 15 (by decide +kernel) rfl, by decide +kernel, by decide +kernel, by decide +kernel, by decide⟩
theorem my_J1_canEncode_9a6ad : gw_my yJ1_canEncode_9a6ad cJ1_canEncode_9a6ad 1 (some .boolean) 1 := ⟨gw_T_at 256 (by decide +kernel) rfl, gw_T_at 15 (by decide +kernel) rfl, by decide +kernel, by decide +kernel, by decide +kernel, by decide⟩
theorem my_J9_max_7cf53 : gw_my yJ9_max_7cf53 cJ9_max_7cf53 2 (some .int) 2 := ⟨gw_T_at 259 (by decide +kernel) rfl, gw_T_at 16 (by decide +kernel) rfl, by decide +kernel, by decide +kernel, by decide +kernel, by decide⟩
theorem my_J2_indexOf_4cfef : gw_my yJ2_indexOf_4cfef cJ2_indexOf_4cfef 4 (some .int) 4 := ⟨gw_T_at 268 (by decide +kernel) rfl, gw_T_at 17 (by decide +kernel) rfl, by decide +kernel, by decide +kernel, by decide +kernel, by decide⟩
theorem my_X5_readValues : gw_my yX5_readValues cX5_readValues 2 none 1 := ⟨gw_T_at 318 (by decide +kernel) rfl, gw_T_at 6 (by decide +kernel) rfl, by decide +kernel, by decide +kernel, by decide +kernel, by decide⟩
theorem my_X5_readNumber : gw_my yX5_readNumber cX5_readNumber 8 none 3 := ⟨gw_T_at 322 (by decide +kernel) rfl, gw_T_at 6 (by decide +kernel) rfl, by decide +kernel, by decide +kernel, by decide +kernel, by decide⟩
theorem my_X5_keepValue : gw_my yX5_keepValue cX5_keepValue 2 none 1 := ⟨gw_T_at 326 (by decide +kernel) rfl, gw_T_at 6 (by decide +kernel) rfl, by decide +kernel, by decide +kernel, by decide +kernel, by decide⟩
theorem my_X5_readWeek : gw_my yX5_readWeek cX5_readWeek 1 none 0 := ⟨gw_T_at 330 (by decide +kernel) rfl, gw_T_at 6 (by decide +kernel) rfl, by decide +kernel, by decide +kernel, by decide +kernel, by decide⟩
theorem my_X5_readPlusOrMinus : gw_my yX5_readPlusOrMinus cX5_readPlusOrMinus 2 none 0 := ⟨gw_T_at 334 (by decide +kernel) rfl, gw_T_at 6 (by decide +kernel) rfl, by decide +kernel, by decide +kernel, by decide +kernel, by decide⟩
theorem my_X5_readOwner : gw_my yX5_readOwner cX5_readOwner 1 none 0 := ⟨gw_T_at 338 (by decide +kernel) rfl, gw_T_at 6 (by decide +kernel) rfl, by decide +kernel, by decide +kernel, by decide +kernel, by decide⟩
theorem my_X6_settle : gw_my yX6_settle cX6_settle 1 (some .int) 0 := ⟨gw_T_at 343 (by decide +kernel) rfl, gw_T_at 1 (by decide +kernel) rfl, by decide +kernel, by decide +kernel, by decide +kernel, by decide⟩
theorem my_X0_remember : gw_my yX0_remember cX0_remember 2 none 1 := ⟨gw_T_at 347 (by decide +kernel) rfl, gw_T_at 5 (by decide +kernel) rfl, by decide +kernel, by decide +kernel, by decide +kernel, by decide⟩
theorem my_X1_copyFrom : gw_my yX1_copyFrom cX1_copyFrom 2 none 1 := ⟨gw_T_at 351 (by decide +kernel) rfl, gw_T_at 2 (by decide +kernel) rfl, by decide +kernel, by decide +kernel, by decide +kernel, by decide⟩
theorem my_X1_settleBids : gw_my yX1_settleBids cX1_settleBids 3 (some .int) 0 := ⟨gw_T_at 355 (by decide +kernel) rfl, gw_T_at 2 (by decide +kernel) rfl, by decide +kernel, by decide +kernel, by decide +kernel, by decide⟩
theorem my_X1_settleWeek : gw_my yX1_settleWeek cX1_settleWeek 3 (some .boolean) 1 := ⟨gw_T_at 359 (by decide +kernel) rfl, gw_T_at 2 (by decide +kernel) rfl, by decide +kernel, by decide +kernel, by decide +kernel, by decide⟩
theorem my_X1_bestBidder : gw_my yX1_bestBidder cX1_bestBidder 4 (some .int) 1 := ⟨gw_T_at 363 (by decide +kernel) rfl, gw_T_at 2 (by decide +kernel) rfl, by decide +kernel, by decide +kernel, by decide +kernel, by decide⟩
theorem my_X1_isOpenForBids : gw_my yX1_isOpenForBids cX1_isOpenForBids 2 (some .boolean) 1 := ⟨gw_T_at 367 (by decide +kernel) rfl, gw_T_at 2 (by decide +kernel) rfl, by decide +kernel, by decide +kernel, by decide +kernel, by decide⟩
theorem my_X1_hasWeek : gw_my yX1_hasWeek cX1_hasWeek 2 (some .boolean) 1 := ⟨gw_T_at 371 (by decide +kernel) rfl, gw_T_at 2 (by decide +kernel) rfl, by decide +kernel, by decide +kernel, by decide +kernel, by decide⟩
theorem my_X1_canWin : gw_my yX1_canWin cX1_canWin 4 (some .boolean) 2 := ⟨gw_T_at 375 (by decide +kernel) rfl, gw_T_at 2 (by decide +kernel) rfl, by decide +kernel, by decide +kernel, by decide +kernel, by decide⟩
theorem my_X1_extraOf : gw_my yX1_extraOf cX1_extraOf 4 (some .int) 2 := ⟨gw_T_at 379 (by decide +kernel) rfl, gw_T_at 2 (by decide +kernel) rfl, by decide +kernel, by decide +kernel, by decide +kernel, by decide⟩
theorem my_X1_weeksHeldBy : gw_my yX1_weeksHeldBy cX1_weeksHeldBy 4 (some .int) 1 := ⟨gw_T_at 383 (by decide +kernel) rfl, gw_T_at 2 (by decide +kernel) rfl, by decide +kernel, by decide +kernel, by decide +kernel, by decide⟩
theorem my_X1_isAhead : gw_my yX1_isAhead cX1_isAhead 6 (some .boolean) 3 := ⟨gw_T_at 387 (by decide +kernel) rfl, gw_T_at 2 (by decide +kernel) rfl, by decide +kernel, by decide +kernel, by decide +kernel, by decide⟩
theorem my_X1_hasOwner : gw_my yX1_hasOwner cX1_hasOwner 2 (some .boolean) 1 := ⟨gw_T_at 391 (by decide +kernel) rfl, gw_T_at 2 (by decide +kernel) rfl, by decide +kernel, by decide +kernel, by decide +kernel, by decide⟩
theorem my_X1_spendPoints : gw_my yX1_spendPoints cX1_spendPoints 3 none 2 := ⟨gw_T_at 395 (by decide +kernel) rfl, gw_T_at 2 (by decide +kernel) rfl, by decide +kernel, by decide +kernel, by decide +kernel, by decide⟩
theorem my_X6_year : gw_my yX6_year cX6_year 1 (some .int) 0 := ⟨gw_T_at 399 (by decide +kernel) rfl, gw_T_at 1 (by decide +kernel) rfl, by decide +kernel, by decide +kernel, by decide +kernel, by decide⟩
theorem my_X1_beginYear : gw_my yX1_beginYear cX1_beginYear 4 (some .int) 0 := ⟨gw_T_at 403 (by decide +kernel) rfl, gw_T_at 2 (by decide +kernel) rfl, by decide +kernel, by decide +kernel, by decide +kernel, by decide⟩
theorem my_X1_givePoints : gw_my yX1_givePoints cX1_givePoints 3 none 1 := ⟨gw_T_at 408 (by decide +kernel) rfl, gw_T_at 2 (by decide +kernel) rfl, by decide +kernel, by decide +kernel, by decide +kernel, by decide⟩
theorem my_X6_append : gw_my yX6_append cX6_append 2 (some .int) 1 := ⟨gw_T_at 417 (by decide +kernel) rfl, gw_T_at 1 (by decide +kernel) rfl, by decide +kernel, by decide +kernel, by decide +kernel, by decide⟩
theorem my_X6_needRange : gw_my yX6_needRange cX6_needRange 4 none 3 := ⟨gw_T_at 421 (by decide +kernel) rfl, gw_T_at 1 (by decide +kernel) rfl, by decide +kernel, by decide +kernel, by decide +kernel, by decide⟩
theorem my_X5_isFull : gw_my yX5_isFull cX5_isFull 1 (some .boolean) 0 := ⟨gw_T_at 492 (by decide +kernel) rfl, gw_T_at 6 (by decide +kernel) rfl, by decide +kernel, by decide +kernel, by decide +kernel, by decide⟩
theorem my_X5_add : gw_my yX5_add cX5_add 2 (some .int) 1 := ⟨gw_T_at 512 (by decide +kernel) rfl, gw_T_at 6 (by decide +kernel) rfl, by decide +kernel, by decide +kernel, by decide +kernel, by decide⟩
theorem my_X6_load : gw_my yX6_load cX6_load 2 (some .int) 0 := ⟨gw_T_at 520 (by decide +kernel) rfl, gw_T_at 1 (by decide +kernel) rfl, by decide +kernel, by decide +kernel, by decide +kernel, by decide⟩
theorem my_X0_forget : gw_my yX0_forget cX0_forget 1 none 0 := ⟨gw_T_at 526 (by decide +kernel) rfl, gw_T_at 5 (by decide +kernel) rfl, by decide +kernel, by decide +kernel, by decide +kernel, by decide⟩
theorem my_X5_build : gw_my yX5_build cX5_build 5 (some .int) 1 := ⟨gw_T_at 530 (by decide +kernel) rfl, gw_T_at 6 (by decide +kernel) rfl, by decide +kernel, by decide +kernel, by decide +kernel, by decide⟩
theorem my_X5_isDone : gw_my yX5_isDone cX5_isDone 6 (some .boolean) 2 := ⟨gw_T_at 534 (by decide +kernel) rfl, gw_T_at 6 (by decide +kernel) rfl, by decide +kernel, by decide +kernel, by decide +kernel, by decide⟩
theorem my_X1_addOwner : gw_my yX1_addOwner cX1_addOwner 3 (some .int) 1 := ⟨gw_T_at 538 (by decide +kernel) rfl, gw_T_at 2 (by decide +kernel) rfl, by decide +kernel, by decide +kernel, by decide +kernel, by decide⟩
theorem my_X1_changeCost : gw_my yX1_changeCost cX1_changeCost 4 (some .int) 2 := ⟨gw_T_at 542 (by decide +kernel) rfl, gw_T_at 2 (by decide +kernel) rfl, by decide +kernel, by decide +kernel, by decide +kernel, by decide⟩
theorem my_X1_markSchool : gw_my yX1_markSchool cX1_markSchool 5 (some .int) 2 := ⟨gw_T_at 546 (by decide +kernel) rfl, gw_T_at 2 (by decide +kernel) rfl, by decide +kernel, by decide +kernel, by decide +kernel, by decide⟩
theorem my_X1_reasonAgainst : gw_my yX1_reasonAgainst cX1_reasonAgainst 3 (some .int) 2 := ⟨gw_T_at 550 (by decide +kernel) rfl, gw_T_at 2 (by decide +kernel) rfl, by decide +kernel, by decide +kernel, by decide +kernel, by decide⟩
theorem my_X1_takeWeek : gw_my yX1_takeWeek cX1_takeWeek 4 (some .int) 2 := ⟨gw_T_at 554 (by decide +kernel) rfl, gw_T_at 2 (by decide +kernel) rfl, by decide +kernel, by decide +kernel, by decide +kernel, by decide⟩
theorem my_X1_placeBid : gw_my yX1_placeBid cX1_placeBid 4 (some .int) 3 := ⟨gw_T_at 559 (by decide +kernel) rfl, gw_T_at 2 (by decide +kernel) rfl, by decide +kernel, by decide +kernel, by decide +kernel, by decide⟩
theorem my_X1_bidsFor : gw_my yX1_bidsFor cX1_bidsFor 4 (some .int) 1 := ⟨gw_T_at 563 (by decide +kernel) rfl, gw_T_at 2 (by decide +kernel) rfl, by decide +kernel, by decide +kernel, by decide +kernel, by decide⟩
theorem my_X1_giveBack : gw_my yX1_giveBack cX1_giveBack 4 (some .int) 2 := ⟨gw_T_at 568 (by decide +kernel) rfl, gw_T_at 2 (by decide +kernel) rfl, by decide +kernel, by decide +kernel, by decide +kernel, by decide⟩
theorem my_X1_holds : gw_my yX1_holds cX1_holds 3 (some .boolean) 2 := ⟨gw_T_at 572 (by decide +kernel) rfl, gw_T_at 2 (by decide +kernel) rfl, by decide +kernel, by decide +kernel, by decide +kernel, by decide⟩
theorem my_X1_placeOffer : gw_my yX1_placeOffer cX1_placeOffer 5 (some .int) 3 := ⟨gw_T_at 576 (by decide +kernel) rfl, gw_T_at 2 (by decide +kernel) rfl, by decide +kernel, by decide +kernel, by decide +kernel, by decide⟩
theorem my_X1_canOffer : gw_my yX1_canOffer cX1_canOffer 4 (some .boolean) 3 := ⟨gw_T_at 580 (by decide +kernel) rfl, gw_T_at 2 (by decide +kernel) rfl, by decide +kernel, by decide +kernel, by decide +kernel, by decide⟩
theorem my_X1_canSwap : gw_my yX1_canSwap cX1_canSwap 4 (some .boolean) 3 := ⟨gw_T_at 584 (by decide +kernel) rfl, gw_T_at 2 (by decide +kernel) rfl, by decide +kernel, by decide +kernel, by decide +kernel, by decide⟩
theorem my_X1_acceptOffer : gw_my yX1_acceptOffer cX1_acceptOffer 5 (some .int) 1 := ⟨gw_T_at 588 (by decide +kernel) rfl, gw_T_at 2 (by decide +kernel) rfl, by decide +kernel, by decide +kernel, by decide +kernel, by decide⟩
theorem my_X1_hasOffer : gw_my yX1_hasOffer cX1_hasOffer 2 (some .boolean) 1 := ⟨gw_T_at 592 (by decide +kernel) rfl, gw_T_at 2 (by decide +kernel) rfl, by decide +kernel, by decide +kernel, by decide +kernel, by decide⟩
theorem my_X1_dropOffer : gw_my yX1_dropOffer cX1_dropOffer 3 none 1 := ⟨gw_T_at 596 (by decide +kernel) rfl, gw_T_at 2 (by decide +kernel) rfl, by decide +kernel, by decide +kernel, by decide +kernel, by decide⟩
theorem my_X1_payUpkeep : gw_my yX1_payUpkeep cX1_payUpkeep 5 (some .int) 1 := ⟨gw_T_at 600 (by decide +kernel) rfl, gw_T_at 2 (by decide +kernel) rfl, by decide +kernel, by decide +kernel, by decide +kernel, by decide⟩
theorem my_X1_partOf : gw_my yX1_partOf cX1_partOf 9 (some .int) 2 := ⟨gw_T_at 604 (by decide +kernel) rfl, gw_T_at 2 (by decide +kernel) rfl, by decide +kernel, by decide +kernel, by decide +kernel, by decide⟩
theorem my_X1_sharesOfAll : gw_my yX1_sharesOfAll cX1_sharesOfAll 3 (some .int) 0 := ⟨gw_T_at 608 (by decide +kernel) rfl, gw_T_at 2 (by decide +kernel) rfl, by decide +kernel, by decide +kernel, by decide +kernel, by decide⟩
theorem my_X6_about : gw_my yX6_about cX6_about 2 (some .int) 1 := ⟨gw_T_at 616 (by decide +kernel) rfl, gw_T_at 1 (by decide +kernel) rfl, by decide +kernel, by decide +kernel, by decide +kernel, by decide⟩
theorem my_X1_pointsOfAll : gw_my yX1_pointsOfAll cX1_pointsOfAll 3 (some .int) 0 := ⟨gw_T_at 621 (by decide +kernel) rfl, gw_T_at 2 (by decide +kernel) rfl, by decide +kernel, by decide +kernel, by decide +kernel, by decide⟩
theorem my_X1_bidsOfAll : gw_my yX1_bidsOfAll cX1_bidsOfAll 3 (some .int) 0 := ⟨gw_T_at 625 (by decide +kernel) rfl, gw_T_at 2 (by decide +kernel) rfl, by decide +kernel, by decide +kernel, by decide +kernel, by decide⟩
theorem my_X1_bidsBy : gw_my yX1_bidsBy cX1_bidsBy 4 (some .int) 1 := ⟨gw_T_at 629 (by decide +kernel) rfl, gw_T_at 2 (by decide +kernel) rfl, by decide +kernel, by decide +kernel, by decide +kernel, by decide⟩
theorem my_X6_ownerOf : gw_my yX6_ownerOf cX6_ownerOf 3 (some .int) 2 := ⟨gw_T_at 638 (by decide +kernel) rfl, gw_T_at 1 (by decide +kernel) rfl, by decide +kernel, by decide +kernel, by decide +kernel, by decide⟩
theorem my_X6_needOwner : gw_my yX6_needOwner cX6_needOwner 2 none 1 := ⟨gw_T_at 642 (by decide +kernel) rfl, gw_T_at 1 (by decide +kernel) rfl, by decide +kernel, by decide +kernel, by decide +kernel, by decide⟩
theorem my_X1_lowestWeekHeldBy : gw_my yX1_lowestWeekHeldBy cX1_lowestWeekHeldBy 3 (some .int) 1 := ⟨gw_T_at 663 (by decide +kernel) rfl, gw_T_at 2 (by decide +kernel) rfl, by decide +kernel, by decide +kernel, by decide +kernel, by decide⟩
theorem my_X6_weekOf : gw_my yX6_weekOf cX6_weekOf 3 (some .int) 2 := ⟨gw_T_at 672 (by decide +kernel) rfl, gw_T_at 1 (by decide +kernel) rfl, by decide +kernel, by decide +kernel, by decide +kernel, by decide⟩
theorem my_X6_needWeek : gw_my yX6_needWeek cX6_needWeek 2 none 1 := ⟨gw_T_at 676 (by decide +kernel) rfl, gw_T_at 1 (by decide +kernel) rfl, by decide +kernel, by decide +kernel, by decide +kernel, by decide⟩
theorem my_X1_greatestExtraFor : gw_my yX1_greatestExtraFor cX1_greatestExtraFor 4 (some .int) 1 := ⟨gw_T_at 683 (by decide +kernel) rfl, gw_T_at 2 (by decide +kernel) rfl, by decide +kernel, by decide +kernel, by decide +kernel, by decide⟩
theorem my_X6_bidOf : gw_my yX6_bidOf cX6_bidOf 3 (some .int) 2 := ⟨gw_T_at 691 (by decide +kernel) rfl, gw_T_at 1 (by decide +kernel) rfl, by decide +kernel, by decide +kernel, by decide +kernel, by decide⟩
theorem my_X6_offerOf : gw_my yX6_offerOf cX6_offerOf 3 (some .int) 2 := ⟨gw_T_at 699 (by decide +kernel) rfl, gw_T_at 1 (by decide +kernel) rfl, by decide +kernel, by decide +kernel, by decide +kernel, by decide⟩
theorem my_X6_needOffer : gw_my yX6_needOffer cX6_needOffer 2 none 1 := ⟨gw_T_at 703 (by decide +kernel) rfl, gw_T_at 1 (by decide +kernel) rfl, by decide +kernel, by decide +kernel, by decide +kernel, by decide⟩
theorem my_X6_owner : gw_my yX6_owner cX6_owner 2 (some .int) 1 := ⟨gw_T_at 714 (by decide +kernel) rfl, gw_T_at 1 (by decide +kernel) rfl, by decide +kernel, by decide +kernel, by decide +kernel, by decide⟩
theorem my_X6_cost : gw_my yX6_cost cX6_cost 3 (some .int) 2 := ⟨gw_T_at 723 (by decide +kernel) rfl, gw_T_at 1 (by decide +kernel) rfl, by decide +kernel, by decide +kernel, by decide +kernel, by decide⟩
theorem my_X6_school : gw_my yX6_school cX6_school 3 (some .int) 2 := ⟨gw_T_at 731 (by decide +kernel) rfl, gw_T_at 1 (by decide +kernel) rfl, by decide +kernel, by decide +kernel, by decide +kernel, by decide⟩
theorem my_X6_take : gw_my yX6_take cX6_take 3 (some .int) 2 := ⟨gw_T_at 739 (by decide +kernel) rfl, gw_T_at 1 (by decide +kernel) rfl, by decide +kernel, by decide +kernel, by decide +kernel, by decide⟩
theorem my_X6_release : gw_my yX6_release cX6_release 3 (some .int) 2 := ⟨gw_T_at 747 (by decide +kernel) rfl, gw_T_at 1 (by decide +kernel) rfl, by decide +kernel, by decide +kernel, by decide +kernel, by decide⟩
theorem my_X6_bid : gw_my yX6_bid cX6_bid 4 (some .int) 3 := ⟨gw_T_at 757 (by decide +kernel) rfl, gw_T_at 1 (by decide +kernel) rfl, by decide +kernel, by decide +kernel, by decide +kernel, by decide⟩
theorem my_X6_offer : gw_my yX6_offer cX6_offer 4 (some .int) 3 := ⟨gw_T_at 767 (by decide +kernel) rfl, gw_T_at 1 (by decide +kernel) rfl, by decide +kernel, by decide +kernel, by decide +kernel, by decide⟩
theorem my_X6_accept : gw_my yX6_accept cX6_accept 2 (some .int) 1 := ⟨gw_T_at 777 (by decide +kernel) rfl, gw_T_at 1 (by decide +kernel) rfl, by decide +kernel, by decide +kernel, by decide +kernel, by decide⟩
theorem my_X6_upkeep : gw_my yX6_upkeep cX6_upkeep 2 (some .int) 1 := ⟨gw_T_at 785 (by decide +kernel) rfl, gw_T_at 1 (by decide +kernel) rfl, by decide +kernel, by decide +kernel, by decide +kernel, by decide⟩
theorem my_X6_set : gw_my yX6_set cX6_set 4 (some .int) 2 := ⟨gw_T_at 794 (by decide +kernel) rfl, gw_T_at 1 (by decide +kernel) rfl, by decide +kernel, by decide +kernel, by decide +kernel, by decide⟩
theorem my_X6_undo : gw_my yX6_undo cX6_undo 1 (some .int) 0 := ⟨gw_T_at 806 (by decide +kernel) rfl, gw_T_at 1 (by decide +kernel) rfl, by decide +kernel, by decide +kernel, by decide +kernel, by decide⟩
theorem my_X0_isEmpty : gw_my yX0_isEmpty cX0_isEmpty 1 (some .boolean) 0 := ⟨gw_T_at 810 (by decide +kernel) rfl, gw_T_at 5 (by decide +kernel) rfl, by decide +kernel, by decide +kernel, by decide +kernel, by decide⟩
theorem my_X0_takeBack : gw_my yX0_takeBack cX0_takeBack 2 (some .int) 1 := ⟨gw_T_at 815 (by decide +kernel) rfl, gw_T_at 5 (by decide +kernel) rfl, by decide +kernel, by decide +kernel, by decide +kernel, by decide⟩
theorem my_X6_why : gw_my yX6_why cX6_why 3 (some .int) 2 := ⟨gw_T_at 822 (by decide +kernel) rfl, gw_T_at 1 (by decide +kernel) rfl, by decide +kernel, by decide +kernel, by decide +kernel, by decide⟩
theorem my_X6_could : gw_my yX6_could cX6_could 2 (some .int) 1 := ⟨gw_T_at 830 (by decide +kernel) rfl, gw_T_at 1 (by decide +kernel) rfl, by decide +kernel, by decide +kernel, by decide +kernel, by decide⟩
theorem my_X2_countByMoving : gw_my yX2_countByMoving cX2_countByMoving 4 (some .int) 1 := ⟨gw_T_at 834 (by decide +kernel) rfl, gw_T_at 7 (by decide +kernel) rfl, by decide +kernel, by decide +kernel, by decide +kernel, by decide⟩
theorem my_X2_findWeek : gw_my yX2_findWeek cX2_findWeek 6 (some .boolean) 5 := ⟨gw_T_at 838 (by decide +kernel) rfl, gw_T_at 7 (by decide +kernel) rfl, by decide +kernel, by decide +kernel, by decide +kernel, by decide⟩
theorem my_X2_countBySets : gw_my yX2_countBySets cX2_countBySets 6 (some .int) 1 := ⟨gw_T_at 843 (by decide +kernel) rfl, gw_T_at 7 (by decide +kernel) rfl, by decide +kernel, by decide +kernel, by decide +kernel, by decide⟩
theorem my_X2_growSets : gw_my yX2_growSets cX2_growSets 8 (some .long) 3 := ⟨gw_T_at 846 (by decide +kernel) rfl, gw_T_at 7 (by decide +kernel) rfl, by decide +kernel, by decide +kernel, by decide +kernel, by decide⟩
theorem my_J6_bitCount_0f7a4 : gw_my yJ6_bitCount_0f7a4 cJ6_bitCount_0f7a4 1 (some .int) 1 := ⟨gw_T_at 849 (by decide +kernel) rfl, gw_T_at 21 (by decide +kernel) rfl, by decide +kernel, by decide +kernel, by decide +kernel, by decide⟩
theorem my_X6_winner : gw_my yX6_winner cX6_winner 2 (some .int) 1 := ⟨gw_T_at 861 (by decide +kernel) rfl, gw_T_at 1 (by decide +kernel) rfl, by decide +kernel, by decide +kernel, by decide +kernel, by decide⟩
theorem my_X6_settleCopyBefore : gw_my yX6_settleCopyBefore cX6_settleCopyBefore 3 none 1 := ⟨gw_T_at 865 (by decide +kernel) rfl, gw_T_at 1 (by decide +kernel) rfl, by decide +kernel, by decide +kernel, by decide +kernel, by decide⟩
theorem my_X6_leastBid : gw_my yX6_leastBid cX6_leastBid 4 (some .int) 2 := ⟨gw_T_at 875 (by decide +kernel) rfl, gw_T_at 1 (by decide +kernel) rfl, by decide +kernel, by decide +kernel, by decide +kernel, by decide⟩
theorem my_X6_ifUpkeep : gw_my yX6_ifUpkeep cX6_ifUpkeep 3 (some .int) 2 := ⟨gw_T_at 882 (by decide +kernel) rfl, gw_T_at 1 (by decide +kernel) rfl, by decide +kernel, by decide +kernel, by decide +kernel, by decide⟩
theorem my_X6_runScript : gw_my yX6_runScript cX6_runScript 7 (some .int) 2 := ⟨gw_T_at 890 (by decide +kernel) rfl, gw_T_at 1 (by decide +kernel) rfl, by decide +kernel, by decide +kernel, by decide +kernel, by decide⟩
theorem my_X3_succeeds : gw_my yX3_succeeds cX3_succeeds 5 (some .boolean) 2 := ⟨gw_T_at 895 (by decide +kernel) rfl, gw_T_at 22 (by decide +kernel) rfl, by decide +kernel, by decide +kernel, by decide +kernel, by decide⟩
theorem my_X1_hasAtLeast : gw_my yX1_hasAtLeast cX1_hasAtLeast 3 (some .boolean) 2 := ⟨gw_T_at 907 (by decide +kernel) rfl, gw_T_at 2 (by decide +kernel) rfl, by decide +kernel, by decide +kernel, by decide +kernel, by decide⟩
theorem my_X6_simulate : gw_my yX6_simulate cX6_simulate 7 (some .int) 2 := ⟨gw_T_at 915 (by decide +kernel) rfl, gw_T_at 1 (by decide +kernel) rfl, by decide +kernel, by decide +kernel, by decide +kernel, by decide⟩
theorem my_X4_turn : gw_my yX4_turn cX4_turn 3 none 2 := ⟨gw_T_at 920 (by decide +kernel) rfl, gw_T_at 23 (by decide +kernel) rfl, by decide +kernel, by decide +kernel, by decide +kernel, by decide⟩
theorem my_X6_save : gw_my yX6_save cX6_save 2 (some .int) 1 := ⟨gw_T_at 938 (by decide +kernel) rfl, gw_T_at 1 (by decide +kernel) rfl, by decide +kernel, by decide +kernel, by decide +kernel, by decide⟩
theorem my_X6_needSlot : gw_my yX6_needSlot cX6_needSlot 2 none 1 := ⟨gw_T_at 942 (by decide +kernel) rfl, gw_T_at 1 (by decide +kernel) rfl, by decide +kernel, by decide +kernel, by decide +kernel, by decide⟩
theorem my_X6_restore : gw_my yX6_restore cX6_restore 2 (some .int) 1 := ⟨gw_T_at 950 (by decide +kernel) rfl, gw_T_at 1 (by decide +kernel) rfl, by decide +kernel, by decide +kernel, by decide +kernel, by decide⟩
theorem my_X7_init : gw_my yX7_init cX7_init 1 none 0 := ⟨gw_T_at 956 (by decide +kernel) rfl, gw_T_at 8 (by decide +kernel) rfl, by decide +kernel, by decide +kernel, by decide +kernel, by decide⟩
theorem my_X7_begins : gw_my yX7_begins cX7_begins 2 none 0 := ⟨gw_T_at 961 (by decide +kernel) rfl, gw_T_at 8 (by decide +kernel) rfl, by decide +kernel, by decide +kernel, by decide +kernel, by decide⟩
theorem my_X7_ofWeek : gw_my yX7_ofWeek cX7_ofWeek 2 (some .int) 2 := ⟨gw_T_at 964 (by decide +kernel) rfl, gw_T_at 8 (by decide +kernel) rfl, by decide +kernel, by decide +kernel, by decide +kernel, by decide⟩
theorem my_X7_thrown : gw_my yX7_thrown cX7_thrown 1 (some .int) 0 := ⟨gw_T_at 1017 (by decide +kernel) rfl, gw_T_at 8 (by decide +kernel) rfl, by decide +kernel, by decide +kernel, by decide +kernel, by decide⟩
theorem my_X7_append : gw_my yX7_append cX7_append 2 (some .int) 1 := ⟨gw_T_at 1021 (by decide +kernel) rfl, gw_T_at 8 (by decide +kernel) rfl, by decide +kernel, by decide +kernel, by decide +kernel, by decide⟩
theorem my_X7_in : gw_my yX7_in cX7_in 3 (some .boolean) 3 := ⟨gw_T_at 1024 (by decide +kernel) rfl, gw_T_at 8 (by decide +kernel) rfl, by decide +kernel, by decide +kernel, by decide +kernel, by decide⟩
theorem my_X7_holds : gw_my yX7_holds cX7_holds 2 (some .boolean) 1 := ⟨gw_T_at 1028 (by decide +kernel) rfl, gw_T_at 8 (by decide +kernel) rfl, by decide +kernel, by decide +kernel, by decide +kernel, by decide⟩
theorem my_X7_clearText : gw_my yX7_clearText cX7_clearText 2 (some .int) 0 := ⟨gw_T_at 1032 (by decide +kernel) rfl, gw_T_at 8 (by decide +kernel) rfl, by decide +kernel, by decide +kernel, by decide +kernel, by decide⟩
theorem my_X7_errorPosition : gw_my yX7_errorPosition cX7_errorPosition 2 (some .int) 0 := ⟨gw_T_at 1036 (by decide +kernel) rfl, gw_T_at 8 (by decide +kernel) rfl, by decide +kernel, by decide +kernel, by decide +kernel, by decide⟩
theorem my_X7_goesThrough : gw_my yX7_goesThrough cX7_goesThrough 5 (some .int) 1 := ⟨gw_T_at 1040 (by decide +kernel) rfl, gw_T_at 8 (by decide +kernel) rfl, by decide +kernel, by decide +kernel, by decide +kernel, by decide⟩
theorem my_X7_takesOne : gw_my yX7_takesOne cX7_takesOne 5 (some .int) 2 := ⟨gw_T_at 1044 (by decide +kernel) rfl, gw_T_at 8 (by decide +kernel) rfl, by decide +kernel, by decide +kernel, by decide +kernel, by decide⟩
theorem my_X7_readCommand : gw_my yX7_readCommand cX7_readCommand 2 none 0 := ⟨gw_T_at 1048 (by decide +kernel) rfl, gw_T_at 8 (by decide +kernel) rfl, by decide +kernel, by decide +kernel, by decide +kernel, by decide⟩
theorem my_X7_isLetter : gw_my yX7_isLetter cX7_isLetter 1 (some .boolean) 1 := ⟨gw_T_at 1051 (by decide +kernel) rfl, gw_T_at 8 (by decide +kernel) rfl, by decide +kernel, by decide +kernel, by decide +kernel, by decide⟩
theorem my_X7_readWeek : gw_my yX7_readWeek cX7_readWeek 2 (some .int) 0 := ⟨gw_T_at 1055 (by decide +kernel) rfl, gw_T_at 8 (by decide +kernel) rfl, by decide +kernel, by decide +kernel, by decide +kernel, by decide⟩
theorem my_X7_readExtra : gw_my yX7_readExtra cX7_readExtra 2 (some .int) 0 := ⟨gw_T_at 1059 (by decide +kernel) rfl, gw_T_at 8 (by decide +kernel) rfl, by decide +kernel, by decide +kernel, by decide +kernel, by decide⟩
theorem my_X7_readCoins : gw_my yX7_readCoins cX7_readCoins 3 (some .int) 0 := ⟨gw_T_at 1063 (by decide +kernel) rfl, gw_T_at 8 (by decide +kernel) rfl, by decide +kernel, by decide +kernel, by decide +kernel, by decide⟩
theorem my_X7_does : gw_my yX7_does cX7_does 1 (some .int) 0 := ⟨gw_T_at 1067 (by decide +kernel) rfl, gw_T_at 8 (by decide +kernel) rfl, by decide +kernel, by decide +kernel, by decide +kernel, by decide⟩
theorem my_X7_errorOfOwner : gw_my yX7_errorOfOwner cX7_errorOfOwner 2 (some .int) 1 := ⟨gw_T_at 1071 (by decide +kernel) rfl, gw_T_at 8 (by decide +kernel) rfl, by decide +kernel, by decide +kernel, by decide +kernel, by decide⟩
theorem my_X7_comes : gw_my yX7_comes cX7_comes 3 (some .int) 1 := ⟨gw_T_at 1075 (by decide +kernel) rfl, gw_T_at 8 (by decide +kernel) rfl, by decide +kernel, by decide +kernel, by decide +kernel, by decide⟩
theorem my_X7_of : gw_my yX7_of cX7_of 2 (some .int) 2 := ⟨gw_T_at 1078 (by decide +kernel) rfl, gw_T_at 8 (by decide +kernel) rfl, by decide +kernel, by decide +kernel, by decide +kernel, by decide⟩
theorem my_X7_gives : gw_my yX7_gives cX7_gives 3 none 1 := ⟨gw_T_at 1082 (by decide +kernel) rfl, gw_T_at 8 (by decide +kernel) rfl, by decide +kernel, by decide +kernel, by decide +kernel, by decide⟩
theorem my_X7_errorOfCost : gw_my yX7_errorOfCost cX7_errorOfCost 3 (some .int) 2 := ⟨gw_T_at 1086 (by decide +kernel) rfl, gw_T_at 8 (by decide +kernel) rfl, by decide +kernel, by decide +kernel, by decide +kernel, by decide⟩
theorem my_X7_isWeek : gw_my yX7_isWeek cX7_isWeek 1 (some .boolean) 1 := ⟨gw_T_at 1089 (by decide +kernel) rfl, gw_T_at 8 (by decide +kernel) rfl, by decide +kernel, by decide +kernel, by decide +kernel, by decide⟩
theorem my_X7_becomes : gw_my yX7_becomes cX7_becomes 4 (some .int) 2 := ⟨gw_T_at 1093 (by decide +kernel) rfl, gw_T_at 8 (by decide +kernel) rfl, by decide +kernel, by decide +kernel, by decide +kernel, by decide⟩
theorem my_X7_areThere : gw_my yX7_areThere cX7_areThere 3 (some .boolean) 2 := ⟨gw_T_at 1097 (by decide +kernel) rfl, gw_T_at 8 (by decide +kernel) rfl, by decide +kernel, by decide +kernel, by decide +kernel, by decide⟩
theorem my_X7_isOwner : gw_my yX7_isOwner cX7_isOwner 2 (some .boolean) 1 := ⟨gw_T_at 1101 (by decide +kernel) rfl, gw_T_at 8 (by decide +kernel) rfl, by decide +kernel, by decide +kernel, by decide +kernel, by decide⟩
theorem my_X7_takes : gw_my yX7_takes cX7_takes 4 (some .int) 2 := ⟨gw_T_at 1105 (by decide +kernel) rfl, gw_T_at 8 (by decide +kernel) rfl, by decide +kernel, by decide +kernel, by decide +kernel, by decide⟩
theorem my_X7_hindrance : gw_my yX7_hindrance cX7_hindrance 3 (some .int) 2 := ⟨gw_T_at 1109 (by decide +kernel) rfl, gw_T_at 8 (by decide +kernel) rfl, by decide +kernel, by decide +kernel, by decide +kernel, by decide⟩
theorem my_X7_held : gw_my yX7_held cX7_held 4 (some .int) 1 := ⟨gw_T_at 1113 (by decide +kernel) rfl, gw_T_at 8 (by decide +kernel) rfl, by decide +kernel, by decide +kernel, by decide +kernel, by decide⟩
theorem my_X7_spends : gw_my yX7_spends cX7_spends 3 none 2 := ⟨gw_T_at 1117 (by decide +kernel) rfl, gw_T_at 8 (by decide +kernel) rfl, by decide +kernel, by decide +kernel, by decide +kernel, by decide⟩
theorem my_X7_errorOfBid : gw_my yX7_errorOfBid cX7_errorOfBid 4 (some .int) 3 := ⟨gw_T_at 1121 (by decide +kernel) rfl, gw_T_at 8 (by decide +kernel) rfl, by decide +kernel, by decide +kernel, by decide +kernel, by decide⟩
theorem my_X7_bids : gw_my yX7_bids cX7_bids 4 (some .int) 3 := ⟨gw_T_at 1125 (by decide +kernel) rfl, gw_T_at 8 (by decide +kernel) rfl, by decide +kernel, by decide +kernel, by decide +kernel, by decide⟩
theorem my_X7_ofBid : gw_my yX7_ofBid cX7_ofBid 2 (some .int) 2 := ⟨gw_T_at 1128 (by decide +kernel) rfl, gw_T_at 8 (by decide +kernel) rfl, by decide +kernel, by decide +kernel, by decide +kernel, by decide⟩
theorem my_X7_bidsFor : gw_my yX7_bidsFor cX7_bidsFor 4 (some .int) 1 := ⟨gw_T_at 1132 (by decide +kernel) rfl, gw_T_at 8 (by decide +kernel) rfl, by decide +kernel, by decide +kernel, by decide +kernel, by decide⟩
theorem my_X7_settles : gw_my yX7_settles cX7_settles 3 (some .int) 0 := ⟨gw_T_at 1136 (by decide +kernel) rfl, gw_T_at 8 (by decide +kernel) rfl, by decide +kernel, by decide +kernel, by decide +kernel, by decide⟩
theorem my_X7_settlesOne : gw_my yX7_settlesOne cX7_settlesOne 6 (some .int) 1 := ⟨gw_T_at 1140 (by decide +kernel) rfl, gw_T_at 8 (by decide +kernel) rfl, by decide +kernel, by decide +kernel, by decide +kernel, by decide⟩
theorem my_X7_canWin : gw_my yX7_canWin cX7_canWin 4 (some .boolean) 2 := ⟨gw_T_at 1144 (by decide +kernel) rfl, gw_T_at 8 (by decide +kernel) rfl, by decide +kernel, by decide +kernel, by decide +kernel, by decide⟩
theorem my_X7_isBetter : gw_my yX7_isBetter cX7_isBetter 5 (some .boolean) 3 := ⟨gw_T_at 1148 (by decide +kernel) rfl, gw_T_at 8 (by decide +kernel) rfl, by decide +kernel, by decide +kernel, by decide +kernel, by decide⟩
theorem my_X7_noBids : gw_my yX7_noBids cX7_noBids 2 none 0 := ⟨gw_T_at 1152 (by decide +kernel) rfl, gw_T_at 8 (by decide +kernel) rfl, by decide +kernel, by decide +kernel, by decide +kernel, by decide⟩
theorem my_X7_errorOfRelease : gw_my yX7_errorOfRelease cX7_errorOfRelease 3 (some .int) 2 := ⟨gw_T_at 1156 (by decide +kernel) rfl, gw_T_at 8 (by decide +kernel) rfl, by decide +kernel, by decide +kernel, by decide +kernel, by decide⟩
theorem my_X7_releases : gw_my yX7_releases cX7_releases 4 (some .int) 2 := ⟨gw_T_at 1160 (by decide +kernel) rfl, gw_T_at 8 (by decide +kernel) rfl, by decide +kernel, by decide +kernel, by decide +kernel, by decide⟩
theorem my_X7_errorOfOffer : gw_my yX7_errorOfOffer cX7_errorOfOffer 5 (some .int) 3 := ⟨gw_T_at 1164 (by decide +kernel) rfl, gw_T_at 8 (by decide +kernel) rfl, by decide +kernel, by decide +kernel, by decide +kernel, by decide⟩
theorem my_X7_offers : gw_my yX7_offers cX7_offers 5 (some .int) 3 := ⟨gw_T_at 1168 (by decide +kernel) rfl, gw_T_at 8 (by decide +kernel) rfl, by decide +kernel, by decide +kernel, by decide +kernel, by decide⟩
theorem my_X7_ofOffer : gw_my yX7_ofOffer cX7_ofOffer 2 (some .int) 2 := ⟨gw_T_at 1171 (by decide +kernel) rfl, gw_T_at 8 (by decide +kernel) rfl, by decide +kernel, by decide +kernel, by decide +kernel, by decide⟩
theorem my_X7_isOffer : gw_my yX7_isOffer cX7_isOffer 2 (some .boolean) 1 := ⟨gw_T_at 1175 (by decide +kernel) rfl, gw_T_at 8 (by decide +kernel) rfl, by decide +kernel, by decide +kernel, by decide +kernel, by decide⟩
theorem my_X7_accepts : gw_my yX7_accepts cX7_accepts 6 (some .int) 1 := ⟨gw_T_at 1179 (by decide +kernel) rfl, gw_T_at 8 (by decide +kernel) rfl, by decide +kernel, by decide +kernel, by decide +kernel, by decide⟩
theorem my_X7_isVoid : gw_my yX7_isVoid cX7_isVoid 4 (some .boolean) 1 := ⟨gw_T_at 1183 (by decide +kernel) rfl, gw_T_at 8 (by decide +kernel) rfl, by decide +kernel, by decide +kernel, by decide +kernel, by decide⟩
theorem my_X7_errorOfUpkeep : gw_my yX7_errorOfUpkeep cX7_errorOfUpkeep 2 (some .int) 1 := ⟨gw_T_at 1187 (by decide +kernel) rfl, gw_T_at 8 (by decide +kernel) rfl, by decide +kernel, by decide +kernel, by decide +kernel, by decide⟩
theorem my_X7_parts : gw_my yX7_parts cX7_parts 5 (some .int) 1 := ⟨gw_T_at 1191 (by decide +kernel) rfl, gw_T_at 8 (by decide +kernel) rfl, by decide +kernel, by decide +kernel, by decide +kernel, by decide⟩
theorem my_X7_partOf : gw_my yX7_partOf cX7_partOf 9 (some .int) 2 := ⟨gw_T_at 1195 (by decide +kernel) rfl, gw_T_at 8 (by decide +kernel) rfl, by decide +kernel, by decide +kernel, by decide +kernel, by decide⟩
theorem my_X7_shares : gw_my yX7_shares cX7_shares 3 (some .int) 0 := ⟨gw_T_at 1199 (by decide +kernel) rfl, gw_T_at 8 (by decide +kernel) rfl, by decide +kernel, by decide +kernel, by decide +kernel, by decide⟩
theorem my_X7_goesOn : gw_my yX7_goesOn cX7_goesOn 4 (some .int) 0 := ⟨gw_T_at 1203 (by decide +kernel) rfl, gw_T_at 8 (by decide +kernel) rfl, by decide +kernel, by decide +kernel, by decide +kernel, by decide⟩
theorem my_X7_load : gw_my yX7_load cX7_load 2 (some .int) 0 := ⟨gw_T_at 1207 (by decide +kernel) rfl, gw_T_at 8 (by decide +kernel) rfl, by decide +kernel, by decide +kernel, by decide +kernel, by decide⟩
theorem my_X7_about : gw_my yX7_about cX7_about 2 (some .int) 1 := ⟨gw_T_at 1211 (by decide +kernel) rfl, gw_T_at 8 (by decide +kernel) rfl, by decide +kernel, by decide +kernel, by decide +kernel, by decide⟩
theorem my_X7_told : gw_my yX7_told cX7_told 2 (some .int) 1 := ⟨gw_T_at 1215 (by decide +kernel) rfl, gw_T_at 8 (by decide +kernel) rfl, by decide +kernel, by decide +kernel, by decide +kernel, by decide⟩
theorem my_X7_points : gw_my yX7_points cX7_points 3 (some .int) 0 := ⟨gw_T_at 1219 (by decide +kernel) rfl, gw_T_at 8 (by decide +kernel) rfl, by decide +kernel, by decide +kernel, by decide +kernel, by decide⟩
theorem my_X7_allBids : gw_my yX7_allBids cX7_allBids 3 (some .int) 0 := ⟨gw_T_at 1223 (by decide +kernel) rfl, gw_T_at 8 (by decide +kernel) rfl, by decide +kernel, by decide +kernel, by decide +kernel, by decide⟩
theorem my_X7_ownerOf : gw_my yX7_ownerOf cX7_ownerOf 3 (some .int) 2 := ⟨gw_T_at 1227 (by decide +kernel) rfl, gw_T_at 8 (by decide +kernel) rfl, by decide +kernel, by decide +kernel, by decide +kernel, by decide⟩
theorem my_X7_ofOwner : gw_my yX7_ofOwner cX7_ofOwner 3 (some .int) 2 := ⟨gw_T_at 1231 (by decide +kernel) rfl, gw_T_at 8 (by decide +kernel) rfl, by decide +kernel, by decide +kernel, by decide +kernel, by decide⟩
theorem my_X7_lowestOf : gw_my yX7_lowestOf cX7_lowestOf 4 (some .int) 1 := ⟨gw_T_at 1235 (by decide +kernel) rfl, gw_T_at 8 (by decide +kernel) rfl, by decide +kernel, by decide +kernel, by decide +kernel, by decide⟩
theorem my_X7_bidsOf : gw_my yX7_bidsOf cX7_bidsOf 4 (some .int) 1 := ⟨gw_T_at 1239 (by decide +kernel) rfl, gw_T_at 8 (by decide +kernel) rfl, by decide +kernel, by decide +kernel, by decide +kernel, by decide⟩
theorem my_X7_weekOf : gw_my yX7_weekOf cX7_weekOf 3 (some .int) 2 := ⟨gw_T_at 1243 (by decide +kernel) rfl, gw_T_at 8 (by decide +kernel) rfl, by decide +kernel, by decide +kernel, by decide +kernel, by decide⟩
theorem my_X7_greatestFor : gw_my yX7_greatestFor cX7_greatestFor 4 (some .int) 1 := ⟨gw_T_at 1247 (by decide +kernel) rfl, gw_T_at 8 (by decide +kernel) rfl, by decide +kernel, by decide +kernel, by decide +kernel, by decide⟩
theorem my_X7_bidOf : gw_my yX7_bidOf cX7_bidOf 3 (some .int) 2 := ⟨gw_T_at 1251 (by decide +kernel) rfl, gw_T_at 8 (by decide +kernel) rfl, by decide +kernel, by decide +kernel, by decide +kernel, by decide⟩
theorem my_X7_offerOf : gw_my yX7_offerOf cX7_offerOf 3 (some .int) 2 := ⟨gw_T_at 1255 (by decide +kernel) rfl, gw_T_at 8 (by decide +kernel) rfl, by decide +kernel, by decide +kernel, by decide +kernel, by decide⟩
theorem my_X7_owner : gw_my yX7_owner cX7_owner 2 (some .int) 1 := ⟨gw_T_at 1259 (by decide +kernel) rfl, gw_T_at 8 (by decide +kernel) rfl, by decide +kernel, by decide +kernel, by decide +kernel, by decide⟩
theorem my_X7_acts : gw_my yX7_acts cX7_acts 5 (some .int) 4 := ⟨gw_T_at 1263 (by decide +kernel) rfl, gw_T_at 8 (by decide +kernel) rfl, by decide +kernel, by decide +kernel, by decide +kernel, by decide⟩
theorem my_X7_remember : gw_my yX7_remember cX7_remember 2 none 0 := ⟨gw_T_at 1267 (by decide +kernel) rfl, gw_T_at 8 (by decide +kernel) rfl, by decide +kernel, by decide +kernel, by decide +kernel, by decide⟩
theorem my_X7_cost : gw_my yX7_cost cX7_cost 3 (some .int) 2 := ⟨gw_T_at 1271 (by decide +kernel) rfl, gw_T_at 8 (by decide +kernel) rfl, by decide +kernel, by decide +kernel, by decide +kernel, by decide⟩
theorem my_X7_school : gw_my yX7_school cX7_school 4 (some .int) 2 := ⟨gw_T_at 1275 (by decide +kernel) rfl, gw_T_at 8 (by decide +kernel) rfl, by decide +kernel, by decide +kernel, by decide +kernel, by decide⟩
theorem my_X7_schools : gw_my yX7_schools cX7_schools 3 (some .int) 0 := ⟨gw_T_at 1279 (by decide +kernel) rfl, gw_T_at 8 (by decide +kernel) rfl, by decide +kernel, by decide +kernel, by decide +kernel, by decide⟩
theorem my_X7_take : gw_my yX7_take cX7_take 4 (some .int) 2 := ⟨gw_T_at 1283 (by decide +kernel) rfl, gw_T_at 8 (by decide +kernel) rfl, by decide +kernel, by decide +kernel, by decide +kernel, by decide⟩
theorem my_X7_release : gw_my yX7_release cX7_release 3 (some .int) 2 := ⟨gw_T_at 1287 (by decide +kernel) rfl, gw_T_at 8 (by decide +kernel) rfl, by decide +kernel, by decide +kernel, by decide +kernel, by decide⟩
theorem my_X7_bid : gw_my yX7_bid cX7_bid 4 (some .int) 3 := ⟨gw_T_at 1291 (by decide +kernel) rfl, gw_T_at 8 (by decide +kernel) rfl, by decide +kernel, by decide +kernel, by decide +kernel, by decide⟩
theorem my_X7_settle : gw_my yX7_settle cX7_settle 1 (some .int) 0 := ⟨gw_T_at 1295 (by decide +kernel) rfl, gw_T_at 8 (by decide +kernel) rfl, by decide +kernel, by decide +kernel, by decide +kernel, by decide⟩
theorem my_X7_offer : gw_my yX7_offer cX7_offer 4 (some .int) 3 := ⟨gw_T_at 1299 (by decide +kernel) rfl, gw_T_at 8 (by decide +kernel) rfl, by decide +kernel, by decide +kernel, by decide +kernel, by decide⟩
theorem my_X7_accept : gw_my yX7_accept cX7_accept 2 (some .int) 1 := ⟨gw_T_at 1303 (by decide +kernel) rfl, gw_T_at 8 (by decide +kernel) rfl, by decide +kernel, by decide +kernel, by decide +kernel, by decide⟩
theorem my_X7_upkeep : gw_my yX7_upkeep cX7_upkeep 2 (some .int) 1 := ⟨gw_T_at 1307 (by decide +kernel) rfl, gw_T_at 8 (by decide +kernel) rfl, by decide +kernel, by decide +kernel, by decide +kernel, by decide⟩
theorem my_X7_year : gw_my yX7_year cX7_year 1 (some .int) 0 := ⟨gw_T_at 1311 (by decide +kernel) rfl, gw_T_at 8 (by decide +kernel) rfl, by decide +kernel, by decide +kernel, by decide +kernel, by decide⟩
theorem my_X7_set : gw_my yX7_set cX7_set 3 (some .int) 2 := ⟨gw_T_at 1315 (by decide +kernel) rfl, gw_T_at 8 (by decide +kernel) rfl, by decide +kernel, by decide +kernel, by decide +kernel, by decide⟩
theorem my_X7_isSetting : gw_my yX7_isSetting cX7_isSetting 2 (some .boolean) 2 := ⟨gw_T_at 1318 (by decide +kernel) rfl, gw_T_at 8 (by decide +kernel) rfl, by decide +kernel, by decide +kernel, by decide +kernel, by decide⟩
theorem my_X7_undo : gw_my yX7_undo cX7_undo 2 (some .int) 0 := ⟨gw_T_at 1322 (by decide +kernel) rfl, gw_T_at 8 (by decide +kernel) rfl, by decide +kernel, by decide +kernel, by decide +kernel, by decide⟩
theorem my_X7_why : gw_my yX7_why cX7_why 3 (some .int) 2 := ⟨gw_T_at 1326 (by decide +kernel) rfl, gw_T_at 8 (by decide +kernel) rfl, by decide +kernel, by decide +kernel, by decide +kernel, by decide⟩
theorem my_X7_could : gw_my yX7_could cX7_could 2 (some .int) 1 := ⟨gw_T_at 1330 (by decide +kernel) rfl, gw_T_at 8 (by decide +kernel) rfl, by decide +kernel, by decide +kernel, by decide +kernel, by decide⟩
theorem my_X7_mostAtOnce : gw_my yX7_mostAtOnce cX7_mostAtOnce 5 (some .int) 0 := ⟨gw_T_at 1334 (by decide +kernel) rfl, gw_T_at 8 (by decide +kernel) rfl, by decide +kernel, by decide +kernel, by decide +kernel, by decide⟩
theorem my_X7_winner : gw_my yX7_winner cX7_winner 2 (some .int) 1 := ⟨gw_T_at 1338 (by decide +kernel) rfl, gw_T_at 8 (by decide +kernel) rfl, by decide +kernel, by decide +kernel, by decide +kernel, by decide⟩
theorem my_X7_wouldWin : gw_my yX7_wouldWin cX7_wouldWin 4 (some .int) 1 := ⟨gw_T_at 1342 (by decide +kernel) rfl, gw_T_at 8 (by decide +kernel) rfl, by decide +kernel, by decide +kernel, by decide +kernel, by decide⟩
theorem my_X7_putAside : gw_my yX7_putAside cX7_putAside 2 none 0 := ⟨gw_T_at 1346 (by decide +kernel) rfl, gw_T_at 8 (by decide +kernel) rfl, by decide +kernel, by decide +kernel, by decide +kernel, by decide⟩
theorem my_X7_putBack : gw_my yX7_putBack cX7_putBack 2 none 0 := ⟨gw_T_at 1350 (by decide +kernel) rfl, gw_T_at 8 (by decide +kernel) rfl, by decide +kernel, by decide +kernel, by decide +kernel, by decide⟩
theorem my_X7_leastBid : gw_my yX7_leastBid cX7_leastBid 3 (some .int) 2 := ⟨gw_T_at 1354 (by decide +kernel) rfl, gw_T_at 8 (by decide +kernel) rfl, by decide +kernel, by decide +kernel, by decide +kernel, by decide⟩
theorem my_X7_leastFor : gw_my yX7_leastFor cX7_leastFor 6 (some .int) 2 := ⟨gw_T_at 1358 (by decide +kernel) rfl, gw_T_at 8 (by decide +kernel) rfl, by decide +kernel, by decide +kernel, by decide +kernel, by decide⟩
theorem my_X7_ifUpkeep : gw_my yX7_ifUpkeep cX7_ifUpkeep 3 (some .int) 2 := ⟨gw_T_at 1362 (by decide +kernel) rfl, gw_T_at 8 (by decide +kernel) rfl, by decide +kernel, by decide +kernel, by decide +kernel, by decide⟩
theorem my_X7_runScript : gw_my yX7_runScript cX7_runScript 6 (some .int) 2 := ⟨gw_T_at 1366 (by decide +kernel) rfl, gw_T_at 8 (by decide +kernel) rfl, by decide +kernel, by decide +kernel, by decide +kernel, by decide⟩
theorem my_X7_runs : gw_my yX7_runs cX7_runs 9 (some .int) 2 := ⟨gw_T_at 1373 (by decide +kernel) rfl, gw_T_at 8 (by decide +kernel) rfl, by decide +kernel, by decide +kernel, by decide +kernel, by decide⟩
theorem my_X7_succeeds : gw_my yX7_succeeds cX7_succeeds 2 (some .boolean) 1 := ⟨gw_T_at 1377 (by decide +kernel) rfl, gw_T_at 8 (by decide +kernel) rfl, by decide +kernel, by decide +kernel, by decide +kernel, by decide⟩
theorem my_X7_digits : gw_my yX7_digits cX7_digits 3 (some .int) 3 := ⟨gw_T_at 1380 (by decide +kernel) rfl, gw_T_at 8 (by decide +kernel) rfl, by decide +kernel, by decide +kernel, by decide +kernel, by decide⟩
theorem my_X7_simulate : gw_my yX7_simulate cX7_simulate 4 (some .int) 2 := ⟨gw_T_at 1386 (by decide +kernel) rfl, gw_T_at 8 (by decide +kernel) rfl, by decide +kernel, by decide +kernel, by decide +kernel, by decide⟩
theorem my_X7_simulates : gw_my yX7_simulates cX7_simulates 8 (some .int) 2 := ⟨gw_T_at 1390 (by decide +kernel) rfl, gw_T_at 8 (by decide +kernel) rfl, by decide +kernel, by decide +kernel, by decide +kernel, by decide⟩
theorem my_X7_turns : gw_my yX7_turns cX7_turns 3 (some .int) 1 := ⟨gw_T_at 1396 (by decide +kernel) rfl, gw_T_at 8 (by decide +kernel) rfl, by decide +kernel, by decide +kernel, by decide +kernel, by decide⟩
theorem my_X7_save : gw_my yX7_save cX7_save 3 (some .int) 1 := ⟨gw_T_at 1400 (by decide +kernel) rfl, gw_T_at 8 (by decide +kernel) rfl, by decide +kernel, by decide +kernel, by decide +kernel, by decide⟩
theorem my_X7_restore : gw_my yX7_restore cX7_restore 3 (some .int) 1 := ⟨gw_T_at 1404 (by decide +kernel) rfl, gw_T_at 8 (by decide +kernel) rfl, by decide +kernel, by decide +kernel, by decide +kernel, by decide⟩
theorem vi_X1_52 : gw_vi RX1 52 yX1_clear := ⟨gw_T_at 38 (by decide +kernel) rfl, gw_T_at 39 (by decide +kernel) rfl, gw_T_at 40 (by decide +kernel) rfl⟩
theorem si_X1_64 : gw_si RX1 64 yJ7_fill_53178 := ⟨gw_T_at 47 (by decide +kernel) rfl, gw_T_at 48 (by decide +kernel) rfl⟩
theorem vi_L_116 : gw_vi RL 116 yX6_clearText := ⟨gw_T_at 196 (by decide +kernel) rfl, gw_T_at 197 (by decide +kernel) rfl, gw_T_at 198 (by decide +kernel) rfl⟩
theorem vi_X6_67 : gw_vi RX6 67 yX5_empty := ⟨gw_T_at 200 (by decide +kernel) rfl, gw_T_at 201 (by decide +kernel) rfl, gw_T_at 202 (by decide +kernel) rfl⟩
theorem vi_L_120 : gw_vi RL 120 yX6_errorPosition := ⟨gw_T_at 204 (by decide +kernel) rfl, gw_T_at 205 (by decide +kernel) rfl, gw_T_at 206 (by decide +kernel) rfl⟩
theorem vi_X6_71 : gw_vi RX6 71 yX5_findError := ⟨gw_T_at 208 (by decide +kernel) rfl, gw_T_at 209 (by decide +kernel) rfl, gw_T_at 210 (by decide +kernel) rfl⟩
theorem vi_X5_27 : gw_vi RX5 27 yX5_startReading := ⟨gw_T_at 212 (by decide +kernel) rfl, gw_T_at 214 (by decide +kernel) rfl, gw_T_of (List.mem_append_left _ (List.mem_of_getElem? (i := 0) (by decide +kernel))) rfl⟩
theorem vi_X5_48 : gw_vi RX5 48 yX5_nextSign := ⟨gw_T_at 216 (by decide +kernel) rfl, gw_T_at 218 (by decide +kernel) rfl, gw_T_of (List.mem_append_left _ (List.mem_of_getElem? (i := 1) (by decide +kernel))) rfl⟩
theorem vi_X5_30 : gw_vi RX5 30 yX5_hasMore := ⟨gw_T_at 220 (by decide +kernel) rfl, gw_T_at 222 (by decide +kernel) rfl, gw_T_of (List.mem_append_left _ (List.mem_of_getElem? (i := 2) (by decide +kernel))) rfl⟩
theorem vi_X5_33 : gw_vi RX5 33 yX5_readCommand := ⟨gw_T_at 224 (by decide +kernel) rfl, gw_T_at 226 (by decide +kernel) rfl, gw_T_of (List.mem_append_left _ (List.mem_of_getElem? (i := 3) (by decide +kernel))) rfl⟩
theorem vi_X5_56 : gw_vi RX5 56 yJ0_indexOf_0f7a4 := ⟨gw_T_at 229 (by decide +kernel) rfl, gw_T_at 230 (by decide +kernel) rfl, gw_T_at 231 (by decide +kernel) rfl⟩
theorem vi_J0_633 : gw_vi RJ0 633 yJ0_indexOf_7cf53 := ⟨gw_T_at 233 (by decide +kernel) rfl, gw_T_at 234 (by decide +kernel) rfl, gw_T_at 235 (by decide +kernel) rfl⟩
theorem vi_J0_492 : gw_vi RJ0 492 yJ0_isLatin1_aae02 := ⟨gw_T_at 237 (by decide +kernel) rfl, gw_T_at 238 (by decide +kernel) rfl, gw_T_at 239 (by decide +kernel) rfl⟩
theorem si_J0_637 : gw_si RJ0 637 yJ1_indexOf_4cfef := ⟨gw_T_at 251 (by decide +kernel) rfl, gw_T_at 252 (by decide +kernel) rfl⟩
theorem si_J1_88 : gw_si RJ1 88 yJ1_canEncode_9a6ad := ⟨gw_T_at 254 (by decide +kernel) rfl, gw_T_at 255 (by decide +kernel) rfl⟩
theorem si_J1_92 : gw_si RJ1 92 yJ9_max_7cf53 := ⟨gw_T_at 257 (by decide +kernel) rfl, gw_T_at 258 (by decide +kernel) rfl⟩
theorem si_J0_640 : gw_si RJ0 640 yJ2_indexOf_4cfef := ⟨gw_T_at 266 (by decide +kernel) rfl, gw_T_at 267 (by decide +kernel) rfl⟩
theorem si_J2_224 : gw_si RJ2 224 yJ9_max_7cf53 := ⟨gw_T_at 269 (by decide +kernel) rfl, gw_T_at 258 (by decide +kernel) rfl⟩
theorem vi_X5_62 : gw_vi RX5 62 yX5_readValues := ⟨gw_T_at 315 (by decide +kernel) rfl, gw_T_at 317 (by decide +kernel) rfl, gw_T_of (List.mem_append_left _ (List.mem_of_getElem? (i := 4) (by decide +kernel))) rfl⟩
theorem vi_X5_66 : gw_vi RX5 66 yX5_readNumber := ⟨gw_T_at 319 (by decide +kernel) rfl, gw_T_at 321 (by decide +kernel) rfl, gw_T_of (List.mem_append_left _ (List.mem_of_getElem? (i := 5) (by decide +kernel))) rfl⟩
theorem vi_X5_79 : gw_vi RX5 79 yX5_keepValue := ⟨gw_T_at 323 (by decide +kernel) rfl, gw_T_at 325 (by decide +kernel) rfl, gw_T_of (List.mem_append_left _ (List.mem_of_getElem? (i := 6) (by decide +kernel))) rfl⟩
theorem vi_X5_70 : gw_vi RX5 70 yX5_readWeek := ⟨gw_T_at 327 (by decide +kernel) rfl, gw_T_at 329 (by decide +kernel) rfl, gw_T_of (List.mem_append_left _ (List.mem_of_getElem? (i := 7) (by decide +kernel))) rfl⟩
theorem vi_X5_73 : gw_vi RX5 73 yX5_readPlusOrMinus := ⟨gw_T_at 331 (by decide +kernel) rfl, gw_T_at 333 (by decide +kernel) rfl, gw_T_of (List.mem_append_left _ (List.mem_of_getElem? (i := 8) (by decide +kernel))) rfl⟩
theorem vi_X5_76 : gw_vi RX5 76 yX5_readOwner := ⟨gw_T_at 335 (by decide +kernel) rfl, gw_T_at 337 (by decide +kernel) rfl, gw_T_of (List.mem_append_left _ (List.mem_of_getElem? (i := 9) (by decide +kernel))) rfl⟩
theorem vi_L_164 : gw_vi RL 164 yX6_settle := ⟨gw_T_at 340 (by decide +kernel) rfl, gw_T_at 341 (by decide +kernel) rfl, gw_T_at 342 (by decide +kernel) rfl⟩
theorem vi_X6_183 : gw_vi RX6 183 yX0_remember := ⟨gw_T_at 344 (by decide +kernel) rfl, gw_T_at 345 (by decide +kernel) rfl, gw_T_at 346 (by decide +kernel) rfl⟩
theorem vi_X0_25 : gw_vi RX0 25 yX1_copyFrom := ⟨gw_T_at 348 (by decide +kernel) rfl, gw_T_at 349 (by decide +kernel) rfl, gw_T_at 350 (by decide +kernel) rfl⟩
theorem vi_X6_219 : gw_vi RX6 219 yX1_settleBids := ⟨gw_T_at 352 (by decide +kernel) rfl, gw_T_at 353 (by decide +kernel) rfl, gw_T_at 354 (by decide +kernel) rfl⟩
theorem vi_X1_124 : gw_vi RX1 124 yX1_settleWeek := ⟨gw_T_at 356 (by decide +kernel) rfl, gw_T_at 357 (by decide +kernel) rfl, gw_T_at 358 (by decide +kernel) rfl⟩
theorem vi_X1_127 : gw_vi RX1 127 yX1_bestBidder := ⟨gw_T_at 360 (by decide +kernel) rfl, gw_T_at 361 (by decide +kernel) rfl, gw_T_at 362 (by decide +kernel) rfl⟩
theorem vi_X1_118 : gw_vi RX1 118 yX1_isOpenForBids := ⟨gw_T_at 364 (by decide +kernel) rfl, gw_T_at 365 (by decide +kernel) rfl, gw_T_at 366 (by decide +kernel) rfl⟩
theorem vi_X1_84 : gw_vi RX1 84 yX1_hasWeek := ⟨gw_T_at 368 (by decide +kernel) rfl, gw_T_at 369 (by decide +kernel) rfl, gw_T_at 370 (by decide +kernel) rfl⟩
theorem vi_X1_130 : gw_vi RX1 130 yX1_canWin := ⟨gw_T_at 372 (by decide +kernel) rfl, gw_T_at 374 (by decide +kernel) rfl, gw_T_of (List.mem_append_left _ (List.mem_of_getElem? (i := 10) (by decide +kernel))) rfl⟩
theorem vi_X1_87 : gw_vi RX1 87 yX1_extraOf := ⟨gw_T_at 376 (by decide +kernel) rfl, gw_T_at 377 (by decide +kernel) rfl, gw_T_at 378 (by decide +kernel) rfl⟩
theorem vi_X1_104 : gw_vi RX1 104 yX1_weeksHeldBy := ⟨gw_T_at 380 (by decide +kernel) rfl, gw_T_at 381 (by decide +kernel) rfl, gw_T_at 382 (by decide +kernel) rfl⟩
theorem vi_X1_133 : gw_vi RX1 133 yX1_isAhead := ⟨gw_T_at 384 (by decide +kernel) rfl, gw_T_at 386 (by decide +kernel) rfl, gw_T_of (List.mem_append_left _ (List.mem_of_getElem? (i := 11) (by decide +kernel))) rfl⟩
theorem vi_X1_80 : gw_vi RX1 80 yX1_hasOwner := ⟨gw_T_at 388 (by decide +kernel) rfl, gw_T_at 389 (by decide +kernel) rfl, gw_T_at 390 (by decide +kernel) rfl⟩
theorem vi_X1_110 : gw_vi RX1 110 yX1_spendPoints := ⟨gw_T_at 392 (by decide +kernel) rfl, gw_T_at 394 (by decide +kernel) rfl, gw_T_of (List.mem_append_left _ (List.mem_of_getElem? (i := 12) (by decide +kernel))) rfl⟩
theorem vi_L_177 : gw_vi RL 177 yX6_year := ⟨gw_T_at 396 (by decide +kernel) rfl, gw_T_at 397 (by decide +kernel) rfl, gw_T_at 398 (by decide +kernel) rfl⟩
theorem vi_X6_238 : gw_vi RX6 238 yX1_beginYear := ⟨gw_T_at 400 (by decide +kernel) rfl, gw_T_at 401 (by decide +kernel) rfl, gw_T_at 402 (by decide +kernel) rfl⟩
theorem si_X1_95 : gw_si RX1 95 yJ9_max_7cf53 := ⟨gw_T_at 404 (by decide +kernel) rfl, gw_T_at 258 (by decide +kernel) rfl⟩
theorem vi_X1_100 : gw_vi RX1 100 yX1_givePoints := ⟨gw_T_at 405 (by decide +kernel) rfl, gw_T_at 407 (by decide +kernel) rfl, gw_T_of (List.mem_append_left _ (List.mem_of_getElem? (i := 13) (by decide +kernel))) rfl⟩
theorem si_L_107 : gw_si RL 107 yL_append := ⟨gw_T_at 409 (by decide +kernel) rfl, gw_T_at 410 (by decide +kernel) rfl⟩
theorem vi_L_7 : gw_vi RL 7 yX6_append := ⟨gw_T_at 414 (by decide +kernel) rfl, gw_T_at 415 (by decide +kernel) rfl, gw_T_at 416 (by decide +kernel) rfl⟩
theorem vi_X6_48 : gw_vi RX6 48 yX6_needRange := ⟨gw_T_at 418 (by decide +kernel) rfl, gw_T_at 420 (by decide +kernel) rfl, gw_T_of (List.mem_append_left _ (List.mem_of_getElem? (i := 14) (by decide +kernel))) rfl⟩
theorem vi_X6_52 : gw_vi RX6 52 yX5_isFull := ⟨gw_T_at 489 (by decide +kernel) rfl, gw_T_at 490 (by decide +kernel) rfl, gw_T_at 491 (by decide +kernel) rfl⟩
theorem vi_X6_63 : gw_vi RX6 63 yX5_add := ⟨gw_T_at 509 (by decide +kernel) rfl, gw_T_at 510 (by decide +kernel) rfl, gw_T_at 511 (by decide +kernel) rfl⟩
theorem vi_X5_23 : gw_vi RX5 23 yX5_isFull := ⟨gw_T_at 513 (by decide +kernel) rfl, gw_T_at 490 (by decide +kernel) rfl, gw_T_at 491 (by decide +kernel) rfl⟩
theorem si_L_124 : gw_si RL 124 yL_load := ⟨gw_T_at 514 (by decide +kernel) rfl, gw_T_at 515 (by decide +kernel) rfl⟩
theorem vi_L_17 : gw_vi RL 17 yX6_load := ⟨gw_T_at 517 (by decide +kernel) rfl, gw_T_at 518 (by decide +kernel) rfl, gw_T_at 519 (by decide +kernel) rfl⟩
theorem vi_X6_76 : gw_vi RX6 76 yX1_clear := ⟨gw_T_at 522 (by decide +kernel) rfl, gw_T_at 39 (by decide +kernel) rfl, gw_T_at 40 (by decide +kernel) rfl⟩
theorem vi_X6_79 : gw_vi RX6 79 yX0_forget := ⟨gw_T_at 523 (by decide +kernel) rfl, gw_T_at 524 (by decide +kernel) rfl, gw_T_at 525 (by decide +kernel) rfl⟩
theorem vi_X6_82 : gw_vi RX6 82 yX5_build := ⟨gw_T_at 527 (by decide +kernel) rfl, gw_T_at 528 (by decide +kernel) rfl, gw_T_at 529 (by decide +kernel) rfl⟩
theorem vi_X5_44 : gw_vi RX5 44 yX5_isDone := ⟨gw_T_at 531 (by decide +kernel) rfl, gw_T_at 533 (by decide +kernel) rfl, gw_T_of (List.mem_append_left _ (List.mem_of_getElem? (i := 16) (by decide +kernel))) rfl⟩
theorem vi_X5_82 : gw_vi RX5 82 yX1_addOwner := ⟨gw_T_at 535 (by decide +kernel) rfl, gw_T_at 536 (by decide +kernel) rfl, gw_T_at 537 (by decide +kernel) rfl⟩
theorem vi_X5_87 : gw_vi RX5 87 yX1_changeCost := ⟨gw_T_at 539 (by decide +kernel) rfl, gw_T_at 540 (by decide +kernel) rfl, gw_T_at 541 (by decide +kernel) rfl⟩
theorem vi_X5_91 : gw_vi RX5 91 yX1_markSchool := ⟨gw_T_at 543 (by decide +kernel) rfl, gw_T_at 544 (by decide +kernel) rfl, gw_T_at 545 (by decide +kernel) rfl⟩
theorem vi_X5_95 : gw_vi RX5 95 yX1_reasonAgainst := ⟨gw_T_at 547 (by decide +kernel) rfl, gw_T_at 548 (by decide +kernel) rfl, gw_T_at 549 (by decide +kernel) rfl⟩
theorem vi_X5_98 : gw_vi RX5 98 yX1_takeWeek := ⟨gw_T_at 551 (by decide +kernel) rfl, gw_T_at 552 (by decide +kernel) rfl, gw_T_at 553 (by decide +kernel) rfl⟩
theorem vi_X1_107 : gw_vi RX1 107 yX1_reasonAgainst := ⟨gw_T_at 555 (by decide +kernel) rfl, gw_T_at 548 (by decide +kernel) rfl, gw_T_at 549 (by decide +kernel) rfl⟩
theorem vi_X5_101 : gw_vi RX5 101 yX1_placeBid := ⟨gw_T_at 556 (by decide +kernel) rfl, gw_T_at 557 (by decide +kernel) rfl, gw_T_at 558 (by decide +kernel) rfl⟩
theorem vi_X1_121 : gw_vi RX1 121 yX1_bidsFor := ⟨gw_T_at 560 (by decide +kernel) rfl, gw_T_at 561 (by decide +kernel) rfl, gw_T_at 562 (by decide +kernel) rfl⟩
theorem vi_X5_105 : gw_vi RX5 105 yX1_settleBids := ⟨gw_T_at 564 (by decide +kernel) rfl, gw_T_at 353 (by decide +kernel) rfl, gw_T_at 354 (by decide +kernel) rfl⟩
theorem vi_X5_108 : gw_vi RX5 108 yX1_giveBack := ⟨gw_T_at 565 (by decide +kernel) rfl, gw_T_at 566 (by decide +kernel) rfl, gw_T_at 567 (by decide +kernel) rfl⟩
theorem vi_X1_114 : gw_vi RX1 114 yX1_holds := ⟨gw_T_at 569 (by decide +kernel) rfl, gw_T_at 570 (by decide +kernel) rfl, gw_T_at 571 (by decide +kernel) rfl⟩
theorem vi_X5_111 : gw_vi RX5 111 yX1_placeOffer := ⟨gw_T_at 573 (by decide +kernel) rfl, gw_T_at 574 (by decide +kernel) rfl, gw_T_at 575 (by decide +kernel) rfl⟩
theorem vi_X1_140 : gw_vi RX1 140 yX1_canOffer := ⟨gw_T_at 577 (by decide +kernel) rfl, gw_T_at 578 (by decide +kernel) rfl, gw_T_at 579 (by decide +kernel) rfl⟩
theorem vi_X1_137 : gw_vi RX1 137 yX1_canSwap := ⟨gw_T_at 581 (by decide +kernel) rfl, gw_T_at 582 (by decide +kernel) rfl, gw_T_at 583 (by decide +kernel) rfl⟩
theorem vi_X5_114 : gw_vi RX5 114 yX1_acceptOffer := ⟨gw_T_at 585 (by decide +kernel) rfl, gw_T_at 586 (by decide +kernel) rfl, gw_T_at 587 (by decide +kernel) rfl⟩
theorem vi_X1_143 : gw_vi RX1 143 yX1_hasOffer := ⟨gw_T_at 589 (by decide +kernel) rfl, gw_T_at 590 (by decide +kernel) rfl, gw_T_at 591 (by decide +kernel) rfl⟩
theorem vi_X1_146 : gw_vi RX1 146 yX1_dropOffer := ⟨gw_T_at 593 (by decide +kernel) rfl, gw_T_at 595 (by decide +kernel) rfl, gw_T_of (List.mem_append_left _ (List.mem_of_getElem? (i := 17) (by decide +kernel))) rfl⟩
theorem vi_X5_117 : gw_vi RX5 117 yX1_payUpkeep := ⟨gw_T_at 597 (by decide +kernel) rfl, gw_T_at 598 (by decide +kernel) rfl, gw_T_at 599 (by decide +kernel) rfl⟩
theorem vi_X1_149 : gw_vi RX1 149 yX1_partOf := ⟨gw_T_at 601 (by decide +kernel) rfl, gw_T_at 602 (by decide +kernel) rfl, gw_T_at 603 (by decide +kernel) rfl⟩
theorem vi_X1_152 : gw_vi RX1 152 yX1_sharesOfAll := ⟨gw_T_at 605 (by decide +kernel) rfl, gw_T_at 607 (by decide +kernel) rfl, gw_T_of (List.mem_append_left _ (List.mem_of_getElem? (i := 18) (by decide +kernel))) rfl⟩
theorem vi_X5_120 : gw_vi RX5 120 yX1_beginYear := ⟨gw_T_at 609 (by decide +kernel) rfl, gw_T_at 401 (by decide +kernel) rfl, gw_T_at 402 (by decide +kernel) rfl⟩
theorem si_L_128 : gw_si RL 128 yL_about := ⟨gw_T_at 610 (by decide +kernel) rfl, gw_T_at 611 (by decide +kernel) rfl⟩
theorem vi_L_21 : gw_vi RL 21 yX6_about := ⟨gw_T_at 613 (by decide +kernel) rfl, gw_T_at 614 (by decide +kernel) rfl, gw_T_at 615 (by decide +kernel) rfl⟩
theorem vi_X6_93 : gw_vi RX6 93 yX1_weeksHeldBy := ⟨gw_T_at 617 (by decide +kernel) rfl, gw_T_at 381 (by decide +kernel) rfl, gw_T_at 382 (by decide +kernel) rfl⟩
theorem vi_X6_101 : gw_vi RX6 101 yX1_pointsOfAll := ⟨gw_T_at 618 (by decide +kernel) rfl, gw_T_at 619 (by decide +kernel) rfl, gw_T_at 620 (by decide +kernel) rfl⟩
theorem vi_X6_104 : gw_vi RX6 104 yX1_bidsOfAll := ⟨gw_T_at 622 (by decide +kernel) rfl, gw_T_at 623 (by decide +kernel) rfl, gw_T_at 624 (by decide +kernel) rfl⟩
theorem vi_X1_91 : gw_vi RX1 91 yX1_bidsBy := ⟨gw_T_at 626 (by decide +kernel) rfl, gw_T_at 627 (by decide +kernel) rfl, gw_T_at 628 (by decide +kernel) rfl⟩
theorem si_L_131 : gw_si RL 131 yL_ownerOf := ⟨gw_T_at 631 (by decide +kernel) rfl, gw_T_at 632 (by decide +kernel) rfl⟩
theorem vi_L_24 : gw_vi RL 24 yX6_ownerOf := ⟨gw_T_at 635 (by decide +kernel) rfl, gw_T_at 636 (by decide +kernel) rfl, gw_T_at 637 (by decide +kernel) rfl⟩
theorem vi_X6_115 : gw_vi RX6 115 yX6_needOwner := ⟨gw_T_at 639 (by decide +kernel) rfl, gw_T_at 641 (by decide +kernel) rfl, gw_T_of (List.mem_append_left _ (List.mem_of_getElem? (i := 19) (by decide +kernel))) rfl⟩
theorem vi_X6_308 : gw_vi RX6 308 yX1_hasOwner := ⟨gw_T_at 643 (by decide +kernel) rfl, gw_T_at 389 (by decide +kernel) rfl, gw_T_at 390 (by decide +kernel) rfl⟩
theorem vi_X6_131 : gw_vi RX6 131 yX1_lowestWeekHeldBy := ⟨gw_T_at 660 (by decide +kernel) rfl, gw_T_at 661 (by decide +kernel) rfl, gw_T_at 662 (by decide +kernel) rfl⟩
theorem vi_X6_134 : gw_vi RX6 134 yX1_bidsBy := ⟨gw_T_at 664 (by decide +kernel) rfl, gw_T_at 627 (by decide +kernel) rfl, gw_T_at 628 (by decide +kernel) rfl⟩
theorem si_L_135 : gw_si RL 135 yL_weekOf := ⟨gw_T_at 666 (by decide +kernel) rfl, gw_T_at 667 (by decide +kernel) rfl⟩
theorem vi_L_30 : gw_vi RL 30 yX6_weekOf := ⟨gw_T_at 669 (by decide +kernel) rfl, gw_T_at 670 (by decide +kernel) rfl, gw_T_at 671 (by decide +kernel) rfl⟩
theorem vi_X6_139 : gw_vi RX6 139 yX6_needWeek := ⟨gw_T_at 673 (by decide +kernel) rfl, gw_T_at 675 (by decide +kernel) rfl, gw_T_of (List.mem_append_left _ (List.mem_of_getElem? (i := 20) (by decide +kernel))) rfl⟩
theorem vi_X6_316 : gw_vi RX6 316 yX1_hasWeek := ⟨gw_T_at 677 (by decide +kernel) rfl, gw_T_at 369 (by decide +kernel) rfl, gw_T_at 370 (by decide +kernel) rfl⟩
theorem vi_X6_151 : gw_vi RX6 151 yX1_bidsFor := ⟨gw_T_at 679 (by decide +kernel) rfl, gw_T_at 561 (by decide +kernel) rfl, gw_T_at 562 (by decide +kernel) rfl⟩
theorem vi_X6_154 : gw_vi RX6 154 yX1_greatestExtraFor := ⟨gw_T_at 680 (by decide +kernel) rfl, gw_T_at 681 (by decide +kernel) rfl, gw_T_at 682 (by decide +kernel) rfl⟩
theorem si_L_138 : gw_si RL 138 yL_bidOf := ⟨gw_T_at 685 (by decide +kernel) rfl, gw_T_at 686 (by decide +kernel) rfl⟩
theorem vi_L_33 : gw_vi RL 33 yX6_bidOf := ⟨gw_T_at 688 (by decide +kernel) rfl, gw_T_at 689 (by decide +kernel) rfl, gw_T_at 690 (by decide +kernel) rfl⟩
theorem vi_X6_159 : gw_vi RX6 159 yX1_extraOf := ⟨gw_T_at 692 (by decide +kernel) rfl, gw_T_at 377 (by decide +kernel) rfl, gw_T_at 378 (by decide +kernel) rfl⟩
theorem si_L_141 : gw_si RL 141 yL_offerOf := ⟨gw_T_at 693 (by decide +kernel) rfl, gw_T_at 694 (by decide +kernel) rfl⟩
theorem vi_L_36 : gw_vi RL 36 yX6_offerOf := ⟨gw_T_at 696 (by decide +kernel) rfl, gw_T_at 697 (by decide +kernel) rfl, gw_T_at 698 (by decide +kernel) rfl⟩
theorem vi_X6_163 : gw_vi RX6 163 yX6_needOffer := ⟨gw_T_at 700 (by decide +kernel) rfl, gw_T_at 702 (by decide +kernel) rfl, gw_T_of (List.mem_append_left _ (List.mem_of_getElem? (i := 21) (by decide +kernel))) rfl⟩
theorem vi_X6_321 : gw_vi RX6 321 yX1_hasOffer := ⟨gw_T_at 704 (by decide +kernel) rfl, gw_T_at 590 (by decide +kernel) rfl, gw_T_at 591 (by decide +kernel) rfl⟩
theorem vi_X6_175 : gw_vi RX6 175 yX1_canSwap := ⟨gw_T_at 706 (by decide +kernel) rfl, gw_T_at 582 (by decide +kernel) rfl, gw_T_at 583 (by decide +kernel) rfl⟩
theorem si_L_144 : gw_si RL 144 yL_owner := ⟨gw_T_at 708 (by decide +kernel) rfl, gw_T_at 709 (by decide +kernel) rfl⟩
theorem vi_L_39 : gw_vi RL 39 yX6_owner := ⟨gw_T_at 711 (by decide +kernel) rfl, gw_T_at 712 (by decide +kernel) rfl, gw_T_at 713 (by decide +kernel) rfl⟩
theorem vi_X6_187 : gw_vi RX6 187 yX1_addOwner := ⟨gw_T_at 716 (by decide +kernel) rfl, gw_T_at 536 (by decide +kernel) rfl, gw_T_at 537 (by decide +kernel) rfl⟩
theorem si_L_147 : gw_si RL 147 yL_cost := ⟨gw_T_at 717 (by decide +kernel) rfl, gw_T_at 718 (by decide +kernel) rfl⟩
theorem vi_L_42 : gw_vi RL 42 yX6_cost := ⟨gw_T_at 720 (by decide +kernel) rfl, gw_T_at 721 (by decide +kernel) rfl, gw_T_at 722 (by decide +kernel) rfl⟩
theorem vi_X6_190 : gw_vi RX6 190 yX1_changeCost := ⟨gw_T_at 724 (by decide +kernel) rfl, gw_T_at 540 (by decide +kernel) rfl, gw_T_at 541 (by decide +kernel) rfl⟩
theorem si_L_150 : gw_si RL 150 yL_school := ⟨gw_T_at 725 (by decide +kernel) rfl, gw_T_at 726 (by decide +kernel) rfl⟩
theorem vi_L_45 : gw_vi RL 45 yX6_school := ⟨gw_T_at 728 (by decide +kernel) rfl, gw_T_at 729 (by decide +kernel) rfl, gw_T_at 730 (by decide +kernel) rfl⟩
theorem vi_X6_193 : gw_vi RX6 193 yX1_markSchool := ⟨gw_T_at 732 (by decide +kernel) rfl, gw_T_at 544 (by decide +kernel) rfl, gw_T_at 545 (by decide +kernel) rfl⟩
theorem si_L_154 : gw_si RL 154 yL_take := ⟨gw_T_at 733 (by decide +kernel) rfl, gw_T_at 734 (by decide +kernel) rfl⟩
theorem vi_L_49 : gw_vi RL 49 yX6_take := ⟨gw_T_at 736 (by decide +kernel) rfl, gw_T_at 737 (by decide +kernel) rfl, gw_T_at 738 (by decide +kernel) rfl⟩
theorem vi_X6_197 : gw_vi RX6 197 yX1_takeWeek := ⟨gw_T_at 740 (by decide +kernel) rfl, gw_T_at 552 (by decide +kernel) rfl, gw_T_at 553 (by decide +kernel) rfl⟩
theorem si_L_157 : gw_si RL 157 yL_release := ⟨gw_T_at 741 (by decide +kernel) rfl, gw_T_at 742 (by decide +kernel) rfl⟩
theorem vi_L_52 : gw_vi RL 52 yX6_release := ⟨gw_T_at 744 (by decide +kernel) rfl, gw_T_at 745 (by decide +kernel) rfl, gw_T_at 746 (by decide +kernel) rfl⟩
theorem vi_X6_200 : gw_vi RX6 200 yX1_holds := ⟨gw_T_at 748 (by decide +kernel) rfl, gw_T_at 570 (by decide +kernel) rfl, gw_T_at 571 (by decide +kernel) rfl⟩
theorem vi_X6_206 : gw_vi RX6 206 yX1_giveBack := ⟨gw_T_at 750 (by decide +kernel) rfl, gw_T_at 566 (by decide +kernel) rfl, gw_T_at 567 (by decide +kernel) rfl⟩
theorem si_L_160 : gw_si RL 160 yL_bid := ⟨gw_T_at 751 (by decide +kernel) rfl, gw_T_at 752 (by decide +kernel) rfl⟩
theorem vi_L_55 : gw_vi RL 55 yX6_bid := ⟨gw_T_at 754 (by decide +kernel) rfl, gw_T_at 755 (by decide +kernel) rfl, gw_T_at 756 (by decide +kernel) rfl⟩
theorem vi_X6_209 : gw_vi RX6 209 yX1_isOpenForBids := ⟨gw_T_at 758 (by decide +kernel) rfl, gw_T_at 365 (by decide +kernel) rfl, gw_T_at 366 (by decide +kernel) rfl⟩
theorem vi_X6_215 : gw_vi RX6 215 yX1_placeBid := ⟨gw_T_at 760 (by decide +kernel) rfl, gw_T_at 557 (by decide +kernel) rfl, gw_T_at 558 (by decide +kernel) rfl⟩
theorem si_L_168 : gw_si RL 168 yL_offer := ⟨gw_T_at 761 (by decide +kernel) rfl, gw_T_at 762 (by decide +kernel) rfl⟩
theorem vi_L_59 : gw_vi RL 59 yX6_offer := ⟨gw_T_at 764 (by decide +kernel) rfl, gw_T_at 765 (by decide +kernel) rfl, gw_T_at 766 (by decide +kernel) rfl⟩
theorem vi_X6_222 : gw_vi RX6 222 yX1_canOffer := ⟨gw_T_at 768 (by decide +kernel) rfl, gw_T_at 578 (by decide +kernel) rfl, gw_T_at 579 (by decide +kernel) rfl⟩
theorem vi_X6_227 : gw_vi RX6 227 yX1_placeOffer := ⟨gw_T_at 770 (by decide +kernel) rfl, gw_T_at 574 (by decide +kernel) rfl, gw_T_at 575 (by decide +kernel) rfl⟩
theorem si_L_171 : gw_si RL 171 yL_accept := ⟨gw_T_at 771 (by decide +kernel) rfl, gw_T_at 772 (by decide +kernel) rfl⟩
theorem vi_L_62 : gw_vi RL 62 yX6_accept := ⟨gw_T_at 774 (by decide +kernel) rfl, gw_T_at 775 (by decide +kernel) rfl, gw_T_at 776 (by decide +kernel) rfl⟩
theorem vi_X6_230 : gw_vi RX6 230 yX1_acceptOffer := ⟨gw_T_at 778 (by decide +kernel) rfl, gw_T_at 586 (by decide +kernel) rfl, gw_T_at 587 (by decide +kernel) rfl⟩
theorem si_L_174 : gw_si RL 174 yL_upkeep := ⟨gw_T_at 779 (by decide +kernel) rfl, gw_T_at 780 (by decide +kernel) rfl⟩
theorem vi_L_65 : gw_vi RL 65 yX6_upkeep := ⟨gw_T_at 782 (by decide +kernel) rfl, gw_T_at 783 (by decide +kernel) rfl, gw_T_at 784 (by decide +kernel) rfl⟩
theorem vi_X6_235 : gw_vi RX6 235 yX1_payUpkeep := ⟨gw_T_at 787 (by decide +kernel) rfl, gw_T_at 598 (by decide +kernel) rfl, gw_T_at 599 (by decide +kernel) rfl⟩
theorem si_L_181 : gw_si RL 181 yL_set := ⟨gw_T_at 788 (by decide +kernel) rfl, gw_T_at 789 (by decide +kernel) rfl⟩
theorem vi_L_68 : gw_vi RL 68 yX6_set := ⟨gw_T_at 791 (by decide +kernel) rfl, gw_T_at 792 (by decide +kernel) rfl, gw_T_at 793 (by decide +kernel) rfl⟩
theorem si_L_184 : gw_si RL 184 yL_undo := ⟨gw_T_at 800 (by decide +kernel) rfl, gw_T_at 801 (by decide +kernel) rfl⟩
theorem vi_L_71 : gw_vi RL 71 yX6_undo := ⟨gw_T_at 803 (by decide +kernel) rfl, gw_T_at 804 (by decide +kernel) rfl, gw_T_at 805 (by decide +kernel) rfl⟩
theorem vi_X6_252 : gw_vi RX6 252 yX0_isEmpty := ⟨gw_T_at 807 (by decide +kernel) rfl, gw_T_at 808 (by decide +kernel) rfl, gw_T_at 809 (by decide +kernel) rfl⟩
theorem vi_X6_257 : gw_vi RX6 257 yX0_takeBack := ⟨gw_T_at 812 (by decide +kernel) rfl, gw_T_at 813 (by decide +kernel) rfl, gw_T_at 814 (by decide +kernel) rfl⟩
theorem si_L_187 : gw_si RL 187 yL_why := ⟨gw_T_at 816 (by decide +kernel) rfl, gw_T_at 817 (by decide +kernel) rfl⟩
theorem vi_L_74 : gw_vi RL 74 yX6_why := ⟨gw_T_at 819 (by decide +kernel) rfl, gw_T_at 820 (by decide +kernel) rfl, gw_T_at 821 (by decide +kernel) rfl⟩
theorem vi_X6_260 : gw_vi RX6 260 yX1_reasonAgainst := ⟨gw_T_at 823 (by decide +kernel) rfl, gw_T_at 548 (by decide +kernel) rfl, gw_T_at 549 (by decide +kernel) rfl⟩
theorem si_L_190 : gw_si RL 190 yL_could := ⟨gw_T_at 824 (by decide +kernel) rfl, gw_T_at 825 (by decide +kernel) rfl⟩
theorem vi_L_77 : gw_vi RL 77 yX6_could := ⟨gw_T_at 827 (by decide +kernel) rfl, gw_T_at 828 (by decide +kernel) rfl, gw_T_at 829 (by decide +kernel) rfl⟩
theorem vi_X6_263 : gw_vi RX6 263 yX2_countByMoving := ⟨gw_T_at 831 (by decide +kernel) rfl, gw_T_at 832 (by decide +kernel) rfl, gw_T_at 833 (by decide +kernel) rfl⟩
theorem si_X2_18 : gw_si RX2 18 yJ7_fill_53178 := ⟨gw_T_at 835 (by decide +kernel) rfl, gw_T_at 48 (by decide +kernel) rfl⟩
theorem si_X2_24 : gw_si RX2 24 yX2_findWeek := ⟨gw_T_at 836 (by decide +kernel) rfl, gw_T_at 837 (by decide +kernel) rfl⟩
theorem vi_X2_28 : gw_vi RX2 28 yX1_reasonAgainst := ⟨gw_T_at 839 (by decide +kernel) rfl, gw_T_at 548 (by decide +kernel) rfl, gw_T_at 549 (by decide +kernel) rfl⟩
theorem vi_X6_266 : gw_vi RX6 266 yX2_countBySets := ⟨gw_T_at 840 (by decide +kernel) rfl, gw_T_at 841 (by decide +kernel) rfl, gw_T_at 842 (by decide +kernel) rfl⟩
theorem si_X2_34 : gw_si RX2 34 yX2_growSets := ⟨gw_T_at 844 (by decide +kernel) rfl, gw_T_at 845 (by decide +kernel) rfl⟩
theorem si_X2_38 : gw_si RX2 38 yJ6_bitCount_0f7a4 := ⟨gw_T_at 847 (by decide +kernel) rfl, gw_T_at 848 (by decide +kernel) rfl⟩
theorem si_X2_44 : gw_si RX2 44 yJ9_max_7cf53 := ⟨gw_T_at 853 (by decide +kernel) rfl, gw_T_at 258 (by decide +kernel) rfl⟩
theorem si_L_193 : gw_si RL 193 yL_winner := ⟨gw_T_at 855 (by decide +kernel) rfl, gw_T_at 856 (by decide +kernel) rfl⟩
theorem vi_L_80 : gw_vi RL 80 yX6_winner := ⟨gw_T_at 858 (by decide +kernel) rfl, gw_T_at 859 (by decide +kernel) rfl, gw_T_at 860 (by decide +kernel) rfl⟩
theorem vi_X6_271 : gw_vi RX6 271 yX6_settleCopyBefore := ⟨gw_T_at 862 (by decide +kernel) rfl, gw_T_at 864 (by decide +kernel) rfl, gw_T_of (List.mem_append_left _ (List.mem_of_getElem? (i := 22) (by decide +kernel))) rfl⟩
theorem vi_X6_284 : gw_vi RX6 284 yX1_copyFrom := ⟨gw_T_at 866 (by decide +kernel) rfl, gw_T_at 349 (by decide +kernel) rfl, gw_T_at 350 (by decide +kernel) rfl⟩
theorem vi_X6_330 : gw_vi RX6 330 yX1_settleWeek := ⟨gw_T_at 867 (by decide +kernel) rfl, gw_T_at 357 (by decide +kernel) rfl, gw_T_at 358 (by decide +kernel) rfl⟩
theorem vi_X6_274 : gw_vi RX6 274 yX1_bestBidder := ⟨gw_T_at 868 (by decide +kernel) rfl, gw_T_at 361 (by decide +kernel) rfl, gw_T_at 362 (by decide +kernel) rfl⟩
theorem si_L_196 : gw_si RL 196 yL_leastBid := ⟨gw_T_at 869 (by decide +kernel) rfl, gw_T_at 870 (by decide +kernel) rfl⟩
theorem vi_L_83 : gw_vi RL 83 yX6_leastBid := ⟨gw_T_at 872 (by decide +kernel) rfl, gw_T_at 873 (by decide +kernel) rfl, gw_T_at 874 (by decide +kernel) rfl⟩
theorem si_L_199 : gw_si RL 199 yL_ifUpkeep := ⟨gw_T_at 876 (by decide +kernel) rfl, gw_T_at 877 (by decide +kernel) rfl⟩
theorem vi_L_86 : gw_vi RL 86 yX6_ifUpkeep := ⟨gw_T_at 879 (by decide +kernel) rfl, gw_T_at 880 (by decide +kernel) rfl, gw_T_at 881 (by decide +kernel) rfl⟩
theorem vi_X6_277 : gw_vi RX6 277 yX1_partOf := ⟨gw_T_at 883 (by decide +kernel) rfl, gw_T_at 602 (by decide +kernel) rfl, gw_T_at 603 (by decide +kernel) rfl⟩
theorem si_L_204 : gw_si RL 204 yL_runScript := ⟨gw_T_at 884 (by decide +kernel) rfl, gw_T_at 885 (by decide +kernel) rfl⟩
theorem vi_L_89 : gw_vi RL 89 yX6_runScript := ⟨gw_T_at 887 (by decide +kernel) rfl, gw_T_at 888 (by decide +kernel) rfl, gw_T_at 889 (by decide +kernel) rfl⟩
theorem si_X6_287 : gw_si RX6 287 yX3_succeeds := ⟨gw_T_at 893 (by decide +kernel) rfl, gw_T_at 894 (by decide +kernel) rfl⟩
theorem vi_X3_10 : gw_vi RX3 10 yX1_takeWeek := ⟨gw_T_at 897 (by decide +kernel) rfl, gw_T_at 552 (by decide +kernel) rfl, gw_T_at 553 (by decide +kernel) rfl⟩
theorem vi_X3_16 : gw_vi RX3 16 yX1_placeBid := ⟨gw_T_at 898 (by decide +kernel) rfl, gw_T_at 557 (by decide +kernel) rfl, gw_T_at 558 (by decide +kernel) rfl⟩
theorem vi_X3_20 : gw_vi RX3 20 yX1_settleBids := ⟨gw_T_at 899 (by decide +kernel) rfl, gw_T_at 353 (by decide +kernel) rfl, gw_T_at 354 (by decide +kernel) rfl⟩
theorem vi_X3_24 : gw_vi RX3 24 yX1_giveBack := ⟨gw_T_at 900 (by decide +kernel) rfl, gw_T_at 566 (by decide +kernel) rfl, gw_T_at 567 (by decide +kernel) rfl⟩
theorem vi_X3_27 : gw_vi RX3 27 yX1_placeOffer := ⟨gw_T_at 901 (by decide +kernel) rfl, gw_T_at 574 (by decide +kernel) rfl, gw_T_at 575 (by decide +kernel) rfl⟩
theorem vi_X3_30 : gw_vi RX3 30 yX1_acceptOffer := ⟨gw_T_at 902 (by decide +kernel) rfl, gw_T_at 586 (by decide +kernel) rfl, gw_T_at 587 (by decide +kernel) rfl⟩
theorem vi_X3_34 : gw_vi RX3 34 yX1_beginYear := ⟨gw_T_at 903 (by decide +kernel) rfl, gw_T_at 401 (by decide +kernel) rfl, gw_T_at 402 (by decide +kernel) rfl⟩
theorem vi_X3_37 : gw_vi RX3 37 yX1_hasAtLeast := ⟨gw_T_at 904 (by decide +kernel) rfl, gw_T_at 905 (by decide +kernel) rfl, gw_T_at 906 (by decide +kernel) rfl⟩
theorem vi_X3_41 : gw_vi RX3 41 yX1_holds := ⟨gw_T_at 908 (by decide +kernel) rfl, gw_T_at 570 (by decide +kernel) rfl, gw_T_at 571 (by decide +kernel) rfl⟩
theorem si_L_208 : gw_si RL 208 yL_simulate := ⟨gw_T_at 909 (by decide +kernel) rfl, gw_T_at 910 (by decide +kernel) rfl⟩
theorem vi_L_93 : gw_vi RL 93 yX6_simulate := ⟨gw_T_at 912 (by decide +kernel) rfl, gw_T_at 913 (by decide +kernel) rfl, gw_T_at 914 (by decide +kernel) rfl⟩
theorem si_X6_297 : gw_si RX6 297 yX4_turn := ⟨gw_T_at 918 (by decide +kernel) rfl, gw_T_at 919 (by decide +kernel) rfl⟩
theorem vi_X4_7 : gw_vi RX4 7 yX1_addOwner := ⟨gw_T_at 921 (by decide +kernel) rfl, gw_T_at 536 (by decide +kernel) rfl, gw_T_at 537 (by decide +kernel) rfl⟩
theorem vi_X4_13 : gw_vi RX4 13 yX1_changeCost := ⟨gw_T_at 922 (by decide +kernel) rfl, gw_T_at 540 (by decide +kernel) rfl, gw_T_at 541 (by decide +kernel) rfl⟩
theorem vi_X4_17 : gw_vi RX4 17 yX1_markSchool := ⟨gw_T_at 923 (by decide +kernel) rfl, gw_T_at 544 (by decide +kernel) rfl, gw_T_at 545 (by decide +kernel) rfl⟩
theorem vi_X4_21 : gw_vi RX4 21 yX1_takeWeek := ⟨gw_T_at 924 (by decide +kernel) rfl, gw_T_at 552 (by decide +kernel) rfl, gw_T_at 553 (by decide +kernel) rfl⟩
theorem vi_X4_24 : gw_vi RX4 24 yX1_placeBid := ⟨gw_T_at 925 (by decide +kernel) rfl, gw_T_at 557 (by decide +kernel) rfl, gw_T_at 558 (by decide +kernel) rfl⟩
theorem vi_X4_28 : gw_vi RX4 28 yX1_settleBids := ⟨gw_T_at 926 (by decide +kernel) rfl, gw_T_at 353 (by decide +kernel) rfl, gw_T_at 354 (by decide +kernel) rfl⟩
theorem vi_X4_32 : gw_vi RX4 32 yX1_giveBack := ⟨gw_T_at 927 (by decide +kernel) rfl, gw_T_at 566 (by decide +kernel) rfl, gw_T_at 567 (by decide +kernel) rfl⟩
theorem vi_X4_35 : gw_vi RX4 35 yX1_placeOffer := ⟨gw_T_at 928 (by decide +kernel) rfl, gw_T_at 574 (by decide +kernel) rfl, gw_T_at 575 (by decide +kernel) rfl⟩
theorem vi_X4_38 : gw_vi RX4 38 yX1_acceptOffer := ⟨gw_T_at 929 (by decide +kernel) rfl, gw_T_at 586 (by decide +kernel) rfl, gw_T_at 587 (by decide +kernel) rfl⟩
theorem vi_X4_41 : gw_vi RX4 41 yX1_payUpkeep := ⟨gw_T_at 930 (by decide +kernel) rfl, gw_T_at 598 (by decide +kernel) rfl, gw_T_at 599 (by decide +kernel) rfl⟩
theorem vi_X4_44 : gw_vi RX4 44 yX1_beginYear := ⟨gw_T_at 931 (by decide +kernel) rfl, gw_T_at 401 (by decide +kernel) rfl, gw_T_at 402 (by decide +kernel) rfl⟩
theorem si_L_212 : gw_si RL 212 yL_save := ⟨gw_T_at 932 (by decide +kernel) rfl, gw_T_at 933 (by decide +kernel) rfl⟩
theorem vi_L_97 : gw_vi RL 97 yX6_save := ⟨gw_T_at 935 (by decide +kernel) rfl, gw_T_at 936 (by decide +kernel) rfl, gw_T_at 937 (by decide +kernel) rfl⟩
theorem vi_X6_303 : gw_vi RX6 303 yX6_needSlot := ⟨gw_T_at 939 (by decide +kernel) rfl, gw_T_at 941 (by decide +kernel) rfl, gw_T_of (List.mem_append_left _ (List.mem_of_getElem? (i := 23) (by decide +kernel))) rfl⟩
theorem si_L_215 : gw_si RL 215 yL_restore := ⟨gw_T_at 944 (by decide +kernel) rfl, gw_T_at 945 (by decide +kernel) rfl⟩
theorem vi_L_100 : gw_vi RL 100 yX6_restore := ⟨gw_T_at 947 (by decide +kernel) rfl, gw_T_at 948 (by decide +kernel) rfl, gw_T_at 949 (by decide +kernel) rfl⟩
theorem vi_X7_29 : gw_vi RX7 29 yX7_begins := ⟨gw_T_at 958 (by decide +kernel) rfl, gw_T_at 960 (by decide +kernel) rfl, gw_T_of (List.mem_append_left _ (List.mem_of_getElem? (i := 24) (by decide +kernel))) rfl⟩
theorem si_X7_36 : gw_si RX7 36 yX7_ofWeek := ⟨gw_T_at 962 (by decide +kernel) rfl, gw_T_at 963 (by decide +kernel) rfl⟩
theorem vi_L_113 : gw_vi RL 113 yX7_thrown := ⟨gw_T_at 1014 (by decide +kernel) rfl, gw_T_at 1015 (by decide +kernel) rfl, gw_T_at 1016 (by decide +kernel) rfl⟩
theorem vi_L_112 : gw_vi RL 112 yX7_append := ⟨gw_T_at 1018 (by decide +kernel) rfl, gw_T_at 1019 (by decide +kernel) rfl, gw_T_at 1020 (by decide +kernel) rfl⟩
theorem si_X7_40 : gw_si RX7 40 yX7_in := ⟨gw_T_at 1022 (by decide +kernel) rfl, gw_T_at 1023 (by decide +kernel) rfl⟩
theorem vi_X7_174 : gw_vi RX7 174 yX7_holds := ⟨gw_T_at 1025 (by decide +kernel) rfl, gw_T_at 1027 (by decide +kernel) rfl, gw_T_of (List.mem_append_left _ (List.mem_of_getElem? (i := 25) (by decide +kernel))) rfl⟩
theorem vi_L_119 : gw_vi RL 119 yX7_clearText := ⟨gw_T_at 1029 (by decide +kernel) rfl, gw_T_at 1030 (by decide +kernel) rfl, gw_T_at 1031 (by decide +kernel) rfl⟩
theorem vi_L_123 : gw_vi RL 123 yX7_errorPosition := ⟨gw_T_at 1033 (by decide +kernel) rfl, gw_T_at 1034 (by decide +kernel) rfl, gw_T_at 1035 (by decide +kernel) rfl⟩
theorem vi_X7_205 : gw_vi RX7 205 yX7_goesThrough := ⟨gw_T_at 1037 (by decide +kernel) rfl, gw_T_at 1039 (by decide +kernel) rfl, gw_T_of (List.mem_append_left _ (List.mem_of_getElem? (i := 26) (by decide +kernel))) rfl⟩
theorem vi_X7_184 : gw_vi RX7 184 yX7_takesOne := ⟨gw_T_at 1041 (by decide +kernel) rfl, gw_T_at 1043 (by decide +kernel) rfl, gw_T_of (List.mem_append_left _ (List.mem_of_getElem? (i := 27) (by decide +kernel))) rfl⟩
theorem vi_X7_199 : gw_vi RX7 199 yX7_readCommand := ⟨gw_T_at 1045 (by decide +kernel) rfl, gw_T_at 1047 (by decide +kernel) rfl, gw_T_of (List.mem_append_left _ (List.mem_of_getElem? (i := 28) (by decide +kernel))) rfl⟩
theorem si_X7_187 : gw_si RX7 187 yX7_isLetter := ⟨gw_T_at 1049 (by decide +kernel) rfl, gw_T_at 1050 (by decide +kernel) rfl⟩
theorem vi_X7_190 : gw_vi RX7 190 yX7_readWeek := ⟨gw_T_at 1052 (by decide +kernel) rfl, gw_T_at 1054 (by decide +kernel) rfl, gw_T_of (List.mem_append_left _ (List.mem_of_getElem? (i := 29) (by decide +kernel))) rfl⟩
theorem vi_X7_193 : gw_vi RX7 193 yX7_readExtra := ⟨gw_T_at 1056 (by decide +kernel) rfl, gw_T_at 1058 (by decide +kernel) rfl, gw_T_of (List.mem_append_left _ (List.mem_of_getElem? (i := 30) (by decide +kernel))) rfl⟩
theorem vi_X7_196 : gw_vi RX7 196 yX7_readCoins := ⟨gw_T_at 1060 (by decide +kernel) rfl, gw_T_at 1062 (by decide +kernel) rfl, gw_T_of (List.mem_append_left _ (List.mem_of_getElem? (i := 31) (by decide +kernel))) rfl⟩
theorem vi_X7_202 : gw_vi RX7 202 yX7_does := ⟨gw_T_at 1064 (by decide +kernel) rfl, gw_T_at 1066 (by decide +kernel) rfl, gw_T_of (List.mem_append_left _ (List.mem_of_getElem? (i := 32) (by decide +kernel))) rfl⟩
theorem vi_X7_116 : gw_vi RX7 116 yX7_errorOfOwner := ⟨gw_T_at 1068 (by decide +kernel) rfl, gw_T_at 1070 (by decide +kernel) rfl, gw_T_of (List.mem_append_left _ (List.mem_of_getElem? (i := 33) (by decide +kernel))) rfl⟩
theorem vi_X7_119 : gw_vi RX7 119 yX7_comes := ⟨gw_T_at 1072 (by decide +kernel) rfl, gw_T_at 1074 (by decide +kernel) rfl, gw_T_of (List.mem_append_left _ (List.mem_of_getElem? (i := 34) (by decide +kernel))) rfl⟩
theorem si_X7_54 : gw_si RX7 54 yX7_of := ⟨gw_T_at 1076 (by decide +kernel) rfl, gw_T_at 1077 (by decide +kernel) rfl⟩
theorem vi_X7_61 : gw_vi RX7 61 yX7_gives := ⟨gw_T_at 1079 (by decide +kernel) rfl, gw_T_at 1081 (by decide +kernel) rfl, gw_T_of (List.mem_append_left _ (List.mem_of_getElem? (i := 35) (by decide +kernel))) rfl⟩
theorem vi_X7_125 : gw_vi RX7 125 yX7_errorOfCost := ⟨gw_T_at 1083 (by decide +kernel) rfl, gw_T_at 1085 (by decide +kernel) rfl, gw_T_of (List.mem_append_left _ (List.mem_of_getElem? (i := 36) (by decide +kernel))) rfl⟩
theorem si_X7_48 : gw_si RX7 48 yX7_isWeek := ⟨gw_T_at 1087 (by decide +kernel) rfl, gw_T_at 1088 (by decide +kernel) rfl⟩
theorem vi_X7_97 : gw_vi RX7 97 yX7_becomes := ⟨gw_T_at 1090 (by decide +kernel) rfl, gw_T_at 1092 (by decide +kernel) rfl, gw_T_of (List.mem_append_left _ (List.mem_of_getElem? (i := 37) (by decide +kernel))) rfl⟩
theorem vi_X7_107 : gw_vi RX7 107 yX7_areThere := ⟨gw_T_at 1094 (by decide +kernel) rfl, gw_T_at 1096 (by decide +kernel) rfl, gw_T_of (List.mem_append_left _ (List.mem_of_getElem? (i := 38) (by decide +kernel))) rfl⟩
theorem vi_X7_44 : gw_vi RX7 44 yX7_isOwner := ⟨gw_T_at 1098 (by decide +kernel) rfl, gw_T_at 1100 (by decide +kernel) rfl, gw_T_of (List.mem_append_left _ (List.mem_of_getElem? (i := 39) (by decide +kernel))) rfl⟩
theorem vi_X7_128 : gw_vi RX7 128 yX7_takes := ⟨gw_T_at 1102 (by decide +kernel) rfl, gw_T_at 1104 (by decide +kernel) rfl, gw_T_of (List.mem_append_left _ (List.mem_of_getElem? (i := 40) (by decide +kernel))) rfl⟩
theorem vi_X7_65 : gw_vi RX7 65 yX7_hindrance := ⟨gw_T_at 1106 (by decide +kernel) rfl, gw_T_at 1108 (by decide +kernel) rfl, gw_T_of (List.mem_append_left _ (List.mem_of_getElem? (i := 41) (by decide +kernel))) rfl⟩
theorem vi_X7_57 : gw_vi RX7 57 yX7_held := ⟨gw_T_at 1110 (by decide +kernel) rfl, gw_T_at 1112 (by decide +kernel) rfl, gw_T_of (List.mem_append_left _ (List.mem_of_getElem? (i := 42) (by decide +kernel))) rfl⟩
theorem vi_X7_68 : gw_vi RX7 68 yX7_spends := ⟨gw_T_at 1114 (by decide +kernel) rfl, gw_T_at 1116 (by decide +kernel) rfl, gw_T_of (List.mem_append_left _ (List.mem_of_getElem? (i := 43) (by decide +kernel))) rfl⟩
theorem vi_X7_134 : gw_vi RX7 134 yX7_errorOfBid := ⟨gw_T_at 1118 (by decide +kernel) rfl, gw_T_at 1120 (by decide +kernel) rfl, gw_T_of (List.mem_append_left _ (List.mem_of_getElem? (i := 44) (by decide +kernel))) rfl⟩
theorem vi_X7_138 : gw_vi RX7 138 yX7_bids := ⟨gw_T_at 1122 (by decide +kernel) rfl, gw_T_at 1124 (by decide +kernel) rfl, gw_T_of (List.mem_append_left _ (List.mem_of_getElem? (i := 45) (by decide +kernel))) rfl⟩
theorem si_X7_72 : gw_si RX7 72 yX7_ofBid := ⟨gw_T_at 1126 (by decide +kernel) rfl, gw_T_at 1127 (by decide +kernel) rfl⟩
theorem vi_X7_75 : gw_vi RX7 75 yX7_bidsFor := ⟨gw_T_at 1129 (by decide +kernel) rfl, gw_T_at 1131 (by decide +kernel) rfl, gw_T_of (List.mem_append_left _ (List.mem_of_getElem? (i := 46) (by decide +kernel))) rfl⟩
theorem vi_X7_141 : gw_vi RX7 141 yX7_settles := ⟨gw_T_at 1133 (by decide +kernel) rfl, gw_T_at 1135 (by decide +kernel) rfl, gw_T_of (List.mem_append_left _ (List.mem_of_getElem? (i := 47) (by decide +kernel))) rfl⟩
theorem vi_X7_85 : gw_vi RX7 85 yX7_settlesOne := ⟨gw_T_at 1137 (by decide +kernel) rfl, gw_T_at 1139 (by decide +kernel) rfl, gw_T_of (List.mem_append_left _ (List.mem_of_getElem? (i := 48) (by decide +kernel))) rfl⟩
theorem vi_X7_78 : gw_vi RX7 78 yX7_canWin := ⟨gw_T_at 1141 (by decide +kernel) rfl, gw_T_at 1143 (by decide +kernel) rfl, gw_T_of (List.mem_append_left _ (List.mem_of_getElem? (i := 49) (by decide +kernel))) rfl⟩
theorem vi_X7_82 : gw_vi RX7 82 yX7_isBetter := ⟨gw_T_at 1145 (by decide +kernel) rfl, gw_T_at 1147 (by decide +kernel) rfl, gw_T_of (List.mem_append_left _ (List.mem_of_getElem? (i := 50) (by decide +kernel))) rfl⟩
theorem vi_X7_88 : gw_vi RX7 88 yX7_noBids := ⟨gw_T_at 1149 (by decide +kernel) rfl, gw_T_at 1151 (by decide +kernel) rfl, gw_T_of (List.mem_append_left _ (List.mem_of_getElem? (i := 51) (by decide +kernel))) rfl⟩
theorem vi_X7_144 : gw_vi RX7 144 yX7_errorOfRelease := ⟨gw_T_at 1153 (by decide +kernel) rfl, gw_T_at 1155 (by decide +kernel) rfl, gw_T_of (List.mem_append_left _ (List.mem_of_getElem? (i := 52) (by decide +kernel))) rfl⟩
theorem vi_X7_147 : gw_vi RX7 147 yX7_releases := ⟨gw_T_at 1157 (by decide +kernel) rfl, gw_T_at 1159 (by decide +kernel) rfl, gw_T_of (List.mem_append_left _ (List.mem_of_getElem? (i := 53) (by decide +kernel))) rfl⟩
theorem vi_X7_150 : gw_vi RX7 150 yX7_errorOfOffer := ⟨gw_T_at 1161 (by decide +kernel) rfl, gw_T_at 1163 (by decide +kernel) rfl, gw_T_of (List.mem_append_left _ (List.mem_of_getElem? (i := 54) (by decide +kernel))) rfl⟩
theorem vi_X7_153 : gw_vi RX7 153 yX7_offers := ⟨gw_T_at 1165 (by decide +kernel) rfl, gw_T_at 1167 (by decide +kernel) rfl, gw_T_of (List.mem_append_left _ (List.mem_of_getElem? (i := 55) (by decide +kernel))) rfl⟩
theorem si_X7_91 : gw_si RX7 91 yX7_ofOffer := ⟨gw_T_at 1169 (by decide +kernel) rfl, gw_T_at 1170 (by decide +kernel) rfl⟩
theorem vi_X7_156 : gw_vi RX7 156 yX7_isOffer := ⟨gw_T_at 1172 (by decide +kernel) rfl, gw_T_at 1174 (by decide +kernel) rfl, gw_T_of (List.mem_append_left _ (List.mem_of_getElem? (i := 56) (by decide +kernel))) rfl⟩
theorem vi_X7_159 : gw_vi RX7 159 yX7_accepts := ⟨gw_T_at 1176 (by decide +kernel) rfl, gw_T_at 1178 (by decide +kernel) rfl, gw_T_of (List.mem_append_left _ (List.mem_of_getElem? (i := 57) (by decide +kernel))) rfl⟩
theorem vi_X7_94 : gw_vi RX7 94 yX7_isVoid := ⟨gw_T_at 1180 (by decide +kernel) rfl, gw_T_at 1182 (by decide +kernel) rfl, gw_T_of (List.mem_append_left _ (List.mem_of_getElem? (i := 58) (by decide +kernel))) rfl⟩
theorem vi_X7_162 : gw_vi RX7 162 yX7_errorOfUpkeep := ⟨gw_T_at 1184 (by decide +kernel) rfl, gw_T_at 1186 (by decide +kernel) rfl, gw_T_of (List.mem_append_left _ (List.mem_of_getElem? (i := 59) (by decide +kernel))) rfl⟩
theorem vi_X7_165 : gw_vi RX7 165 yX7_parts := ⟨gw_T_at 1188 (by decide +kernel) rfl, gw_T_at 1190 (by decide +kernel) rfl, gw_T_of (List.mem_append_left _ (List.mem_of_getElem? (i := 60) (by decide +kernel))) rfl⟩
theorem vi_X7_104 : gw_vi RX7 104 yX7_partOf := ⟨gw_T_at 1192 (by decide +kernel) rfl, gw_T_at 1194 (by decide +kernel) rfl, gw_T_of (List.mem_append_left _ (List.mem_of_getElem? (i := 61) (by decide +kernel))) rfl⟩
theorem vi_X7_100 : gw_vi RX7 100 yX7_shares := ⟨gw_T_at 1196 (by decide +kernel) rfl, gw_T_at 1198 (by decide +kernel) rfl, gw_T_of (List.mem_append_left _ (List.mem_of_getElem? (i := 62) (by decide +kernel))) rfl⟩
theorem vi_X7_168 : gw_vi RX7 168 yX7_goesOn := ⟨gw_T_at 1200 (by decide +kernel) rfl, gw_T_at 1202 (by decide +kernel) rfl, gw_T_of (List.mem_append_left _ (List.mem_of_getElem? (i := 63) (by decide +kernel))) rfl⟩
theorem vi_L_127 : gw_vi RL 127 yX7_load := ⟨gw_T_at 1204 (by decide +kernel) rfl, gw_T_at 1205 (by decide +kernel) rfl, gw_T_at 1206 (by decide +kernel) rfl⟩
theorem vi_L_130 : gw_vi RL 130 yX7_about := ⟨gw_T_at 1208 (by decide +kernel) rfl, gw_T_at 1209 (by decide +kernel) rfl, gw_T_at 1210 (by decide +kernel) rfl⟩
theorem vi_X7_218 : gw_vi RX7 218 yX7_told := ⟨gw_T_at 1212 (by decide +kernel) rfl, gw_T_at 1214 (by decide +kernel) rfl, gw_T_of (List.mem_append_left _ (List.mem_of_getElem? (i := 64) (by decide +kernel))) rfl⟩
theorem vi_X7_212 : gw_vi RX7 212 yX7_points := ⟨gw_T_at 1216 (by decide +kernel) rfl, gw_T_at 1218 (by decide +kernel) rfl, gw_T_of (List.mem_append_left _ (List.mem_of_getElem? (i := 65) (by decide +kernel))) rfl⟩
theorem vi_X7_215 : gw_vi RX7 215 yX7_allBids := ⟨gw_T_at 1220 (by decide +kernel) rfl, gw_T_at 1222 (by decide +kernel) rfl, gw_T_of (List.mem_append_left _ (List.mem_of_getElem? (i := 66) (by decide +kernel))) rfl⟩
theorem vi_L_134 : gw_vi RL 134 yX7_ownerOf := ⟨gw_T_at 1224 (by decide +kernel) rfl, gw_T_at 1225 (by decide +kernel) rfl, gw_T_at 1226 (by decide +kernel) rfl⟩
theorem vi_X7_227 : gw_vi RX7 227 yX7_ofOwner := ⟨gw_T_at 1228 (by decide +kernel) rfl, gw_T_at 1230 (by decide +kernel) rfl, gw_T_of (List.mem_append_left _ (List.mem_of_getElem? (i := 67) (by decide +kernel))) rfl⟩
theorem vi_X7_221 : gw_vi RX7 221 yX7_lowestOf := ⟨gw_T_at 1232 (by decide +kernel) rfl, gw_T_at 1234 (by decide +kernel) rfl, gw_T_of (List.mem_append_left _ (List.mem_of_getElem? (i := 68) (by decide +kernel))) rfl⟩
theorem vi_X7_224 : gw_vi RX7 224 yX7_bidsOf := ⟨gw_T_at 1236 (by decide +kernel) rfl, gw_T_at 1238 (by decide +kernel) rfl, gw_T_of (List.mem_append_left _ (List.mem_of_getElem? (i := 69) (by decide +kernel))) rfl⟩
theorem vi_L_137 : gw_vi RL 137 yX7_weekOf := ⟨gw_T_at 1240 (by decide +kernel) rfl, gw_T_at 1241 (by decide +kernel) rfl, gw_T_at 1242 (by decide +kernel) rfl⟩
theorem vi_X7_230 : gw_vi RX7 230 yX7_greatestFor := ⟨gw_T_at 1244 (by decide +kernel) rfl, gw_T_at 1246 (by decide +kernel) rfl, gw_T_of (List.mem_append_left _ (List.mem_of_getElem? (i := 70) (by decide +kernel))) rfl⟩
theorem vi_L_140 : gw_vi RL 140 yX7_bidOf := ⟨gw_T_at 1248 (by decide +kernel) rfl, gw_T_at 1249 (by decide +kernel) rfl, gw_T_at 1250 (by decide +kernel) rfl⟩
theorem vi_L_143 : gw_vi RL 143 yX7_offerOf := ⟨gw_T_at 1252 (by decide +kernel) rfl, gw_T_at 1253 (by decide +kernel) rfl, gw_T_at 1254 (by decide +kernel) rfl⟩
theorem vi_L_146 : gw_vi RL 146 yX7_owner := ⟨gw_T_at 1256 (by decide +kernel) rfl, gw_T_at 1257 (by decide +kernel) rfl, gw_T_at 1258 (by decide +kernel) rfl⟩
theorem vi_X7_236 : gw_vi RX7 236 yX7_acts := ⟨gw_T_at 1260 (by decide +kernel) rfl, gw_T_at 1262 (by decide +kernel) rfl, gw_T_of (List.mem_append_left _ (List.mem_of_getElem? (i := 71) (by decide +kernel))) rfl⟩
theorem vi_X7_233 : gw_vi RX7 233 yX7_remember := ⟨gw_T_at 1264 (by decide +kernel) rfl, gw_T_at 1266 (by decide +kernel) rfl, gw_T_of (List.mem_append_left _ (List.mem_of_getElem? (i := 72) (by decide +kernel))) rfl⟩
theorem vi_L_149 : gw_vi RL 149 yX7_cost := ⟨gw_T_at 1268 (by decide +kernel) rfl, gw_T_at 1269 (by decide +kernel) rfl, gw_T_at 1270 (by decide +kernel) rfl⟩
theorem vi_L_153 : gw_vi RL 153 yX7_school := ⟨gw_T_at 1272 (by decide +kernel) rfl, gw_T_at 1273 (by decide +kernel) rfl, gw_T_at 1274 (by decide +kernel) rfl⟩
theorem vi_X7_240 : gw_vi RX7 240 yX7_schools := ⟨gw_T_at 1276 (by decide +kernel) rfl, gw_T_at 1278 (by decide +kernel) rfl, gw_T_of (List.mem_append_left _ (List.mem_of_getElem? (i := 73) (by decide +kernel))) rfl⟩
theorem vi_L_156 : gw_vi RL 156 yX7_take := ⟨gw_T_at 1280 (by decide +kernel) rfl, gw_T_at 1281 (by decide +kernel) rfl, gw_T_at 1282 (by decide +kernel) rfl⟩
theorem vi_L_159 : gw_vi RL 159 yX7_release := ⟨gw_T_at 1284 (by decide +kernel) rfl, gw_T_at 1285 (by decide +kernel) rfl, gw_T_at 1286 (by decide +kernel) rfl⟩
theorem vi_L_163 : gw_vi RL 163 yX7_bid := ⟨gw_T_at 1288 (by decide +kernel) rfl, gw_T_at 1289 (by decide +kernel) rfl, gw_T_at 1290 (by decide +kernel) rfl⟩
theorem vi_L_167 : gw_vi RL 167 yX7_settle := ⟨gw_T_at 1292 (by decide +kernel) rfl, gw_T_at 1293 (by decide +kernel) rfl, gw_T_at 1294 (by decide +kernel) rfl⟩
theorem vi_L_170 : gw_vi RL 170 yX7_offer := ⟨gw_T_at 1296 (by decide +kernel) rfl, gw_T_at 1297 (by decide +kernel) rfl, gw_T_at 1298 (by decide +kernel) rfl⟩
theorem vi_L_173 : gw_vi RL 173 yX7_accept := ⟨gw_T_at 1300 (by decide +kernel) rfl, gw_T_at 1301 (by decide +kernel) rfl, gw_T_at 1302 (by decide +kernel) rfl⟩
theorem vi_L_176 : gw_vi RL 176 yX7_upkeep := ⟨gw_T_at 1304 (by decide +kernel) rfl, gw_T_at 1305 (by decide +kernel) rfl, gw_T_at 1306 (by decide +kernel) rfl⟩
theorem vi_L_180 : gw_vi RL 180 yX7_year := ⟨gw_T_at 1308 (by decide +kernel) rfl, gw_T_at 1309 (by decide +kernel) rfl, gw_T_at 1310 (by decide +kernel) rfl⟩
theorem vi_L_183 : gw_vi RL 183 yX7_set := ⟨gw_T_at 1312 (by decide +kernel) rfl, gw_T_at 1313 (by decide +kernel) rfl, gw_T_at 1314 (by decide +kernel) rfl⟩
theorem si_X7_243 : gw_si RX7 243 yX7_isSetting := ⟨gw_T_at 1316 (by decide +kernel) rfl, gw_T_at 1317 (by decide +kernel) rfl⟩
theorem vi_L_186 : gw_vi RL 186 yX7_undo := ⟨gw_T_at 1319 (by decide +kernel) rfl, gw_T_at 1320 (by decide +kernel) rfl, gw_T_at 1321 (by decide +kernel) rfl⟩
theorem vi_L_189 : gw_vi RL 189 yX7_why := ⟨gw_T_at 1323 (by decide +kernel) rfl, gw_T_at 1324 (by decide +kernel) rfl, gw_T_at 1325 (by decide +kernel) rfl⟩
theorem vi_L_192 : gw_vi RL 192 yX7_could := ⟨gw_T_at 1327 (by decide +kernel) rfl, gw_T_at 1328 (by decide +kernel) rfl, gw_T_at 1329 (by decide +kernel) rfl⟩
theorem vi_X7_246 : gw_vi RX7 246 yX7_mostAtOnce := ⟨gw_T_at 1331 (by decide +kernel) rfl, gw_T_at 1333 (by decide +kernel) rfl, gw_T_of (List.mem_append_left _ (List.mem_of_getElem? (i := 74) (by decide +kernel))) rfl⟩
theorem vi_L_195 : gw_vi RL 195 yX7_winner := ⟨gw_T_at 1335 (by decide +kernel) rfl, gw_T_at 1336 (by decide +kernel) rfl, gw_T_at 1337 (by decide +kernel) rfl⟩
theorem vi_X7_255 : gw_vi RX7 255 yX7_wouldWin := ⟨gw_T_at 1339 (by decide +kernel) rfl, gw_T_at 1341 (by decide +kernel) rfl, gw_T_of (List.mem_append_left _ (List.mem_of_getElem? (i := 75) (by decide +kernel))) rfl⟩
theorem vi_X7_249 : gw_vi RX7 249 yX7_putAside := ⟨gw_T_at 1343 (by decide +kernel) rfl, gw_T_at 1345 (by decide +kernel) rfl, gw_T_of (List.mem_append_left _ (List.mem_of_getElem? (i := 76) (by decide +kernel))) rfl⟩
theorem vi_X7_252 : gw_vi RX7 252 yX7_putBack := ⟨gw_T_at 1347 (by decide +kernel) rfl, gw_T_at 1349 (by decide +kernel) rfl, gw_T_of (List.mem_append_left _ (List.mem_of_getElem? (i := 77) (by decide +kernel))) rfl⟩
theorem vi_L_198 : gw_vi RL 198 yX7_leastBid := ⟨gw_T_at 1351 (by decide +kernel) rfl, gw_T_at 1352 (by decide +kernel) rfl, gw_T_at 1353 (by decide +kernel) rfl⟩
theorem vi_X7_258 : gw_vi RX7 258 yX7_leastFor := ⟨gw_T_at 1355 (by decide +kernel) rfl, gw_T_at 1357 (by decide +kernel) rfl, gw_T_of (List.mem_append_left _ (List.mem_of_getElem? (i := 78) (by decide +kernel))) rfl⟩
theorem vi_L_201 : gw_vi RL 201 yX7_ifUpkeep := ⟨gw_T_at 1359 (by decide +kernel) rfl, gw_T_at 1360 (by decide +kernel) rfl, gw_T_at 1361 (by decide +kernel) rfl⟩
theorem vi_L_207 : gw_vi RL 207 yX7_runScript := ⟨gw_T_at 1363 (by decide +kernel) rfl, gw_T_at 1364 (by decide +kernel) rfl, gw_T_at 1365 (by decide +kernel) rfl⟩
theorem vi_X7_275 : gw_vi RX7 275 yX7_runs := ⟨gw_T_at 1370 (by decide +kernel) rfl, gw_T_at 1372 (by decide +kernel) rfl, gw_T_of (List.mem_append_left _ (List.mem_of_getElem? (i := 79) (by decide +kernel))) rfl⟩
theorem vi_X7_268 : gw_vi RX7 268 yX7_succeeds := ⟨gw_T_at 1374 (by decide +kernel) rfl, gw_T_at 1376 (by decide +kernel) rfl, gw_T_of (List.mem_append_left _ (List.mem_of_getElem? (i := 80) (by decide +kernel))) rfl⟩
theorem si_X7_261 : gw_si RX7 261 yX7_digits := ⟨gw_T_at 1378 (by decide +kernel) rfl, gw_T_at 1379 (by decide +kernel) rfl⟩
theorem vi_L_211 : gw_vi RL 211 yX7_simulate := ⟨gw_T_at 1383 (by decide +kernel) rfl, gw_T_at 1384 (by decide +kernel) rfl, gw_T_at 1385 (by decide +kernel) rfl⟩
theorem vi_X7_286 : gw_vi RX7 286 yX7_simulates := ⟨gw_T_at 1387 (by decide +kernel) rfl, gw_T_at 1389 (by decide +kernel) rfl, gw_T_of (List.mem_append_left _ (List.mem_of_getElem? (i := 81) (by decide +kernel))) rfl⟩
theorem vi_X7_283 : gw_vi RX7 283 yX7_turns := ⟨gw_T_at 1393 (by decide +kernel) rfl, gw_T_at 1395 (by decide +kernel) rfl, gw_T_of (List.mem_append_left _ (List.mem_of_getElem? (i := 82) (by decide +kernel))) rfl⟩
theorem vi_L_214 : gw_vi RL 214 yX7_save := ⟨gw_T_at 1397 (by decide +kernel) rfl, gw_T_at 1398 (by decide +kernel) rfl, gw_T_at 1399 (by decide +kernel) rfl⟩
theorem vi_L_217 : gw_vi RL 217 yX7_restore := ⟨gw_T_at 1401 (by decide +kernel) rfl, gw_T_at 1402 (by decide +kernel) rfl, gw_T_at 1403 (by decide +kernel) rfl⟩
theorem kc_X3_9 : Jvm.Cond.constant RX3 9 100000 ∈ gw_T := gw_T_at 896 (by decide +kernel) rfl
theorem kc_X7_264 : Jvm.Cond.constant RX7 264 100000 ∈ gw_T := gw_T_at 1381 (by decide +kernel) rfl
theorem kc_X7_265 : Jvm.Cond.constant RX7 265 700000 ∈ gw_T := gw_T_at 1382 (by decide +kernel) rfl
theorem kl_X6_280 : Jvm.Cond.constantLong RX6 280 1000000 ∈ gw_T := gw_T_at 891 (by decide +kernel) rfl
theorem kl_X6_293 : Jvm.Cond.constantLong RX6 293 6364136223846793005 ∈ gw_T := gw_T_at 916 (by decide +kernel) rfl
theorem kl_X6_295 : Jvm.Cond.constantLong RX6 295 1442695040888963407 ∈ gw_T := gw_T_at 917 (by decide +kernel) rfl
theorem kl_X7_266 : Jvm.Cond.constantLong RX7 266 1000000 ∈ gw_T := gw_T_at 1367 (by decide +kernel) rfl
theorem kl_X7_271 : Jvm.Cond.constantLong RX7 271 1000000000000 ∈ gw_T := gw_T_at 1368 (by decide +kernel) rfl
theorem kl_X7_273 : Jvm.Cond.constantLong RX7 273 1000000000000000000 ∈ gw_T := gw_T_at 1369 (by decide +kernel) rfl
theorem kl_X7_279 : Jvm.Cond.constantLong RX7 279 6364136223846793005 ∈ gw_T := gw_T_at 1391 (by decide +kernel) rfl
theorem kl_X7_281 : Jvm.Cond.constantLong RX7 281 1442695040888963407 ∈ gw_T := gw_T_at 1392 (by decide +kernel) rfl
theorem kl_L_202 : Jvm.Cond.constantLong RL 202 4294967295 ∈ gw_T := gw_T_at 1405 (by decide +kernel) rfl
