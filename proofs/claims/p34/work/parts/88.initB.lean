theorem fd_X1_9 : rw_fd RX1 9 1 0 := ⟨RX1, TX1, 16, tyX1, rfl, by decide, inT_X1, tyX1_ok, nmX1, gw_T_at 42 (by decide +kernel) rfl, rfl, rfl, fun _ => rfl, fun _ => rfl⟩
theorem fd_X1_15 : rw_fd RX1 15 1 1 := ⟨RX1, TX1, 16, tyX1, rfl, by decide, inT_X1, tyX1_ok, nmX1, gw_T_at 44 (by decide +kernel) rfl, rfl, rfl, fun _ => rfl, fun _ => rfl⟩
theorem fd_X1_18 : rw_fd RX1 18 1 4 := ⟨RX1, TX1, 16, tyX1, rfl, by decide, inT_X1, tyX1_ok, nmX1, gw_T_at 50 (by decide +kernel) rfl, rfl, rfl, fun _ => rfl, fun _ => rfl⟩
theorem fd_X1_21 : rw_fd RX1 21 1 5 := ⟨RX1, TX1, 16, tyX1, rfl, by decide, inT_X1, tyX1_ok, nmX1, gw_T_at 52 (by decide +kernel) rfl, rfl, rfl, fun _ => rfl, fun _ => rfl⟩
theorem fd_X1_24 : rw_fd RX1 24 1 6 := ⟨RX1, TX1, 16, tyX1, rfl, by decide, inT_X1, tyX1_ok, nmX1, gw_T_at 54 (by decide +kernel) rfl, rfl, rfl, fun _ => rfl, fun _ => rfl⟩
theorem fd_X1_27 : rw_fd RX1 27 1 7 := ⟨RX1, TX1, 16, tyX1, rfl, by decide, inT_X1, tyX1_ok, nmX1, gw_T_at 56 (by decide +kernel) rfl, rfl, rfl, fun _ => rfl, fun _ => rfl⟩
theorem fd_X1_30 : rw_fd RX1 30 1 8 := ⟨RX1, TX1, 16, tyX1, rfl, by decide, inT_X1, tyX1_ok, nmX1, gw_T_at 58 (by decide +kernel) rfl, rfl, rfl, fun _ => rfl, fun _ => rfl⟩
theorem fd_X1_33 : rw_fd RX1 33 1 9 := ⟨RX1, TX1, 16, tyX1, rfl, by decide, inT_X1, tyX1_ok, nmX1, gw_T_at 60 (by decide +kernel) rfl, rfl, rfl, fun _ => rfl, fun _ => rfl⟩
theorem fd_X1_37 : rw_fd RX1 37 1 10 := ⟨RX1, TX1, 16, tyX1, rfl, by decide, inT_X1, tyX1_ok, nmX1, gw_T_at 62 (by decide +kernel) rfl, rfl, rfl, fun _ => rfl, fun _ => rfl⟩
theorem fd_X1_40 : rw_fd RX1 40 1 11 := ⟨RX1, TX1, 16, tyX1, rfl, by decide, inT_X1, tyX1_ok, nmX1, gw_T_at 64 (by decide +kernel) rfl, rfl, rfl, fun _ => rfl, fun _ => rfl⟩
theorem fd_X1_43 : rw_fd RX1 43 1 13 := ⟨RX1, TX1, 16, tyX1, rfl, by decide, inT_X1, tyX1_ok, nmX1, gw_T_at 67 (by decide +kernel) rfl, rfl, rfl, fun _ => rfl, fun _ => rfl⟩
theorem fd_X1_46 : rw_fd RX1 46 1 14 := ⟨RX1, TX1, 16, tyX1, rfl, by decide, inT_X1, tyX1_ok, nmX1, gw_T_at 69 (by decide +kernel) rfl, rfl, rfl, fun _ => rfl, fun _ => rfl⟩
theorem fd_X1_49 : rw_fd RX1 49 1 15 := ⟨RX1, TX1, 16, tyX1, rfl, by decide, inT_X1, tyX1_ok, nmX1, gw_T_at 71 (by decide +kernel) rfl, rfl, rfl, fun _ => rfl, fun _ => rfl⟩
theorem fd_X0_11 : rw_fd RX0 11 0 0 := ⟨RX0, TX0, 3, tyX0, rfl, by decide, inT_X0, tyX0_ok, nmX0, gw_T_at 117 (by decide +kernel) rfl, rfl, rfl, fun _ => rfl, fun _ => rfl⟩
theorem fd_X5_9 : rw_fd RX5 9 3 0 := ⟨RX5, TX5, 6, tyX5, rfl, by decide, inT_X5, tyX5_ok, nmX5, gw_T_at 133 (by decide +kernel) rfl, rfl, rfl, fun _ => rfl, fun _ => rfl⟩
theorem fd_X5_15 : rw_fd RX5 15 3 4 := ⟨RX5, TX5, 6, tyX5, rfl, by decide, inT_X5, tyX5_ok, nmX5, gw_T_at 134 (by decide +kernel) rfl, rfl, rfl, fun _ => rfl, fun _ => rfl⟩
theorem fd_X2_9 : rw_fd RX2 9 2 0 := ⟨RX2, TX2, 2, tyX2, rfl, by decide, inT_X2, tyX2_ok, nmX2, gw_T_at 155 (by decide +kernel) rfl, rfl, rfl, fun _ => rfl, fun _ => rfl⟩
theorem fd_X2_15 : rw_fd RX2 15 2 1 := ⟨RX2, TX2, 2, tyX2, rfl, by decide, inT_X2, tyX2_ok, nmX2, gw_T_at 156 (by decide +kernel) rfl, rfl, rfl, fun _ => rfl, fun _ => rfl⟩
theorem fd_X6_10 : rw_fd RX6 10 4 0 := ⟨RX6, TX6, 7, tyX6, rfl, by decide, inT_X6, tyX6_ok, nmX6, gw_T_at 162 (by decide +kernel) rfl, rfl, rfl, fun _ => rfl, fun _ => rfl⟩
theorem fd_X6_16 : rw_fd RX6 16 4 1 := ⟨RX6, TX6, 7, tyX6, rfl, by decide, inT_X6, tyX6_ok, nmX6, gw_T_at 163 (by decide +kernel) rfl, rfl, rfl, fun _ => rfl, fun _ => rfl⟩
theorem fd_X6_22 : rw_fd RX6 22 4 2 := ⟨RX6, TX6, 7, tyX6, rfl, by decide, inT_X6, tyX6_ok, nmX6, gw_T_at 164 (by decide +kernel) rfl, rfl, rfl, fun _ => rfl, fun _ => rfl⟩
theorem fd_X6_26 : rw_fd RX6 26 4 3 := ⟨RX6, TX6, 7, tyX6, rfl, by decide, inT_X6, tyX6_ok, nmX6, gw_T_at 165 (by decide +kernel) rfl, rfl, rfl, fun _ => rfl, fun _ => rfl⟩
theorem fd_X6_30 : rw_fd RX6 30 4 4 := ⟨RX6, TX6, 7, tyX6, rfl, by decide, inT_X6, tyX6_ok, nmX6, gw_T_at 166 (by decide +kernel) rfl, rfl, rfl, fun _ => rfl, fun _ => rfl⟩
theorem fd_X6_37 : rw_fd RX6 37 4 5 := ⟨RX6, TX6, 7, tyX6, rfl, by decide, inT_X6, tyX6_ok, nmX6, gw_T_at 167 (by decide +kernel) rfl, rfl, rfl, fun _ => rfl, fun _ => rfl⟩
theorem fd_X6_44 : rw_fd RX6 44 4 6 := ⟨RX6, TX6, 7, tyX6, rfl, by decide, inT_X6, tyX6_ok, nmX6, gw_T_at 168 (by decide +kernel) rfl, rfl, rfl, fun _ => rfl, fun _ => rfl⟩
/-- Matching's world -/
def sMt : gw_S := (3, fun i => if i = 0 then .inr (2, [some 1, some 2]) else .inl (0, 20, fun j => j))
set_option maxHeartbeats 8000000 in
set_option maxRecDepth 100000 in
theorem new_X2 : rw_Ok yX2_init cX2_init 1 sMt 0 1 2 40 2 [.null, .null] (fun _ => True) := by
  refine rw_of rfl rfl (by decide) (fun X h0 C I In F => ?_)
  refine r_aload_n C rfl dX2_init_0 ?_
  refine r_objinit C (gw_T_at 154 (by decide +kernel) rfl) (by decide) (by decide) dX2_init_1 ?_
  refine r_aload_n C rfl dX2_init_4 ?_
  refine r_bipush (v := 20) C (by decide) dX2_init_5 ?_
  refine r_new_int (N := 20) C (by decide) (by decide) (by decide) ⟨by decide, by decide⟩ dX2_init_7 (fun q1 => ?_)
  show rw_G X [(h0, .inr (2, [.null, .null])), (q1, .inl (rw_cA X 0, 20, .inl (fun _ => 0)))] 1 1 20 9 [(0, .ref h0)] [.ref q1, .ref h0]
  refine r_putF C In fd_X2_9 (Nat.le_of_ble_eq_true rfl) dX2_init_9 ?_
  show rw_G X [(h0, .inr (2, [.ref q1, .null])), (q1, .inl (rw_cA X 0, 20, .inl (fun _ => 0)))] 1 1 20 12 [(0, .ref h0)] []
  refine r_aload_n C rfl dX2_init_12 ?_
  refine r_bipush (v := 20) C (by decide) dX2_init_13 ?_
  refine r_new_int (N := 20) C (by decide) (by decide) (by decide) ⟨by decide, by decide⟩ dX2_init_15 (fun q2 => ?_)
  show rw_G X [(h0, .inr (2, [.ref q1, .null])), (q1, .inl (rw_cA X 0, 20, .inl (fun _ => 0))), (q2, .inl (rw_cA X 0, 20, .inl (fun _ => 0)))] 1 2 40 17 [(0, .ref h0)] [.ref q2, .ref h0]
  refine r_putF C In fd_X2_15 (Nat.le_of_ble_eq_true rfl) dX2_init_17 ?_
  show rw_G X [(h0, .inr (2, [.ref q1, .ref q2])), (q1, .inl (rw_cA X 0, 20, .inl (fun _ => 0))), (q2, .inl (rw_cA X 0, 20, .inl (fun _ => 0)))] 1 2 40 20 [(0, .ref h0)] []
  have K : gw_G (rw_X X (fun i => ([h0, q1, q2] : List Nat).getD i 0)) sMt 1 2 40 20 [(0, .ref 0)] [] (fun _ _ => 0) := by
    exact rw_wg (r_ret C F rfl (trivial) ⟨by decide, by decide⟩ dX2_init_20)
  exact rw_gw K

set_option maxHeartbeats 8000000 in
set_option maxRecDepth 100000 in
theorem new_X5 : rw_Ok yX5_init cX5_init 1 sT 0 1 2 123 3 [.null, .int 0, .int 0, .int 0, .null, .int 0] (fun w => w 0 1 = 0) := by
  refine rw_of rfl rfl (by decide) (fun X h0 C I In F => ?_)
  refine r_aload_n C rfl dX5_init_0 ?_
  refine r_objinit C (gw_T_at 132 (by decide +kernel) rfl) (by decide) (by decide) dX5_init_1 ?_
  refine r_aload_n C rfl dX5_init_4 ?_
  refine r_bipush (v := 120) C (by decide) dX5_init_5 ?_
  refine r_new_char (N := 120) C (by decide) (by decide) (by decide) ⟨by decide, by decide⟩ dX5_init_7 (fun q1 => ?_)
  show rw_G X [(h0, .inr (3, [.null, .int 0, .int 0, .int 0, .null, .int 0])), (q1, .inl (rw_cA X 2, 120, .inl (fun _ => 0)))] 1 1 120 9 [(0, .ref h0)] [.ref q1, .ref h0]
  refine r_putF C In fd_X5_9 (Nat.le_of_ble_eq_true rfl) dX5_init_9 ?_
  show rw_G X [(h0, .inr (3, [.ref q1, .int 0, .int 0, .int 0, .null, .int 0])), (q1, .inl (rw_cA X 2, 120, .inl (fun _ => 0)))] 1 1 120 12 [(0, .ref h0)] []
  refine r_aload_n C rfl dX5_init_12 ?_
  refine r_iconst (v := 3) C (by decide) dX5_init_13 ?_
  refine r_new_int (N := 3) C (by decide) (by decide) (by decide) ⟨by decide, by decide⟩ dX5_init_14 (fun q2 => ?_)
  show rw_G X [(h0, .inr (3, [.ref q1, .int 0, .int 0, .int 0, .null, .int 0])), (q1, .inl (rw_cA X 2, 120, .inl (fun _ => 0))), (q2, .inl (rw_cA X 0, 3, .inl (fun _ => 0)))] 1 2 123 16 [(0, .ref h0)] [.ref q2, .ref h0]
  refine r_putF C In fd_X5_15 (Nat.le_of_ble_eq_true rfl) dX5_init_16 ?_
  show rw_G X [(h0, .inr (3, [.ref q1, .int 0, .int 0, .int 0, .ref q2, .int 0])), (q1, .inl (rw_cA X 2, 120, .inl (fun _ => 0))), (q2, .inl (rw_cA X 0, 3, .inl (fun _ => 0)))] 1 2 123 19 [(0, .ref h0)] []
  have K : gw_G (rw_X X (fun i => ([h0, q1, q2] : List Nat).getD i 0)) sT 1 2 123 19 [(0, .ref 0)] [] (fun _ _ => 0) := by
    exact rw_wg (r_ret C F rfl (rfl) ⟨by decide, by decide⟩ dX5_init_19)
  exact rw_gw K

set_option maxHeartbeats 8000000 in
set_option maxRecDepth 100000 in
theorem new_X1 : rw_Ok yX1_init cX1_init 1 sH 0 3 13 239 1 [.null, .null, .int 0, .int 0, .null, .null, .null, .null, .null, .null, .null, .null, .int 0, .null, .null, .null] (fun w => cw_nf (ho w) = cw_new) := by
  refine rw_of rfl rfl (by decide) (fun X h0 C I In F => ?_)
  refine r_aload_n C rfl dX1_init_0 ?_
  refine r_objinit C (gw_T_at 29 (by decide +kernel) rfl) (by decide) (by decide) dX1_init_1 ?_
  refine r_aload_n C rfl dX1_init_4 ?_
  refine r_iconst (v := 3) C (by decide) dX1_init_5 ?_
  refine r_new_int (N := 3) C (by decide) (by decide) (by decide) ⟨by decide, by decide⟩ dX1_init_6 (fun q1 => ?_)
  show rw_G X [(h0, .inr (1, [.null, .null, .int 0, .int 0, .null, .null, .null, .null, .null, .null, .null, .null, .int 0, .null, .null, .null])), (q1, .inl (rw_cA X 0, 3, .inl (fun _ => 0)))] 1 1 3 8 [(0, .ref h0)] [.ref q1, .ref h0]
  refine r_putF C In fd_X1_9 (Nat.le_of_ble_eq_true rfl) dX1_init_8 ?_
  show rw_G X [(h0, .inr (1, [.ref q1, .null, .int 0, .int 0, .null, .null, .null, .null, .null, .null, .null, .null, .int 0, .null, .null, .null])), (q1, .inl (rw_cA X 0, 3, .inl (fun _ => 0)))] 1 1 3 11 [(0, .ref h0)] []
  refine r_aload_n C rfl dX1_init_11 ?_
  refine r_bipush (v := 8) C (by decide) dX1_init_12 ?_
  refine r_new_int (N := 8) C (by decide) (by decide) (by decide) ⟨by decide, by decide⟩ dX1_init_14 (fun q2 => ?_)
  show rw_G X [(h0, .inr (1, [.ref q1, .null, .int 0, .int 0, .null, .null, .null, .null, .null, .null, .null, .null, .int 0, .null, .null, .null])), (q1, .inl (rw_cA X 0, 3, .inl (fun _ => 0))), (q2, .inl (rw_cA X 0, 8, .inl (fun _ => 0)))] 1 2 11 16 [(0, .ref h0)] [.ref q2, .ref h0]
  refine r_putF C In fd_X1_15 (Nat.le_of_ble_eq_true rfl) dX1_init_16 ?_
  show rw_G X [(h0, .inr (1, [.ref q1, .ref q2, .int 0, .int 0, .null, .null, .null, .null, .null, .null, .null, .null, .int 0, .null, .null, .null])), (q1, .inl (rw_cA X 0, 3, .inl (fun _ => 0))), (q2, .inl (rw_cA X 0, 8, .inl (fun _ => 0)))] 1 2 11 19 [(0, .ref h0)] []
  refine r_aload_n C rfl dX1_init_19 ?_
  refine r_bipush (v := 6) C (by decide) dX1_init_20 ?_
  refine r_new_int (N := 6) C (by decide) (by decide) (by decide) ⟨by decide, by decide⟩ dX1_init_22 (fun q3 => ?_)
  show rw_G X [(h0, .inr (1, [.ref q1, .ref q2, .int 0, .int 0, .null, .null, .null, .null, .null, .null, .null, .null, .int 0, .null, .null, .null])), (q1, .inl (rw_cA X 0, 3, .inl (fun _ => 0))), (q2, .inl (rw_cA X 0, 8, .inl (fun _ => 0))), (q3, .inl (rw_cA X 0, 6, .inl (fun _ => 0)))] 1 3 17 24 [(0, .ref h0)] [.ref q3, .ref h0]
  refine r_putF C In fd_X1_18 (Nat.le_of_ble_eq_true rfl) dX1_init_24 ?_
  show rw_G X [(h0, .inr (1, [.ref q1, .ref q2, .int 0, .int 0, .ref q3, .null, .null, .null, .null, .null, .null, .null, .int 0, .null, .null, .null])), (q1, .inl (rw_cA X 0, 3, .inl (fun _ => 0))), (q2, .inl (rw_cA X 0, 8, .inl (fun _ => 0))), (q3, .inl (rw_cA X 0, 6, .inl (fun _ => 0)))] 1 3 17 27 [(0, .ref h0)] []
  refine r_aload_n C rfl dX1_init_27 ?_
  refine r_bipush (v := 6) C (by decide) dX1_init_28 ?_
  refine r_new_int (N := 6) C (by decide) (by decide) (by decide) ⟨by decide, by decide⟩ dX1_init_30 (fun q4 => ?_)
  show rw_G X [(h0, .inr (1, [.ref q1, .ref q2, .int 0, .int 0, .ref q3, .null, .null, .null, .null, .null, .null, .null, .int 0, .null, .null, .null])), (q1, .inl (rw_cA X 0, 3, .inl (fun _ => 0))), (q2, .inl (rw_cA X 0, 8, .inl (fun _ => 0))), (q3, .inl (rw_cA X 0, 6, .inl (fun _ => 0))), (q4, .inl (rw_cA X 0, 6, .inl (fun _ => 0)))] 1 4 23 32 [(0, .ref h0)] [.ref q4, .ref h0]
  refine r_putF C In fd_X1_21 (Nat.le_of_ble_eq_true rfl) dX1_init_32 ?_
  show rw_G X [(h0, .inr (1, [.ref q1, .ref q2, .int 0, .int 0, .ref q3, .ref q4, .null, .null, .null, .null, .null, .null, .int 0, .null, .null, .null])), (q1, .inl (rw_cA X 0, 3, .inl (fun _ => 0))), (q2, .inl (rw_cA X 0, 8, .inl (fun _ => 0))), (q3, .inl (rw_cA X 0, 6, .inl (fun _ => 0))), (q4, .inl (rw_cA X 0, 6, .inl (fun _ => 0)))] 1 4 23 35 [(0, .ref h0)] []
  refine r_aload_n C rfl dX1_init_35 ?_
  refine r_bipush (v := 6) C (by decide) dX1_init_36 ?_
  refine r_new_int (N := 6) C (by decide) (by decide) (by decide) ⟨by decide, by decide⟩ dX1_init_38 (fun q5 => ?_)
  show rw_G X [(h0, .inr (1, [.ref q1, .ref q2, .int 0, .int 0, .ref q3, .ref q4, .null, .null, .null, .null, .null, .null, .int 0, .null, .null, .null])), (q1, .inl (rw_cA X 0, 3, .inl (fun _ => 0))), (q2, .inl (rw_cA X 0, 8, .inl (fun _ => 0))), (q3, .inl (rw_cA X 0, 6, .inl (fun _ => 0))), (q4, .inl (rw_cA X 0, 6, .inl (fun _ => 0))), (q5, .inl (rw_cA X 0, 6, .inl (fun _ => 0)))] 1 5 29 40 [(0, .ref h0)] [.ref q5, .ref h0]
  refine r_putF C In fd_X1_24 (Nat.le_of_ble_eq_true rfl) dX1_init_40 ?_
  show rw_G X [(h0, .inr (1, [.ref q1, .ref q2, .int 0, .int 0, .ref q3, .ref q4, .ref q5, .null, .null, .null, .null, .null, .int 0, .null, .null, .null])), (q1, .inl (rw_cA X 0, 3, .inl (fun _ => 0))), (q2, .inl (rw_cA X 0, 8, .inl (fun _ => 0))), (q3, .inl (rw_cA X 0, 6, .inl (fun _ => 0))), (q4, .inl (rw_cA X 0, 6, .inl (fun _ => 0))), (q5, .inl (rw_cA X 0, 6, .inl (fun _ => 0)))] 1 5 29 43 [(0, .ref h0)] []
  refine r_aload_n C rfl dX1_init_43 ?_
  refine r_bipush (v := 6) C (by decide) dX1_init_44 ?_
  refine r_new_int (N := 6) C (by decide) (by decide) (by decide) ⟨by decide, by decide⟩ dX1_init_46 (fun q6 => ?_)
  show rw_G X [(h0, .inr (1, [.ref q1, .ref q2, .int 0, .int 0, .ref q3, .ref q4, .ref q5, .null, .null, .null, .null, .null, .int 0, .null, .null, .null])), (q1, .inl (rw_cA X 0, 3, .inl (fun _ => 0))), (q2, .inl (rw_cA X 0, 8, .inl (fun _ => 0))), (q3, .inl (rw_cA X 0, 6, .inl (fun _ => 0))), (q4, .inl (rw_cA X 0, 6, .inl (fun _ => 0))), (q5, .inl (rw_cA X 0, 6, .inl (fun _ => 0))), (q6, .inl (rw_cA X 0, 6, .inl (fun _ => 0)))] 1 6 35 48 [(0, .ref h0)] [.ref q6, .ref h0]
  refine r_putF C In fd_X1_27 (Nat.le_of_ble_eq_true rfl) dX1_init_48 ?_
  show rw_G X [(h0, .inr (1, [.ref q1, .ref q2, .int 0, .int 0, .ref q3, .ref q4, .ref q5, .ref q6, .null, .null, .null, .null, .int 0, .null, .null, .null])), (q1, .inl (rw_cA X 0, 3, .inl (fun _ => 0))), (q2, .inl (rw_cA X 0, 8, .inl (fun _ => 0))), (q3, .inl (rw_cA X 0, 6, .inl (fun _ => 0))), (q4, .inl (rw_cA X 0, 6, .inl (fun _ => 0))), (q5, .inl (rw_cA X 0, 6, .inl (fun _ => 0))), (q6, .inl (rw_cA X 0, 6, .inl (fun _ => 0)))] 1 6 35 51 [(0, .ref h0)] []
  refine r_aload_n C rfl dX1_init_51 ?_
  refine r_bipush (v := 20) C (by decide) dX1_init_52 ?_
  refine r_new_int (N := 20) C (by decide) (by decide) (by decide) ⟨by decide, by decide⟩ dX1_init_54 (fun q7 => ?_)
  show rw_G X [(h0, .inr (1, [.ref q1, .ref q2, .int 0, .int 0, .ref q3, .ref q4, .ref q5, .ref q6, .null, .null, .null, .null, .int 0, .null, .null, .null])), (q1, .inl (rw_cA X 0, 3, .inl (fun _ => 0))), (q2, .inl (rw_cA X 0, 8, .inl (fun _ => 0))), (q3, .inl (rw_cA X 0, 6, .inl (fun _ => 0))), (q4, .inl (rw_cA X 0, 6, .inl (fun _ => 0))), (q5, .inl (rw_cA X 0, 6, .inl (fun _ => 0))), (q6, .inl (rw_cA X 0, 6, .inl (fun _ => 0))), (q7, .inl (rw_cA X 0, 20, .inl (fun _ => 0)))] 1 7 55 56 [(0, .ref h0)] [.ref q7, .ref h0]
  refine r_putF C In fd_X1_30 (Nat.le_of_ble_eq_true rfl) dX1_init_56 ?_
  show rw_G X [(h0, .inr (1, [.ref q1, .ref q2, .int 0, .int 0, .ref q3, .ref q4, .ref q5, .ref q6, .ref q7, .null, .null, .null, .int 0, .null, .null, .null])), (q1, .inl (rw_cA X 0, 3, .inl (fun _ => 0))), (q2, .inl (rw_cA X 0, 8, .inl (fun _ => 0))), (q3, .inl (rw_cA X 0, 6, .inl (fun _ => 0))), (q4, .inl (rw_cA X 0, 6, .inl (fun _ => 0))), (q5, .inl (rw_cA X 0, 6, .inl (fun _ => 0))), (q6, .inl (rw_cA X 0, 6, .inl (fun _ => 0))), (q7, .inl (rw_cA X 0, 20, .inl (fun _ => 0)))] 1 7 55 59 [(0, .ref h0)] []
  refine r_aload_n C rfl dX1_init_59 ?_
  refine r_bipush (v := 20) C (by decide) dX1_init_60 ?_
  refine r_new_boolean (N := 20) C (by decide) (by decide) (by decide) ⟨by decide, by decide⟩ dX1_init_62 (fun q8 => ?_)
  show rw_G X [(h0, .inr (1, [.ref q1, .ref q2, .int 0, .int 0, .ref q3, .ref q4, .ref q5, .ref q6, .ref q7, .null, .null, .null, .int 0, .null, .null, .null])), (q1, .inl (rw_cA X 0, 3, .inl (fun _ => 0))), (q2, .inl (rw_cA X 0, 8, .inl (fun _ => 0))), (q3, .inl (rw_cA X 0, 6, .inl (fun _ => 0))), (q4, .inl (rw_cA X 0, 6, .inl (fun _ => 0))), (q5, .inl (rw_cA X 0, 6, .inl (fun _ => 0))), (q6, .inl (rw_cA X 0, 6, .inl (fun _ => 0))), (q7, .inl (rw_cA X 0, 20, .inl (fun _ => 0))), (q8, .inl (rw_cA X 1, 20, .inl (fun _ => 0)))] 1 8 75 64 [(0, .ref h0)] [.ref q8, .ref h0]
  refine r_putF C In fd_X1_33 (Nat.le_of_ble_eq_true rfl) dX1_init_64 ?_
  show rw_G X [(h0, .inr (1, [.ref q1, .ref q2, .int 0, .int 0, .ref q3, .ref q4, .ref q5, .ref q6, .ref q7, .ref q8, .null, .null, .int 0, .null, .null, .null])), (q1, .inl (rw_cA X 0, 3, .inl (fun _ => 0))), (q2, .inl (rw_cA X 0, 8, .inl (fun _ => 0))), (q3, .inl (rw_cA X 0, 6, .inl (fun _ => 0))), (q4, .inl (rw_cA X 0, 6, .inl (fun _ => 0))), (q5, .inl (rw_cA X 0, 6, .inl (fun _ => 0))), (q6, .inl (rw_cA X 0, 6, .inl (fun _ => 0))), (q7, .inl (rw_cA X 0, 20, .inl (fun _ => 0))), (q8, .inl (rw_cA X 1, 20, .inl (fun _ => 0)))] 1 8 75 67 [(0, .ref h0)] []
  refine r_aload_n C rfl dX1_init_67 ?_
  refine r_bipush (v := 20) C (by decide) dX1_init_68 ?_
  refine r_new_int (N := 20) C (by decide) (by decide) (by decide) ⟨by decide, by decide⟩ dX1_init_70 (fun q9 => ?_)
  show rw_G X [(h0, .inr (1, [.ref q1, .ref q2, .int 0, .int 0, .ref q3, .ref q4, .ref q5, .ref q6, .ref q7, .ref q8, .null, .null, .int 0, .null, .null, .null])), (q1, .inl (rw_cA X 0, 3, .inl (fun _ => 0))), (q2, .inl (rw_cA X 0, 8, .inl (fun _ => 0))), (q3, .inl (rw_cA X 0, 6, .inl (fun _ => 0))), (q4, .inl (rw_cA X 0, 6, .inl (fun _ => 0))), (q5, .inl (rw_cA X 0, 6, .inl (fun _ => 0))), (q6, .inl (rw_cA X 0, 6, .inl (fun _ => 0))), (q7, .inl (rw_cA X 0, 20, .inl (fun _ => 0))), (q8, .inl (rw_cA X 1, 20, .inl (fun _ => 0))), (q9, .inl (rw_cA X 0, 20, .inl (fun _ => 0)))] 1 9 95 72 [(0, .ref h0)] [.ref q9, .ref h0]
  refine r_putF C In fd_X1_37 (Nat.le_of_ble_eq_true rfl) dX1_init_72 ?_
  show rw_G X [(h0, .inr (1, [.ref q1, .ref q2, .int 0, .int 0, .ref q3, .ref q4, .ref q5, .ref q6, .ref q7, .ref q8, .ref q9, .null, .int 0, .null, .null, .null])), (q1, .inl (rw_cA X 0, 3, .inl (fun _ => 0))), (q2, .inl (rw_cA X 0, 8, .inl (fun _ => 0))), (q3, .inl (rw_cA X 0, 6, .inl (fun _ => 0))), (q4, .inl (rw_cA X 0, 6, .inl (fun _ => 0))), (q5, .inl (rw_cA X 0, 6, .inl (fun _ => 0))), (q6, .inl (rw_cA X 0, 6, .inl (fun _ => 0))), (q7, .inl (rw_cA X 0, 20, .inl (fun _ => 0))), (q8, .inl (rw_cA X 1, 20, .inl (fun _ => 0))), (q9, .inl (rw_cA X 0, 20, .inl (fun _ => 0)))] 1 9 95 75 [(0, .ref h0)] []
  refine r_aload_n C rfl dX1_init_75 ?_
  refine r_bipush (v := 120) C (by decide) dX1_init_76 ?_
  refine r_new_int (N := 120) C (by decide) (by decide) (by decide) ⟨by decide, by decide⟩ dX1_init_78 (fun q10 => ?_)
  show rw_G X [(h0, .inr (1, [.ref q1, .ref q2, .int 0, .int 0, .ref q3, .ref q4, .ref q5, .ref q6, .ref q7, .ref q8, .ref q9, .null, .int 0, .null, .null, .null])), (q1, .inl (rw_cA X 0, 3, .inl (fun _ => 0))), (q2, .inl (rw_cA X 0, 8, .inl (fun _ => 0))), (q3, .inl (rw_cA X 0, 6, .inl (fun _ => 0))), (q4, .inl (rw_cA X 0, 6, .inl (fun _ => 0))), (q5, .inl (rw_cA X 0, 6, .inl (fun _ => 0))), (q6, .inl (rw_cA X 0, 6, .inl (fun _ => 0))), (q7, .inl (rw_cA X 0, 20, .inl (fun _ => 0))), (q8, .inl (rw_cA X 1, 20, .inl (fun _ => 0))), (q9, .inl (rw_cA X 0, 20, .inl (fun _ => 0))), (q10, .inl (rw_cA X 0, 120, .inl (fun _ => 0)))] 1 10 215 80 [(0, .ref h0)] [.ref q10, .ref h0]
  refine r_putF C In fd_X1_40 (Nat.le_of_ble_eq_true rfl) dX1_init_80 ?_
  show rw_G X [(h0, .inr (1, [.ref q1, .ref q2, .int 0, .int 0, .ref q3, .ref q4, .ref q5, .ref q6, .ref q7, .ref q8, .ref q9, .ref q10, .int 0, .null, .null, .null])), (q1, .inl (rw_cA X 0, 3, .inl (fun _ => 0))), (q2, .inl (rw_cA X 0, 8, .inl (fun _ => 0))), (q3, .inl (rw_cA X 0, 6, .inl (fun _ => 0))), (q4, .inl (rw_cA X 0, 6, .inl (fun _ => 0))), (q5, .inl (rw_cA X 0, 6, .inl (fun _ => 0))), (q6, .inl (rw_cA X 0, 6, .inl (fun _ => 0))), (q7, .inl (rw_cA X 0, 20, .inl (fun _ => 0))), (q8, .inl (rw_cA X 1, 20, .inl (fun _ => 0))), (q9, .inl (rw_cA X 0, 20, .inl (fun _ => 0))), (q10, .inl (rw_cA X 0, 120, .inl (fun _ => 0)))] 1 10 215 83 [(0, .ref h0)] []
  refine r_aload_n C rfl dX1_init_83 ?_
  refine r_bipush (v := 8) C (by decide) dX1_init_84 ?_
  refine r_new_int (N := 8) C (by decide) (by decide) (by decide) ⟨by decide, by decide⟩ dX1_init_86 (fun q11 => ?_)
  show rw_G X [(h0, .inr (1, [.ref q1, .ref q2, .int 0, .int 0, .ref q3, .ref q4, .ref q5, .ref q6, .ref q7, .ref q8, .ref q9, .ref q10, .int 0, .null, .null, .null])), (q1, .inl (rw_cA X 0, 3, .inl (fun _ => 0))), (q2, .inl (rw_cA X 0, 8, .inl (fun _ => 0))), (q3, .inl (rw_cA X 0, 6, .inl (fun _ => 0))), (q4, .inl (rw_cA X 0, 6, .inl (fun _ => 0))), (q5, .inl (rw_cA X 0, 6, .inl (fun _ => 0))), (q6, .inl (rw_cA X 0, 6, .inl (fun _ => 0))), (q7, .inl (rw_cA X 0, 20, .inl (fun _ => 0))), (q8, .inl (rw_cA X 1, 20, .inl (fun _ => 0))), (q9, .inl (rw_cA X 0, 20, .inl (fun _ => 0))), (q10, .inl (rw_cA X 0, 120, .inl (fun _ => 0))), (q11, .inl (rw_cA X 0, 8, .inl (fun _ => 0)))] 1 11 223 88 [(0, .ref h0)] [.ref q11, .ref h0]
  refine r_putF C In fd_X1_43 (Nat.le_of_ble_eq_true rfl) dX1_init_88 ?_
  show rw_G X [(h0, .inr (1, [.ref q1, .ref q2, .int 0, .int 0, .ref q3, .ref q4, .ref q5, .ref q6, .ref q7, .ref q8, .ref q9, .ref q10, .int 0, .ref q11, .null, .null])), (q1, .inl (rw_cA X 0, 3, .inl (fun _ => 0))), (q2, .inl (rw_cA X 0, 8, .inl (fun _ => 0))), (q3, .inl (rw_cA X 0, 6, .inl (fun _ => 0))), (q4, .inl (rw_cA X 0, 6, .inl (fun _ => 0))), (q5, .inl (rw_cA X 0, 6, .inl (fun _ => 0))), (q6, .inl (rw_cA X 0, 6, .inl (fun _ => 0))), (q7, .inl (rw_cA X 0, 20, .inl (fun _ => 0))), (q8, .inl (rw_cA X 1, 20, .inl (fun _ => 0))), (q9, .inl (rw_cA X 0, 20, .inl (fun _ => 0))), (q10, .inl (rw_cA X 0, 120, .inl (fun _ => 0))), (q11, .inl (rw_cA X 0, 8, .inl (fun _ => 0)))] 1 11 223 91 [(0, .ref h0)] []
  refine r_aload_n C rfl dX1_init_91 ?_
  refine r_bipush (v := 8) C (by decide) dX1_init_92 ?_
  refine r_new_int (N := 8) C (by decide) (by decide) (by decide) ⟨by decide, by decide⟩ dX1_init_94 (fun q12 => ?_)
  show rw_G X [(h0, .inr (1, [.ref q1, .ref q2, .int 0, .int 0, .ref q3, .ref q4, .ref q5, .ref q6, .ref q7, .ref q8, .ref q9, .ref q10, .int 0, .ref q11, .null, .null])), (q1, .inl (rw_cA X 0, 3, .inl (fun _ => 0))), (q2, .inl (rw_cA X 0, 8, .inl (fun _ => 0))), (q3, .inl (rw_cA X 0, 6, .inl (fun _ => 0))), (q4, .inl (rw_cA X 0, 6, .inl (fun _ => 0))), (q5, .inl (rw_cA X 0, 6, .inl (fun _ => 0))), (q6, .inl (rw_cA X 0, 6, .inl (fun _ => 0))), (q7, .inl (rw_cA X 0, 20, .inl (fun _ => 0))), (q8, .inl (rw_cA X 1, 20, .inl (fun _ => 0))), (q9, .inl (rw_cA X 0, 20, .inl (fun _ => 0))), (q10, .inl (rw_cA X 0, 120, .inl (fun _ => 0))), (q11, .inl (rw_cA X 0, 8, .inl (fun _ => 0))), (q12, .inl (rw_cA X 0, 8, .inl (fun _ => 0)))] 1 12 231 96 [(0, .ref h0)] [.ref q12, .ref h0]
  refine r_putF C In fd_X1_46 (Nat.le_of_ble_eq_true rfl) dX1_init_96 ?_
  show rw_G X [(h0, .inr (1, [.ref q1, .ref q2, .int 0, .int 0, .ref q3, .ref q4, .ref q5, .ref q6, .ref q7, .ref q8, .ref q9, .ref q10, .int 0, .ref q11, .ref q12, .null])), (q1, .inl (rw_cA X 0, 3, .inl (fun _ => 0))), (q2, .inl (rw_cA X 0, 8, .inl (fun _ => 0))), (q3, .inl (rw_cA X 0, 6, .inl (fun _ => 0))), (q4, .inl (rw_cA X 0, 6, .inl (fun _ => 0))), (q5, .inl (rw_cA X 0, 6, .inl (fun _ => 0))), (q6, .inl (rw_cA X 0, 6, .inl (fun _ => 0))), (q7, .inl (rw_cA X 0, 20, .inl (fun _ => 0))), (q8, .inl (rw_cA X 1, 20, .inl (fun _ => 0))), (q9, .inl (rw_cA X 0, 20, .inl (fun _ => 0))), (q10, .inl (rw_cA X 0, 120, .inl (fun _ => 0))), (q11, .inl (rw_cA X 0, 8, .inl (fun _ => 0))), (q12, .inl (rw_cA X 0, 8, .inl (fun _ => 0)))] 1 12 231 99 [(0, .ref h0)] []
  refine r_aload_n C rfl dX1_init_99 ?_
  refine r_bipush (v := 8) C (by decide) dX1_init_100 ?_
  refine r_new_int (N := 8) C (by decide) (by decide) (by decide) ⟨by decide, by decide⟩ dX1_init_102 (fun q13 => ?_)
  show rw_G X [(h0, .inr (1, [.ref q1, .ref q2, .int 0, .int 0, .ref q3, .ref q4, .ref q5, .ref q6, .ref q7, .ref q8, .ref q9, .ref q10, .int 0, .ref q11, .ref q12, .null])), (q1, .inl (rw_cA X 0, 3, .inl (fun _ => 0))), (q2, .inl (rw_cA X 0, 8, .inl (fun _ => 0))), (q3, .inl (rw_cA X 0, 6, .inl (fun _ => 0))), (q4, .inl (rw_cA X 0, 6, .inl (fun _ => 0))), (q5, .inl (rw_cA X 0, 6, .inl (fun _ => 0))), (q6, .inl (rw_cA X 0, 6, .inl (fun _ => 0))), (q7, .inl (rw_cA X 0, 20, .inl (fun _ => 0))), (q8, .inl (rw_cA X 1, 20, .inl (fun _ => 0))), (q9, .inl (rw_cA X 0, 20, .inl (fun _ => 0))), (q10, .inl (rw_cA X 0, 120, .inl (fun _ => 0))), (q11, .inl (rw_cA X 0, 8, .inl (fun _ => 0))), (q12, .inl (rw_cA X 0, 8, .inl (fun _ => 0))), (q13, .inl (rw_cA X 0, 8, .inl (fun _ => 0)))] 1 13 239 104 [(0, .ref h0)] [.ref q13, .ref h0]
  refine r_putF C In fd_X1_49 (Nat.le_of_ble_eq_true rfl) dX1_init_104 ?_
  show rw_G X [(h0, .inr (1, [.ref q1, .ref q2, .int 0, .int 0, .ref q3, .ref q4, .ref q5, .ref q6, .ref q7, .ref q8, .ref q9, .ref q10, .int 0, .ref q11, .ref q12, .ref q13])), (q1, .inl (rw_cA X 0, 3, .inl (fun _ => 0))), (q2, .inl (rw_cA X 0, 8, .inl (fun _ => 0))), (q3, .inl (rw_cA X 0, 6, .inl (fun _ => 0))), (q4, .inl (rw_cA X 0, 6, .inl (fun _ => 0))), (q5, .inl (rw_cA X 0, 6, .inl (fun _ => 0))), (q6, .inl (rw_cA X 0, 6, .inl (fun _ => 0))), (q7, .inl (rw_cA X 0, 20, .inl (fun _ => 0))), (q8, .inl (rw_cA X 1, 20, .inl (fun _ => 0))), (q9, .inl (rw_cA X 0, 20, .inl (fun _ => 0))), (q10, .inl (rw_cA X 0, 120, .inl (fun _ => 0))), (q11, .inl (rw_cA X 0, 8, .inl (fun _ => 0))), (q12, .inl (rw_cA X 0, 8, .inl (fun _ => 0))), (q13, .inl (rw_cA X 0, 8, .inl (fun _ => 0)))] 1 13 239 107 [(0, .ref h0)] []
  have K : gw_G (rw_X X (fun i => ([h0, q1, q2, q3, q4, q5, q6, q7, q8, q9, q10, q11, q12, q13] : List Nat).getD i 0)) sH 1 13 239 107 [(0, .ref 0)] [] (fun _ _ => 0) := by
    have CX := rw_okX C (fun i => ([h0, q1, q2, q3, q4, q5, q6, q7, q8, q9, q10, q11, q12, q13] : List Nat).getD i 0)
    refine g_aload_n CX rfl dX1_init_107 ?_
    refine g_call CX ok_X1_clear my_X1_clear vi_X1_52 (by decide) ⟨by decide, by decide⟩ rfl rfl rfl (by decide) dX1_init_108 rfl trivial (fun v1 w1 hp1 => ?_)
    obtain ⟨rfl, hp1⟩ := hp1
    exact rw_wg (r_ret C F rfl (hp1) ⟨by decide, by decide⟩ dX1_init_111)
  exact rw_gw K
