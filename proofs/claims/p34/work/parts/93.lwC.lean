/-! WHAT THE LAW DOES AT A CELL: the call and its arguments, out of the house and the cell -/
def pw_sh (v k : Int32) : Int32 := v >>> (k &&& 31)
def pw_isb (v : Int32) : Int32 := if pw_low (pw_sh v 22) 7 ≤ 0 then 0 else 1
def pw_xx (v : Int32) : Int32 := pw_sh v 5
def pw_way (v : Int32) : Int32 := pw_low v 32
def pw_sel (s a b : Int32) : Int32 := if s = 0 then b else a
def pw_ow (s n : Int32) : Int32 := if s = 0 then n + 1 else if n ≤ 0 then n + 1 else n
def pw_ao (u : cw_s) (v : Int32) : Int32 := pw_low (pw_xx v) (pw_ow (pw_isb v) (u 0))
def pw_wk (v : Int32) : Int32 := pw_low (pw_sh (pw_xx v) 3) (pw_sel (pw_isb v) 8 22)
def pw_rw (u : cw_s) (v : Int32) : Int32 := if pw_isb v = 0 then pw_wk v else if u 0 = 0 then pw_wk v else if cw_ofO u (cw_x (pw_ao u v)) 2 = 0 then pw_wk v else cw_ofO u (cw_x (pw_ao u v)) 5
abbrev pw_Op : Type := Nat × Int32 × Int32 × Int32
def pw_op (u : cw_s) (v : Int32) : pw_Op :=
  if 3 ≤ pw_way v then
    if 12 ≤ pw_way v then
      if 19 ≤ pw_way v then
        if pw_way v = 19 then (3, pw_low (pw_xx v) (u 205 + 1), 0, 0)
        else if 24 ≤ pw_way v then
          if pw_way v = 24 then (4, pw_low (pw_xx v) (pw_sel (pw_isb v) 500 1010), 0, 0)
          else if pw_way v = 25 then (5, pw_low (pw_xx v) (pw_sel (pw_isb v) 3 4), 1 + pw_low (pw_sh (pw_xx v) 2) (pw_sel (pw_isb v) 10 30), 0)
          else if pw_way v = 26 then (6, pw_wk v, pw_low (pw_sh (pw_xx v) 7) 11, 0)
          else (7, pw_wk v, pw_sh (pw_xx v) 7 &&& 1, 0)
        else if 23 ≤ pw_way v then (11, 0, 0, 0) else (10, 0, 0, 0)
      else if 16 ≤ pw_way v then (9, pw_ao u v, pw_wk v, pw_low (pw_sh (pw_xx v) 7) (pw_sel (pw_isb v) 8 22))
      else (8, pw_ao u v, pw_wk v, pw_low (pw_sh (pw_xx v) 7) (pw_sel (pw_isb v) 21 25))
    else if 10 ≤ pw_way v then (2, pw_ao u v, pw_rw u v, 0) else (1, pw_ao u v, pw_wk v, 0)
  else (0, pw_low (pw_xx v) (pw_sel (pw_isb v) 9 12) + pw_sel (pw_isb v) 1 0, 0, 0)
noncomputable def pw_run (A : cw_A) (op : pw_Op) : cw_R :=
  match op.1 with
  | 0 => pw_rc pw_fA (sp_owner A op.2.1)
  | 1 => pw_rc pw_fD (sp_take A op.2.1 op.2.2.1)
  | 2 => pw_rc pw_fC (sp_release A op.2.1 op.2.2.1)
  | 3 => pw_rc pw_fD (sp_accept A op.2.1)
  | 4 => pw_rc pw_fA (sp_upkeep A op.2.1)
  | 5 => pw_rc pw_fA (sp_set A op.2.1 op.2.2.1)
  | 6 => pw_rc pw_fB (sp_cost A op.2.1 op.2.2.1)
  | 7 => pw_rc pw_fD (sp_school A op.2.1 (cw_b (op.2.2.1 = 1)))
  | 8 => pw_rc pw_fD (sp_bid A op.2.1 op.2.2.1 op.2.2.2)
  | 9 => pw_rc pw_fC (sp_offer A op.2.1 op.2.2.1 op.2.2.2)
  | 10 => sp_settle A
  | _ => sp_year A
theorem pw_to {A : cw_A} {op oq : pw_Op} {vr : Option Value} {w : gw_M} (h : op = oq) (k : cw_LW (pw_run A oq) vr w) : cw_LW (pw_run A op) vr w := by rw [h]; exact k
theorem pw_tw {A : cw_A} {op oq : pw_Op} {r : cw_R} {vr : Option Value} {w : gw_M} (h : op = oq) (e : pw_run A oq = r) (k : cw_LW r vr w) : cw_LW (pw_run A op) vr w := by rw [h, e]; exact k
theorem pw_run_0 (A : cw_A) (a b c : Int32) : pw_run A (0, a, b, c) = pw_rc pw_fA (sp_owner A a) := rfl
theorem pw_run_1 (A : cw_A) (a b c : Int32) : pw_run A (1, a, b, c) = pw_rc pw_fD (sp_take A a b) := rfl
theorem pw_run_2 (A : cw_A) (a b c : Int32) : pw_run A (2, a, b, c) = pw_rc pw_fC (sp_release A a b) := rfl
theorem pw_run_3 (A : cw_A) (a b c : Int32) : pw_run A (3, a, b, c) = pw_rc pw_fD (sp_accept A a) := rfl
theorem pw_run_4 (A : cw_A) (a b c : Int32) : pw_run A (4, a, b, c) = pw_rc pw_fA (sp_upkeep A a) := rfl
theorem pw_run_5 (A : cw_A) (a b c : Int32) : pw_run A (5, a, b, c) = pw_rc pw_fA (sp_set A a b) := rfl
theorem pw_run_6 (A : cw_A) (a b c : Int32) : pw_run A (6, a, b, c) = pw_rc pw_fB (sp_cost A a b) := rfl
theorem pw_run_7 (A : cw_A) (a b c : Int32) : pw_run A (7, a, b, c) = pw_rc pw_fD (sp_school A a (cw_b (b = 1))) := rfl
theorem pw_run_8 (A : cw_A) (a b c : Int32) : pw_run A (8, a, b, c) = pw_rc pw_fD (sp_bid A a b c) := rfl
theorem pw_run_9 (A : cw_A) (a b c : Int32) : pw_run A (9, a, b, c) = pw_rc pw_fC (sp_offer A a b c) := rfl
theorem pw_run_10 (A : cw_A) (a b c : Int32) : pw_run A (10, a, b, c) = sp_settle A := rfl
theorem pw_run_11 (A : cw_A) (a b c : Int32) : pw_run A (11, a, b, c) = sp_year A := rfl
theorem pw_land (v : Int32) : 0 ≤ (v &&& 2147483647).toInt := by
  rw [pk_and v (m := 2147483647) 31 (by decide), nI_toInt (by have := Nat.mod_lt v.toBitVec.toNat (show 0 < 2 ^ 31 by decide); omega)]
  exact Int.natCast_nonneg _
theorem pw_low_r (v : Int32) {n : Int32} (h : 0 < n.toInt) : 0 ≤ (pw_low v n).toInt ∧ (pw_low v n).toInt < n.toInt := by
  have e := (cw_mdg (pw_land v) h).1
  unfold pw_low
  rw [e]
  exact ⟨Int.emod_nonneg _ (by omega), Int.emod_lt_of_pos _ h⟩
theorem pw_sel_ne {s a b : Int32} (ha : ¬ a = 0) (hb : ¬ b = 0) : ¬ pw_sel s a b = 0 := by
  unfold pw_sel; split
  · exact hb
  · exact ha
theorem pw_no_ne {n m : Nat} {u : cw_s} (hI : cw_I n m u) (s : Int32) : ¬ pw_ow s (u 0) = 0 := by
  obtain ⟨h0, h6⟩ := hI.no
  have e : ¬ u 0 + 1 = 0 := fun q => by
    have q := congrArg Int32.toInt q
    have z : (0 : Int32).toInt = 0 := rfl
    have z1 : (1 : Int32).toInt = 1 := rfl
    rw [Int32.toInt_add, h0, Int.bmod_eq_of_le (by omega) (by omega)] at q
    omega
  unfold pw_ow
  split
  · exact e
  · split
    · exact e
    · next q => exact fun z => q (by rw [z]; exact Int32.le_refl 0)
theorem pw_off_ne {n m : Nat} {u : cw_s} (hI : cw_I n m u) : ¬ u 205 + 1 = 0 := by
  obtain ⟨q, q8, e, -⟩ := hI.off
  rw [e]
  intro z
  have z := congrArg Int32.toInt z
  rw [Int32.toInt_add, cw_ni (by omega), Int.bmod_eq_of_le (by have : (1 : Int32).toInt = 1 := rfl; omega) (by have : (1 : Int32).toInt = 1 := rfl; omega)] at z
  have z0 : (0 : Int32).toInt = 0 := rfl
  have z1 : (1 : Int32).toInt = 1 := rfl
  omega
theorem pw_ao_in {n m : Nat} {u : cw_s} (hI : cw_I n m u) {v : Int32} (h1 : ¬ pw_isb v = 0) (h2 : ¬ u 0 = 0) : cw_isO u (pw_ao u v) := by
  obtain ⟨h0, h6⟩ := hI.no
  have hp : ¬ u 0 ≤ 0 := fun q => h2 (by
    rw [cw_le] at q
    have z0 : (0 : Int32).toInt = 0 := rfl
    apply Int32.toInt_inj.mp; omega)
  have e : pw_ow (pw_isb v) (u 0) = u 0 := by unfold pw_ow; rw [if_neg h1, if_neg hp]
  unfold pw_ao
  rw [e]
  have hpos : 0 < (u 0).toInt := by
    rw [cw_le] at hp
    have z0 : (0 : Int32).toInt = 0 := rfl
    omega
  have r := pw_low_r (pw_xx v) hpos
  rw [cw_isO_lt hI.m, cw_le, cw_lt]
  have z0 : (0 : Int32).toInt = 0 := rfl
  omega

set_option maxHeartbeats 8000000 in
set_option maxRecDepth 100000 in
theorem ok_L_act (A : cw_A) {n m : Nat} (hA : cw_IA n m A) (hB : cw_B (n + 21600) (m + 2400)) (v : Int32) : gw_OkR yL_act cL_act 9 (some .int) sCO 14 1 6 [.ref 252, .int v, .ref 263] (fun w => cw_RC A w) (fun _ vr w1 => cw_LW (pw_run A (pw_op A.1 v)) vr w1) := by
  refine gw_ofR (by decide) (Nat.le_of_ble_eq_true rfl) ?_
  intro X w hst h C F
  have hI := hA.1
  have hB2 : cw_B n (m + 20) := cw_B_le2 hB (by omega) (by omega)
  refine g_iload_n C rfl dL_act_0 ?_
  refine g_bipush (v := 32) C (by decide) dL_act_1 ?_
  refine g_callSW C (cw_emb_Z sCO) (ok_L_low (v) (32) (by decide)) my_L_low si_L_54 (by decide) ⟨Nat.zero_le _, Nat.zero_le _⟩ rfl (fun _ => w) (fun _ _ hi => absurd hi (Nat.not_lt_zero _)) (fun _ _ _ _ => rfl) w (fun _ hi => absurd hi (Nat.not_lt_zero _)) (Nat.le_of_ble_eq_true rfl) dL_act_3 rfl trivial (fun v_3 w_3 hp_3 => ?_)
  obtain ⟨rfl, -⟩ := hp_3
  refine g_top (show _ = pw_way v from rfl) ?_
  refine g_istore_n C (by decide) dL_act_6 ?_
  refine g_iload_n C rfl dL_act_7 ?_
  refine g_iconst (v := 5) C (by decide) dL_act_8 ?_
  refine g_ishr C dL_act_9 ?_
  refine g_top (show _ = pw_xx v from rfl) ?_
  refine g_istore C (by decide) dL_act_10 ?_
  refine g_iload_n C rfl dL_act_12 ?_
  refine g_bipush (v := 22) C (by decide) dL_act_13 ?_
  refine g_ishr C dL_act_15 ?_
  refine g_top (show _ = pw_sh v 22 from rfl) ?_
  refine g_bipush (v := 7) C (by decide) dL_act_16 ?_
  refine g_callSW C (cw_emb_Z sCO) (ok_L_low (pw_sh v 22) (7) (by decide)) my_L_low si_L_54 (by decide) ⟨Nat.zero_le _, Nat.zero_le _⟩ rfl (fun _ => w) (fun _ _ hi => absurd hi (Nat.not_lt_zero _)) (fun _ _ _ _ => rfl) w (fun _ hi => absurd hi (Nat.not_lt_zero _)) (Nat.le_of_ble_eq_true rfl) dL_act_18 rfl trivial (fun v_18 w_18 hp_18 => ?_)
  obtain ⟨rfl, -⟩ := hp_18
  refine g_join1 29 (pw_isb v) (fun k_29 => ?_) ?_
  · refine g_if_le (tgt := 28) C (by decide) dL_act_21 (fun c_21 => ?_) (fun c_21 => ?_)
    · refine g_iconst (v := 0) C (by decide) dL_act_28 ?_
      exact k_29 _ ((if_pos c_21).symm)
    · refine g_iconst (v := 1) C (by decide) dL_act_24 ?_
      refine g_goto (tgt := 29) C (by decide) dL_act_25 ?_
      exact k_29 _ ((if_neg c_21).symm)
  refine g_istore C (by decide) dL_act_29 ?_
  refine g_aload_n C rfl dL_act_31 ?_
  refine g_iconst (v := 0) C (by decide) dL_act_32 ?_
  refine g_callW C cw_emb_CO (ok_X6_about A hA 0 (by decide)) my_X6_about vi_L_59 (by decide) ⟨Nat.zero_le _, Nat.zero_le _⟩ rfl ((cw_emb_CO.1 252 (by decide))) rfl (cw_wpc w) (cw_wpc_i) (cw_wpc_o) (w) (fun _ _ => rfl) (Nat.le_of_ble_eq_true rfl) dL_act_33 rfl (h) (fun v_33 w_33 hp_33 => ?_)
  obtain ⟨rfl, hr33⟩ := hp_33
  refine g_genP (P := fun z => cw_RC A z) (hr33.low (fun q hq => if_pos hq)) (fun w33n h33n => ?_)
  refine g_top (show _ = A.1 0 from rfl) ?_
  refine g_istore C (by decide) dL_act_36 ?_
  refine g_iload C rfl dL_act_38 ?_
  refine g_iload C rfl dL_act_40 ?_
  refine g_join1 59 (pw_ow (pw_isb v) (A.1 0)) (fun k_59 => ?_) ?_
  · refine g_if_eq (tgt := 55) C (by decide) dL_act_42 (fun c_42 => ?_) (fun c_42 => ?_)
    · refine g_iload C rfl dL_act_55 ?_
      refine g_iconst (v := 1) C (by decide) dL_act_57 ?_
      refine g_iadd C dL_act_58 ?_
      exact k_59 _ ((if_pos c_42).symm)
    · refine g_iload C rfl dL_act_45 ?_
      refine g_if_le (tgt := 55) C (by decide) dL_act_47 (fun c_47 => ?_) (fun c_47 => ?_)
      · refine g_iload C rfl dL_act_55 ?_
        refine g_iconst (v := 1) C (by decide) dL_act_57 ?_
        refine g_iadd C dL_act_58 ?_
        exact k_59 _ (((if_neg c_42).trans (if_pos c_47)).symm)
      · refine g_iload C rfl dL_act_50 ?_
        refine g_goto (tgt := 59) C (by decide) dL_act_52 ?_
        exact k_59 _ (((if_neg c_42).trans (if_neg c_47)).symm)
  refine g_callSW C (cw_emb_Z sCO) (ok_L_low (pw_xx v) (pw_ow (pw_isb v) (A.1 0)) (pw_no_ne hI _)) my_L_low si_L_54 (by decide) ⟨Nat.zero_le _, Nat.zero_le _⟩ rfl (fun _ => w33n) (fun _ _ hi => absurd hi (Nat.not_lt_zero _)) (fun _ _ _ _ => rfl) w33n (fun _ hi => absurd hi (Nat.not_lt_zero _)) (Nat.le_of_ble_eq_true rfl) dL_act_59 rfl trivial (fun v_59 w_59 hp_59 => ?_)
  obtain ⟨rfl, -⟩ := hp_59
  refine g_top (show _ = pw_ao A.1 v from rfl) ?_
  refine g_istore C (by decide) dL_act_62 ?_
  refine g_iload C rfl dL_act_64 ?_
  refine g_iconst (v := 3) C (by decide) dL_act_66 ?_
  refine g_ishr C dL_act_67 ?_
  refine g_top (show _ = pw_sh (pw_xx v) 3 from rfl) ?_
  refine g_iload C rfl dL_act_68 ?_
  refine g_join1 80 (pw_sel (pw_isb v) 8 22) (fun k_80 => ?_) ?_
  · refine g_if_eq (tgt := 78) C (by decide) dL_act_70 (fun c_70 => ?_) (fun c_70 => ?_)
    · refine g_bipush (v := 22) C (by decide) dL_act_78 ?_
      exact k_80 _ ((if_pos c_70).symm)
    · refine g_bipush (v := 8) C (by decide) dL_act_73 ?_
      refine g_goto (tgt := 80) C (by decide) dL_act_75 ?_
      exact k_80 _ ((if_neg c_70).symm)
  refine g_callSW C (cw_emb_Z sCO) (ok_L_low (pw_sh (pw_xx v) 3) (pw_sel (pw_isb v) 8 22) (pw_sel_ne (by decide) (by decide))) my_L_low si_L_54 (by decide) ⟨Nat.zero_le _, Nat.zero_le _⟩ rfl (fun _ => w33n) (fun _ _ hi => absurd hi (Nat.not_lt_zero _)) (fun _ _ _ _ => rfl) w33n (fun _ hi => absurd hi (Nat.not_lt_zero _)) (Nat.le_of_ble_eq_true rfl) dL_act_80 rfl trivial (fun v_80 w_80 hp_80 => ?_)
  obtain ⟨rfl, -⟩ := hp_80
  refine g_top (show _ = pw_wk v from rfl) ?_
  refine g_istore C (by decide) dL_act_83 ?_
  refine g_iload_n C rfl dL_act_85 ?_
  refine g_iconst (v := 3) C (by decide) dL_act_86 ?_
  refine g_cmp_ge (tgt := 126) C (by decide) dL_act_87 (fun c_87 => ?_) (fun c_87 => ?_)
  · refine g_iload_n C rfl dL_act_126 ?_
    refine g_bipush (v := 12) C (by decide) dL_act_127 ?_
    refine g_cmp_ge (tgt := 189) C (by decide) dL_act_129 (fun c_129 => ?_) (fun c_129 => ?_)
    · refine g_iload_n C rfl dL_act_189 ?_
      refine g_bipush (v := 19) C (by decide) dL_act_190 ?_
      refine g_cmp_ge (tgt := 265) C (by decide) dL_act_192 (fun c_192 => ?_) (fun c_192 => ?_)
      · refine g_iload_n C rfl dL_act_265 ?_
        refine g_bipush (v := 19) C (by decide) dL_act_266 ?_
        refine g_cmp_ne (tgt := 292) C (by decide) dL_act_268 (fun c_268 => ?_) (fun c_268 => ?_)
        · refine g_iload_n C rfl dL_act_292 ?_
          refine g_bipush (v := 24) C (by decide) dL_act_293 ?_
          refine g_cmp_ge (tgt := 320) C (by decide) dL_act_295 (fun c_295 => ?_) (fun c_295 => ?_)
          · refine g_iload_n C rfl dL_act_320 ?_
            refine g_bipush (v := 24) C (by decide) dL_act_321 ?_
            refine g_cmp_ne (tgt := 355) C (by decide) dL_act_323 (fun c_323 => ?_) (fun c_323 => ?_)
            · refine g_iload_n C rfl dL_act_355 ?_
              refine g_bipush (v := 25) C (by decide) dL_act_356 ?_
              refine g_cmp_ne (tgt := 406) C (by decide) dL_act_358 (fun c_358 => ?_) (fun c_358 => ?_)
              · refine g_iload_n C rfl dL_act_406 ?_
                refine g_bipush (v := 26) C (by decide) dL_act_407 ?_
                refine g_cmp_ne (tgt := 434) C (by decide) dL_act_409 (fun c_409 => ?_) (fun c_409 => ?_)
                · refine g_aload_n C rfl dL_act_434 ?_
                  refine g_bipush (v := 7) C (by decide) dL_act_435 ?_
                  refine g_iload C rfl dL_act_437 ?_
                  refine g_iload C rfl dL_act_439 ?_
                  refine g_bipush (v := 7) C (by decide) dL_act_441 ?_
                  refine g_ishr C dL_act_443 ?_
                  refine g_top (show _ = pw_sh (pw_xx v) 7 from rfl) ?_
                  refine g_iconst (v := 1) C (by decide) dL_act_444 ?_
                  refine g_iand C dL_act_445 ?_
                  refine g_aload_n C rfl dL_act_446 ?_
                  refine g_callL C hst (gw_emb_id sCO) (ok_L_changes_7 A hA hB (pw_wk v) (pw_sh (pw_xx v) 7 &&& 1)) my_L_changes si_L_62 (by decide) ⟨Nat.le_refl _, Nat.le_refl _⟩ rfl (fun w1 => w1) (fun _ _ _ => rfl) (fun w1 j hj h => absurd rfl (h j hj)) w33n (fun _ _ => rfl) (Nat.le_of_ble_eq_true rfl) dL_act_447 rfl h33n (fun v_447 w_447 hp_447 => ?_)
                  obtain ⟨rfl, hv, hc⟩ := hp_447
                  refine g_iret C F dL_act_450 ?_
                  exact pw_tw (oq := (7, (pw_wk v), (pw_sh (pw_xx v) 7 &&& 1), 0)) (by unfold pw_op; rw [if_pos c_87, if_pos c_129, if_pos c_192, if_neg c_268, if_pos c_295, if_neg c_323, if_neg c_358, if_neg c_409]) (pw_run_7 A _ _ _) ⟨rfl, hv, hc⟩
                · refine g_aload_n C rfl dL_act_412 ?_
                  refine g_bipush (v := 6) C (by decide) dL_act_413 ?_
                  refine g_iload C rfl dL_act_415 ?_
                  refine g_iload C rfl dL_act_417 ?_
                  refine g_bipush (v := 7) C (by decide) dL_act_419 ?_
                  refine g_ishr C dL_act_421 ?_
                  refine g_top (show _ = pw_sh (pw_xx v) 7 from rfl) ?_
                  refine g_bipush (v := 11) C (by decide) dL_act_422 ?_
                  refine g_callSW C (cw_emb_Z sCO) (ok_L_low (pw_sh (pw_xx v) 7) (11) (by decide)) my_L_low si_L_54 (by decide) ⟨Nat.zero_le _, Nat.zero_le _⟩ rfl (fun _ => w33n) (fun _ _ hi => absurd hi (Nat.not_lt_zero _)) (fun _ _ _ _ => rfl) w33n (fun _ hi => absurd hi (Nat.not_lt_zero _)) (Nat.le_of_ble_eq_true rfl) dL_act_424 rfl trivial (fun v_424 w_424 hp_424 => ?_)
                  obtain ⟨rfl, -⟩ := hp_424
                  refine g_aload_n C rfl dL_act_427 ?_
                  refine g_callL C hst (gw_emb_id sCO) (ok_L_changes_6 A hA hB (pw_wk v) (pw_low (pw_sh (pw_xx v) 7) 11)) my_L_changes si_L_62 (by decide) ⟨Nat.le_refl _, Nat.le_refl _⟩ rfl (fun w1 => w1) (fun _ _ _ => rfl) (fun w1 j hj h => absurd rfl (h j hj)) w33n (fun _ _ => rfl) (Nat.le_of_ble_eq_true rfl) dL_act_428 rfl h33n (fun v_428 w_428 hp_428 => ?_)
                  obtain ⟨rfl, hv, hc⟩ := hp_428
                  refine g_goto (tgt := 450) C (by decide) dL_act_431 ?_
                  refine g_iret C F dL_act_450 ?_
                  exact pw_tw (oq := (6, (pw_wk v), (pw_low (pw_sh (pw_xx v) 7) 11), 0)) (by unfold pw_op; rw [if_pos c_87, if_pos c_129, if_pos c_192, if_neg c_268, if_pos c_295, if_neg c_323, if_neg c_358, if_pos c_409]) (pw_run_6 A _ _ _) ⟨rfl, hv, hc⟩
              · refine g_aload_n C rfl dL_act_361 ?_
                refine g_iconst (v := 5) C (by decide) dL_act_362 ?_
                refine g_iload C rfl dL_act_363 ?_
                refine g_iload C rfl dL_act_365 ?_
                refine g_join1 375 (pw_sel (pw_isb v) 3 4) (fun k_375 => ?_) ?_
                · refine g_if_eq (tgt := 374) C (by decide) dL_act_367 (fun c_367 => ?_) (fun c_367 => ?_)
                  · refine g_iconst (v := 4) C (by decide) dL_act_374 ?_
                    exact k_375 _ ((if_pos c_367).symm)
                  · refine g_iconst (v := 3) C (by decide) dL_act_370 ?_
                    refine g_goto (tgt := 375) C (by decide) dL_act_371 ?_
                    exact k_375 _ ((if_neg c_367).symm)
                refine g_callSW C (cw_emb_Z sCO) (ok_L_low (pw_xx v) (pw_sel (pw_isb v) 3 4) (pw_sel_ne (by decide) (by decide))) my_L_low si_L_54 (by decide) ⟨Nat.zero_le _, Nat.zero_le _⟩ rfl (fun _ => w33n) (fun _ _ hi => absurd hi (Nat.not_lt_zero _)) (fun _ _ _ _ => rfl) w33n (fun _ hi => absurd hi (Nat.not_lt_zero _)) (Nat.le_of_ble_eq_true rfl) dL_act_375 rfl trivial (fun v_375 w_375 hp_375 => ?_)
                obtain ⟨rfl, -⟩ := hp_375
                refine g_iconst (v := 1) C (by decide) dL_act_378 ?_
                refine g_iload C rfl dL_act_379 ?_
                refine g_iconst (v := 2) C (by decide) dL_act_381 ?_
                refine g_ishr C dL_act_382 ?_
                refine g_top (show _ = pw_sh (pw_xx v) 2 from rfl) ?_
                refine g_iload C rfl dL_act_383 ?_
                refine g_join1 395 (pw_sel (pw_isb v) 10 30) (fun k_395 => ?_) ?_
                · refine g_if_eq (tgt := 393) C (by decide) dL_act_385 (fun c_385 => ?_) (fun c_385 => ?_)
                  · refine g_bipush (v := 30) C (by decide) dL_act_393 ?_
                    exact k_395 _ ((if_pos c_385).symm)
                  · refine g_bipush (v := 10) C (by decide) dL_act_388 ?_
                    refine g_goto (tgt := 395) C (by decide) dL_act_390 ?_
                    exact k_395 _ ((if_neg c_385).symm)
                refine g_callSW C (cw_emb_Z sCO) (ok_L_low (pw_sh (pw_xx v) 2) (pw_sel (pw_isb v) 10 30) (pw_sel_ne (by decide) (by decide))) my_L_low si_L_54 (by decide) ⟨Nat.zero_le _, Nat.zero_le _⟩ rfl (fun _ => w33n) (fun _ _ hi => absurd hi (Nat.not_lt_zero _)) (fun _ _ _ _ => rfl) w33n (fun _ hi => absurd hi (Nat.not_lt_zero _)) (Nat.le_of_ble_eq_true rfl) dL_act_395 rfl trivial (fun v_395 w_395 hp_395 => ?_)
                obtain ⟨rfl, -⟩ := hp_395
                refine g_iadd C dL_act_398 ?_
                refine g_aload_n C rfl dL_act_399 ?_
                refine g_callL C hst (gw_emb_id sCO) (ok_L_changes_5 A hA hB (pw_low (pw_xx v) (pw_sel (pw_isb v) 3 4)) (1 + pw_low (pw_sh (pw_xx v) 2) (pw_sel (pw_isb v) 10 30))) my_L_changes si_L_62 (by decide) ⟨Nat.le_refl _, Nat.le_refl _⟩ rfl (fun w1 => w1) (fun _ _ _ => rfl) (fun w1 j hj h => absurd rfl (h j hj)) w33n (fun _ _ => rfl) (Nat.le_of_ble_eq_true rfl) dL_act_400 rfl h33n (fun v_400 w_400 hp_400 => ?_)
                obtain ⟨rfl, hv, hc⟩ := hp_400
                refine g_goto (tgt := 450) C (by decide) dL_act_403 ?_
                refine g_iret C F dL_act_450 ?_
                exact pw_tw (oq := (5, (pw_low (pw_xx v) (pw_sel (pw_isb v) 3 4)), (1 + pw_low (pw_sh (pw_xx v) 2) (pw_sel (pw_isb v) 10 30)), 0)) (by unfold pw_op; rw [if_pos c_87, if_pos c_129, if_pos c_192, if_neg c_268, if_pos c_295, if_neg c_323, if_pos c_358]) (pw_run_5 A _ _ _) ⟨rfl, hv, hc⟩
            · refine g_aload_n C rfl dL_act_326 ?_
              refine g_iconst (v := 4) C (by decide) dL_act_327 ?_
              refine g_iload C rfl dL_act_328 ?_
              refine g_iload C rfl dL_act_330 ?_
              refine g_join1 344 (pw_sel (pw_isb v) 500 1010) (fun k_344 => ?_) ?_
              · refine g_if_eq (tgt := 341) C (by decide) dL_act_332 (fun c_332 => ?_) (fun c_332 => ?_)
                · refine g_sipush (v := 1010) C (by decide) dL_act_341 ?_
                  exact k_344 _ ((if_pos c_332).symm)
                · refine g_sipush (v := 500) C (by decide) dL_act_335 ?_
                  refine g_goto (tgt := 344) C (by decide) dL_act_338 ?_
                  exact k_344 _ ((if_neg c_332).symm)
              refine g_callSW C (cw_emb_Z sCO) (ok_L_low (pw_xx v) (pw_sel (pw_isb v) 500 1010) (pw_sel_ne (by decide) (by decide))) my_L_low si_L_54 (by decide) ⟨Nat.zero_le _, Nat.zero_le _⟩ rfl (fun _ => w33n) (fun _ _ hi => absurd hi (Nat.not_lt_zero _)) (fun _ _ _ _ => rfl) w33n (fun _ hi => absurd hi (Nat.not_lt_zero _)) (Nat.le_of_ble_eq_true rfl) dL_act_344 rfl trivial (fun v_344 w_344 hp_344 => ?_)
              obtain ⟨rfl, -⟩ := hp_344
              refine g_iconst (v := 0) C (by decide) dL_act_347 ?_
              refine g_aload_n C rfl dL_act_348 ?_
              refine g_callL C hst (gw_emb_id sCO) (ok_L_changes_4 A hA hB (pw_low (pw_xx v) (pw_sel (pw_isb v) 500 1010)) 0) my_L_changes si_L_62 (by decide) ⟨Nat.le_refl _, Nat.le_refl _⟩ rfl (fun w1 => w1) (fun _ _ _ => rfl) (fun w1 j hj h => absurd rfl (h j hj)) w33n (fun _ _ => rfl) (Nat.le_of_ble_eq_true rfl) dL_act_349 rfl h33n (fun v_349 w_349 hp_349 => ?_)
              obtain ⟨rfl, hv, hc⟩ := hp_349
              refine g_goto (tgt := 450) C (by decide) dL_act_352 ?_
              refine g_iret C F dL_act_450 ?_
              exact pw_tw (oq := (4, (pw_low (pw_xx v) (pw_sel (pw_isb v) 500 1010)), 0, 0)) (by unfold pw_op; rw [if_pos c_87, if_pos c_129, if_pos c_192, if_neg c_268, if_pos c_295, if_pos c_323]) (pw_run_4 A _ _ _) ⟨rfl, hv, hc⟩
          · refine g_aload_n C rfl dL_act_298 ?_
            refine g_iconst (v := 0) C (by decide) dL_act_299 ?_
            refine g_iload_n C rfl dL_act_300 ?_
            refine g_bipush (v := 23) C (by decide) dL_act_301 ?_
            refine g_cmp_ge (tgt := 313) C (by decide) dL_act_303 (fun c_303 => ?_) (fun c_303 => ?_)
            · refine g_aload_n C rfl dL_act_313 ?_
              refine g_callW C cw_emb_CO (ok_X6_year A hA hB2) my_X6_year vi_L_76 (by decide) ⟨Nat.zero_le _, Nat.zero_le _⟩ rfl ((cw_emb_CO.1 252 (by decide))) rfl (cw_wpc w33n) (cw_wpc_i) (cw_wpc_o) (w33n) (fun _ _ => rfl) (Nat.le_of_ble_eq_true rfl) dL_act_314 rfl (h33n) (fun v_314 w_314 hp_314 => ?_)
              obtain ⟨rfl, hr314⟩ := hp_314
              refine g_genP (P := fun z => cw_RC (sp_year A).2.2 z) (hr314.low (fun q hq => if_pos hq)) (fun w314n h314n => ?_)
              refine g_iast (j := 0) C rfl (rfl) (by decide) (by decide) dL_act_317 ?_
              refine g_iconst (v := 0) C (by decide) dL_act_318 ?_
              refine g_widen (k' := 1) (n' := 6) (by omega) (by omega) ?_
              refine g_iret C F dL_act_319 ?_
              exact pw_tw (oq := (11, 0, 0, 0)) (by unfold pw_op; rw [if_pos c_87, if_pos c_129, if_pos c_192, if_neg c_268, if_neg c_295, if_pos c_303]) (pw_run_11 A _ _ _) ⟨rfl, fun _ => by rw [gw_set_self, cw_ups]; rfl, h314n.low (fun q hq => by rw [gw_set_ne _ _ _ _ (by omega)])⟩
            · refine g_aload_n C rfl dL_act_306 ?_
              refine g_callW C cw_emb_CO (ok_X6_settle A hA hB2) my_X6_settle vi_L_73 (by decide) ⟨Nat.zero_le _, Nat.zero_le _⟩ rfl ((cw_emb_CO.1 252 (by decide))) rfl (cw_wpc w33n) (cw_wpc_i) (cw_wpc_o) (w33n) (fun _ _ => rfl) (Nat.le_of_ble_eq_true rfl) dL_act_307 rfl (h33n) (fun v_307 w_307 hp_307 => ?_)
              obtain ⟨rfl, hr307⟩ := hp_307
              refine g_genP (P := fun z => cw_RC (sp_settle A).2.2 z) (hr307.low (fun q hq => if_pos hq)) (fun w307n h307n => ?_)
              refine g_goto (tgt := 317) C (by decide) dL_act_310 ?_
              refine g_iast (j := 0) C rfl (rfl) (by decide) (by decide) dL_act_317 ?_
              refine g_iconst (v := 0) C (by decide) dL_act_318 ?_
              refine g_widen (k' := 1) (n' := 6) (by omega) (by omega) ?_
              refine g_iret C F dL_act_319 ?_
              exact pw_tw (oq := (10, 0, 0, 0)) (by unfold pw_op; rw [if_pos c_87, if_pos c_129, if_pos c_192, if_neg c_268, if_neg c_295, if_neg c_303]) (pw_run_10 A _ _ _) ⟨rfl, fun _ => by rw [gw_set_self, cw_ups]; rfl, h307n.low (fun q hq => by rw [gw_set_ne _ _ _ _ (by omega)])⟩
        · refine g_aload_n C rfl dL_act_271 ?_
          refine g_iconst (v := 3) C (by decide) dL_act_272 ?_
          refine g_iload C rfl dL_act_273 ?_
          refine g_aload_n C rfl dL_act_275 ?_
          refine g_bipush (v := 9) C (by decide) dL_act_276 ?_
          refine g_callW C cw_emb_CO (ok_X6_about A hA 9 (by decide)) my_X6_about vi_L_59 (by decide) ⟨Nat.zero_le _, Nat.zero_le _⟩ rfl ((cw_emb_CO.1 252 (by decide))) rfl (cw_wpc w33n) (cw_wpc_i) (cw_wpc_o) (w33n) (fun _ _ => rfl) (Nat.le_of_ble_eq_true rfl) dL_act_278 rfl (h33n) (fun v_278 w_278 hp_278 => ?_)
          obtain ⟨rfl, hr278⟩ := hp_278
          refine g_genP (P := fun z => cw_RC A z) (hr278.low (fun q hq => if_pos hq)) (fun w278n h278n => ?_)
          refine g_top (show _ = A.1 205 from rfl) ?_
          refine g_iconst (v := 1) C (by decide) dL_act_281 ?_
          refine g_iadd C dL_act_282 ?_
          refine g_callSW C (cw_emb_Z sCO) (ok_L_low (pw_xx v) (A.1 205 + 1) (pw_off_ne hI)) my_L_low si_L_54 (by decide) ⟨Nat.zero_le _, Nat.zero_le _⟩ rfl (fun _ => w278n) (fun _ _ hi => absurd hi (Nat.not_lt_zero _)) (fun _ _ _ _ => rfl) w278n (fun _ hi => absurd hi (Nat.not_lt_zero _)) (Nat.le_of_ble_eq_true rfl) dL_act_283 rfl trivial (fun v_283 w_283 hp_283 => ?_)
          obtain ⟨rfl, -⟩ := hp_283
          refine g_iconst (v := 0) C (by decide) dL_act_286 ?_
          refine g_aload_n C rfl dL_act_287 ?_
          refine g_callL C hst (gw_emb_id sCO) (ok_L_changes_3 A hA hB (pw_low (pw_xx v) (A.1 205 + 1)) 0) my_L_changes si_L_62 (by decide) ⟨Nat.le_refl _, Nat.le_refl _⟩ rfl (fun w1 => w1) (fun _ _ _ => rfl) (fun w1 j hj h => absurd rfl (h j hj)) w278n (fun _ _ => rfl) (Nat.le_of_ble_eq_true rfl) dL_act_288 rfl h278n (fun v_288 w_288 hp_288 => ?_)
          obtain ⟨rfl, hv, hc⟩ := hp_288
          refine g_iret C F dL_act_291 ?_
          exact pw_tw (oq := (3, (pw_low (pw_xx v) (A.1 205 + 1)), 0, 0)) (by unfold pw_op; rw [if_pos c_87, if_pos c_129, if_pos c_192, if_pos c_268]) (pw_run_3 A _ _ _) ⟨rfl, hv, hc⟩
      · refine g_aload_n C rfl dL_act_195 ?_
        refine g_iload_n C rfl dL_act_196 ?_
        refine g_bipush (v := 16) C (by decide) dL_act_197 ?_
        refine g_cmp_ge (tgt := 206) C (by decide) dL_act_199 (fun c_199 => ?_) (fun c_199 => ?_)
        · refine g_iconst (v := 1) C (by decide) dL_act_206 ?_
          refine g_iload C rfl dL_act_207 ?_
          refine g_iload C rfl dL_act_209 ?_
          refine g_iload_n C rfl dL_act_211 ?_
          refine g_bipush (v := 16) C (by decide) dL_act_212 ?_
          refine g_cmp_ge (tgt := 240) C (by decide) dL_act_214 (fun c_214 => ?_) (fun c_214 => absurd (c_199) c_214)
          refine g_iload C rfl dL_act_240 ?_
          refine g_bipush (v := 7) C (by decide) dL_act_242 ?_
          refine g_ishr C dL_act_244 ?_
          refine g_top (show _ = pw_sh (pw_xx v) 7 from rfl) ?_
          refine g_iload C rfl dL_act_245 ?_
          refine g_join1 257 (pw_sel (pw_isb v) 8 22) (fun k_257 => ?_) ?_
          · refine g_if_eq (tgt := 255) C (by decide) dL_act_247 (fun c_247 => ?_) (fun c_247 => ?_)
            · refine g_bipush (v := 22) C (by decide) dL_act_255 ?_
              exact k_257 _ ((if_pos c_247).symm)
            · refine g_bipush (v := 8) C (by decide) dL_act_250 ?_
              refine g_goto (tgt := 257) C (by decide) dL_act_252 ?_
              exact k_257 _ ((if_neg c_247).symm)
          refine g_callSW C (cw_emb_Z sCO) (ok_L_low (pw_sh (pw_xx v) 7) (pw_sel (pw_isb v) 8 22) (pw_sel_ne (by decide) (by decide))) my_L_low si_L_54 (by decide) ⟨Nat.zero_le _, Nat.zero_le _⟩ rfl (fun _ => w33n) (fun _ _ hi => absurd hi (Nat.not_lt_zero _)) (fun _ _ _ _ => rfl) w33n (fun _ hi => absurd hi (Nat.not_lt_zero _)) (Nat.le_of_ble_eq_true rfl) dL_act_257 rfl trivial (fun v_257 w_257 hp_257 => ?_)
          obtain ⟨rfl, -⟩ := hp_257
          refine g_aload_n C rfl dL_act_260 ?_
          refine g_callL C hst (gw_emb_id sCO) (ok_L_asks_1 A hA hB (pw_ao A.1 v) (pw_wk v) (pw_low (pw_sh (pw_xx v) 7) (pw_sel (pw_isb v) 8 22))) my_L_asks si_L_69 (by decide) ⟨Nat.le_refl _, Nat.le_refl _⟩ rfl (fun w1 => w1) (fun _ _ _ => rfl) (fun w1 j hj h => absurd rfl (h j hj)) w33n (fun _ _ => rfl) (Nat.le_of_ble_eq_true rfl) dL_act_261 rfl h33n (fun v_261 w_261 hp_261 => ?_)
          obtain ⟨rfl, hv, hc⟩ := hp_261
          refine g_iret C F dL_act_264 ?_
          exact pw_tw (oq := (9, (pw_ao A.1 v), (pw_wk v), (pw_low (pw_sh (pw_xx v) 7) (pw_sel (pw_isb v) 8 22)))) (by unfold pw_op; rw [if_pos c_87, if_pos c_129, if_neg c_192, if_pos c_199]) (pw_run_9 A _ _ _) ⟨rfl, hv, hc⟩
        · refine g_iconst (v := 0) C (by decide) dL_act_202 ?_
          refine g_goto (tgt := 207) C (by decide) dL_act_203 ?_
          refine g_iload C rfl dL_act_207 ?_
          refine g_iload C rfl dL_act_209 ?_
          refine g_iload_n C rfl dL_act_211 ?_
          refine g_bipush (v := 16) C (by decide) dL_act_212 ?_
          refine g_cmp_ge (tgt := 240) C (by decide) dL_act_214 (fun c_214 => absurd c_214 (c_199)) (fun c_214 => ?_)
          refine g_iload C rfl dL_act_217 ?_
          refine g_bipush (v := 7) C (by decide) dL_act_219 ?_
          refine g_ishr C dL_act_221 ?_
          refine g_top (show _ = pw_sh (pw_xx v) 7 from rfl) ?_
          refine g_iload C rfl dL_act_222 ?_
          refine g_join1 234 (pw_sel (pw_isb v) 21 25) (fun k_234 => ?_) ?_
          · refine g_if_eq (tgt := 232) C (by decide) dL_act_224 (fun c_224 => ?_) (fun c_224 => ?_)
            · refine g_bipush (v := 25) C (by decide) dL_act_232 ?_
              exact k_234 _ ((if_pos c_224).symm)
            · refine g_bipush (v := 21) C (by decide) dL_act_227 ?_
              refine g_goto (tgt := 234) C (by decide) dL_act_229 ?_
              exact k_234 _ ((if_neg c_224).symm)
          refine g_callSW C (cw_emb_Z sCO) (ok_L_low (pw_sh (pw_xx v) 7) (pw_sel (pw_isb v) 21 25) (pw_sel_ne (by decide) (by decide))) my_L_low si_L_54 (by decide) ⟨Nat.zero_le _, Nat.zero_le _⟩ rfl (fun _ => w33n) (fun _ _ hi => absurd hi (Nat.not_lt_zero _)) (fun _ _ _ _ => rfl) w33n (fun _ hi => absurd hi (Nat.not_lt_zero _)) (Nat.le_of_ble_eq_true rfl) dL_act_234 rfl trivial (fun v_234 w_234 hp_234 => ?_)
          obtain ⟨rfl, -⟩ := hp_234
          refine g_goto (tgt := 260) C (by decide) dL_act_237 ?_
          refine g_aload_n C rfl dL_act_260 ?_
          refine g_callL C hst (gw_emb_id sCO) (ok_L_asks_0 A hA hB (pw_ao A.1 v) (pw_wk v) (pw_low (pw_sh (pw_xx v) 7) (pw_sel (pw_isb v) 21 25))) my_L_asks si_L_69 (by decide) ⟨Nat.le_refl _, Nat.le_refl _⟩ rfl (fun w1 => w1) (fun _ _ _ => rfl) (fun w1 j hj h => absurd rfl (h j hj)) w33n (fun _ _ => rfl) (Nat.le_of_ble_eq_true rfl) dL_act_261 rfl h33n (fun v_261 w_261 hp_261 => ?_)
          obtain ⟨rfl, hv, hc⟩ := hp_261
          refine g_iret C F dL_act_264 ?_
          exact pw_tw (oq := (8, (pw_ao A.1 v), (pw_wk v), (pw_low (pw_sh (pw_xx v) 7) (pw_sel (pw_isb v) 21 25)))) (by unfold pw_op; rw [if_pos c_87, if_pos c_129, if_neg c_192, if_neg c_199]) (pw_run_8 A _ _ _) ⟨rfl, hv, hc⟩
    · refine g_aload_n C rfl dL_act_132 ?_
      refine g_iload_n C rfl dL_act_133 ?_
      refine g_bipush (v := 10) C (by decide) dL_act_134 ?_
      refine g_cmp_ge (tgt := 143) C (by decide) dL_act_136 (fun c_136 => ?_) (fun c_136 => ?_)
      · refine g_iconst (v := 2) C (by decide) dL_act_143 ?_
        refine g_iload C rfl dL_act_144 ?_
        refine g_iload_n C rfl dL_act_146 ?_
        refine g_bipush (v := 10) C (by decide) dL_act_147 ?_
        refine g_cmp_lt (tgt := 172) C (by decide) dL_act_149 (fun c_149 => absurd c_149 (fun q => Int32.not_lt.mpr c_136 q)) (fun c_149 => ?_)
        refine g_iload C rfl dL_act_152 ?_
        refine g_if_eq (tgt := 172) C (by decide) dL_act_154 (fun c_154 => ?_) (fun c_154 => ?_)
        · refine g_iload C rfl dL_act_172 ?_
          refine g_goto (tgt := 184) C (by decide) dL_act_174 ?_
          refine g_aload_n C rfl dL_act_184 ?_
          refine g_callL C hst (gw_emb_id sCO) (ok_L_changes_2 A hA hB (pw_ao A.1 v) (pw_wk v)) my_L_changes si_L_62 (by decide) ⟨Nat.le_refl _, Nat.le_refl _⟩ rfl (fun w1 => w1) (fun _ _ _ => rfl) (fun w1 j hj h => absurd rfl (h j hj)) w33n (fun _ _ => rfl) (Nat.le_of_ble_eq_true rfl) dL_act_185 rfl h33n (fun v_185 w_185 hp_185 => ?_)
          obtain ⟨rfl, hv, hc⟩ := hp_185
          refine g_iret C F dL_act_188 ?_
          exact pw_tw (oq := (2, (pw_ao A.1 v), (pw_wk v), 0)) (by unfold pw_op; rw [if_pos c_87, if_neg c_129, if_pos c_136]; exact congrArg (fun z => ((2, pw_ao A.1 v, z, 0) : pw_Op)) (if_pos c_154)) (pw_run_2 A _ _ _) ⟨rfl, hv, hc⟩
        · refine g_iload C rfl dL_act_157 ?_
          refine g_if_eq (tgt := 172) C (by decide) dL_act_159 (fun c_159 => ?_) (fun c_159 => ?_)
          · refine g_iload C rfl dL_act_172 ?_
            refine g_goto (tgt := 184) C (by decide) dL_act_174 ?_
            refine g_aload_n C rfl dL_act_184 ?_
            refine g_callL C hst (gw_emb_id sCO) (ok_L_changes_2 A hA hB (pw_ao A.1 v) (pw_wk v)) my_L_changes si_L_62 (by decide) ⟨Nat.le_refl _, Nat.le_refl _⟩ rfl (fun w1 => w1) (fun _ _ _ => rfl) (fun w1 j hj h => absurd rfl (h j hj)) w33n (fun _ _ => rfl) (Nat.le_of_ble_eq_true rfl) dL_act_185 rfl h33n (fun v_185 w_185 hp_185 => ?_)
            obtain ⟨rfl, hv, hc⟩ := hp_185
            refine g_iret C F dL_act_188 ?_
            exact pw_tw (oq := (2, (pw_ao A.1 v), (pw_wk v), 0)) (by unfold pw_op; rw [if_pos c_87, if_neg c_129, if_pos c_136]; exact congrArg (fun z => ((2, pw_ao A.1 v, z, 0) : pw_Op)) ((if_neg c_154).trans (if_pos c_159))) (pw_run_2 A _ _ _) ⟨rfl, hv, hc⟩
          · refine g_aload_n C rfl dL_act_162 ?_
            refine g_iload C rfl dL_act_163 ?_
            refine g_iconst (v := 2) C (by decide) dL_act_165 ?_
            refine g_callW C cw_emb_CO (ok_X6_ownerOf A hA (pw_ao A.1 v) 2 (pw_ao_in hI c_154 c_159) (by decide)) my_X6_ownerOf vi_L_66 (by decide) ⟨Nat.zero_le _, Nat.zero_le _⟩ rfl ((cw_emb_CO.1 252 (by decide))) rfl (cw_wpc w33n) (cw_wpc_i) (cw_wpc_o) (w33n) (fun _ _ => rfl) (Nat.le_of_ble_eq_true rfl) dL_act_166 rfl (h33n) (fun v_166 w_166 hp_166 => ?_)
            obtain ⟨rfl, hr166⟩ := hp_166
            refine g_genP (P := fun z => cw_RC A z) (hr166.low (fun q hq => if_pos hq)) (fun w166n h166n => ?_)
            refine g_if_ne (tgt := 177) C (by decide) dL_act_169 (fun c_169 => ?_) (fun c_169 => ?_)
            · refine g_aload_n C rfl dL_act_177 ?_
              refine g_iload C rfl dL_act_178 ?_
              refine g_iconst (v := 5) C (by decide) dL_act_180 ?_
              refine g_callW C cw_emb_CO (ok_X6_ownerOf A hA (pw_ao A.1 v) 5 (pw_ao_in hI c_154 c_159) (by decide)) my_X6_ownerOf vi_L_66 (by decide) ⟨Nat.zero_le _, Nat.zero_le _⟩ rfl ((cw_emb_CO.1 252 (by decide))) rfl (cw_wpc w166n) (cw_wpc_i) (cw_wpc_o) (w166n) (fun _ _ => rfl) (Nat.le_of_ble_eq_true rfl) dL_act_181 rfl (h166n) (fun v_181 w_181 hp_181 => ?_)
              obtain ⟨rfl, hr181⟩ := hp_181
              refine g_genP (P := fun z => cw_RC A z) (hr181.low (fun q hq => if_pos hq)) (fun w181n h181n => ?_)
              refine g_aload_n C rfl dL_act_184 ?_
              refine g_callL C hst (gw_emb_id sCO) (ok_L_changes_2 A hA hB (pw_ao A.1 v) (cw_ofO A.1 (cw_x (pw_ao A.1 v)) 5)) my_L_changes si_L_62 (by decide) ⟨Nat.le_refl _, Nat.le_refl _⟩ rfl (fun w1 => w1) (fun _ _ _ => rfl) (fun w1 j hj h => absurd rfl (h j hj)) w181n (fun _ _ => rfl) (Nat.le_of_ble_eq_true rfl) dL_act_185 rfl h181n (fun v_185 w_185 hp_185 => ?_)
              obtain ⟨rfl, hv, hc⟩ := hp_185
              refine g_iret C F dL_act_188 ?_
              exact pw_tw (oq := (2, (pw_ao A.1 v), (cw_ofO A.1 (cw_x (pw_ao A.1 v)) 5), 0)) (by unfold pw_op; rw [if_pos c_87, if_neg c_129, if_pos c_136]; exact congrArg (fun z => ((2, pw_ao A.1 v, z, 0) : pw_Op)) ((if_neg c_154).trans ((if_neg c_159).trans (if_neg c_169)))) (pw_run_2 A _ _ _) ⟨rfl, hv, hc⟩
            · refine g_iload C rfl dL_act_172 ?_
              refine g_goto (tgt := 184) C (by decide) dL_act_174 ?_
              refine g_aload_n C rfl dL_act_184 ?_
              refine g_callL C hst (gw_emb_id sCO) (ok_L_changes_2 A hA hB (pw_ao A.1 v) (pw_wk v)) my_L_changes si_L_62 (by decide) ⟨Nat.le_refl _, Nat.le_refl _⟩ rfl (fun w1 => w1) (fun _ _ _ => rfl) (fun w1 j hj h => absurd rfl (h j hj)) w166n (fun _ _ => rfl) (Nat.le_of_ble_eq_true rfl) dL_act_185 rfl h166n (fun v_185 w_185 hp_185 => ?_)
              obtain ⟨rfl, hv, hc⟩ := hp_185
              refine g_iret C F dL_act_188 ?_
              exact pw_tw (oq := (2, (pw_ao A.1 v), (pw_wk v), 0)) (by unfold pw_op; rw [if_pos c_87, if_neg c_129, if_pos c_136]; exact congrArg (fun z => ((2, pw_ao A.1 v, z, 0) : pw_Op)) ((if_neg c_154).trans ((if_neg c_159).trans (if_pos c_169)))) (pw_run_2 A _ _ _) ⟨rfl, hv, hc⟩
      · refine g_iconst (v := 1) C (by decide) dL_act_139 ?_
        refine g_goto (tgt := 144) C (by decide) dL_act_140 ?_
        refine g_iload C rfl dL_act_144 ?_
        refine g_iload_n C rfl dL_act_146 ?_
        refine g_bipush (v := 10) C (by decide) dL_act_147 ?_
        refine g_cmp_lt (tgt := 172) C (by decide) dL_act_149 (fun c_149 => ?_) (fun c_149 => absurd (Int32.not_le.mp c_136) c_149)
        refine g_iload C rfl dL_act_172 ?_
        refine g_goto (tgt := 184) C (by decide) dL_act_174 ?_
        refine g_aload_n C rfl dL_act_184 ?_
        refine g_callL C hst (gw_emb_id sCO) (ok_L_changes_1 A hA hB (pw_ao A.1 v) (pw_wk v)) my_L_changes si_L_62 (by decide) ⟨Nat.le_refl _, Nat.le_refl _⟩ rfl (fun w1 => w1) (fun _ _ _ => rfl) (fun w1 j hj h => absurd rfl (h j hj)) w33n (fun _ _ => rfl) (Nat.le_of_ble_eq_true rfl) dL_act_185 rfl h33n (fun v_185 w_185 hp_185 => ?_)
        obtain ⟨rfl, hv, hc⟩ := hp_185
        refine g_iret C F dL_act_188 ?_
        exact pw_tw (oq := (1, (pw_ao A.1 v), (pw_wk v), 0)) (by unfold pw_op; rw [if_pos c_87, if_neg c_129, if_neg c_136]) (pw_run_1 A _ _ _) ⟨rfl, hv, hc⟩
  · refine g_aload_n C rfl dL_act_90 ?_
    refine g_iconst (v := 0) C (by decide) dL_act_91 ?_
    refine g_iload C rfl dL_act_92 ?_
    refine g_iload C rfl dL_act_94 ?_
    refine g_join1 106 (pw_sel (pw_isb v) 9 12) (fun k_106 => ?_) ?_
    · refine g_if_eq (tgt := 104) C (by decide) dL_act_96 (fun c_96 => ?_) (fun c_96 => ?_)
      · refine g_bipush (v := 12) C (by decide) dL_act_104 ?_
        exact k_106 _ ((if_pos c_96).symm)
      · refine g_bipush (v := 9) C (by decide) dL_act_99 ?_
        refine g_goto (tgt := 106) C (by decide) dL_act_101 ?_
        exact k_106 _ ((if_neg c_96).symm)
    refine g_callSW C (cw_emb_Z sCO) (ok_L_low (pw_xx v) (pw_sel (pw_isb v) 9 12) (pw_sel_ne (by decide) (by decide))) my_L_low si_L_54 (by decide) ⟨Nat.zero_le _, Nat.zero_le _⟩ rfl (fun _ => w33n) (fun _ _ hi => absurd hi (Nat.not_lt_zero _)) (fun _ _ _ _ => rfl) w33n (fun _ hi => absurd hi (Nat.not_lt_zero _)) (Nat.le_of_ble_eq_true rfl) dL_act_106 rfl trivial (fun v_106 w_106 hp_106 => ?_)
    obtain ⟨rfl, -⟩ := hp_106
    refine g_iload C rfl dL_act_109 ?_
    refine g_join1 119 (pw_sel (pw_isb v) 1 0) (fun k_119 => ?_) ?_
    · refine g_if_eq (tgt := 118) C (by decide) dL_act_111 (fun c_111 => ?_) (fun c_111 => ?_)
      · refine g_iconst (v := 0) C (by decide) dL_act_118 ?_
        exact k_119 _ ((if_pos c_111).symm)
      · refine g_iconst (v := 1) C (by decide) dL_act_114 ?_
        refine g_goto (tgt := 119) C (by decide) dL_act_115 ?_
        exact k_119 _ ((if_neg c_111).symm)
    refine g_iadd C dL_act_119 ?_
    refine g_iconst (v := 0) C (by decide) dL_act_120 ?_
    refine g_aload_n C rfl dL_act_121 ?_
    refine g_callL C hst (gw_emb_id sCO) (ok_L_changes_0 A hA hB (pw_low (pw_xx v) (pw_sel (pw_isb v) 9 12) + pw_sel (pw_isb v) 1 0) 0) my_L_changes si_L_62 (by decide) ⟨Nat.le_refl _, Nat.le_refl _⟩ rfl (fun w1 => w1) (fun _ _ _ => rfl) (fun w1 j hj h => absurd rfl (h j hj)) w33n (fun _ _ => rfl) (Nat.le_of_ble_eq_true rfl) dL_act_122 rfl h33n (fun v_122 w_122 hp_122 => ?_)
    obtain ⟨rfl, hv, hc⟩ := hp_122
    refine g_iret C F dL_act_125 ?_
    exact pw_tw (oq := (0, (pw_low (pw_xx v) (pw_sel (pw_isb v) 9 12) + pw_sel (pw_isb v) 1 0), 0, 0)) (by unfold pw_op; rw [if_neg c_87]) (pw_run_0 A _ _ _) ⟨rfl, hv, hc⟩

