set_option maxHeartbeats 8000000 in
set_option maxRecDepth 100000 in
/-- the class's cells from those of its parts -/
def rw_mx {α : Type} (f0 f1 fh fa ft fm : Nat → α) (o s v : α) : Nat → α := fun i => if i < 14 then f0 i else if i < 28 then f1 (i - 14) else if i < 224 then fh (i - 28) else if i < 252 then fa (i - 224) else if i = 252 then o else if i < 255 then fh (i - 57) else if i = 255 then s else if i = 256 then v else if i < 260 then ft (i - 257) else fm (i - 260)
theorem rw_mx_0 {α : Type} (f0 f1 fh fa ft fm : Nat → α) (o s v : α) {t : Nat} (ht : t < 14) : rw_mx f0 f1 fh fa ft fm o s v (14 * 0 + t) = f0 t := by
  unfold rw_mx
  rw [if_pos (by omega), show 14 * 0 + t = t by omega]
theorem rw_mx_1 {α : Type} (f0 f1 fh fa ft fm : Nat → α) (o s v : α) {t : Nat} (ht : t < 14) : rw_mx f0 f1 fh fa ft fm o s v (14 * 1 + t) = f1 t := by
  unfold rw_mx
  rw [if_neg (by omega), if_pos (by omega), show 14 * 1 + t - 14 = t by omega]
theorem rw_mx_h {α : Type} (f0 f1 fh fa ft fm : Nat → α) (o s v : α) {h t : Nat} (hh : h < 14) (ht : t < 14) : rw_mx f0 f1 fh fa ft fm o s v (14 * (h + 2) + t) = fh (14 * h + t) := by
  unfold rw_mx
  rw [if_neg (by omega), if_neg (by omega), if_pos (by omega), show 14 * (h + 2) + t - 28 = 14 * h + t by omega]
theorem rw_mx_a {α : Type} (f0 f1 fh fa ft fm : Nat → α) (o s v : α) {h t : Nat} (hh : h < 2) (ht : t < 14) : rw_mx f0 f1 fh fa ft fm o s v (14 * (h + 16) + t) = fa (14 * h + t) := by
  unfold rw_mx
  rw [if_neg (by omega), if_neg (by omega), if_neg (by omega), if_pos (by omega), show 14 * (h + 16) + t - 224 = 14 * h + t by omega]
theorem sC_at {h t : Nat} (hh : h < 18) (ht : t < 14) : sC.2 (14 * h + t) = gw_pi (fun j => 14 * h + j) (sH.2 t) := (gw_at_lt (cw_sC_h hh ht)).2
theorem sHs_at {N h t : Nat} (ht : t < 14) : (sHs N).2 (14 * h + t) = gw_pi (fun j => 14 * h + j) (sH.2 t) := by
  show gw_pi (fun j => 14 * ((14 * h + t) / 14) + j) (sH.2 ((14 * h + t) % 14)) = _
  rw [show (14 * h + t) / 14 = h by omega, show (14 * h + t) % 14 = t by omega]
theorem sHi_at {h t : Nat} (hh : h < 14) (ht : t < 14) : sHi.2 (14 * h + t) = gw_pi (fun j => 14 * h + j) (sH.2 t) := by
  rw [← sHs_at (N := 14) ht]
  exact if_pos (by omega)
theorem rw_pm {α : Type} (A B C V T M : List α) (o s : α) : (o :: ((((((A ++ B) ++ C) ++ [s]) ++ V) ++ T) ++ M)).Perm (o :: s :: (A ++ (B ++ (C ++ (V ++ (T ++ M)))))) := by
  refine List.Perm.cons o ?_
  have h := List.perm_middle (a := s) (l₁ := A ++ (B ++ C)) (l₂ := V ++ (T ++ M))
  simpa only [List.append_assoc, List.cons_append, List.nil_append] using h
theorem rw_pm2 (R0 R1 Rh Ra o h2 s v Rt Rm : List Nat) : (R0 ++ (R1 ++ (Rh ++ (Ra ++ (o ++ (h2 ++ (s ++ (v ++ (Rt ++ Rm))))))))).Perm (o ++ (s ++ ((R0 ++ (R1 ++ ((Rh ++ h2) ++ (v ++ (Rt ++ Rm))))) ++ Ra))) := List.perm_iff_count.mpr fun a => by
  simp only [List.count_append]
  omega
/-- nothing has happened -/
noncomputable def cw_A0 : cw_A := (cw_new, (0, fun _ => cw_new), (fun _ => none), (0, fun _ => 0))
/-- the class's cells, made of its parts' -/
theorem rw_mk {D : va_G} {cA : Nat → ClassId} {ρ0 ρ1 ρh ρa ρt ρm : Nat → Nat} {w0 w1 wh wa wt wm : gw_M} {h0 qs qv : Nat} {H : Heap} (g0 : va_P D vwCl (gw_W cA ρ0 sH w0) H) (g1 : va_P D vwCl (gw_W cA ρ1 sH w1) H) (gh : va_P D vwCl (gw_W cA ρh sHi wh) H) (ga : va_P D vwCl (gw_W cA ρa (sHs 2) wa) H) (gt : va_P D vwCl (gw_W cA ρt sT wt) H) (gm : va_P D vwCl (gw_W cA ρm sMt wm) H)
    (go : va_at D vwCl (h0, .inr (4, [.ref (ρ0 0), .ref (ρ1 0), .ref (ρh 196), .ref qs, .ref qv, .ref (ρt 0), .ref (ρm 0)])) H) (gs : va_at D vwCl (qs, .inl (cA 4, 2, .inr (.inr (.inr (.inr (rw_f ρa 2)))))) H) (gv : va_at D vwCl (qv, .inl (cA 1, 2, .inl (fun _ => 0))) H) :
    ∀ i, i < 263 → va_at D vwCl (rw_mx ρ0 ρ1 ρh ρa ρt ρm h0 qs qv i, gw_cell cA (rw_mx ρ0 ρ1 ρh ρa ρt ρm h0 qs qv) (rw_mx w0 w1 wh wa wt wm (fun _ => 0) (fun _ => 0) (fun _ => 0) i) (sC.2 i)) H := by
  intro i hi
  by_cases hl : i < 252
  · obtain ⟨h, t, ht, rfl⟩ : ∃ h t, t < 14 ∧ i = 14 * h + t := ⟨i / 14, i % 14, Nat.mod_lt _ (by decide), by omega⟩
    rw [sC_at (by omega) ht]
    rcases (show h = 0 ∨ h = 1 ∨ (∃ h', h' < 14 ∧ h = h' + 2) ∨ (∃ h', h' < 2 ∧ h = h' + 16) by
      rcases (show h = 0 ∨ h = 1 ∨ (2 ≤ h ∧ h < 16) ∨ (16 ≤ h ∧ h < 18) by omega) with q | q | q | q
      · exact Or.inl q
      · exact Or.inr (Or.inl q)
      · exact Or.inr (Or.inr (Or.inl ⟨h - 2, by omega, by omega⟩))
      · exact Or.inr (Or.inr (Or.inr ⟨h - 16, by omega, by omega⟩))) with rfl | rfl | ⟨h', hh, rfl⟩ | ⟨h', hh, rfl⟩
    · rw [rw_mx_0 _ _ _ _ _ _ _ _ _ ht, rw_mx_0 _ _ _ _ _ _ _ _ _ ht]
      exact rw_hc0 ht (fun j hj => (rw_mx_0 _ _ _ _ _ _ _ _ _ hj).symm) (rw_PW (S := sH) g0 (i := t) ht)
    · rw [rw_mx_1 _ _ _ _ _ _ _ _ _ ht, rw_mx_1 _ _ _ _ _ _ _ _ _ ht]
      exact rw_hc0 ht (fun j hj => (rw_mx_1 _ _ _ _ _ _ _ _ _ hj).symm) (rw_PW (S := sH) g1 (i := t) ht)
    · rw [rw_mx_h _ _ _ _ _ _ _ _ _ hh ht, rw_mx_h _ _ _ _ _ _ _ _ _ hh ht]
      have q := rw_PW (S := sHi) gh (i := 14 * h' + t) (by show 14 * h' + t < 198; omega)
      rw [sHi_at hh ht] at q
      exact rw_hc ht (fun j hj => (rw_mx_h _ _ _ _ _ _ _ _ _ hh hj).symm) q
    · rw [rw_mx_a _ _ _ _ _ _ _ _ _ hh ht, rw_mx_a _ _ _ _ _ _ _ _ _ hh ht]
      have q := rw_PW (S := sHs 2) ga (i := 14 * h' + t) (by show 14 * h' + t < 14 * 2; omega)
      rw [sHs_at ht] at q
      exact rw_hc ht (fun j hj => (rw_mx_a _ _ _ _ _ _ _ _ _ hh hj).symm) q
  · rcases (show i = 252 ∨ i = 253 ∨ i = 254 ∨ i = 255 ∨ i = 256 ∨ i = 257 ∨ i = 258 ∨ i = 259 ∨ i = 260 ∨ i = 261 ∨ i = 262 by omega) with rfl | rfl | rfl | rfl | rfl | rfl | rfl | rfl | rfl | rfl | rfl
    · exact go
    · exact rw_PW (S := sHi) gh (i := 196) (by decide)
    · have q : H[ρh 197]? = some (vp_cell (cA 4) (14, .inr (.inr (.inr (.inr (fun j => some (ρh (14 * j)))))))) := rw_PW (S := sHi) gh (i := 197) (by decide)
      show H[ρh 197]? = some (vp_cell (cA 4) (14, .inr (.inr (.inr (.inr (fun j => some (rw_mx ρ0 ρ1 ρh ρa ρt ρm h0 qs qv (14 * (j + 2)))))))))
      rw [q, vp_cell_q, vp_cell_q]
      refine congrArg some (rw_arr (fun j hj => ?_))
      rw [show rw_mx ρ0 ρ1 ρh ρa ρt ρm h0 qs qv (14 * (j + 2)) = ρh (14 * j) from rw_mx_h _ _ _ _ _ _ _ _ _ hj (t := 0) (by decide)]
    · have q : H[qs]? = some (vp_cell (cA 4) (2, .inr (.inr (.inr (.inr (rw_f ρa 2)))))) := gs
      show H[qs]? = some (vp_cell (cA 4) (2, .inr (.inr (.inr (.inr (fun j => some (rw_mx ρ0 ρ1 ρh ρa ρt ρm h0 qs qv (14 * (j + 16)))))))))
      rw [q, vp_cell_q, vp_cell_q]
      refine congrArg some (rw_arr (fun j hj => ?_))
      rw [show rw_mx ρ0 ρ1 ρh ρa ρt ρm h0 qs qv (14 * (j + 16)) = ρa (14 * j) from rw_mx_a _ _ _ _ _ _ _ _ _ hj (t := 0) (by decide)]
      unfold rw_f
      rw [if_pos hj]
    · exact gv
    · exact rw_PW (S := sT) gt (i := 0) (by decide)
    · exact rw_PW (S := sT) gt (i := 1) (by decide)
    · exact rw_PW (S := sT) gt (i := 2) (by decide)
    · exact rw_PW (S := sMt) gm (i := 0) (by decide)
    · exact rw_PW (S := sMt) gm (i := 1) (by decide)
    · exact rw_PW (S := sMt) gm (i := 2) (by decide)
theorem rw_mkA (ρ0 ρ1 ρh ρa ρt ρm : Nat → Nat) (h0 qs qv : Nat) : (List.range 263).map (rw_mx ρ0 ρ1 ρh ρa ρt ρm h0 qs qv) = (List.range 14).map ρ0 ++ ((List.range 14).map ρ1 ++ ((List.range 196).map ρh ++ ((List.range 28).map ρa ++ ([h0] ++ ([ρh 196, ρh 197] ++ ([qs] ++ ([qv] ++ ((List.range 3).map ρt ++ (List.range 3).map ρm)))))))) := by
  refine rw_cat (a := 14) (b := 249) (fun i hi => ?_) (rw_cat (a := 14) (b := 235) (fun i hi => ?_) (rw_cat (a := 196) (b := 39) (fun i hi => ?_) (rw_cat (a := 28) (b := 11) (fun i hi => ?_) rfl)))
  · have := rw_mx_0 ρ0 ρ1 ρh ρa ρt ρm h0 qs qv hi
    rwa [show 14 * 0 + i = i by omega] at this
  · exact rw_mx_1 ρ0 ρ1 ρh ρa ρt ρm h0 qs qv hi
  · show rw_mx ρ0 ρ1 ρh ρa ρt ρm h0 qs qv (14 + (14 + i)) = _
    unfold rw_mx
    rw [if_neg (by omega), if_neg (by omega), if_pos (by omega), show 14 + (14 + i) - 28 = i by omega]
  · show rw_mx ρ0 ρ1 ρh ρa ρt ρm h0 qs qv (14 + (14 + (196 + i))) = _
    unfold rw_mx
    rw [if_neg (by omega), if_neg (by omega), if_neg (by omega), if_pos (by omega), show 14 + (14 + (196 + i)) - 224 = i by omega]
theorem rw_mkR {w0 w1 wh wa wt wm : gw_M} {o s : Nat → Int32} (h0 : cw_nf (ho w0) = cw_new) (hh : wh 196 1 = 0 ∧ wh 196 2 = 0) (ht : wt 0 1 = 0) : cw_RC cw_A0 (rw_mx w0 w1 wh wa wt wm o s (fun _ => 0)) := by
  refine ⟨h0, ⟨0, by decide, hh.1, hh.2, by decide, fun i hi => absurd hi (Nat.not_lt_zero _)⟩, fun i hi => ⟨?_, fun v hv => by cases hv⟩, ⟨ht, by decide, fun i hi => absurd hi (Nat.not_lt_zero _)⟩⟩
  show (0 : Int32) = cw_b ((none : Option cw_s).isSome = true)
  exact (if_neg (by decide)).symm

set_option maxHeartbeats 8000000 in
set_option maxRecDepth 100000 in
theorem new_X6 : rw_Ok yX6_init cX6_init 2 sC 252 6 262 4782 4 [.null, .null, .null, .null, .null, .null, .null] (fun w => cw_RC cw_A0 w) := by
  refine rw_of rfl rfl (by decide) (fun X h0 C I In F => ?_)
  refine r_aload_n C rfl dX6_init_0 ?_
  refine r_objinit C (gw_T_at 21 (by decide +kernel) rfl) (by decide) (by decide) dX6_init_1 ?_
  refine r_aload_n C rfl dX6_init_4 ?_
  refine r_new3 C I new_X1 my_X1_init li_X6_9 nw_X6_7 (by decide) ⟨by decide, by decide⟩ (Nat.le_of_ble_eq_true rfl) dX6_init_5 dX6_init_8 dX6_init_9 (fun ρ0 w0 hp0 => ?_)
  show rw_G X ((h0, .inr (4, [.null, .null, .null, .null, .null, .null, .null])) :: gw_W (rw_cA X) ρ0 sH w0) 2 14 255 12 [(0, .ref h0)] [.ref (ρ0 0), .ref h0]
  refine r_putF C In fd_X6_10 (Nat.le_of_ble_eq_true rfl) dX6_init_12 ?_
  show rw_G X ((h0, .inr (4, [.ref (ρ0 0), .null, .null, .null, .null, .null, .null])) :: gw_W (rw_cA X) ρ0 sH w0) 2 14 255 15 [(0, .ref h0)] []
  refine r_aload_n C rfl dX6_init_15 ?_
  refine r_new3 C I new_X1 my_X1_init li_X6_9 nw_X6_7 (by decide) ⟨by decide, by decide⟩ (Nat.le_of_ble_eq_true rfl) dX6_init_16 dX6_init_19 dX6_init_20 (fun ρ1 w1 hp1 => ?_)
  show rw_G X ((h0, .inr (4, [.ref (ρ0 0), .null, .null, .null, .null, .null, .null])) :: (gw_W (rw_cA X) ρ0 sH w0 ++ gw_W (rw_cA X) ρ1 sH w1)) 2 28 510 23 [(0, .ref h0)] [.ref (ρ1 0), .ref h0]
  refine r_putF C In fd_X6_16 (Nat.le_of_ble_eq_true rfl) dX6_init_23 ?_
  show rw_G X ((h0, .inr (4, [.ref (ρ0 0), .ref (ρ1 0), .null, .null, .null, .null, .null])) :: (gw_W (rw_cA X) ρ0 sH w0 ++ gw_W (rw_cA X) ρ1 sH w1)) 2 28 510 26 [(0, .ref h0)] []
  refine r_aload_n C rfl dX6_init_26 ?_
  refine r_new3 C I new_X0 my_X0_init li_X6_21 nw_X6_19 (by decide) ⟨by decide, by decide⟩ (Nat.le_of_ble_eq_true rfl) dX6_init_27 dX6_init_30 dX6_init_31 (fun ρh wh hph => ?_)
  show rw_G X ((h0, .inr (4, [.ref (ρ0 0), .ref (ρ1 0), .null, .null, .null, .null, .null])) :: ((gw_W (rw_cA X) ρ0 sH w0 ++ gw_W (rw_cA X) ρ1 sH w1) ++ gw_W (rw_cA X) ρh sHi wh)) 2 226 4097 34 [(0, .ref h0)] [.ref (ρh 196), .ref h0]
  refine r_putF C In fd_X6_22 (Nat.le_of_ble_eq_true rfl) dX6_init_34 ?_
  show rw_G X ((h0, .inr (4, [.ref (ρ0 0), .ref (ρ1 0), .ref (ρh 196), .null, .null, .null, .null])) :: ((gw_W (rw_cA X) ρ0 sH w0 ++ gw_W (rw_cA X) ρ1 sH w1) ++ gw_W (rw_cA X) ρh sHi wh)) 2 226 4097 37 [(0, .ref h0)] []
  refine r_aload_n C rfl dX6_init_37 ?_
  refine r_iconst (v := 2) C (by decide) dX6_init_38 ?_
  refine r_anew (N := 2) C I (gw_T_at 24 (by decide +kernel) rfl) (by decide) (by decide) (by decide) ⟨by decide, by decide⟩ dX6_init_39 (fun qs => ?_)
  show rw_G X ((h0, .inr (4, [.ref (ρ0 0), .ref (ρ1 0), .ref (ρh 196), .null, .null, .null, .null])) :: (((gw_W (rw_cA X) ρ0 sH w0 ++ gw_W (rw_cA X) ρ1 sH w1) ++ gw_W (rw_cA X) ρh sHi wh) ++ [(qs, .inl (rw_cA X 4, 2, .inr (.inr (.inr (.inr (fun _ => none))))))])) 2 227 4099 42 [(0, .ref h0)] [.ref qs, .ref h0]
  refine r_putF C In fd_X6_26 (Nat.le_of_ble_eq_true rfl) dX6_init_42 ?_
  show rw_G X ((h0, .inr (4, [.ref (ρ0 0), .ref (ρ1 0), .ref (ρh 196), .ref qs, .null, .null, .null])) :: (((gw_W (rw_cA X) ρ0 sH w0 ++ gw_W (rw_cA X) ρ1 sH w1) ++ gw_W (rw_cA X) ρh sHi wh) ++ [(qs, .inl (rw_cA X 4, 2, .inr (.inr (.inr (.inr (fun _ => none))))))])) 2 227 4099 45 [(0, .ref h0)] []
  refine r_aload_n C rfl dX6_init_45 ?_
  refine r_iconst (v := 2) C (by decide) dX6_init_46 ?_
  refine r_new_boolean (N := 2) C (by decide) (by decide) (by decide) ⟨by decide, by decide⟩ dX6_init_47 (fun qv => ?_)
  show rw_G X ((h0, .inr (4, [.ref (ρ0 0), .ref (ρ1 0), .ref (ρh 196), .ref qs, .null, .null, .null])) :: ((((gw_W (rw_cA X) ρ0 sH w0 ++ gw_W (rw_cA X) ρ1 sH w1) ++ gw_W (rw_cA X) ρh sHi wh) ++ [(qs, .inl (rw_cA X 4, 2, .inr (.inr (.inr (.inr (fun _ => none))))))]) ++ [(qv, .inl (rw_cA X 1, 2, .inl (fun _ => 0)))])) 2 228 4101 49 [(0, .ref h0)] [.ref qv, .ref h0]
  refine r_putF C In fd_X6_30 (Nat.le_of_ble_eq_true rfl) dX6_init_49 ?_
  show rw_G X ((h0, .inr (4, [.ref (ρ0 0), .ref (ρ1 0), .ref (ρh 196), .ref qs, .ref qv, .null, .null])) :: ((((gw_W (rw_cA X) ρ0 sH w0 ++ gw_W (rw_cA X) ρ1 sH w1) ++ gw_W (rw_cA X) ρh sHi wh) ++ [(qs, .inl (rw_cA X 4, 2, .inr (.inr (.inr (.inr (fun _ => none))))))]) ++ [(qv, .inl (rw_cA X 1, 2, .inl (fun _ => 0)))])) 2 228 4101 52 [(0, .ref h0)] []
  refine r_aload_n C rfl dX6_init_52 ?_
  refine r_new3 C I new_X5 my_X5_init li_X6_36 nw_X6_34 (by decide) ⟨by decide, by decide⟩ (Nat.le_of_ble_eq_true rfl) dX6_init_53 dX6_init_56 dX6_init_57 (fun ρt wt hpt => ?_)
  show rw_G X ((h0, .inr (4, [.ref (ρ0 0), .ref (ρ1 0), .ref (ρh 196), .ref qs, .ref qv, .null, .null])) :: (((((gw_W (rw_cA X) ρ0 sH w0 ++ gw_W (rw_cA X) ρ1 sH w1) ++ gw_W (rw_cA X) ρh sHi wh) ++ [(qs, .inl (rw_cA X 4, 2, .inr (.inr (.inr (.inr (fun _ => none))))))]) ++ [(qv, .inl (rw_cA X 1, 2, .inl (fun _ => 0)))]) ++ gw_W (rw_cA X) ρt sT wt)) 2 231 4230 60 [(0, .ref h0)] [.ref (ρt 0), .ref h0]
  refine r_putF C In fd_X6_37 (Nat.le_of_ble_eq_true rfl) dX6_init_60 ?_
  show rw_G X ((h0, .inr (4, [.ref (ρ0 0), .ref (ρ1 0), .ref (ρh 196), .ref qs, .ref qv, .ref (ρt 0), .null])) :: (((((gw_W (rw_cA X) ρ0 sH w0 ++ gw_W (rw_cA X) ρ1 sH w1) ++ gw_W (rw_cA X) ρh sHi wh) ++ [(qs, .inl (rw_cA X 4, 2, .inr (.inr (.inr (.inr (fun _ => none))))))]) ++ [(qv, .inl (rw_cA X 1, 2, .inl (fun _ => 0)))]) ++ gw_W (rw_cA X) ρt sT wt)) 2 231 4230 63 [(0, .ref h0)] []
  refine r_aload_n C rfl dX6_init_63 ?_
  refine r_new3 C I new_X2 my_X2_init li_X6_43 nw_X6_41 (by decide) ⟨by decide, by decide⟩ (Nat.le_of_ble_eq_true rfl) dX6_init_64 dX6_init_67 dX6_init_68 (fun ρm wm hpm => ?_)
  show rw_G X ((h0, .inr (4, [.ref (ρ0 0), .ref (ρ1 0), .ref (ρh 196), .ref qs, .ref qv, .ref (ρt 0), .null])) :: ((((((gw_W (rw_cA X) ρ0 sH w0 ++ gw_W (rw_cA X) ρ1 sH w1) ++ gw_W (rw_cA X) ρh sHi wh) ++ [(qs, .inl (rw_cA X 4, 2, .inr (.inr (.inr (.inr (fun _ => none))))))]) ++ [(qv, .inl (rw_cA X 1, 2, .inl (fun _ => 0)))]) ++ gw_W (rw_cA X) ρt sT wt) ++ gw_W (rw_cA X) ρm sMt wm)) 2 234 4272 71 [(0, .ref h0)] [.ref (ρm 0), .ref h0]
  refine r_putF C In fd_X6_44 (Nat.le_of_ble_eq_true rfl) dX6_init_71 ?_
  show rw_G X ((h0, .inr (4, [.ref (ρ0 0), .ref (ρ1 0), .ref (ρh 196), .ref qs, .ref qv, .ref (ρt 0), .ref (ρm 0)])) :: ((((((gw_W (rw_cA X) ρ0 sH w0 ++ gw_W (rw_cA X) ρ1 sH w1) ++ gw_W (rw_cA X) ρh sHi wh) ++ [(qs, .inl (rw_cA X 4, 2, .inr (.inr (.inr (.inr (fun _ => none))))))]) ++ [(qv, .inl (rw_cA X 1, 2, .inl (fun _ => 0)))]) ++ gw_W (rw_cA X) ρt sT wt) ++ gw_W (rw_cA X) ρm sMt wm)) 2 234 4272 74 [(0, .ref h0)] []
  refine r_iconst (v := 0) C (by decide) dX6_init_74 ?_
  refine r_istore_n C (by decide) dX6_init_75 ?_
  refine r_perm (rw_pm _ _ _ _ _ _ _ _) ?_
  refine r_ws (ws' := (h0, .inr (4, [.ref (ρ0 0), .ref (ρ1 0), .ref (ρh 196), .ref qs, .ref qv, .ref (ρt 0), .ref (ρm 0)])) :: (qs, .inl (rw_cA X 4, 2, .inr (.inr (.inr (.inr (rw_f (fun i => i) 0)))))) :: ((gw_W (rw_cA X) ρ0 sH w0 ++ (gw_W (rw_cA X) ρ1 sH w1 ++ (gw_W (rw_cA X) ρh sHi wh ++ ([(qv, .inl (rw_cA X 1, 2, .inl (fun _ => 0)))] ++ (gw_W (rw_cA X) ρt sT wt ++ gw_W (rw_cA X) ρm sMt wm))))) ++ gw_W (rw_cA X) (fun i => i) (sHs 0) (fun _ _ => 0))) (by
    show _ = _ :: _ :: (_ ++ [])
    rw [← rw_f0, List.append_nil]) ?_
  refine houses_X6 C I (k0 := 234) (n0 := 4272) rfl ⟨by decide, by decide⟩ (fun ρa wa => ?_) 2 0 rfl (fun i => i) (fun _ _ => 0)
  refine r_to (S := sC) (rw_mx ρ0 ρ1 ρh ρa ρt ρm h0 qs qv) (rw_mx w0 w1 wh wa wt wm (fun _ => 0) (fun _ => 0) (fun _ => 0)) (fun D H h => ?_) ?_ (r_ret C F rfl (rw_mkR hp0 hph hpt) ⟨by decide, by decide⟩ dX6_init_100)
  · have h1 := rw_Pone.mp h
    have h2 := rw_Pone.mp h1.2
    have h3 := rw_Papp.mp h2.2
    have h4 := rw_Papp.mp h3.1
    have h5 := rw_Papp.mp h4.2
    have h6 := rw_Papp.mp h5.2
    have h7 := rw_Papp.mp h6.2
    have h8 := rw_Papp.mp h7.2
    exact rw_mk h4.1 h5.1 h6.1 h3.2 h8.1 h8.2 h1.1 h2.1 (rw_Pone.mp h7.1).1
  · show ((List.range 263).map _).Perm _
    rw [rw_mkA]
    simp only [List.map_append, List.map_cons, List.map_nil, rw_fst]
    show List.Perm _ ([h0] ++ ([qs] ++ (((List.range 14).map ρ0 ++ ((List.range 14).map ρ1 ++ ((List.range 198).map ρh ++ ([qv] ++ ((List.range 3).map ρt ++ (List.range 3).map ρm))))) ++ (List.range 28).map ρa)))
    rw [show (List.range 198).map ρh = (List.range 196).map ρh ++ [ρh 196, ρh 197] from rw_cat (a := 196) (b := 2) (fun _ _ => rfl) rfl]
    exact rw_pm2 _ _ _ _ [h0] _ [qs] [qv] _ _
