/-! WHAT HOLDS OF EVERY STATE, kept by each call -/
theorem cw_IA.mono {n m n' m' : Nat} {A : cw_A} (h : cw_IA n m A) (h1 : n ≤ n') (h2 : m ≤ m') : cw_IA n' m' A :=
  ⟨h.1.mono h1 h2, fun i hi => (h.2.1 i hi).mono h1 h2, fun i v hi hv => (h.2.2.1 i v hi hv).mono h1 h2, h.2.2.2⟩
theorem ia_stp {n m : Nat} {e : Int32} {A : cw_A} {r : Int32 × cw_A} (h : cw_IA n m A) (h2 : e = 0 → cw_IA n m r.2) : cw_IA n m (cw_stp e A r).2.2 := by
  by_cases q : e = 0
  · rw [cw_stp0 q]; exact h2 q
  · rw [cw_stp1 q]; exact h
theorem ia_rem {n m : Nat} {A : cw_A} (h : cw_IA n m A) {s : cw_s} {n' m' : Nat} (h1 : n ≤ n') (h2 : m ≤ m') (hs : cw_I n' m' s) : cw_IA n' m' (s, (cw_rem A).2) := by
  have hm := h.mono h1 h2
  refine ⟨hs, ?_, hm.2.2.1, ?_, hm.2.2.2.2⟩
  · intro i hi
    by_cases z : A.2.1.1 = 14
    · have er : (cw_rem A).2.1 = (14, fun i => if i = 13 then A.1 else A.2.1.2 (i + 1)) := by unfold cw_rem; exact if_pos z
      show cw_I n' m' ((cw_rem A).2.1.2 i)
      have hi2 : i < (cw_rem A).2.1.1 := hi
      rw [er] at hi2 ⊢
      have hi2 : i < 14 := hi2
      show cw_I n' m' (if i = 13 then A.1 else A.2.1.2 (i + 1))
      by_cases y : i = 13
      · rw [if_pos y]; exact hm.1
      · rw [if_neg y]; exact hm.2.1 _ (by omega)
    · have er : (cw_rem A).2.1 = (A.2.1.1 + 1, fun i => if i = A.2.1.1 then A.1 else A.2.1.2 i) := by unfold cw_rem; exact if_neg z
      show cw_I n' m' ((cw_rem A).2.1.2 i)
      have hi2 : i < (cw_rem A).2.1.1 := hi
      rw [er] at hi2 ⊢
      have hi2 : i < A.2.1.1 + 1 := hi2
      show cw_I n' m' (if i = A.2.1.1 then A.1 else A.2.1.2 i)
      by_cases y : i = A.2.1.1
      · rw [if_pos y]; exact hm.1
      · rw [if_neg y]; exact hm.2.1 _ (by omega)
  · show (cw_rem A).2.1.1 ≤ 14
    have := h.2.2.2.1
    unfold cw_rem
    by_cases z : A.2.1.1 = 14
    · rw [if_pos z]; exact Nat.le_refl _
    · rw [if_neg z]; show A.2.1.1 + 1 ≤ 14; omega
theorem ia_acts {n m : Nat} {A : cw_A} (h : cw_IA n m A) (hB : cw_B (n + 21600) (m + 2400)) (l a b c : Int32) (h115 : l = 115 → cw_isW a ∧ cw_r 0 1 b) : cw_IA (n + 21600) (m + 2400) (cw_acts A l a b c).2 := by
  have hd := cw_I_does h.1 (cw_B_le2 hB (by omega) (by omega)) l a b c h115
  exact ia_rem h (by omega) (by omega) ((cw_I_cg hd (cw_nf_nf _)).mono (by omega) (by omega))
theorem ia_up {n m : Nat} {A : cw_A} (h : cw_IA n m A) : cw_IA (n + 21600) (m + 2400) A := h.mono (by omega) (by omega)

theorem ia_about {n m : Nat} {A : cw_A} (h : cw_IA n m A) (hB : cw_B (n + 21600) (m + 2400)) (k : Int32) : cw_IA (n + 21600) (m + 2400) (sp_about A k).2.2 := ia_stp (ia_up h) (fun _ => ia_up h)

theorem ia_ownerOf {n m : Nat} {A : cw_A} (h : cw_IA n m A) (hB : cw_B (n + 21600) (m + 2400)) (o k : Int32) : cw_IA (n + 21600) (m + 2400) (sp_ownerOf A o k).2.2 := ia_stp (ia_up h) (fun _ => ia_up h)

theorem ia_weekOf {n m : Nat} {A : cw_A} (h : cw_IA n m A) (hB : cw_B (n + 21600) (m + 2400)) (o k : Int32) : cw_IA (n + 21600) (m + 2400) (sp_weekOf A o k).2.2 := ia_stp (ia_up h) (fun _ => ia_up h)

theorem ia_bidOf {n m : Nat} {A : cw_A} (h : cw_IA n m A) (hB : cw_B (n + 21600) (m + 2400)) (o k : Int32) : cw_IA (n + 21600) (m + 2400) (sp_bidOf A o k).2.2 := ia_stp (ia_up h) (fun _ => ia_up h)

theorem ia_offerOf {n m : Nat} {A : cw_A} (h : cw_IA n m A) (hB : cw_B (n + 21600) (m + 2400)) (o k : Int32) : cw_IA (n + 21600) (m + 2400) (sp_offerOf A o k).2.2 := ia_stp (ia_up h) (fun _ => ia_up h)

theorem ia_why {n m : Nat} {A : cw_A} (h : cw_IA n m A) (hB : cw_B (n + 21600) (m + 2400)) (o k : Int32) : cw_IA (n + 21600) (m + 2400) (sp_why A o k).2.2 := ia_stp (ia_up h) (fun _ => ia_up h)

theorem ia_could {n m : Nat} {A : cw_A} (h : cw_IA n m A) (hB : cw_B (n + 21600) (m + 2400)) (k : Int32) : cw_IA (n + 21600) (m + 2400) (sp_could A k).2.2 := ia_stp (ia_up h) (fun _ => ia_up h)

theorem ia_winner {n m : Nat} {A : cw_A} (h : cw_IA n m A) (hB : cw_B (n + 21600) (m + 2400)) (k : Int32) : cw_IA (n + 21600) (m + 2400) (sp_winner A k).2.2 := ia_stp (ia_up h) (fun _ => ia_up h)

theorem ia_leastBid {n m : Nat} {A : cw_A} (h : cw_IA n m A) (hB : cw_B (n + 21600) (m + 2400)) (o k : Int32) : cw_IA (n + 21600) (m + 2400) (sp_leastBid A o k).2.2 := ia_stp (ia_up h) (fun _ => ia_up h)

theorem ia_ifUpkeep {n m : Nat} {A : cw_A} (h : cw_IA n m A) (hB : cw_B (n + 21600) (m + 2400)) (o k : Int32) : cw_IA (n + 21600) (m + 2400) (sp_ifUpkeep A o k).2.2 := ia_stp (ia_up h) (fun _ => ia_up h)

theorem ia_runScript {n m : Nat} {A : cw_A} (h : cw_IA n m A) (hB : cw_B (n + 21600) (m + 2400)) (k : Int32) (sc : Int64) : cw_IA (n + 21600) (m + 2400) (sp_runScript A k sc).2.2 := ia_stp (ia_up h) (fun _ => ia_up h)

theorem ia_simulate {n m : Nat} {A : cw_A} (h : cw_IA n m A) (hB : cw_B (n + 21600) (m + 2400)) (sd : Int64) (k : Int32) : cw_IA (n + 21600) (m + 2400) (sp_simulate A sd k).2.2 := ia_stp (ia_up h) (fun _ => ia_up h)

theorem ia_owner {n m : Nat} {A : cw_A} (h : cw_IA n m A) (hB : cw_B (n + 21600) (m + 2400)) (a : Int32) : cw_IA (n + 21600) (m + 2400) (sp_owner A a).2.2 := ia_stp (ia_up h) (fun _ => ia_acts h hB 111 a 0 0 (fun q => absurd q (by decide)))

theorem ia_cost {n m : Nat} {A : cw_A} (h : cw_IA n m A) (hB : cw_B (n + 21600) (m + 2400)) (o k : Int32) : cw_IA (n + 21600) (m + 2400) (sp_cost A o k).2.2 := ia_stp (ia_up h) (fun _ => ia_acts h hB 107 o k 0 (fun q => absurd q (by decide)))

theorem ia_release {n m : Nat} {A : cw_A} (h : cw_IA n m A) (hB : cw_B (n + 21600) (m + 2400)) (o k : Int32) : cw_IA (n + 21600) (m + 2400) (sp_release A o k).2.2 := ia_stp (ia_up h) (fun _ => ia_acts h hB 114 o k 0 (fun q => absurd q (by decide)))

theorem ia_bid {n m : Nat} {A : cw_A} (h : cw_IA n m A) (hB : cw_B (n + 21600) (m + 2400)) (o k a : Int32) : cw_IA (n + 21600) (m + 2400) (sp_bid A o k a).2.2 := ia_stp (ia_up h) (fun _ => ia_acts h hB 98 o k a (fun q => absurd q (by decide)))

theorem ia_settle {n m : Nat} {A : cw_A} (h : cw_IA n m A) (hB : cw_B (n + 21600) (m + 2400)) : cw_IA (n + 21600) (m + 2400) (sp_settle A).2.2 := ia_acts h hB 101 0 0 0 (fun q => absurd q (by decide))

theorem ia_offer {n m : Nat} {A : cw_A} (h : cw_IA n m A) (hB : cw_B (n + 21600) (m + 2400)) (o k a : Int32) : cw_IA (n + 21600) (m + 2400) (sp_offer A o k a).2.2 := ia_stp (ia_up h) (fun _ => ia_acts h hB 102 o k a (fun q => absurd q (by decide)))

theorem ia_accept {n m : Nat} {A : cw_A} (h : cw_IA n m A) (hB : cw_B (n + 21600) (m + 2400)) (o : Int32) : cw_IA (n + 21600) (m + 2400) (sp_accept A o).2.2 := ia_stp (ia_up h) (fun _ => ia_acts h hB 97 o 0 0 (fun q => absurd q (by decide)))

theorem ia_upkeep {n m : Nat} {A : cw_A} (h : cw_IA n m A) (hB : cw_B (n + 21600) (m + 2400)) (a : Int32) : cw_IA (n + 21600) (m + 2400) (sp_upkeep A a).2.2 := ia_stp (ia_up h) (fun _ => ia_acts h hB 117 a 0 0 (fun q => absurd q (by decide)))

theorem ia_year {n m : Nat} {A : cw_A} (h : cw_IA n m A) (hB : cw_B (n + 21600) (m + 2400)) : cw_IA (n + 21600) (m + 2400) (sp_year A).2.2 := ia_acts h hB 121 0 0 0 (fun q => absurd q (by decide))

theorem ia_school {n m : Nat} {A : cw_A} (h : cw_IA n m A) (hB : cw_B (n + 21600) (m + 2400)) (o k : Int32) (h01 : cw_r 0 1 k) : cw_IA (n + 21600) (m + 2400) (sp_school A o k).2.2 := ia_stp (ia_up h) (fun e => ia_acts h hB 115 o k 0 (fun _ => ⟨cw_ifb (by decide) e, h01⟩))
theorem ia_take {n m : Nat} {A : cw_A} (h : cw_IA n m A) (hB : cw_B (n + 21600) (m + 2400)) (o k : Int32) : cw_IA (n + 21600) (m + 2400) (sp_take A o k).2.2 := ia_stp (ia_up h) (fun _ => by
  have ha := ia_acts h hB 116 o k 0 (fun q => absurd q (by decide))
  exact ⟨cw_Iq ha.1 (cw_up240 rfl _), ha.2⟩)
theorem cw_I_set {n m : Nat} {t : cw_s} (h : cw_I n m t) {j : Nat} {v : Int32} (hj : j < 3) (hv : cw_sL j ≤ v ∧ v ≤ cw_sM j) : cw_I n m (upd t (231 + j) v) := by
  have no : cw_no (upd t (231 + j) v) = cw_no t := cw_no_upd _ _ (by omega)
  obtain ⟨h0, h1, h2, h3, h4, h5, h6, h7, h8, h9, ⟨q, q1, q2, q3⟩, h11, h12, h13⟩ := h
  have u : ∀ p, p ≠ 231 + j → upd t (231 + j) v p = t p := fun p hp => cw_upn _ _ hp
  refine ⟨⟨by rw [no, u 0 (by omega)]; exact h0.1, by rw [no]; exact h0.2⟩, fun i a b => ?_, fun i k a b c => ?_, fun i a => ?_, fun i a => ?_, fun i a => ?_, fun k a => ?_, fun k a => ?_, fun k a => ?_, fun i k a b => ?_, ⟨q, q1, by rw [u 205 (by omega)]; exact q2, fun i a => ?_⟩, ?_, ?_, ?_⟩
  · rw [no] at a; rw [u _ (by omega), u _ (by omega), u _ (by omega), u _ (by omega)]; exact h1 i a b
  · rw [no] at a; rw [u _ (by omega)]; exact h2 i k a b c
  · rw [no] at a; have := h0.2; rw [u _ (by omega)]; exact h3 i a
  · rw [u _ (by omega)]; exact h4 i a
  · rw [u _ (by omega)]; exact h5 i a
  · rw [u _ (by omega)]; exact h6 k a
  · rw [u _ (by omega)]; exact h7 k a
  · rw [u _ (by omega), no]; exact h8 k a
  · rw [u _ (by omega)]; exact h9 i k a b
  · rw [u _ (by omega), u _ (by omega), u _ (by omega), no]; exact q3 i a
  all_goals
    have hr : ∀ a b : Nat, nI a ≤ v → v ≤ nI b → b < 1000 → a ≤ b → cw_r a b v := fun a b z1 z2 z3 z4 => by
      have y1 := cw_le.mp z1
      have y2 := cw_le.mp z2
      rw [cw_ni (by omega)] at y1 y2
      exact ⟨v.toInt.toNat, by omega, by omega, by apply Int32.toInt_inj.mp; rw [cw_ni (by omega)]; omega⟩
    have hj3 : j = 0 ∨ j = 1 ∨ j = 2 := by omega
  · rcases hj3 with rfl | rfl | rfl
    · rw [cw_ups]; exact hr 1 20 hv.1 hv.2 (by decide) (by decide)
    · rw [u _ (by omega)]; exact h11
    · rw [u _ (by omega)]; exact h11
  · rcases hj3 with rfl | rfl | rfl
    · rw [u _ (by omega)]; exact h12
    · rw [cw_ups]; exact hr 0 20 hv.1 hv.2 (by decide) (by decide)
    · rw [u _ (by omega)]; exact h12
  · rcases hj3 with rfl | rfl | rfl
    · rw [u _ (by omega)]; exact h13
    · rw [u _ (by omega)]; exact h13
    · rw [cw_ups]; exact hr 1 10 hv.1 hv.2 (by decide) (by decide)
theorem ia_set {n m : Nat} {A : cw_A} (h : cw_IA n m A) (hB : cw_B (n + 21600) (m + 2400)) (k v : Int32) : cw_IA (n + 21600) (m + 2400) (sp_set A k v).2.2 := ia_stp (ia_up h) (fun e => by
  obtain ⟨j, hj, rfl, hv⟩ := cw_setOk_ix (cw_ifb (by decide) e)
  have hx : cw_x (nI j) = j := cw_xn (by omega)
  show cw_IA _ _ (upd A.1 (231 + cw_x (nI j)) v, (cw_rem A).2)
  rw [hx]
  exact ia_rem h (by omega) (by omega) ((cw_I_set h.1 hj hv).mono (by omega) (by omega)))
theorem ia_undo {n m : Nat} {A : cw_A} (h : cw_IA n m A) (hB : cw_B (n + 21600) (m + 2400)) : cw_IA (n + 21600) (m + 2400) (sp_undo A).2.2 := ia_stp (ia_up h) (fun e => by
  have h2 := ia_up h
  have hc : ¬ A.2.1.1 = 0 := fun q => by rw [if_pos q] at e; exact absurd e (by decide)
  refine ⟨h2.2.1 _ (by omega), fun i hi => h2.2.1 i (by have hi : i < A.2.1.1 - 1 := hi; omega), h2.2.2.1, ?_, h2.2.2.2.2⟩
  show A.2.1.1 - 1 ≤ 14
  have := h.2.2.2.1
  omega)
theorem ia_save {n m : Nat} {A : cw_A} (h : cw_IA n m A) (hB : cw_B (n + 21600) (m + 2400)) (k : Int32) : cw_IA (n + 21600) (m + 2400) (sp_save A k).2.2 := ia_stp (ia_up h) (fun _ => by
  have h2 := ia_up h
  refine ⟨h2.1, h2.2.1, fun i v hi hv => ?_, h2.2.2.2⟩
  have hv : (if i = cw_x k then some A.1 else A.2.2.1 i) = some v := hv
  by_cases z : i = cw_x k
  · rw [if_pos z] at hv; cases hv; exact h2.1
  · rw [if_neg z] at hv; exact h2.2.2.1 i v hi hv)
theorem ia_restore {n m : Nat} {A : cw_A} (h : cw_IA n m A) (hB : cw_B (n + 21600) (m + 2400)) (k : Int32) : cw_IA (n + 21600) (m + 2400) (sp_restore A k).2.2 := ia_stp (ia_up h) (fun e => by
  have h2 := ia_up h
  refine ⟨?_, fun i hi => absurd hi (Nat.not_lt_zero _), h2.2.2.1, Nat.zero_le _, h2.2.2.2.2⟩
  show cw_I _ _ ((A.2.2.1 (cw_x k)).getD A.1)
  cases hv : A.2.2.1 (cw_x k) with
  | none => exact h2.1
  | some v =>
    by_cases hk : 0 ≤ k ∧ k ≤ 1
    · refine h2.2.2.1 (cw_x k) v ?_ hv
      have a := cw_le.mp hk.1
      have b := cw_le.mp hk.2
      have z0 : (0 : Int32).toInt = 0 := rfl
      have z1 : (1 : Int32).toInt = 1 := rfl
      show k.toInt.toNat < 2
      omega
    · rw [cw_ie hk] at e; exact absurd e (by decide))
theorem ia_load {n m : Nat} {A : cw_A} (h : cw_IA n m A) (hB : cw_B (n + 21600) (m + 2400)) : cw_IA (n + 21600) (m + 2400) (sp_load A).2.2 := ia_stp (ia_up h) (fun e => by
  have h2 := ia_up h
  have hok : (cw_parse A.2.2.2.2 A.2.2.2.1 120).1 = false := by
    cases q : (cw_parse A.2.2.2.2 A.2.2.2.1 120).1 with
    | false => rfl
    | true => rw [q] at e; exact absurd e (by decide)
  have hr := cw_run_I A.2.2.2.2 A.2.2.2.1 hok 120 (Nat.le_refl _)
  exact ⟨(cw_I_cg hr (cw_nf_nf _)).mono (by omega) (by omega), fun i hi => absurd hi (Nat.not_lt_zero _), fun i v _ hv => (nomatch hv), Nat.zero_le _, h2.2.2.2.2⟩)
theorem ia_append {n m : Nat} {A : cw_A} (h : cw_IA n m A) (hB : cw_B (n + 21600) (m + 2400)) (c : Int32) : cw_IA (n + 21600) (m + 2400) (sp_append A c).2.2 := ia_stp (ia_up h) (fun e => by
  have h2 := ia_up h
  by_cases hc : 0 ≤ c ∧ c ≤ 255
  · rw [cw_it hc] at e
    have hf : ¬ nI A.2.2.2.1 = 120 := fun q => by rw [if_pos q] at e; exact absurd e (by decide)
    have hlt := cw_b120 h.2.2.2.2.1 hf
    refine ⟨h2.1, h2.2.1, h2.2.2.1, h2.2.2.2.1, by show A.2.2.2.1 + 1 ≤ 120; omega, fun i hi => ?_⟩
    have hi : i < A.2.2.2.1 + 1 := hi
    show cw_r 0 255 (upd A.2.2.2.2 A.2.2.2.1 c i)
    by_cases z : i = A.2.2.2.1
    · rw [z]; unfold upd; rw [if_pos rfl]; exact (cw_c16 hc).2.2
    · unfold upd; rw [if_neg z]; exact h.2.2.2.2.2 i (by omega)
  · rw [cw_ie hc] at e; exact absurd e (by decide))
theorem ia_clearText {n m : Nat} {A : cw_A} (h : cw_IA n m A) (hB : cw_B (n + 21600) (m + 2400)) : cw_IA (n + 21600) (m + 2400) (sp_clearText A).2.2 := by
  have h2 := ia_up h
  exact ⟨h2.1, h2.2.1, h2.2.2.1, h2.2.2.2.1, Nat.zero_le _, fun i hi => absurd hi (Nat.not_lt_zero _)⟩
theorem ia_errorPosition {n m : Nat} {A : cw_A} (h : cw_IA n m A) (hB : cw_B (n + 21600) (m + 2400)) : cw_IA (n + 21600) (m + 2400) (sp_errorPosition A).2.2 := ia_up h
