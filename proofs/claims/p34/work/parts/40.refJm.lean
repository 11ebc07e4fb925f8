/-! THE REFERENCE'S FACE: how a method ends -/
def cw_FP (r : cw_R) (vr : Option Value) (w1 : gw_M) : Prop := vr = some (.int r.2.1) ∧ w1 0 0 = r.1 ∧ cw_RM r.2.2 w1
theorem cw_RM_thr {A : cw_A} {w : gw_M} {x : Int32} (h : cw_RM A w) : cw_RM A (gw_set w 0 0 x) :=
  h.cg (by rw [gw_set_ne _ _ _ _ (by decide)]) (gw_set_ne _ _ _ _ (by decide)) (gw_set_ne _ _ _ _ (by decide)) (gw_set_ne _ _ _ _ (by decide)) (by rw [gw_set_self, cw_upn _ _ (by decide)]) (by rw [gw_set_self, cw_upn _ _ (by decide)]) (by rw [gw_set_self, cw_upn _ _ (by decide)])
theorem cw_fin1 {A : cw_A} {w w1 : gw_M} {e : Int32} {r : Int32 × cw_A} (h : cw_RM A w) (hw : w1 = gw_set w 0 0 e) (hne : ¬ e = 0) : cw_FP (cw_stp e A r) (some (.int 0)) w1 := by
  subst hw
  rw [cw_stp1 hne]
  exact ⟨rfl, by rw [gw_set_self, cw_ups], cw_RM_thr h⟩
theorem cw_fin0 {A : cw_A} {w1 : gw_M} {e v : Int32} {r : Int32 × cw_A} (he : e = 0) (hv : v = r.1) (h0 : w1 0 0 = 0) (h : cw_RM r.2 w1) : cw_FP (cw_stp e A r) (some (.int v)) w1 := by
  rw [cw_stp0 he]
  exact ⟨by rw [hv], h0, h⟩
theorem cw_es {A : cw_A} {w : gw_M} (h : cw_RM A w) : cw_eq (w 1) A.1 := by
  have e := h.1
  show cw_nf (w 1) = cw_nf A.1
  rw [← e, cw_nf_nf]
/-- errors: what counts decides them -/
theorem cw_eOwner_cg {s' s : cw_s} (e : cw_eq s' s) (a : Int32) : cw_if (1 ≤ a ∧ a ≤ 9) (if s' 0 = 6 then (2 : Int32) else 0) 1 = cw_if (1 ≤ a ∧ a ≤ 9) (if s 0 = 6 then 2 else 0) 1 := by rw [cw_rd e (by omega) (by omega)]
theorem cw_eUpk_cg {s' s : cw_s} (e : cw_eq s' s) (a : Int32) : cw_if (1 ≤ a ∧ a ≤ 999) (if s' 0 = 0 then (2 : Int32) else 0) 1 = cw_if (1 ≤ a ∧ a ≤ 999) (if s 0 = 0 then 2 else 0) 1 := by rw [cw_rd e (by omega) (by omega)]
theorem cw_eRel_cg {n m : Nat} {s' s : cw_s} (hI : cw_I n m s) (e : cw_eq s' s) (o k : Int32) : cw_if (cw_th s' o k) (if s' (25 + 3 * cw_x k + 2) = o then (0 : Int32) else 2) 1 = cw_if (cw_th s o k) (if s (25 + 3 * cw_x k + 2) = o then 0 else 2) 1 := by
  rw [cw_th_cg e]
  by_cases q : cw_th s o k
  · rw [cw_it q, cw_it q, cw_rd e (by have := (cw_thx hI q).2.1; omega) (by have := (cw_thx hI q).2.1; omega)]
  · rw [cw_ie q, cw_ie q]
theorem cw_eBid_cg {n m : Nat} {s' s : cw_s} (hI : cw_I n m s) (e : cw_eq s' s) (o k a : Int32) : cw_if (cw_th s' o k) (cw_if (0 ≤ a ∧ a ≤ 20) (cw_if (cw_open s' (cw_x k)) (0 : Int32) 3) 2) 1 = cw_if (cw_th s o k) (cw_if (0 ≤ a ∧ a ≤ 20) (cw_if (cw_open s (cw_x k)) 0 3) 2) 1 := by
  rw [cw_th_cg e]
  by_cases q : cw_th s o k
  · rw [cw_it q, cw_it q, cw_open_cg e (cw_thx hI q).2.1]
  · rw [cw_ie q, cw_ie q]
theorem cw_eOff_cg {s' s : cw_s} (e : cw_eq s' s) (o k x : Int32) : cw_if (cw_th s' o k ∧ cw_isW x) (cw_if (cw_swap s' o k x ∧ ¬ s' 205 = 8) (0 : Int32) 2) 1 = cw_if (cw_th s o k ∧ cw_isW x) (cw_if (cw_swap s o k x ∧ ¬ s 205 = 8) 0 2) 1 := by
  rw [cw_th_cg e, cw_swap_cg2 e, cw_rd e (by omega) (by omega)]
theorem cw_isO_cg {s' s : cw_s} (e : cw_eq s' s) (o : Int32) : cw_isO s' o = cw_isO s o := by unfold cw_isO; rw [cw_rd e (by omega) (by omega)]
theorem cw_ifb {P : Prop} {a b : Int32} (hab : ¬ a = b) (h : cw_if P a b = a) : P := by
  by_cases q : P
  · exact q
  · rw [cw_ie q] at h; exact absurd h.symm hab
/-- a house answered for: the reference's world, its house changed -/
theorem cw_RM_S {A : cw_A} {w : gw_M} {s : cw_s} (h : cw_RM A w) : cw_RM (cw_nf s, A.2) (cw_S w s) :=
  h.house (by rw [cw_S1]) (cw_Sne _ _ (by decide)) (cw_Sne _ _ (by decide)) (cw_Sne _ _ (by decide)) (by rw [cw_Sne _ _ (by decide)]) (by rw [cw_Sne _ _ (by decide)]) (by rw [cw_Sne _ _ (by decide)])
theorem cw_rem_1 (A : cw_A) : (cw_rem A).1 = A.1 := rfl
