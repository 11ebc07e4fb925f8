/-! THE LAW'S WORLD: the class's 263 cells, the row for what is told, the reference's 7 -/
def sL : gw_S := (271, fun i => if i < 264 then sCO.2 i else gw_pi (fun j => 264 + j) (sM.2 (i - 264)))
theorem cw_emb_LO : gw_emb sL sCO (fun i => i) := ⟨fun i hi => by
  have h2 : i < 264 := hi
  rw [gw_pi_id]
  simp [gw_at, sL, h2, show i < 271 by omega], fun i j _ _ h => h⟩
theorem cw_emb_LC : gw_emb sL sC (fun i => i) := ⟨fun i hi => by
  have h2 : i < 263 := hi
  rw [gw_pi_id]
  have e : sCO.2 i = sC.2 i := if_pos h2
  simp [gw_at, sL, e, show i < 264 by omega, show i < 271 by omega], fun i j _ _ h => h⟩
theorem cw_emb_LM : gw_emb sL sM (fun i => 264 + i) := ⟨fun i hi => by
  have h2 : i < 7 := hi
  have h3 : ¬ 264 + i < 264 := by omega
  simp [gw_at, sL, h3, show 264 + i < 271 by omega], fun i j _ _ h => by have h : 264 + i = 264 + j := h; omega⟩
def cw_wpo (w w1 : gw_M) : gw_M := fun j => if j < 264 then w1 j else w j
theorem cw_wpo_i {w : gw_M} : ∀ (w1 : gw_M) (i : Nat), i < 264 → cw_wpo w w1 i = w1 i := fun w1 i hi => if_pos hi
theorem cw_wpo_o {w : gw_M} {N : Nat} : ∀ (w1 : gw_M) (j : Nat), j < N → (∀ i, i < 264 → i ≠ j) → cw_wpo w w1 j = w j := fun w1 j _ h => if_neg (fun q => h j q rfl)
theorem cw_RM_low {A : cw_A} {w w1 : gw_M} (h : cw_RM A w) (k : ∀ q, q < 7 → w1 q = w q) : cw_RM A w1 :=
  h.cg (by rw [k 1 (by decide)]) (k 3 (by decide)) (k 4 (by decide)) (k 5 (by decide)) (by rw [k 0 (by decide)]) (by rw [k 0 (by decide)]) (by rw [k 0 (by decide)])

/-- a call of a law's method: it may leave a thing that was thrown -/
theorem gw_contL {p : Program} {l : Launch} {e : Env} {R : Room} {s : State} {m : MethodId} {args : Array Value} {below : List Frame} {meth : Method} {c : Code} {D : va_G} {cA : Nat → ClassId} {ρ π : Nat → Nat} {A : Nat → Prop} {Q : State → Prop}
    {S S' : gw_S} {k n pc : Nat} {ls : Array Slot} {st rest : List Value} {w : gw_M} {H : Heap} {locs : List Loc} {a : Array Value} {post : Option Value → gw_M → Prop} (hA : ∀ q : Nat, s.heap.size ≤ q → A q) (hP : va_P D vwCl (gw_W cA ρ S w) H) (hD : va_D A (gw_W cA ρ S w)) (hS : va_S A s.heap H locs) (E : gw_emb S S' π)
    (w2 : gw_M → gw_M) (hi : ∀ w1 i, i < S'.1 → w2 w1 (π i) = w1 i) (ho : ∀ w1 j, j < S.1 → (∀ i, i < S'.1 → π i ≠ j) → w2 w1 j = w j)
    (hr : vx_Run p l e R s m args below meth c H locs k n 1 6 (F0 m pc ls st) rest (gw_Q D cA (fun i => ρ (π i)) S' H.size post a) (fun _ _ _ => False) (gw_A (fun i => ρ (π i)) S'.1 H.size))
    (K : ∀ (v : Option Value) (w1 : gw_M), post v w1 → ∀ (H1 : Heap) (locs1 : List Loc), va_P D vwCl (gw_W cA ρ S (w2 w1)) H1 → va_D A (gw_W cA ρ S (w2 w1)) → va_S A s.heap H1 locs1 → W p l e R s m args below meth c H1 locs1 (k + 1) (n + 6) Q (F0 m (pc + 3) ls ((v.map (gw_v (fun i => ρ (π i)))).toList ++ rest))) :
    W p l e R s m args below meth c H locs k n Q (F0 m pc ls st) := by
  intro T hT X
  rcases hr T hT X with ⟨v, st₀, t, T', L, h0, X', hL, e1, e2, ⟨⟨v1, w1, hv, hp, hB⟩, hz, hk⟩, st⟩ | ⟨_, _, _, _, _, _, _, _, _, _, _, _, hf, _⟩
  · have hv : v = v1.map (gw_v (fun i => ρ (π i))) := by injection hv
    subst hv
    rw [h0] at hz hk
    have hAA : ∀ q, q < H.size → gw_A (fun i => ρ (π i)) S'.1 H.size q → A q := by
      rintro q hq (⟨i, hi1, rfl⟩ | h)
      · exact gw_D_A hD (gw_at_lt (E.1 i hi1)).1
      · exact absurd hq (Nat.not_lt.mpr h)
    have hAf : ∀ q, gw_A (fun i => ρ (π i)) S'.1 H.size q → A q := by
      rintro q (⟨i, hi1, rfl⟩ | h)
      · exact gw_D_A hD (gw_at_lt (E.1 i hi1)).1
      · exact hA q (Nat.le_trans hS.1 h)
    have hP2 : va_P D vwCl (gw_W cA ρ S (w2 w1)) T'.heap := by
      rw [e1]
      exact gw_back_P E hP hD hB.1 hk (hi w1) (ho w1)
    have hS2 : va_S A s.heap T'.heap (locs ++ L) := ⟨Nat.le_trans hS.1 (by rw [e1]; exact hz), fun q h1 h2 => by rw [e1, hk q (Nat.lt_of_lt_of_le h1 hS.1) (fun z => h2 (hAA q (Nat.lt_of_lt_of_le h1 hS.1) z))]; exact hS.2.1 q h1 h2, fun q hq => by
        rcases List.mem_append.mp hq with h | h
        · exact hS.2.2 q h
        · exact hAf _ (hL q h)⟩
    obtain ⟨t2, a1, b1⟩ := K v1 w1 hp T'.heap (locs ++ L) hP2 (gw_D_w hD) hS2 T' rfl X'
    exact ⟨t2, st t2 a1, b1⟩
  · exact hf.elim
def gw_myH (y : MethodName) (cc : ByteArray) (nL : Nat) (ret : Option FieldType) (hh : List (Nat × Nat × Nat × Nat)) (na : Nat) : Prop := Cond.codeWith y cc nL ret hh ∈ gw_T ∧ Cond.initialized y.cls ∈ gw_T ∧ y.cls ≠ "java/lang/invoke/MethodHandle" ∧ y.cls ≠ "java/lang/invoke/VarHandle" ∧ (parseMethodDescriptor y.desc).map (fun d => d.parameters.length) = some na ∧ nL ≤ 21
theorem g_callL {X : gw_X} {own : String} {cc : ByteArray} {nL d mc ms : Nat} (C : gw_ok X own cc nL d mc ms) (hst : X.2.1.stackTraces = false) {S S' : gw_S} {π : Nat → Nat} (E : gw_emb S S' π) {k n pc : Nat} {lv : gw_LV} {st rest : List Value} {w : gw_M} {y : MethodName} {cc' : ByteArray} {nL' d' na index : Nat} {ret' : Option FieldType} {hh : List (Nat × Nat × Nat × Nat)} {As : List Value} {pre : gw_M → Prop} {post : gw_M → Option Value → gw_M → Prop}
    (M : gw_OkH y cc' nL' ret' hh S' d' As pre post) (My : gw_myH y cc' nL' ret' hh na) (L : gw_si own index y) (hdd : d' + 1 ≤ d) (hkn : k + 1 ≤ mc ∧ n + 6 ≤ ms) (hna : As.length = na)
    (w2 : gw_M → gw_M) (hi : ∀ w1 i, i < S'.1 → w2 w1 (π i) = w1 i) (ho : ∀ w1 j, j < S.1 → (∀ i, i < S'.1 → π i ≠ j) → w2 w1 j = w j)
    (w0 : gw_M) (hw0 : ∀ i, i < S'.1 → w0 i = w (π i)) (hroom : (rest.map fun v => v.category).sum ≤ 8)
    (hd : decode cc pc = .ok (.invokestatic index, 3)) (hsk : st = (As.map (gw_v π)).reverse ++ rest) (hpre : pre w0)
    (K : ∀ (v : Option Value) (w1 : gw_M), post w0 v w1 → gw_G X S nL (k + 1) (n + 6) (pc + 3) lv (gw_pu (v.map (gw_v π)) rest) (w2 w1)) : gw_G X S nL k n pc lv st w := by
  obtain ⟨p, l, e, R, s, m, args, below, meth, c, D, cA, ρ, A, Q⟩ := X
  obtain ⟨hx, hb, hml, hown, hts, hK, hA, hE, hRf, hRl, hRc, hRs⟩ := C
  intro H locs ls hP hD hS hl
  obtain ⟨hc1, hc2, hc3, hc4, hc5, hc6⟩ := My
  obtain ⟨hl1, hl2⟩ := L
  subst hsk
  have hcw : vx_CSW R s args own index y cc' nL' ret' hh (.codeWith y cc' nL' ret' hh :: gw_T) (gw_rm d' 1 6) 1 6 na :=
    vx_cwSW na hts (by
      intro z hz
      simp only [va_wsS, List.cons_append, List.nil_append, List.mem_cons] at hz
      rcases hz with rfl | rfl | rfl | rfl | hz
      · exact gw_T_good _ hl1
      · exact gw_T_good _ hl2
      · exact gw_T_good _ hc2
      · exact gw_T_good _ hc1
      · exact gw_T_good _ hz) rfl rfl rfl ⟨hc3, hc4, hc5⟩ ⟨Nat.le_trans hdd hRf, by show 8 + (nL' + 11) + 40 * d' ≤ R.locals; omega⟩
  have hrun := vx_runSX (H := H) (locs := locs) (cells := k) (slots := n) (e := e) (below := below) (meth := meth) (As := As.map (gw_v (fun i => ρ (π i)))) (rest := rest.map (gw_v ρ)) (g := F0 m pc ls ((((As.map (gw_v π)).reverse ++ rest)).map (gw_v ρ))) (Ts := gw_T) ⟨hx, hb, hml, hown, hts⟩ (M l hst D cA (fun i => ρ (π i)) H.size w0 hpre) hcw
    ⟨gw_blind _ _ _ _ _ _ _, fun U hU hW => ⟨rfl, by rw [hU], ⟨by rw [hU]; exact gw_emb_P E hw0 hP, va_K.moved hW.alike hK, gw_emb_D E hD⟩, gw_E_in hA hE hD hS E hU hW⟩⟩ rfl (by rw [List.length_map]; exact hna) hl.1
    (by show (((As.map (gw_v π)).reverse ++ rest)).map (gw_v ρ) = _
        rw [List.map_append, List.map_reverse, gw_vs])
    (by rw [gw_cats]; show 2 * 0 + _ ≤ 8; omega) hd ⟨by omega, by omega⟩
  refine gw_contL hA hP hD hS E w2 hi ho hrun (fun v w1 hp H1 locs1 hP1 hD1 hS1 => ?_)
  have e1 := K v w1 hp H1 locs1 ls hP1 hD1 hS1 hl
  have e2 : (gw_pu (v.map (gw_v π)) rest).map (gw_v ρ) = (v.map (gw_v (fun i => ρ (π i)))).toList ++ rest.map (gw_v ρ) := by
    cases v with
    | none => rfl
    | some z => show gw_v ρ (gw_v π z) :: _ = _; rw [gw_v_v]; rfl
  rw [e2] at e1
  exact e1
theorem g_widen {X : gw_X} {S : gw_S} {nL k n k' n' pc : Nat} {lv : gw_LV} {st : List Value} {w : gw_M} (h1 : k ≤ k') (h2 : n ≤ n') (K : gw_G X S nL k' n' pc lv st w) : gw_G X S nL k n pc lv st w := by
  obtain ⟨p, l, e, R, s, m, args, below, meth, c, D, cA, ρ, A, Q⟩ := X
  intro H locs ls hP hD hS hl
  exact W.widen h1 h2 (K H locs ls hP hD hS hl)
/-- the script: L ints at the cell ρ 271, outside the world -/
def gw_lx (X : gw_X) (L : Nat) (xs : Nat → Int32) : Prop :=
  match X with
  | (p, l, e, R, s, m, args, below, meth, c, D, cA, ρ, A, Q) => l.stackTraces = false ∧ va_X (ρ 271) L xs s s.heap ∧ ρ 271 < s.heap.size ∧ ¬ A (ρ 271)
theorem g_scr {X : gw_X} {own : String} {cc : ByteArray} {nL d mc ms : Nat} (C : gw_ok X own cc nL d mc ms) {L : Nat} {xs : Nat → Int32} (hX : gw_lx X L xs) {S : gw_S} {k n pc j : Nat} {lv : gw_LV} {st : List Value} {w : gw_M} {i : Int32} (hi : i = nI j) (hj : j < L) (hL : L < 2147483648) (hd : decode cc pc = .ok (.iaload, 1)) (K : gw_G X S nL k n (pc + 1) lv (.int (xs j) :: st) w) : gw_G X S nL k n pc lv (.int i :: .ref 271 :: st) w := by
  obtain ⟨p, l, e, R, s, m, args, below, meth, c, D, cA, ρ, A, Q⟩ := X
  obtain ⟨hx, hb, hml, hown, hts, hK, hA, hE, hRf, hRl, hRc, hRs⟩ := C
  obtain ⟨-, h1, h2, h3⟩ := hX
  intro H locs ls hP hD hS hl
  subst hi
  refine va_sld hx hb h1 h2 h3 hS (vp_in_nI hj hL) hd ?_
  rw [nI_clamp (Nat.lt_trans hj hL)]
  exact K H locs ls hP hD hS hl
theorem g_slen2 {X : gw_X} {own : String} {cc : ByteArray} {nL d mc ms : Nat} (C : gw_ok X own cc nL d mc ms) {L : Nat} {xs : Nat → Int32} (hX : gw_lx X L xs) {S : gw_S} {k n pc : Nat} {lv : gw_LV} {st : List Value} {w : gw_M} (hd : decode cc pc = .ok (.arraylength, 1)) (K : gw_G X S nL k n (pc + 1) lv (.int (nI L) :: st) w) : gw_G X S nL k n pc lv (.ref 271 :: st) w := by
  obtain ⟨p, l, e, R, s, m, args, below, meth, c, D, cA, ρ, A, Q⟩ := X
  obtain ⟨hx, hb, hml, hown, hts, hK, hA, hE, hRf, hRl, hRc, hRs⟩ := C
  obtain ⟨-, h1, h2, h3⟩ := hX
  intro H locs ls hP hD hS hl
  exact va_slen hx hb h1 h2 h3 hS hd (K H locs ls hP hD hS hl)
theorem gw_lx_st {X : gw_X} {L : Nat} {xs : Nat → Int32} (h : gw_lx X L xs) : X.2.1.stackTraces = false := by
  obtain ⟨p, l, e, R, s, m, args, below, meth, c, D, cA, ρ, A, Q⟩ := X
  exact h.1

theorem my_L_append : gw_myH yL_append cL_append 4 (some .int) [(0, 9, 12, 13), (0, 9, 15, 15)] 3 := ⟨gw_T_at 411 (by decide +kernel) rfl, gw_T_at 0 (by decide +kernel) rfl, by decide +kernel, by decide +kernel, by decide +kernel, by decide⟩
theorem my_L_load : gw_myH yL_load cL_load 3 (some .int) [(0, 8, 11, 15)] 2 := ⟨gw_T_at 516 (by decide +kernel) rfl, gw_T_at 0 (by decide +kernel) rfl, by decide +kernel, by decide +kernel, by decide +kernel, by decide⟩
theorem my_L_about : gw_myH yL_about cL_about 4 (some .int) [(0, 9, 12, 13)] 3 := ⟨gw_T_at 612 (by decide +kernel) rfl, gw_T_at 0 (by decide +kernel) rfl, by decide +kernel, by decide +kernel, by decide +kernel, by decide⟩
theorem my_L_ownerOf : gw_myH yL_ownerOf cL_ownerOf 5 (some .int) [(0, 10, 13, 28), (0, 10, 17, 13)] 4 := ⟨gw_T_at 633 (by decide +kernel) rfl, gw_T_at 0 (by decide +kernel) rfl, by decide +kernel, by decide +kernel, by decide +kernel, by decide⟩
theorem my_L_weekOf : gw_myH yL_weekOf cL_weekOf 5 (some .int) [(0, 10, 13, 28), (0, 10, 17, 13)] 4 := ⟨gw_T_at 668 (by decide +kernel) rfl, gw_T_at 0 (by decide +kernel) rfl, by decide +kernel, by decide +kernel, by decide +kernel, by decide⟩
theorem my_L_bidOf : gw_myH yL_bidOf cL_bidOf 5 (some .int) [(0, 10, 13, 28)] 4 := ⟨gw_T_at 687 (by decide +kernel) rfl, gw_T_at 0 (by decide +kernel) rfl, by decide +kernel, by decide +kernel, by decide +kernel, by decide⟩
theorem my_L_offerOf : gw_myH yL_offerOf cL_offerOf 5 (some .int) [(0, 10, 13, 28), (0, 10, 17, 13)] 4 := ⟨gw_T_at 695 (by decide +kernel) rfl, gw_T_at 0 (by decide +kernel) rfl, by decide +kernel, by decide +kernel, by decide +kernel, by decide⟩
theorem my_L_owner : gw_myH yL_owner cL_owner 4 (some .int) [(0, 9, 12, 13), (0, 9, 15, 15)] 3 := ⟨gw_T_at 710 (by decide +kernel) rfl, gw_T_at 0 (by decide +kernel) rfl, by decide +kernel, by decide +kernel, by decide +kernel, by decide⟩
theorem my_L_cost : gw_myH yL_cost cL_cost 5 (some .int) [(0, 10, 13, 28), (0, 10, 17, 13)] 4 := ⟨gw_T_at 719 (by decide +kernel) rfl, gw_T_at 0 (by decide +kernel) rfl, by decide +kernel, by decide +kernel, by decide +kernel, by decide⟩
theorem my_L_school : gw_myH yL_school cL_school 5 (some .int) [(0, 10, 13, 28)] 4 := ⟨gw_T_at 727 (by decide +kernel) rfl, gw_T_at 0 (by decide +kernel) rfl, by decide +kernel, by decide +kernel, by decide +kernel, by decide⟩
theorem my_L_take : gw_myH yL_take cL_take 5 (some .int) [(0, 10, 13, 28)] 4 := ⟨gw_T_at 735 (by decide +kernel) rfl, gw_T_at 0 (by decide +kernel) rfl, by decide +kernel, by decide +kernel, by decide +kernel, by decide⟩
theorem my_L_release : gw_myH yL_release cL_release 5 (some .int) [(0, 10, 13, 28), (0, 10, 17, 15)] 4 := ⟨gw_T_at 743 (by decide +kernel) rfl, gw_T_at 0 (by decide +kernel) rfl, by decide +kernel, by decide +kernel, by decide +kernel, by decide⟩
theorem my_L_bid : gw_myH yL_bid cL_bid 6 (some .int) [(0, 12, 15, 28), (0, 12, 19, 13), (0, 12, 23, 15)] 5 := ⟨gw_T_at 753 (by decide +kernel) rfl, gw_T_at 0 (by decide +kernel) rfl, by decide +kernel, by decide +kernel, by decide +kernel, by decide⟩
theorem my_L_offer : gw_myH yL_offer cL_offer 6 (some .int) [(0, 12, 15, 28), (0, 12, 19, 15)] 5 := ⟨gw_T_at 763 (by decide +kernel) rfl, gw_T_at 0 (by decide +kernel) rfl, by decide +kernel, by decide +kernel, by decide +kernel, by decide⟩
theorem my_L_accept : gw_myH yL_accept cL_accept 4 (some .int) [(0, 9, 12, 28)] 3 := ⟨gw_T_at 773 (by decide +kernel) rfl, gw_T_at 0 (by decide +kernel) rfl, by decide +kernel, by decide +kernel, by decide +kernel, by decide⟩
theorem my_L_upkeep : gw_myH yL_upkeep cL_upkeep 4 (some .int) [(0, 9, 12, 13), (0, 9, 15, 15)] 3 := ⟨gw_T_at 781 (by decide +kernel) rfl, gw_T_at 0 (by decide +kernel) rfl, by decide +kernel, by decide +kernel, by decide +kernel, by decide⟩
theorem my_L_set : gw_myH yL_set cL_set 5 (some .int) [(0, 10, 13, 13)] 4 := ⟨gw_T_at 790 (by decide +kernel) rfl, gw_T_at 0 (by decide +kernel) rfl, by decide +kernel, by decide +kernel, by decide +kernel, by decide⟩
theorem my_L_undo : gw_myH yL_undo cL_undo 3 (some .int) [(0, 8, 11, 15)] 2 := ⟨gw_T_at 802 (by decide +kernel) rfl, gw_T_at 0 (by decide +kernel) rfl, by decide +kernel, by decide +kernel, by decide +kernel, by decide⟩
theorem my_L_why : gw_myH yL_why cL_why 5 (some .int) [(0, 10, 13, 28)] 4 := ⟨gw_T_at 818 (by decide +kernel) rfl, gw_T_at 0 (by decide +kernel) rfl, by decide +kernel, by decide +kernel, by decide +kernel, by decide⟩
theorem my_L_could : gw_myH yL_could cL_could 4 (some .int) [(0, 9, 12, 13)] 3 := ⟨gw_T_at 826 (by decide +kernel) rfl, gw_T_at 0 (by decide +kernel) rfl, by decide +kernel, by decide +kernel, by decide +kernel, by decide⟩
theorem my_L_winner : gw_myH yL_winner cL_winner 4 (some .int) [(0, 9, 12, 28)] 3 := ⟨gw_T_at 857 (by decide +kernel) rfl, gw_T_at 0 (by decide +kernel) rfl, by decide +kernel, by decide +kernel, by decide +kernel, by decide⟩
theorem my_L_leastBid : gw_myH yL_leastBid cL_leastBid 5 (some .int) [(0, 10, 13, 28)] 4 := ⟨gw_T_at 871 (by decide +kernel) rfl, gw_T_at 0 (by decide +kernel) rfl, by decide +kernel, by decide +kernel, by decide +kernel, by decide⟩
theorem my_L_ifUpkeep : gw_myH yL_ifUpkeep cL_ifUpkeep 5 (some .int) [(0, 10, 13, 28), (0, 10, 17, 13)] 4 := ⟨gw_T_at 878 (by decide +kernel) rfl, gw_T_at 0 (by decide +kernel) rfl, by decide +kernel, by decide +kernel, by decide +kernel, by decide⟩
theorem my_L_runScript : gw_myH yL_runScript cL_runScript 6 (some .int) [(0, 11, 14, 13)] 4 := ⟨gw_T_at 886 (by decide +kernel) rfl, gw_T_at 0 (by decide +kernel) rfl, by decide +kernel, by decide +kernel, by decide +kernel, by decide⟩
theorem my_L_simulate : gw_myH yL_simulate cL_simulate 6 (some .int) [(0, 11, 14, 13)] 4 := ⟨gw_T_at 911 (by decide +kernel) rfl, gw_T_at 0 (by decide +kernel) rfl, by decide +kernel, by decide +kernel, by decide +kernel, by decide⟩
theorem my_L_save : gw_myH yL_save cL_save 4 (some .int) [(0, 9, 12, 28)] 3 := ⟨gw_T_at 934 (by decide +kernel) rfl, gw_T_at 0 (by decide +kernel) rfl, by decide +kernel, by decide +kernel, by decide +kernel, by decide⟩
theorem my_L_restore : gw_myH yL_restore cL_restore 4 (some .int) [(0, 9, 12, 28), (0, 9, 15, 15)] 3 := ⟨gw_T_at 946 (by decide +kernel) rfl, gw_T_at 0 (by decide +kernel) rfl, by decide +kernel, by decide +kernel, by decide +kernel, by decide⟩
