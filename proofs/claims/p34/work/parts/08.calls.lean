/-! RETURNS AND CALLS of gw_G -/
theorem g_iret {X : gw_X} {own : String} {cc : ByteArray} {nL d mc ms : Nat} (C : gw_ok X own cc nL d mc ms) {S : gw_S} {post : Option Value → gw_M → Prop} (F : gw_fin X (some .int) S post mc ms) {pc : Nat} {lv : gw_LV} {w : gw_M} {x : Int32} (hd : decode cc pc = .ok (.ireturn, 1)) (hp : post (some (.int x)) w) : gw_G X S nL mc ms pc lv [.int x] w := by
  obtain ⟨p, l, e, R, s, m, args, below, meth, c, D, cA, ρ, A, Q⟩ := X
  obtain ⟨hx, hb, hml, hown, hts, hK, hA, hE, hRf, hRl, hRc, hRs⟩ := C
  obtain ⟨hr, hlocks, hAe, hQe⟩ := F
  subst hAe; subst hQe
  intro H locs ls hP hD hS hl
  exact W.iret hx hb hr (fun t ht hW => ⟨⟨some (.int x), w, rfl, hp, by rw [ht]; exact hP, va_K.moved hW.alike hK, hD⟩, hS.F ht⟩) hS.2.2 hd hlocks
theorem g_zret {X : gw_X} {own : String} {cc : ByteArray} {nL d mc ms : Nat} (C : gw_ok X own cc nL d mc ms) {S : gw_S} {post : Option Value → gw_M → Prop} {ty : FieldType} (F : gw_fin X (some ty) S post mc ms) {pc : Nat} {lv : gw_LV} {w : gw_M} {x : Int32} (hn : narrow ty (.int x) = .int x) (hd : decode cc pc = .ok (.ireturn, 1)) (hp : post (some (.int x)) w) : gw_G X S nL mc ms pc lv [.int x] w := by
  obtain ⟨p, l, e, R, s, m, args, below, meth, c, D, cA, ρ, A, Q⟩ := X
  obtain ⟨hx, hb, hml, hown, hts, hK, hA, hE, hRf, hRl, hRc, hRs⟩ := C
  obtain ⟨hr, hlocks, hAe, hQe⟩ := F
  subst hAe; subst hQe
  intro H locs ls hP hD hS hl
  exact W.zret hx hb hr hn (fun t ht hW => ⟨⟨some (.int x), w, rfl, hp, by rw [ht]; exact hP, va_K.moved hW.alike hK, hD⟩, hS.F ht⟩) hS.2.2 hd hlocks
theorem g_vret {X : gw_X} {own : String} {cc : ByteArray} {nL d mc ms : Nat} (C : gw_ok X own cc nL d mc ms) {S : gw_S} {post : Option Value → gw_M → Prop} (F : gw_fin X none S post mc ms) {pc : Nat} {lv : gw_LV} {w : gw_M} (hd : decode cc pc = .ok (.return_, 1)) (hp : post none w) : gw_G X S nL mc ms pc lv [] w := by
  obtain ⟨p, l, e, R, s, m, args, below, meth, c, D, cA, ρ, A, Q⟩ := X
  obtain ⟨hx, hb, hml, hown, hts, hK, hA, hE, hRf, hRl, hRc, hRs⟩ := C
  obtain ⟨hr, hlocks, hAe, hQe⟩ := F
  subst hAe; subst hQe
  intro H locs ls hP hD hS hl
  exact W.vret hx hb hr (fun t ht hW => ⟨⟨none, w, rfl, hp, by rw [ht]; exact hP, va_K.moved hW.alike hK, hD⟩, hS.F ht⟩) hS.2.2 hd hlocks
theorem g_lret {X : gw_X} {own : String} {cc : ByteArray} {nL d mc ms : Nat} (C : gw_ok X own cc nL d mc ms) {S : gw_S} {post : Option Value → gw_M → Prop} (F : gw_fin X (some .long) S post mc ms) {pc : Nat} {lv : gw_LV} {w : gw_M} {x : Int64} (hd : decode cc pc = .ok (.lreturn, 1)) (hp : post (some (.long x)) w) : gw_G X S nL mc ms pc lv [.long x] w := by
  obtain ⟨p, l, e, R, s, m, args, below, meth, c, D, cA, ρ, A, Q⟩ := X
  obtain ⟨hx, hb, hml, hown, hts, hK, hA, hE, hRf, hRl, hRc, hRs⟩ := C
  obtain ⟨hr, hlocks, hAe, hQe⟩ := F
  subst hAe; subst hQe
  intro H locs ls hP hD hS hl
  exact W.lret hx hb hr (fun t ht hW => ⟨⟨some (.long x), w, rfl, hp, by rw [ht]; exact hP, va_K.moved hW.alike hK, hD⟩, hS.F ht⟩) hS.2.2 hd hlocks
/-- the callee's cells among the caller's -/
def gw_pi (π : Nat → Nat) : gw_C → gw_C
  | .inl (kd, n, tg) => .inl (kd, n, if kd ≤ 3 then tg else fun j => π (tg j))
  | .inr (ci, fs) => .inr (ci, fs.map (Option.map π))
theorem gw_pi_cell (cA : Nat → ClassId) (ρ π : Nat → Nat) (f : Nat → Int32) (c : gw_C) : gw_cell cA ρ f (gw_pi π c) = gw_cell cA (fun i => ρ (π i)) f c := by
  cases c with
  | inl a =>
    obtain ⟨kd, n, tg⟩ := a
    simp only [gw_pi, gw_cell, gw_ac]
    by_cases h2 : kd ≤ 2
    · rw [if_pos h2, if_pos h2]
    · rw [if_neg h2, if_neg h2]
      by_cases h3 : kd = 3
      · rw [if_pos h3, if_pos h3]
      · rw [if_neg h3, if_neg h3, if_neg (by omega)]
  | inr a =>
    obtain ⟨ci, fs⟩ := a
    simp only [gw_pi, gw_cell]
    congr 2
    apply List.ext_getElem?
    intro i
    rw [List.getElem?_mapIdx, List.getElem?_mapIdx, List.getElem?_map]
    cases fs[i]? with
    | none => rfl
    | some t => cases t <;> rfl
def gw_emb (S S' : gw_S) (π : Nat → Nat) : Prop := (∀ i, i < S'.1 → gw_at S (π i) = some (gw_pi π (S'.2 i))) ∧ ∀ i j, i < S'.1 → j < S'.1 → π i = π j → i = j
theorem gw_pi_id (c : gw_C) : gw_pi (fun i => i) c = c := by
  cases c with
  | inl a =>
    obtain ⟨kd, n, tg⟩ := a
    simp only [gw_pi]
    split <;> rfl
  | inr a =>
    obtain ⟨ci, fs⟩ := a
    simp only [gw_pi]
    congr 2
    induction fs with
    | nil => rfl
    | cons a t ih => rw [List.map_cons, ih]; cases a <;> rfl
theorem gw_emb_id (S : gw_S) : gw_emb S S (fun i => i) := ⟨fun i hi => by rw [gw_pi_id]; simp [gw_at, hi], fun i j _ _ h => h⟩
theorem gw_D_w {A : Nat → Prop} {cA : Nat → ClassId} {ρ : Nat → Nat} {S : gw_S} {w w' : gw_M} (h : va_D A (gw_W cA ρ S w)) : va_D A (gw_W cA ρ S w') := by
  refine ⟨fun i j p q hi hj he => ?_, fun k q hk => ?_⟩
  · obtain ⟨h1, rfl⟩ := gw_W_some hi
    obtain ⟨h2, rfl⟩ := gw_W_some hj
    exact h.1 i j _ _ (gw_W_get (c := S.2 i) (by simp [gw_at, h1])) (gw_W_get (c := S.2 j) (by simp [gw_at, h2])) he
  · obtain ⟨h1, rfl⟩ := gw_W_some hk
    exact h.2 k (ρ k, gw_cell cA ρ (w k) (S.2 k)) (gw_W_get (by simp [gw_at, h1]))
theorem gw_D_inj {A : Nat → Prop} {cA : Nat → ClassId} {ρ : Nat → Nat} {S : gw_S} {w : gw_M} (h : va_D A (gw_W cA ρ S w)) {i j : Nat} (hi : i < S.1) (hj : j < S.1) (he : ρ i = ρ j) : i = j :=
  h.1 i j _ _ (gw_W_get (c := S.2 i) (by simp [gw_at, hi])) (gw_W_get (c := S.2 j) (by simp [gw_at, hj])) he
theorem gw_D_A {A : Nat → Prop} {cA : Nat → ClassId} {ρ : Nat → Nat} {S : gw_S} {w : gw_M} (h : va_D A (gw_W cA ρ S w)) {i : Nat} (hi : i < S.1) : A (ρ i) := h.2 i _ (gw_W_get (c := S.2 i) (by simp [gw_at, hi]))
theorem gw_emb_D {A : Nat → Prop} {cA : Nat → ClassId} {ρ π : Nat → Nat} {S S' : gw_S} {w w' : gw_M} (E : gw_emb S S' π) (h : va_D A (gw_W cA ρ S w)) : va_D (fun _ => True) (gw_W cA (fun i => ρ (π i)) S' w') := by
  refine ⟨fun i j p q hi hj he => ?_, fun k q hk => trivial⟩
  obtain ⟨h1, rfl⟩ := gw_W_some hi
  obtain ⟨h2, rfl⟩ := gw_W_some hj
  exact E.2 i j h1 h2 (gw_D_inj h (gw_at_lt (E.1 i h1)).1 (gw_at_lt (E.1 j h2)).1 he)
theorem gw_emb_P {D : va_G} {cA : Nat → ClassId} {ρ π : Nat → Nat} {S S' : gw_S} {w w' : gw_M} {H : Heap} (E : gw_emb S S' π) (hw : ∀ i, i < S'.1 → w' i = w (π i)) (h : va_P D vwCl (gw_W cA ρ S w) H) : va_P D vwCl (gw_W cA (fun i => ρ (π i)) S' w') H := by
  intro k q hk
  obtain ⟨h1, rfl⟩ := gw_W_some hk
  have e1 := h (π k) _ (gw_W_get (E.1 k h1))
  rw [gw_pi_cell, ← hw k h1] at e1
  exact e1
theorem gw_back_P {D : va_G} {cA : Nat → ClassId} {ρ π : Nat → Nat} {S S' : gw_S} {w w1 w2 : gw_M} {H H1 : Heap} {A : Nat → Prop} (E : gw_emb S S' π) (hP : va_P D vwCl (gw_W cA ρ S w) H) (hD : va_D A (gw_W cA ρ S w))
    (h1 : va_P D vwCl (gw_W cA (fun i => ρ (π i)) S' w1) H1) (hk : ∀ q : Nat, q < H.size → ¬ gw_A (fun i => ρ (π i)) S'.1 H.size q → H1[q]? = H[q]?)
    (hi : ∀ i, i < S'.1 → w2 (π i) = w1 i) (ho : ∀ j, j < S.1 → (∀ i, i < S'.1 → π i ≠ j) → w2 j = w j) : va_P D vwCl (gw_W cA ρ S w2) H1 := by
  intro k q hq
  obtain ⟨hlt, rfl⟩ := gw_W_some hq
  by_cases hin : ∃ i, i < S'.1 ∧ π i = k
  · obtain ⟨i, hi1, rfl⟩ := hin
    have e1 := h1 i _ (gw_W_get (c := S'.2 i) (by simp [gw_at, hi1]))
    rw [hi i hi1, (gw_at_lt (E.1 i hi1)).2, gw_pi_cell]
    exact e1
  · have hno : ∀ i, i < S'.1 → π i ≠ k := fun i hi1 he => hin ⟨i, hi1, he⟩
    rw [ho k hlt hno]
    have e1 := hP k _ (gw_W_get (c := S.2 k) (by simp [gw_at, hlt]))
    refine e1.kept (hk (ρ k) e1.lt ?_)
    rintro (⟨i, hi1, he⟩ | hge)
    · exact hno i hi1 (gw_D_inj hD (gw_at_lt (E.1 i hi1)).1 hlt he)
    · exact absurd e1.lt (Nat.not_lt.mpr hge)
theorem gw_blind (D : va_G) (cA : Nat → ClassId) (ρ : Nat → Nat) (S : gw_S) (sz : Nat) (av : List Value) (w : gw_M) : FrameBlind (gw_Pc D cA ρ S sz av w) := by
  intro a U g mk q
  obtain ⟨q0, q1, qB, qE⟩ := q
  exact ⟨q0, q1, ⟨qB.1, va_K.moved (u := U) (U := U.calling g mk a) (Vm.Alike.refl U.vm) qB.2.1, qB.2.2⟩, gw_E.same (u := U) (U := U.calling g mk a) rfl qE⟩
theorem gw_E_in {s U : State} {A : Nat → Prop} {cA : Nat → ClassId} {ρ π : Nat → Nat} {S S' : gw_S} {w : gw_M} {H : Heap} {locs : List Loc} (hA : ∀ q : Nat, s.heap.size ≤ q → A q) (hE : gw_E A s s.heap) (hD : va_D A (gw_W cA ρ S w)) (hS : va_S A s.heap H locs) (E : gw_emb S S' π) (hU : U.heap = H) (hW : s.WarmedH U.vm) : gw_E (gw_A (fun i => ρ (π i)) S'.1 H.size) U U.heap := by
  rw [hU]
  refine ((hE.kept (fun a h1 h2 => hS.2.1 a h1 h2)).warm hW).narrow ?_
  rintro q (⟨i, hi, rfl⟩ | h)
  · exact gw_D_A hD (gw_at_lt (E.1 i hi)).1
  · exact hA q (Nat.le_trans hS.1 h)
theorem gw_cont {p : Program} {l : Launch} {e : Env} {R : Room} {s : State} {m : MethodId} {args : Array Value} {below : List Frame} {meth : Method} {c : Code} {D : va_G} {cA : Nat → ClassId} {ρ π : Nat → Nat} {A : Nat → Prop} {Q : State → Prop}
    {S S' : gw_S} {k n pc : Nat} {ls : Array Slot} {st rest : List Value} {w : gw_M} {H : Heap} {locs : List Loc} {a : Array Value} {post : Option Value → gw_M → Prop} (hA : ∀ q : Nat, s.heap.size ≤ q → A q) (hP : va_P D vwCl (gw_W cA ρ S w) H) (hD : va_D A (gw_W cA ρ S w)) (hS : va_S A s.heap H locs) (E : gw_emb S S' π)
    (w2 : gw_M → gw_M) (hi : ∀ w1 i, i < S'.1 → w2 w1 (π i) = w1 i) (ho : ∀ w1 j, j < S.1 → (∀ i, i < S'.1 → π i ≠ j) → w2 w1 j = w j)
    (hr : va_Run p l e R s m args below meth c H locs k n 0 0 (F0 m pc ls st) rest (gw_Q D cA (fun i => ρ (π i)) S' H.size post a) (gw_A (fun i => ρ (π i)) S'.1 H.size))
    (K : ∀ (v : Option Value) (w1 : gw_M), post v w1 → ∀ (H1 : Heap) (locs1 : List Loc), va_P D vwCl (gw_W cA ρ S (w2 w1)) H1 → va_D A (gw_W cA ρ S (w2 w1)) → va_S A s.heap H1 locs1 → W p l e R s m args below meth c H1 locs1 k n Q (F0 m (pc + 3) ls ((v.map (gw_v (fun i => ρ (π i)))).toList ++ rest))) :
    W p l e R s m args below meth c H locs k n Q (F0 m pc ls st) := by
  intro T hT X
  obtain ⟨v, st₀, t, T', L, h0, X', hL, e1, e2, ⟨⟨v1, w1, hv, hp, hB⟩, hz, hk⟩, st⟩ := hr T hT X
  have hv : v = v1.map (gw_v (fun i => ρ (π i))) := by injection hv
  subst hv
  rw [h0] at hz hk
  have hAA : ∀ q, q < H.size → gw_A (fun i => ρ (π i)) S'.1 H.size q → A q := by
    rintro q hq (⟨i, hi1, rfl⟩ | h)
    · exact gw_D_A hD (gw_at_lt (E.1 i hi1)).1
    · exact absurd hq (Nat.not_lt.mpr h)
  have hAf : ∀ q, gw_A (fun i => ρ (π i)) S'.1 H.size q → A q := by
    rintro q (⟨i, hi1, rfl⟩ | h)
    · exact gw_D_A hD (gw_at_lt (E.1 i hi1)).1
    · exact hA q (Nat.le_trans hS.1 h)
  have hP2 : va_P D vwCl (gw_W cA ρ S (w2 w1)) T'.heap := by
    rw [e1]
    exact gw_back_P E hP hD hB.1 hk (hi w1) (ho w1)
  have hS2 : va_S A s.heap T'.heap (locs ++ L) := ⟨Nat.le_trans hS.1 (by rw [e1]; exact hz), fun q h1 h2 => by rw [e1, hk q (Nat.lt_of_lt_of_le h1 hS.1) (fun z => h2 (hAA q (Nat.lt_of_lt_of_le h1 hS.1) z))]; exact hS.2.1 q h1 h2, fun q hq => by
      rcases List.mem_append.mp hq with h | h
      · exact hS.2.2 q h
      · exact hAf _ (hL q h)⟩
  obtain ⟨t2, a1, b1⟩ := K v1 w1 hp T'.heap (locs ++ L) hP2 (gw_D_w hD) hS2 T' rfl X'
  exact ⟨t2, st t2 a1, b1⟩
def gw_pu : Option Value → List Value → List Value
  | some v, l => v :: l
  | none, l => l
/-- a call of an instance method, its world among the caller's -/
theorem g_callW {X : gw_X} {own : String} {cc : ByteArray} {nL d mc ms : Nat} (C : gw_ok X own cc nL d mc ms) {S S' : gw_S} {π : Nat → Nat} (E : gw_emb S S' π) {k n pc : Nat} {lv : gw_LV} {st rest : List Value} {w : gw_M} {y : MethodName} {cc' : ByteArray} {nL' d' na index b : Nat} {ret' : Option FieldType} {As : List Value} {pre : gw_M → Prop} {post : gw_M → Option Value → gw_M → Prop}
    (M : gw_Ok y cc' nL' ret' S' d' (.ref b :: As) pre post) (My : gw_my y cc' nL' ret' na) (L : gw_vi own index y) (hdd : d' + 1 ≤ d) (hkn : k ≤ mc ∧ n ≤ ms) (hna : As.length = na)
    {ci N : Nat} {fs : List (Option Nat)} {T : u_T} (hrc : gw_at S (π b) = some (.inr (ci, fs))) (hcl : vwCl[ci]? = some (y.cls, T, N)) (w2 : gw_M → gw_M) (hi : ∀ w1 i, i < S'.1 → w2 w1 (π i) = w1 i) (ho : ∀ w1 j, j < S.1 → (∀ i, i < S'.1 → π i ≠ j) → w2 w1 j = w j)
    (w0 : gw_M) (hw0 : ∀ i, i < S'.1 → w0 i = w (π i)) (hroom : (rest.map fun v => v.category).sum ≤ 8)
    (hd : decode cc pc = .ok (.invokevirtual index, 3)) (hst : st = (As.map (gw_v π)).reverse ++ .ref (π b) :: rest) (hpre : pre w0)
    (K : ∀ (v : Option Value) (w1 : gw_M), post w0 v w1 → gw_G X S nL k n (pc + 3) lv (gw_pu (v.map (gw_v π)) rest) (w2 w1)) : gw_G X S nL k n pc lv st w := by
  obtain ⟨p, l, e, R, s, m, args, below, meth, c, D, cA, ρ, A, Q⟩ := X
  obtain ⟨hx, hb, hml, hown, hts, hK, hA, hE, hRf, hRl, hRc, hRs⟩ := C
  intro H locs ls hP hD hS hl
  obtain ⟨hc1, hc2, hc3, hc4, hc5, hc6⟩ := My
  obtain ⟨hl1, hl2, hl3⟩ := L
  subst hst
  have hcw : CallW R s args own y.cls index y cc' nL' ret' (.code y cc' nL' ret' :: gw_T) (gw_rm d' 0 0) 0 0 na :=
    cwV na hts (by
      intro z hz
      simp only [wsV, List.cons_append, List.nil_append, List.mem_cons] at hz
      rcases hz with rfl | rfl | rfl | rfl | rfl | hz
      · exact gw_T_good _ hl1
      · exact gw_T_good _ hl2
      · exact gw_T_good _ hl3
      · exact gw_T_good _ hc2
      · exact gw_T_good _ hc1
      · exact gw_T_good _ hz) rfl rfl rfl ⟨rfl, hc3, hc4, hc5⟩ ⟨Nat.le_trans hdd hRf, by show 8 + (nL' + 11) + 40 * d' ≤ R.locals; omega⟩
  have hrun := va_runV (H := H) (locs := locs) (cells := k) (slots := n) (e := e) (below := below) (meth := meth) (b := ρ (π b)) (As := As.map (gw_v (fun i => ρ (π i)))) (rest := rest.map (gw_v ρ)) (g := F0 m pc ls ((((As.map (gw_v π)).reverse ++ .ref (π b) :: rest)).map (gw_v ρ))) (Ts := gw_T) ⟨hx, hb, hml, hown, hts⟩ (M l D cA (fun i => ρ (π i)) H.size w0 hpre) hcw
    ⟨gw_blind _ _ _ _ _ _ _, va_recv hK hP hcl (gw_W_get hrc), fun U hU hW => ⟨rfl, by rw [hU], ⟨by rw [hU]; exact gw_emb_P E hw0 hP, va_K.moved hW.alike hK, gw_emb_D E hD⟩, gw_E_in hA hE hD hS E hU hW⟩⟩ rfl (by rw [List.length_map]; exact hna) hl.1
    (by show (((As.map (gw_v π)).reverse ++ .ref (π b) :: rest)).map (gw_v ρ) = _
        rw [List.map_append, List.map_reverse, gw_vs]; rfl)
    (by rw [gw_cats]; show 2 * 0 + _ ≤ 8; omega) hd ⟨by omega, by omega⟩
  refine gw_cont hA hP hD hS E w2 hi ho hrun (fun v w1 hp H1 locs1 hP1 hD1 hS1 => ?_)
  have e1 := K v w1 hp H1 locs1 ls hP1 hD1 hS1 hl
  have e2 : (gw_pu (v.map (gw_v π)) rest).map (gw_v ρ) = (v.map (gw_v (fun i => ρ (π i)))).toList ++ rest.map (gw_v ρ) := by
    cases v with
    | none => rfl
    | some z => show gw_v ρ (gw_v π z) :: _ = _; rw [gw_v_v]; rfl
  rw [e2] at e1
  exact e1
theorem g_callSW {X : gw_X} {own : String} {cc : ByteArray} {nL d mc ms : Nat} (C : gw_ok X own cc nL d mc ms) {S S' : gw_S} {π : Nat → Nat} (E : gw_emb S S' π) {k n pc : Nat} {lv : gw_LV} {st rest : List Value} {w : gw_M} {y : MethodName} {cc' : ByteArray} {nL' d' na index : Nat} {ret' : Option FieldType} {As : List Value} {pre : gw_M → Prop} {post : gw_M → Option Value → gw_M → Prop}
    (M : gw_Ok y cc' nL' ret' S' d' As pre post) (My : gw_my y cc' nL' ret' na) (L : gw_si own index y) (hdd : d' + 1 ≤ d) (hkn : k ≤ mc ∧ n ≤ ms) (hna : As.length = na)
    (w2 : gw_M → gw_M) (hi : ∀ w1 i, i < S'.1 → w2 w1 (π i) = w1 i) (ho : ∀ w1 j, j < S.1 → (∀ i, i < S'.1 → π i ≠ j) → w2 w1 j = w j)
    (w0 : gw_M) (hw0 : ∀ i, i < S'.1 → w0 i = w (π i)) (hroom : (rest.map fun v => v.category).sum ≤ 8)
    (hd : decode cc pc = .ok (.invokestatic index, 3)) (hst : st = (As.map (gw_v π)).reverse ++ rest) (hpre : pre w0)
    (K : ∀ (v : Option Value) (w1 : gw_M), post w0 v w1 → gw_G X S nL k n (pc + 3) lv (gw_pu (v.map (gw_v π)) rest) (w2 w1)) : gw_G X S nL k n pc lv st w := by
  obtain ⟨p, l, e, R, s, m, args, below, meth, c, D, cA, ρ, A, Q⟩ := X
  obtain ⟨hx, hb, hml, hown, hts, hK, hA, hE, hRf, hRl, hRc, hRs⟩ := C
  intro H locs ls hP hD hS hl
  obtain ⟨hc1, hc2, hc3, hc4, hc5, hc6⟩ := My
  obtain ⟨hl1, hl2⟩ := L
  subst hst
  have hcw : CallB R s args own index y cc' nL' ret' (.code y cc' nL' ret' :: gw_T) (gw_rm d' 0 0) 0 0 na ∧ (Cond.static y).before args s = true :=
    va_cwS na hts (by
      intro z hz
      simp only [va_wsS, List.cons_append, List.nil_append, List.mem_cons] at hz
      rcases hz with rfl | rfl | rfl | rfl | hz
      · exact gw_T_good _ hl1
      · exact gw_T_good _ hl2
      · exact gw_T_good _ hc2
      · exact gw_T_good _ hc1
      · exact gw_T_good _ hz) rfl rfl rfl ⟨hc3, hc4, hc5⟩ ⟨Nat.le_trans hdd hRf, by show 8 + (nL' + 11) + 40 * d' ≤ R.locals; omega⟩
  have hrun := va_runS (H := H) (locs := locs) (cells := k) (slots := n) (e := e) (below := below) (meth := meth) (As := As.map (gw_v (fun i => ρ (π i)))) (rest := rest.map (gw_v ρ)) (g := F0 m pc ls ((((As.map (gw_v π)).reverse ++ rest)).map (gw_v ρ))) (Ts := gw_T) ⟨hx, hb, hml, hown, hts⟩ (M l D cA (fun i => ρ (π i)) H.size w0 hpre) hcw
    ⟨gw_blind _ _ _ _ _ _ _, fun U hU hW => ⟨rfl, by rw [hU], ⟨by rw [hU]; exact gw_emb_P E hw0 hP, va_K.moved hW.alike hK, gw_emb_D E hD⟩, gw_E_in hA hE hD hS E hU hW⟩⟩ rfl (by rw [List.length_map]; exact hna) hl.1
    (by show (((As.map (gw_v π)).reverse ++ rest)).map (gw_v ρ) = _
        rw [List.map_append, List.map_reverse, gw_vs])
    (by rw [gw_cats]; show 2 * 0 + _ ≤ 8; omega) hd ⟨by omega, by omega⟩
  refine gw_cont hA hP hD hS E w2 hi ho hrun (fun v w1 hp H1 locs1 hP1 hD1 hS1 => ?_)
  have e1 := K v w1 hp H1 locs1 ls hP1 hD1 hS1 hl
  have e2 : (gw_pu (v.map (gw_v π)) rest).map (gw_v ρ) = (v.map (gw_v (fun i => ρ (π i)))).toList ++ rest.map (gw_v ρ) := by
    cases v with
    | none => rfl
    | some z => show gw_v ρ (gw_v π z) :: _ = _; rw [gw_v_v]; rfl
  rw [e2] at e1
  exact e1
/-- a call in the same world -/
theorem g_call {X : gw_X} {own : String} {cc : ByteArray} {nL d mc ms : Nat} (C : gw_ok X own cc nL d mc ms) {S : gw_S} {k n pc : Nat} {lv : gw_LV} {st rest : List Value} {w : gw_M} {y : MethodName} {cc' : ByteArray} {nL' d' na index b : Nat} {ret' : Option FieldType} {As : List Value} {pre : gw_M → Prop} {post : gw_M → Option Value → gw_M → Prop}
    (M : gw_Ok y cc' nL' ret' S d' (.ref b :: As) pre post) (My : gw_my y cc' nL' ret' na) (L : gw_vi own index y) (hdd : d' + 1 ≤ d) (hkn : k ≤ mc ∧ n ≤ ms) (hna : As.length = na)
    {ci N : Nat} {fs : List (Option Nat)} {T : u_T} (hrc : gw_at S b = some (.inr (ci, fs))) (hcl : vwCl[ci]? = some (y.cls, T, N)) (hroom : (rest.map fun v => v.category).sum ≤ 8)
    (hd : decode cc pc = .ok (.invokevirtual index, 3)) (hst : st = As.reverse ++ .ref b :: rest) (hpre : pre w)
    (K : ∀ (v : Option Value) (w1 : gw_M), post w v w1 → gw_G X S nL k n (pc + 3) lv (gw_pu v rest) w1) : gw_G X S nL k n pc lv st w :=
  g_callW C (gw_emb_id S) M My L hdd hkn hna hrc hcl (fun w1 => w1) (fun _ _ _ => rfl) (fun w1 j hj h => absurd rfl (h j hj)) w (fun _ _ => rfl) hroom hd (by rw [gw_vs_id]; exact hst) hpre (fun v w1 hp => by
    have e1 := K v w1 hp
    have e2 : v.map (gw_v (fun i => i)) = v := by cases v with
      | none => rfl
      | some z => show some (gw_v _ z) = _; rw [gw_v_id]
    rw [e2]; exact e1)
theorem g_callS {X : gw_X} {own : String} {cc : ByteArray} {nL d mc ms : Nat} (C : gw_ok X own cc nL d mc ms) {S : gw_S} {k n pc : Nat} {lv : gw_LV} {st rest : List Value} {w : gw_M} {y : MethodName} {cc' : ByteArray} {nL' d' na index : Nat} {ret' : Option FieldType} {As : List Value} {pre : gw_M → Prop} {post : gw_M → Option Value → gw_M → Prop}
    (M : gw_Ok y cc' nL' ret' S d' As pre post) (My : gw_my y cc' nL' ret' na) (L : gw_si own index y) (hdd : d' + 1 ≤ d) (hkn : k ≤ mc ∧ n ≤ ms) (hna : As.length = na) (hroom : (rest.map fun v => v.category).sum ≤ 8)
    (hd : decode cc pc = .ok (.invokestatic index, 3)) (hst : st = As.reverse ++ rest) (hpre : pre w)
    (K : ∀ (v : Option Value) (w1 : gw_M), post w v w1 → gw_G X S nL k n (pc + 3) lv (gw_pu v rest) w1) : gw_G X S nL k n pc lv st w :=
  g_callSW C (gw_emb_id S) M My L hdd hkn hna (fun w1 => w1) (fun _ _ _ => rfl) (fun w1 j hj h => absurd rfl (h j hj)) w (fun _ _ => rfl) hroom hd (by rw [gw_vs_id]; exact hst) hpre (fun v w1 hp => by
    have e1 := K v w1 hp
    have e2 : v.map (gw_v (fun i => i)) = v := by cases v with
      | none => rfl
      | some z => show some (gw_v _ z) = _; rw [gw_v_id]
    rw [e2]; exact e1)
