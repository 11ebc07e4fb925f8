/-! METHODS THAT THROW: the class of what is thrown, the world behind it -/
def gw_XC (D : va_G) (cA : Nat → ClassId) (ρ : Nat → Nat) (S : gw_S) (sz : Nat) (E : String) (pst : gw_M → Prop) : String → State → State → Prop := fun E' st t => E' = E ∧ (∃ w' : gw_M, pst w' ∧ gw_B D cA ρ S (gw_A ρ S.1 sz) w' t) ∧ va_F (gw_A ρ S.1 sz) st t
def gw_Thr (y : MethodName) (cc : ByteArray) (nL : Nat) (ret : Option FieldType) (S : gw_S) (d : Nat) (av : List Value) (pre : gw_M → Prop) (E : String) (pst : gw_M → gw_M → Prop) : Prop :=
  ∀ (l : Launch), l.stackTraces = false → ∀ (D : va_G) (cA : Nat → ClassId) (ρ : Nat → Nat) (sz : Nat) (w : gw_M), pre w → vx_Met l y (.code y cc nL ret :: gw_T) (gw_rm d 1 6) (gw_Pc D cA ρ S sz av w) (fun _ _ _ _ => False) (gw_XC D cA ρ S sz E (pst w)) 1 6 (gw_A ρ S.1 sz)
def gw_finT (X : gw_X) (S : gw_S) (E : String) (pst : gw_M → Prop) : Prop :=
  match X with
  | (p, l, e, R, s, m, args, below, meth, c, D, cA, ρ, A, Q) => l.stackTraces = false ∧ meth.locks = false ∧ (∀ x ∈ c.exceptionTable.toList, False) ∧ A = gw_A ρ S.1 s.heap.size ∧ Q = vx_MQ below (fun _ _ _ _ => False) (gw_XC D cA ρ S s.heap.size E pst) args s 1 6 (gw_A ρ S.1 s.heap.size)
theorem gw_ofT {y : MethodName} {cc : ByteArray} {nL : Nat} {ret : Option FieldType} {S : gw_S} {d : Nat} {av : List Value} {pre : gw_M → Prop} {E : String} {pst : gw_M → gw_M → Prop} (hy : plainName y.cls = true) (hn : (lg_sl av).length ≤ nL)
    (body : ∀ (X : gw_X) (w : gw_M), pre w → gw_ok X y.cls cc nL d 1 6 → gw_finT X S E (pst w) → gw_G X S nL 0 0 0 (lv_args 0 av) [] w) : gw_Thr y cc nL ret S d av pre E pst := by
  intro l hst D cA ρ sz w hpre
  refine vx_ofW (cc := cc) (maxL := nL) (ret := ret) hy rfl ?_
  intro p e s m args below meth c s₁ B hml hnt hv
  obtain ⟨rfl, hsz, hB, hE⟩ := hv
  subst hsz
  have hts := atoms_spec (ws := .code y cc nL ret :: gw_T) B.pre
  have hown : s.vm.findClass y.cls = some m.cls := findClass_of_methodNamed B.named
  have K := body (p, l, e, gw_rm d 1 6, s, m, (av.map (gw_v ρ)).toArray, below, meth, c, D, cA, ρ, gw_A ρ S.1 s.heap.size, vx_MQ below (fun _ _ _ _ => False) (gw_XC D cA ρ S s.heap.size E (pst w)) (av.map (gw_v ρ)).toArray s 1 6 (gw_A ρ S.1 s.heap.size)) w hpre
    ⟨B.exec, B.bytes, hml, hown, fun w hw => hts w (List.mem_cons_of_mem _ hw), hB.2.1, fun q hq => Or.inr hq, hE, Nat.le_refl _, Nat.le_refl _, Nat.le_refl _, Nat.le_refl _⟩
    ⟨hst, B.notSynchronized, hnt, rfl, rfl⟩
  have hn' : (lg_sl (av.map (gw_v ρ))).length ≤ nL := by rw [gw_lg_len]; exact hn
  have hl := lv_entry (av.map (gw_v ρ)) hn'
  rw [lg_entry_eq]
  rw [gw_args] at hl
  exact K s.heap [] _ hB.1 (gw_D_self _ hB.2.2) va_S.rf hl
abbrev gw_nms : List String := ["java/lang/RuntimeException", "java/lang/Exception"]
/-- the words of a throw -/
def gw_tw (own : String) (ik ic : Nat) (cls : String) : Prop := Bundle.fit cls = true ∧ (∀ n ∈ gw_nms, Bundle.fit n = true) ∧ Cond.classLink own ik cls ∈ gw_T ∧ Cond.initialized cls ∈ gw_T ∧ (∀ w ∈ vx_atS own ic cls gw_nms, (w ∈ gw_T ∨ w ∈ gw_N ∨ ∃ x b m r, w = .declares x ∧ Cond.instanceMethod x ∈ gw_T ∧ Cond.code x b m r ∈ gw_T) ∧ vx_ot w = true)
theorem gw_decl {args : Array Value} {s : State} {x : MethodName} {b : ByteArray} {m : Nat} {r : Option FieldType} (h1 : (Cond.instanceMethod x).before args s = true) (h2 : (Cond.code x b m r).before args s = true) : (Cond.declares x).before args s = true := by
  obtain ⟨mk, meth, a1, a2, a3, -⟩ := Cond.instanceMethod_spec h1
  obtain ⟨meth', c, b1, -, -, -, -, -, -, b8⟩ := Cond.code_spec a1 h2
  cases Option.some.inj (a2.symm.trans b1)
  show (Cond.declares x).holds args s none s [] = true
  simp [Cond.holds, Cond.value, a1, a2, a3, b8]
def gw_isd : Cond → Bool
  | .declares _ => true
  | _ => false
theorem gw_tw_hat {args : Array Value} {s : State} {own cls : String} {ik ic : Nat} (h : gw_tw own ik ic cls) (hts : ∀ w ∈ gw_T, w.before args s = true) (hN : ∀ w ∈ gw_N, va_Nw w s) : ∀ w ∈ vx_atS own ic cls gw_nms, w.before args s = true := fun w hw => by
  rcases (h.2.2.2.2 w hw).1 with z | z | ⟨x, b, m, r, rfl, z1, z2⟩
  · exact hts w z
  · exact va_Nw.use (gw_nw_tab (List.mem_filter.mp z).2) (hN w z)
  · exact gw_decl (hts _ z1) (hts _ z2)
theorem gw_good_ot {w : Cond} (h : w ∈ gw_T) : vx_ot w = true := by
  have g := (List.mem_filter.mp h).2
  unfold vx_ot; rw [g, Bool.or_true]

set_option maxHeartbeats 8000000 in
set_option maxRecDepth 100000 in
theorem g_throw {X : gw_X} {own : String} {cc : ByteArray} {nL d : Nat} (C : gw_ok X own cc nL d 1 6) {S : gw_S} {E text : String} {pst : gw_M → Prop} (F : gw_finT X S E pst) {ik is ic pc : Nat} {lv : gw_LV} {st : List Value} {w : gw_M} (Tw : gw_tw own ik ic E) (his : (own, is, text) ∈ gw_str) (hd8 : 6 ≤ d) (hroom : (st.map fun v => v.category).sum ≤ 8)
    (d0 : decode cc pc = .ok (.new ik, 3)) (d3 : decode cc (pc + 3) = .ok (.dup, 1)) (d4 : decode cc (pc + 4) = .ok (.ldc is, 2)) (d6 : decode cc (pc + 6) = .ok (.invokespecial ic, 3)) (d9 : decode cc (pc + 9) = .ok (.athrow, 1)) (hp : pst w) : gw_G X S nL 0 0 pc lv st w := by
  obtain ⟨p, l, e, R, s, m, args, below, meth, c, D, cA, ρ, A, Q⟩ := X
  obtain ⟨hx, hb, hml, hown, hts, hK, hA, hE, hRf, hRl, hRc, hRs⟩ := C
  obtain ⟨hst, hlocks, hnt, hAe, hQe⟩ := F
  subst hAe; subst hQe
  intro H locs ls hP hD hS hl
  obtain ⟨-, -, -, ⟨hU, hN⟩, hNw, hstr, -, -⟩ := hE
  obtain ⟨sa, hsa⟩ := hstr _ his
  have Tw2 := Tw
  obtain ⟨t1, t2, t3, t4, t5⟩ := Tw
  refine vx_throwS (text := text) (names := gw_nms) (sa := sa) hx hb hst hown t1 t2 (hts _ t3) (hts _ t4) hsa (gw_tw_hat Tw2 hts hNw) ?_ hU hN hS (hl.1.trans hml.symm) d0 d3 d4 d6 d9 (fun x hx => (hnt x hx).elim) ?_ ?_ (by omega) (by omega) hlocks ?_ hS.2.2 (Nat.le_refl _) (Nat.le_refl _)
  · intro z hz
    rcases List.mem_cons.mp hz with rfl | hz
    · exact gw_good_ot t3
    · rcases List.mem_cons.mp hz with rfl | hz
      · exact gw_good_ot t4
      · exact (t5 z hz).2
  · show 5 < R.frames; omega
  · rw [gw_cats]; show _ + 82 ≤ R.locals; omega
  · intro t hal hsz hq
    refine ⟨rfl, ⟨w, hp, ?_, va_K.moved hal hK, hD⟩, Nat.le_trans hS.1 hsz, fun q h1 h2 => ?_⟩
    · intro i z hz
      have e9 := hP i z hz
      exact e9.kept (hq z.1 e9.lt)
    · rw [hq q (Nat.lt_of_lt_of_le h1 hS.1)]
      exact hS.2.1 q h1 h2

set_option maxHeartbeats 8000000 in
set_option maxRecDepth 100000 in
theorem g_throwW {X : gw_X} {own : String} {cc : ByteArray} {nL d : Nat} (C : gw_ok X own cc nL d 1 6) {S : gw_S} {E text : String} {pst : gw_M → Prop} (F : gw_finT X S E pst) {ik is ic pc : Nat} {lv : gw_LV} {st : List Value} {w : gw_M} (Tw : gw_tw own ik ic E) (his : (own, is, text) ∈ gw_str) (hd8 : 6 ≤ d) (hroom : (st.map fun v => v.category).sum ≤ 8)
    (d0 : decode cc pc = .ok (.new ik, 3)) (d3 : decode cc (pc + 3) = .ok (.dup, 1)) (d4 : decode cc (pc + 4) = .ok (.ldc_w is, 3)) (d7 : decode cc (pc + 7) = .ok (.invokespecial ic, 3)) (d10 : decode cc (pc + 10) = .ok (.athrow, 1)) (hp : pst w) : gw_G X S nL 0 0 pc lv st w := by
  obtain ⟨p, l, e, R, s, m, args, below, meth, c, D, cA, ρ, A, Q⟩ := X
  obtain ⟨hx, hb, hml, hown, hts, hK, hA, hE, hRf, hRl, hRc, hRs⟩ := C
  obtain ⟨hst, hlocks, hnt, hAe, hQe⟩ := F
  subst hAe; subst hQe
  intro H locs ls hP hD hS hl
  obtain ⟨-, -, -, ⟨hU, hN⟩, hNw, hstr, -, -⟩ := hE
  obtain ⟨sa, hsa⟩ := hstr _ his
  have Tw2 := Tw
  obtain ⟨t1, t2, t3, t4, t5⟩ := Tw
  refine vx_throwSW (text := text) (names := gw_nms) (sa := sa) hx hb hst hown t1 t2 (hts _ t3) (hts _ t4) hsa (gw_tw_hat Tw2 hts hNw) ?_ hU hN hS (hl.1.trans hml.symm) d0 d3 d4 d7 d10 (fun x hx => (hnt x hx).elim) ?_ ?_ (by omega) (by omega) hlocks ?_ hS.2.2 (Nat.le_refl _) (Nat.le_refl _)
  · intro z hz
    rcases List.mem_cons.mp hz with rfl | hz
    · exact gw_good_ot t3
    · rcases List.mem_cons.mp hz with rfl | hz
      · exact gw_good_ot t4
      · exact (t5 z hz).2
  · show 5 < R.frames; omega
  · rw [gw_cats]; show _ + 82 ≤ R.locals; omega
  · intro t hal hsz hq
    refine ⟨rfl, ⟨w, hp, ?_, va_K.moved hal hK, hD⟩, Nat.le_trans hS.1 hsz, fun q h1 h2 => ?_⟩
    · intro i z hz
      have e9 := hP i z hz
      exact e9.kept (hq z.1 e9.lt)
    · rw [hq q (Nat.lt_of_lt_of_le h1 hS.1)]
      exact hS.2.1 q h1 h2

set_option maxHeartbeats 8000000 in
set_option maxRecDepth 100000 in
/-- a call of a method that throws -/
theorem g_callT {X : gw_X} {own : String} {cc : ByteArray} {nL d : Nat} (C : gw_ok X own cc nL d 1 6) {S S' : gw_S} {E : String} {pst : gw_M → Prop} (F : gw_finT X S E pst) {π : Nat → Nat} (Em : gw_emb S S' π) {pc : Nat} {lv : gw_LV} {st rest : List Value} {w : gw_M} {y : MethodName} {cc' : ByteArray} {nL' d' na index b : Nat} {ret' : Option FieldType} {As : List Value} {pre : gw_M → Prop} {pst' : gw_M → gw_M → Prop}
    (M : gw_Thr y cc' nL' ret' S' d' (.ref b :: As) pre E pst') (My : gw_my y cc' nL' ret' na) (L : gw_vi own index y) (hdd : d' + 1 ≤ d) (hna : As.length = na)
    {ci N : Nat} {fs : List (Option Nat)} {T : u_T} (hrc : gw_at S (π b) = some (.inr (ci, fs))) (hcl : vwCl[ci]? = some (y.cls, T, N)) (w2 : gw_M → gw_M) (hi : ∀ w1 i, i < S'.1 → w2 w1 (π i) = w1 i) (ho : ∀ w1 j, j < S.1 → (∀ i, i < S'.1 → π i ≠ j) → w2 w1 j = w j)
    (w0 : gw_M) (hw0 : ∀ i, i < S'.1 → w0 i = w (π i)) (hroom : (rest.map fun v => v.category).sum ≤ 8)
    (hd : decode cc pc = .ok (.invokevirtual index, 3)) (hst : st = (As.map (gw_v π)).reverse ++ .ref (π b) :: rest) (hpre : pre w0)
    (hp : ∀ (w1 : gw_M), pst' w0 w1 → pst (w2 w1)) : gw_G X S nL 0 0 pc lv st w := by
  obtain ⟨p, l, e, R, s, m, args, below, meth, c, D, cA, ρ, A, Q⟩ := X
  obtain ⟨hx, hb, hml, hown, hts, hK, hA, hE, hRf, hRl, hRc, hRs⟩ := C
  obtain ⟨hstt, hlocks, hnt, hAe, hQe⟩ := F
  intro H locs ls hP hD hS hl
  obtain ⟨hc1, hc2, hc3, hc4, hc5, hc6⟩ := My
  obtain ⟨hl1, hl2, hl3⟩ := L
  subst hst
  have hcw : CallW R s args own y.cls index y cc' nL' ret' (.code y cc' nL' ret' :: gw_T) (gw_rm d' 1 6) 1 6 na :=
    cwV na hts (by
      intro z hz
      simp only [wsV, List.cons_append, List.nil_append, List.mem_cons] at hz
      rcases hz with rfl | rfl | rfl | rfl | rfl | hz
      · exact gw_T_good _ hl1
      · exact gw_T_good _ hl2
      · exact gw_T_good _ hl3
      · exact gw_T_good _ hc2
      · exact gw_T_good _ hc1
      · exact gw_T_good _ hz) rfl rfl rfl ⟨rfl, hc3, hc4, hc5⟩ ⟨Nat.le_trans hdd hRf, by show 8 + (nL' + 11) + 40 * d' ≤ R.locals; omega⟩
  have hrun := vx_runV (H := H) (locs := locs) (cells := 0) (slots := 0) (e := e) (below := below) (meth := meth) (b := ρ (π b)) (As := As.map (gw_v (fun i => ρ (π i)))) (rest := rest.map (gw_v ρ)) (g := F0 m pc ls ((((As.map (gw_v π)).reverse ++ .ref (π b) :: rest)).map (gw_v ρ))) (Ts := gw_T) ⟨hx, hb, hml, hown, hts⟩ (M l hstt D cA (fun i => ρ (π i)) H.size w0 hpre) hcw
    ⟨gw_blind _ _ _ _ _ _ _, va_recv hK hP hcl (gw_W_get hrc), fun U hU hW => ⟨rfl, by rw [hU], ⟨by rw [hU]; exact gw_emb_P Em hw0 hP, va_K.moved hW.alike hK, gw_emb_D Em hD⟩, gw_E_in hA hE hD hS Em hU hW⟩⟩ rfl (by rw [List.length_map]; exact hna) hl.1
    (by show (((As.map (gw_v π)).reverse ++ .ref (π b) :: rest)).map (gw_v ρ) = _
        rw [List.map_append, List.map_reverse, gw_vs]; rfl)
    (by rw [gw_cats]; show 2 * 0 + _ ≤ 8; omega) hd ⟨by omega, by omega⟩
  intro T0 hT X
  rcases hrun T0 hT X with ⟨v, st₀, t, T', L, h0, X', hL, e1, e2, hf, st⟩ | ⟨q, st₀, t, T', L, E', ce, h0, X', hL, e1, e2, hxc, hcell, hvm, hcls, st⟩
  · exact hf.elim
  · obtain ⟨rfl, ⟨w1, hp1, hB⟩, hz, hk⟩ := hxc
    rw [h0] at hz hk
    subst hAe; subst hQe
    have hAA : ∀ q, q < H.size → gw_A (fun i => ρ (π i)) S'.1 H.size q → gw_A ρ S.1 s.heap.size q := by
      rintro q hq (⟨i, hi1, rfl⟩ | h)
      · exact gw_D_A hD (gw_at_lt (Em.1 i hi1)).1
      · exact absurd hq (Nat.not_lt.mpr h)
    have hAf : ∀ q, gw_A (fun i => ρ (π i)) S'.1 H.size q → gw_A ρ S.1 s.heap.size q := by
      rintro q (⟨i, hi1, rfl⟩ | h)
      · exact gw_D_A hD (gw_at_lt (Em.1 i hi1)).1
      · exact hA q (Nat.le_trans hS.1 h)
    have hP2 : va_P D vwCl (gw_W cA ρ S (w2 w1)) T'.heap := by
      rw [e1]
      exact gw_back_P Em hP hD hB.1 hk (hi w1) (ho w1)
    obtain ⟨t2, a1, b1⟩ := vx_out (p := p) (l := l) (e := e) (R := R) (s := s) (m := m) (args := args) (below := below) (meth := meth) (c := c) (H := T'.heap) (locs := locs ++ L) (cells := 0 + 1) (slots := 0 + 6) (Qc := fun _ _ _ _ => False) (XC := gw_XC D cA ρ S s.heap.size E' pst) (free := gw_A ρ S.1 s.heap.size) (ls := ls) (rest := rest.map (gw_v ρ)) (pc := pc) (E := E') (ce := ce) (q := q) (mc := 1) (ms := 6) (fun x hx => (hnt x hx).elim) hlocks (by rw [e1]; exact hcell) hvm hcls
      (fun t9 ht9 hal => ⟨rfl, ⟨w2 w1, hp w1 hp1, by rw [ht9]; exact hP2, va_K.moved hal hK, gw_D_w hD⟩, Nat.le_trans hS.1 (by rw [ht9, e1]; exact hz), fun q h1 h2 => by rw [ht9, e1, hk q (Nat.lt_of_lt_of_le h1 hS.1) (fun z => h2 (hAA q (Nat.lt_of_lt_of_le h1 hS.1) z))]; exact hS.2.1 q h1 h2⟩)
      (fun z hz => by
        rcases List.mem_append.mp hz with h | h
        · exact hS.2.2 z h
        · exact hAf _ (hL z h)) (Nat.le_refl _) (Nat.le_refl _) T' rfl X'
    exact ⟨t2, st.trans a1, b1⟩

def gw_dcl : List Cond := [.declares (Bundle.initS "java/lang/RuntimeException"), .declares (Bundle.initS "java/lang/Exception"), .declares (Bundle.initS "java/lang/Throwable")]

theorem gw_dcl_ok (w : Cond) (h : w ∈ gw_dcl) : ∃ x b m r, w = .declares x ∧ Cond.instanceMethod x ∈ gw_T ∧ Cond.code x b m r ∈ gw_T := by
  simp only [gw_dcl, List.mem_cons, List.not_mem_nil, or_false] at h
  rcases h with rfl | rfl | rfl
  · exact ⟨_, Bundle.six, 2, none, rfl, gw_T_at 254 (by decide +kernel) rfl, gw_T_at 255 (by decide +kernel) rfl⟩
  · exact ⟨_, Bundle.six, 2, none, rfl, gw_T_at 257 (by decide +kernel) rfl, gw_T_at 258 (by decide +kernel) rfl⟩
  · exact ⟨_, Jvm.LibCode.Throwable.InitS.code, 2, none, rfl, gw_T_at 260 (by decide +kernel) rfl, gw_T_at 261 (by decide +kernel) rfl⟩

theorem tw_IAE : gw_tw RX6 110 114 "java/lang/IllegalArgumentException" := by
  refine ⟨by decide +kernel, by decide +kernel, gw_T_at 208 (by decide +kernel) rfl, gw_T_at 11 (by decide +kernel) rfl, fun w hw => ?_⟩
  have h : vx_atS RX6 114 "java/lang/IllegalArgumentException" gw_nms = [8, 230, 239, 243, 246, 248, 231, 232, 22, 23, 233, 238, 244, 264, 220, 265, 222, 266, 224, 234, 236, 226, 260, 261, 263, 226, 251, 252, 253, 254, 212, 254, 255, 256, 257, 214, 257, 258, 259, 260, 216, 250, 209, 210, 217, 218, 219, 221, 223, 225, 229, 228, 227].filterMap (fun i => tables_1[i]?) := by decide +kernel
  have hg : (vx_atS RX6 114 "java/lang/IllegalArgumentException" gw_nms).all (fun w => (goodWord w || gw_nw w || decide (w ∈ gw_dcl)) && vx_ot w) = true := by decide +kernel
  have h2 := List.all_eq_true.mp hg w hw
  rw [Bool.and_eq_true, Bool.or_eq_true, Bool.or_eq_true, decide_eq_true_eq] at h2
  refine ⟨?_, h2.2⟩
  rw [h] at hw
  obtain ⟨i, -, hi⟩ := List.mem_filterMap.mp hw
  rcases h2.1 with (z | z) | z
  · exact Or.inl (gw_T_at i hi z)
  · exact Or.inr (Or.inl (gw_N_at i hi z))
  · exact Or.inr (Or.inr (gw_dcl_ok w z))

theorem tw_ISE : gw_tw RX6 56 60 "java/lang/IllegalStateException" := by
  refine ⟨by decide +kernel, by decide +kernel, gw_T_at 295 (by decide +kernel) rfl, gw_T_at 12 (by decide +kernel) rfl, fun w hw => ?_⟩
  have h : vx_atS RX6 60 "java/lang/IllegalStateException" gw_nms = [8, 230, 239, 243, 246, 248, 231, 232, 22, 23, 233, 238, 244, 264, 220, 265, 222, 266, 224, 234, 236, 226, 260, 261, 263, 226, 306, 307, 308, 254, 212, 254, 255, 256, 257, 214, 257, 258, 259, 260, 216, 305, 296, 297, 298, 241, 299, 300, 301, 302, 229, 228, 303].filterMap (fun i => tables_1[i]?) := by decide +kernel
  have hg : (vx_atS RX6 60 "java/lang/IllegalStateException" gw_nms).all (fun w => (goodWord w || gw_nw w || decide (w ∈ gw_dcl)) && vx_ot w) = true := by decide +kernel
  have h2 := List.all_eq_true.mp hg w hw
  rw [Bool.and_eq_true, Bool.or_eq_true, Bool.or_eq_true, decide_eq_true_eq] at h2
  refine ⟨?_, h2.2⟩
  rw [h] at hw
  obtain ⟨i, -, hi⟩ := List.mem_filterMap.mp hw
  rcases h2.1 with (z | z) | z
  · exact Or.inl (gw_T_at i hi z)
  · exact Or.inr (Or.inl (gw_N_at i hi z))
  · exact Or.inr (Or.inr (gw_dcl_ok w z))

theorem tw_IOE : gw_tw RX6 311 315 "java/lang/IndexOutOfBoundsException" := by
  refine ⟨by decide +kernel, by decide +kernel, gw_T_at 361 (by decide +kernel) rfl, gw_T_at 13 (by decide +kernel) rfl, fun w hw => ?_⟩
  have h : vx_atS RX6 315 "java/lang/IndexOutOfBoundsException" gw_nms = [8, 230, 239, 243, 246, 248, 231, 232, 22, 23, 233, 238, 244, 264, 220, 265, 222, 266, 224, 234, 236, 226, 260, 261, 263, 226, 372, 373, 374, 254, 212, 254, 255, 256, 257, 214, 257, 258, 259, 260, 216, 371, 362, 363, 364, 242, 365, 366, 367, 368, 229, 228, 369].filterMap (fun i => tables_1[i]?) := by decide +kernel
  have hg : (vx_atS RX6 315 "java/lang/IndexOutOfBoundsException" gw_nms).all (fun w => (goodWord w || gw_nw w || decide (w ∈ gw_dcl)) && vx_ot w) = true := by decide +kernel
  have h2 := List.all_eq_true.mp hg w hw
  rw [Bool.and_eq_true, Bool.or_eq_true, Bool.or_eq_true, decide_eq_true_eq] at h2
  refine ⟨?_, h2.2⟩
  rw [h] at hw
  obtain ⟨i, -, hi⟩ := List.mem_filterMap.mp hw
  rcases h2.1 with (z | z) | z
  · exact Or.inl (gw_T_at i hi z)
  · exact Or.inr (Or.inl (gw_N_at i hi z))
  · exact Or.inr (Or.inr (gw_dcl_ok w z))
