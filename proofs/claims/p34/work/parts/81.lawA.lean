/-! THE LAW'S METHODS: a call of the class, what it throws told by a number -/
def sCO : gw_S := (264, fun i => if i < 263 then sC.2 i else .inl (0, 1, fun _ => 263))
theorem cw_emb_CO : gw_emb sCO sC (fun i => i) := ⟨fun i hi => by
  have h2 : i < 263 := hi
  rw [gw_pi_id]
  simp [gw_at, sCO, h2, show i < 264 by omega], fun i j _ _ h => h⟩
def cw_wpc (w w1 : gw_M) : gw_M := fun j => if j < 263 then w1 j else w j
theorem cw_wpc_i {w : gw_M} : ∀ (w1 : gw_M) (i : Nat), i < 263 → cw_wpc w w1 i = w1 i := fun w1 i hi => if_pos hi
theorem cw_wpc_o {w : gw_M} {N : Nat} : ∀ (w1 : gw_M) (j : Nat), j < N → (∀ i, i < 263 → i ≠ j) → cw_wpc w w1 j = w j := fun w1 j _ h => if_neg (fun q => h j q rfl)
theorem cw_RC.low {A : cw_A} {w w1 : gw_M} (h : cw_RC A w) (k : ∀ q, q < 263 → w1 q = w q) : cw_RC A w1 := h.cg (fun q hq => k q (by omega)) (congrFun (k 257 (by omega)) 1)
def gw_OkH (y : MethodName) (cc : ByteArray) (nL : Nat) (ret : Option FieldType) (hh : List (Nat × Nat × Nat × Nat)) (S : gw_S) (d : Nat) (av : List Value) (pre : gw_M → Prop) (post : gw_M → Option Value → gw_M → Prop) : Prop :=
  ∀ (l : Launch), l.stackTraces = false → ∀ (D : va_G) (cA : Nat → ClassId) (ρ : Nat → Nat) (sz : Nat) (w : gw_M), pre w → vx_Met l y (.codeWith y cc nL ret hh :: gw_T) (gw_rm d 1 6) (gw_Pc D cA ρ S sz av w) (gw_Q D cA ρ S sz (post w)) (fun _ _ _ => False) 1 6 (gw_A ρ S.1 sz)
def gw_finH (X : gw_X) (S : gw_S) (post : Option Value → gw_M → Prop) (hh : List (Nat × Nat × Nat × Nat)) : Prop :=
  match X with
  | (p, l, e, R, s, m, args, below, meth, c, D, cA, ρ, A, Q) => l.stackTraces = false ∧ meth.sig.returnType = some .int ∧ meth.locks = false ∧ c.exceptionTable.toList = tableOf hh ∧ A = gw_A ρ S.1 s.heap.size ∧ Q = vx_MQ below (gw_Q D cA ρ S s.heap.size post) (fun _ _ _ => False) args s 1 6 (gw_A ρ S.1 s.heap.size)
theorem gw_ofH {y : MethodName} {cc : ByteArray} {nL : Nat} {hh : List (Nat × Nat × Nat × Nat)} {S : gw_S} {d : Nat} {av : List Value} {pre : gw_M → Prop} {post : gw_M → Option Value → gw_M → Prop} (hy : plainName y.cls = true) (hn : (lg_sl av).length ≤ nL)
    (body : ∀ (X : gw_X) (w : gw_M), pre w → gw_ok X y.cls cc nL d 1 6 → gw_finH X S (post w) hh → gw_G X S nL 0 0 0 (lv_args 0 av) [] w) : gw_OkH y cc nL (some .int) hh S d av pre post := by
  intro l hst D cA ρ sz w hpre
  refine vx_ofWH (cc := cc) (maxL := nL) (ret := some .int) (hh := hh) hy rfl ?_
  intro p e s m args below meth c s₁ B hml hv
  obtain ⟨rfl, hsz, hB, hE⟩ := hv
  subst hsz
  have hts := atoms_spec (ws := .codeWith y cc nL (some .int) hh :: gw_T) B.pre
  have htab := vx_table (x := y) B (hts _ List.mem_cons_self)
  have hown : s.vm.findClass y.cls = some m.cls := findClass_of_methodNamed B.named
  have K := body (p, l, e, gw_rm d 1 6, s, m, (av.map (gw_v ρ)).toArray, below, meth, c, D, cA, ρ, gw_A ρ S.1 s.heap.size, vx_MQ below (gw_Q D cA ρ S s.heap.size (post w)) (fun _ _ _ => False) (av.map (gw_v ρ)).toArray s 1 6 (gw_A ρ S.1 s.heap.size)) w hpre
    ⟨B.exec, B.bytes, hml, hown, fun w hw => hts w (List.mem_cons_of_mem _ hw), hB.2.1, fun q hq => Or.inr hq, hE, Nat.le_refl _, Nat.le_refl _, Nat.le_refl _, Nat.le_refl _⟩
    ⟨hst, B.returns, B.notSynchronized, htab, rfl, rfl⟩
  have hn' : (lg_sl (av.map (gw_v ρ))).length ≤ nL := by rw [gw_lg_len]; exact hn
  have hl := lv_entry (av.map (gw_v ρ)) hn'
  rw [lg_entry_eq]
  rw [gw_args] at hl
  exact K s.heap [] _ hB.1 (gw_D_self _ hB.2.2) va_S.rf hl
theorem g_iretH {X : gw_X} {own : String} {cc : ByteArray} {nL d : Nat} (C : gw_ok X own cc nL d 1 6) {S : gw_S} {post : Option Value → gw_M → Prop} {hh : List (Nat × Nat × Nat × Nat)} (F : gw_finH X S post hh) {pc : Nat} {lv : gw_LV} {w : gw_M} {x : Int32} (hd : decode cc pc = .ok (.ireturn, 1)) (hp : post (some (.int x)) w) : gw_G X S nL 0 0 pc lv [.int x] w := by
  obtain ⟨p, l, e, R, s, m, args, below, meth, c, D, cA, ρ, A, Q⟩ := X
  obtain ⟨hx, hb, hml, hown, hts, hK, hA, hE, hRf, hRl, hRc, hRs⟩ := C
  obtain ⟨-, hr, hlocks, -, hAe, hQe⟩ := F
  subst hAe; subst hQe
  intro H locs ls hP hD hS hl
  refine W.widen (k := 1) (n := 6) (by omega) (by omega) ?_
  refine vx_ret ?_
  exact W.iret hx hb hr (fun t ht hW => ⟨⟨some (.int x), w, rfl, hp, by rw [ht]; exact hP, va_K.moved hW.alike hK, hD⟩, hS.F ht⟩) hS.2.2 hd hlocks
set_option maxHeartbeats 8000000 in
set_option maxRecDepth 100000 in
/-- a call that throws, caught: the handler keeps what is thrown and gives a number -/
theorem g_callC {X : gw_X} {own : String} {cc : ByteArray} {nL d : Nat} (C : gw_ok X own cc nL d 1 6) {S S' : gw_S} {E : String} {post : Option Value → gw_M → Prop} {hh : List (Nat × Nat × Nat × Nat)} (F : gw_finH X S post hh) {π : Nat → Nat} (Em : gw_emb S S' π) {pc : Nat} {lv : gw_LV} {st rest : List Value} {w : gw_M} {y : MethodName} {cc' : ByteArray} {nL' d' na index b : Nat} {ret' : Option FieldType} {As : List Value} {pre : gw_M → Prop} {pst' : gw_M → gw_M → Prop}
    (M : gw_Thr y cc' nL' ret' S' d' (.ref b :: As) pre E pst') (My : gw_my y cc' nL' ret' na) (L : gw_vi own index y) (hdd : d' + 1 ≤ d) (hna : As.length = na)
    {ci N : Nat} {fs : List (Option Nat)} {T : u_T} (hrc : gw_at S (π b) = some (.inr (ci, fs))) (hcl : vwCl[ci]? = some (y.cls, T, N)) (w2 : gw_M → gw_M) (hi : ∀ w1 i, i < S'.1 → w2 w1 (π i) = w1 i) (ho : ∀ w1 j, j < S.1 → (∀ i, i < S'.1 → π i ≠ j) → w2 w1 j = w j)
    (w0 : gw_M) (hw0 : ∀ i, i < S'.1 → w0 i = w (π i)) (hroom : (rest.map fun v => v.category).sum ≤ 8)
    (hd : decode cc pc = .ok (.invokevirtual index, 3)) (hst : st = (As.map (gw_v π)).reverse ++ .ref (π b) :: rest) (hpre : pre w0)
    (before : List (Nat × Nat × Nat × Nat)) (x : Nat × Nat × Nat × Nat) (after : List (Nat × Nat × Nat × Nat)) (hsp : hh = before ++ x :: after) (hpass : ∀ z ∈ before, z.2.2.2 ≠ 0 ∧ ∃ nm : String, Cond.classLink own z.2.2.2 nm ∈ gw_T ∧ (E, nm) ∈ gw_nc) (hcov : covers ⟨x.1, x.2.1, x.2.2.1, x.2.2.2⟩ pc = true) (hx0 : x.2.2.2 ≠ 0) (hlk : Cond.classLink own x.2.2.2 E ∈ gw_T) (hcs : Cond.castable E E ∈ gw_N)
    {ln : Nat} (has : (∃ i : Fin 4, i.val < nL ∧ decode cc x.2.2.1 = .ok (.astore_n i, 1) ∧ ln = 1) ∨ (∃ i, i < nL ∧ decode cc x.2.2.1 = .ok (.astore i, 2) ∧ ln = 2)) {ic : Int} {cv : Int32} (hcv : Int32.ofInt ic = cv) (hd1 : decode cc (x.2.2.1 + ln) = .ok (.iconst ic, 1)) (hd2 : decode cc (x.2.2.1 + ln + 1) = .ok (.ireturn, 1))
    (hp : ∀ (w1 : gw_M), pst' w0 w1 → post (some (.int cv)) (w2 w1)) : gw_G X S nL 0 0 pc lv st w := by
  obtain ⟨p, l, e, R, s, m, args, below, meth, c, D, cA, ρ, A, Q⟩ := X
  obtain ⟨hx, hb, hml, hown, hts, hK, hA, hE, hRf, hRl, hRc, hRs⟩ := C
  obtain ⟨hstt, hr, hlocks, htab, hAe, hQe⟩ := F
  intro H locs ls hP hD hS hl
  obtain ⟨hc1, hc2, hc3, hc4, hc5, hc6⟩ := My
  obtain ⟨hl1, hl2, hl3⟩ := L
  subst hst
  have hcw : CallW R s args own y.cls index y cc' nL' ret' (.code y cc' nL' ret' :: gw_T) (gw_rm d' 1 6) 1 6 na :=
    cwV na hts (by
      intro z hz
      simp only [wsV, List.cons_append, List.nil_append, List.mem_cons] at hz
      rcases hz with rfl | rfl | rfl | rfl | rfl | hz
      · exact gw_T_good _ hl1
      · exact gw_T_good _ hl2
      · exact gw_T_good _ hl3
      · exact gw_T_good _ hc2
      · exact gw_T_good _ hc1
      · exact gw_T_good _ hz) rfl rfl rfl ⟨rfl, hc3, hc4, hc5⟩ ⟨Nat.le_trans hdd hRf, by show 8 + (nL' + 11) + 40 * d' ≤ R.locals; omega⟩
  have hrun := vx_runV (H := H) (locs := locs) (cells := 0) (slots := 0) (e := e) (below := below) (meth := meth) (b := ρ (π b)) (As := As.map (gw_v (fun i => ρ (π i)))) (rest := rest.map (gw_v ρ)) (g := F0 m pc ls ((((As.map (gw_v π)).reverse ++ .ref (π b) :: rest)).map (gw_v ρ))) (Ts := gw_T) ⟨hx, hb, hml, hown, hts⟩ (M l hstt D cA (fun i => ρ (π i)) H.size w0 hpre) hcw
    ⟨gw_blind _ _ _ _ _ _ _, va_recv hK hP hcl (gw_W_get hrc), fun U hU hW => ⟨rfl, by rw [hU], ⟨by rw [hU]; exact gw_emb_P Em hw0 hP, va_K.moved hW.alike hK, gw_emb_D Em hD⟩, gw_E_in hA hE hD hS Em hU hW⟩⟩ rfl (by rw [List.length_map]; exact hna) hl.1
    (by show (((As.map (gw_v π)).reverse ++ .ref (π b) :: rest)).map (gw_v ρ) = _
        rw [List.map_append, List.map_reverse, gw_vs]; rfl)
    (by rw [gw_cats]; show 2 * 0 + _ ≤ 8; omega) hd ⟨by omega, by omega⟩
  intro T0 hT X
  rcases hrun T0 hT X with ⟨v, st₀, t, T', L, h0, X', hL, e1, e2, hf, st⟩ | ⟨q, st₀, t, T', L, E', ce, h0, X', hL, e1, e2, hxc, hcell, hvm, hcls, st⟩
  · exact hf.elim
  · obtain ⟨rfl, ⟨w1, hp1, hB⟩, hz, hk⟩ := hxc
    rw [h0] at hz hk
    subst hAe; subst hQe
    have hAA : ∀ q, q < H.size → gw_A (fun i => ρ (π i)) S'.1 H.size q → gw_A ρ S.1 s.heap.size q := by
      rintro q hq (⟨i, hi1, rfl⟩ | h)
      · exact gw_D_A hD (gw_at_lt (Em.1 i hi1)).1
      · exact absurd hq (Nat.not_lt.mpr h)
    have hAf : ∀ q, gw_A (fun i => ρ (π i)) S'.1 H.size q → gw_A ρ S.1 s.heap.size q := by
      rintro q (⟨i, hi1, rfl⟩ | h)
      · exact gw_D_A hD (gw_at_lt (Em.1 i hi1)).1
      · exact hA q (Nat.le_trans hS.1 h)
    have hP2 : va_P D vwCl (gw_W cA ρ S (w2 w1)) T'.heap := by
      rw [e1]
      exact gw_back_P Em hP hD hB.1 hk (hi w1) (ho w1)
    have hS2 : va_S (gw_A ρ S.1 s.heap.size) s.heap T'.heap (locs ++ L) := ⟨Nat.le_trans hS.1 (by rw [e1]; exact hz), fun q h1 h2 => by rw [e1, hk q (Nat.lt_of_lt_of_le h1 hS.1) (fun z => h2 (hAA q (Nat.lt_of_lt_of_le h1 hS.1) z))]; exact hS.2.1 q h1 h2, fun q hq => by
      rcases List.mem_append.mp hq with h | h
      · exact hS.2.2 q h
      · exact hAf _ (hL q h)⟩
    have hfin : ∀ ls1 : Array Slot, W p l e R s m args below meth c T'.heap (locs ++ L) (0 + 1) (0 + 6) (vx_MQ below (gw_Q D cA ρ S s.heap.size post) (fun _ _ _ => False) args s 1 6 (gw_A ρ S.1 s.heap.size)) (F0 m (x.2.2.1 + ln) ls1 []) := fun ls1 => by
      refine lv_iconst (v := cv) hx hb hd1 hcv ?_
      refine vx_ret ?_
      exact W.iret hx hb hr (fun t ht hW => ⟨⟨some (.int cv), w2 w1, rfl, hp w1 hp1, by rw [ht]; exact hP2, va_K.moved hW.alike hK, gw_D_w hD⟩, hS2.F ht⟩) hS2.2.2 hd2 hlocks
    have hcatch := vx_catch (p := p) (l := l) (e := e) (R := R) (s := s) (m := m) (args := args) (below := below) (meth := meth) (c := c) (H := T'.heap) (locs := locs ++ L) (cells := 0 + 1) (slots := 0 + 6) (Q := vx_MQ below (gw_Q D cA ρ S s.heap.size post) (fun _ _ _ => False) args s 1 6 (gw_A ρ S.1 s.heap.size)) (pc := pc) (ls := ls) (rest := rest.map (gw_v ρ)) (own := own) (name := E') (E := E') (ce := ce) (q := q) hown (before.map fun q => ⟨q.1, q.2.1, q.2.2.1, q.2.2.2⟩) ⟨x.1, x.2.1, x.2.2.1, x.2.2.2⟩ (after.map fun q => ⟨q.1, q.2.1, q.2.2.1, q.2.2.2⟩)
      (by rw [htab, hsp]; simp [tableOf])
      (fun z hz => by
        obtain ⟨z0, hz0, rfl⟩ := List.mem_map.mp hz
        obtain ⟨a1, nm, a2, a3⟩ := hpass z0 hz0
        exact Or.inr ⟨a1, nm, hts _ a2, hE.2.2.2.2.2.2.1 _ a3⟩) hcov hx0 (hts _ hlk) (va_Nw.use rfl (hE.2.2.2.2.1 _ hcs)) (by rw [e1]; exact hcell) hvm hcls (by
        rcases has with ⟨i, i1, i2, i3⟩ | ⟨i, i1, i2, i3⟩
        · subst i3
          exact lv_astore_n hx hb i2 rfl hl i1 rfl (fun ls1 _ => hfin ls1)
        · subst i3
          exact lv_astore hx hb i2 hl i1 rfl (fun ls1 _ => hfin ls1))
    obtain ⟨t2, a1, b1⟩ := hcatch T' rfl X'
    exact ⟨t2, st.trans a1, b1⟩
/-- what a law's method tells of a call -/
def cw_LW (r : cw_R) (vr : Option Value) (w1 : gw_M) : Prop := vr = some (.int r.1) ∧ (r.1 = 0 → w1 263 0 = r.2.1) ∧ cw_RC r.2.2 w1
theorem cw_LW0 {r : cw_R} {a : Int32} {B : cw_A} {w1 : gw_M} (hr : r = (0, a, B)) (h1 : w1 263 0 = a) (h2 : cw_RC B w1) : cw_LW r (some (.int 0)) w1 := by
  subst hr; exact ⟨rfl, fun _ => h1, h2⟩
theorem cw_LW1 {r : cw_R} {A : cw_A} {c : Int32} {w1 : gw_M} (hr : r = (c, 0, A)) (h0 : ¬ c = 0) (h2 : cw_RC A w1) : cw_LW r (some (.int c)) w1 := by
  subst hr; exact ⟨rfl, fun q => absurd q h0, h2⟩
