/-! CONTRACTS OF THE LAW'S OWN METHODS: with a room of their own (gw_OkR), with handlers that are not used (gw_OkN), over the script (gw_OkX) -/
def gw_OkR (y : MethodName) (cc : ByteArray) (nL : Nat) (ret : Option FieldType) (S : gw_S) (d mc ms : Nat) (av : List Value) (pre : gw_M → Prop) (post : gw_M → Option Value → gw_M → Prop) : Prop :=
  ∀ (l : Launch), l.stackTraces = false → ∀ (D : va_G) (cA : Nat → ClassId) (ρ : Nat → Nat) (sz : Nat) (w : gw_M), pre w → Met l y (.code y cc nL ret :: gw_T) (gw_rm d mc ms) (gw_Pc D cA ρ S sz av w) (gw_Q D cA ρ S sz (post w)) mc ms (gw_A ρ S.1 sz)
theorem gw_ofR {y : MethodName} {cc : ByteArray} {nL : Nat} {ret : Option FieldType} {S : gw_S} {d mc ms : Nat} {av : List Value} {pre : gw_M → Prop} {post : gw_M → Option Value → gw_M → Prop} (hy : plainName y.cls = true) (hn : (lg_sl av).length ≤ nL)
    (body : ∀ (X : gw_X) (w : gw_M), X.2.1.stackTraces = false → pre w → gw_ok X y.cls cc nL d mc ms → gw_fin X ret S (post w) mc ms → gw_G X S nL 0 0 0 (lv_args 0 av) [] w) : gw_OkR y cc nL ret S d mc ms av pre post := by
  intro l hst D cA ρ sz w hpre
  refine Met.ofW (cc := cc) (maxL := nL) (ret := ret) hy rfl ?_
  intro p e s m args below meth c s₁ B hml hv
  obtain ⟨rfl, hsz, hB, hE⟩ := hv
  subst hsz
  have hts := atoms_spec (ws := .code y cc nL ret :: gw_T) B.pre
  have hown : s.vm.findClass y.cls = some m.cls := findClass_of_methodNamed B.named
  have K := body (p, l, e, gw_rm d mc ms, s, m, (av.map (gw_v ρ)).toArray, below, meth, c, D, cA, ρ, gw_A ρ S.1 s.heap.size, MQ below (gw_Q D cA ρ S s.heap.size (post w)) (av.map (gw_v ρ)).toArray s mc ms (gw_A ρ S.1 s.heap.size)) w hst hpre
    ⟨B.exec, B.bytes, hml, hown, fun w hw => hts w (List.mem_cons_of_mem _ hw), hB.2.1, fun q hq => Or.inr hq, hE, Nat.le_refl _, Nat.le_refl _, Nat.le_refl _, Nat.le_refl _⟩
    ⟨B.returns, B.notSynchronized, rfl, rfl⟩
  have hn' : (lg_sl (av.map (gw_v ρ))).length ≤ nL := by rw [gw_lg_len]; exact hn
  have hl := lv_entry (av.map (gw_v ρ)) hn'
  rw [lg_entry_eq]
  rw [gw_args] at hl
  exact K s.heap [] _ hB.1 (gw_D_self _ hB.2.2) va_S.rf hl
theorem g_widen {X : gw_X} {S : gw_S} {nL k n k' n' pc : Nat} {lv : gw_LV} {st : List Value} {w : gw_M} (h1 : k ≤ k') (h2 : n ≤ n') (K : gw_G X S nL k' n' pc lv st w) : gw_G X S nL k n pc lv st w := by
  obtain ⟨p, l, e, R, s, m, args, below, meth, c, D, cA, ρ, A, Q⟩ := X
  intro H locs ls hP hD hS hl
  exact W.widen h1 h2 (K H locs ls hP hD hS hl)
theorem gw_contN {p : Program} {l : Launch} {e : Env} {R : Room} {s : State} {m : MethodId} {args : Array Value} {below : List Frame} {meth : Method} {c : Code} {D : va_G} {cA : Nat → ClassId} {ρ π : Nat → Nat} {A : Nat → Prop} {Q : State → Prop}
    {S S' : gw_S} {k n mc ms pc : Nat} {ls : Array Slot} {st rest : List Value} {w : gw_M} {H : Heap} {locs : List Loc} {a : Array Value} {post : Option Value → gw_M → Prop} (hA : ∀ q : Nat, s.heap.size ≤ q → A q) (hP : va_P D vwCl (gw_W cA ρ S w) H) (hD : va_D A (gw_W cA ρ S w)) (hS : va_S A s.heap H locs) (E : gw_emb S S' π)
    (w2 : gw_M → gw_M) (hi : ∀ w1 i, i < S'.1 → w2 w1 (π i) = w1 i) (ho : ∀ w1 j, j < S.1 → (∀ i, i < S'.1 → π i ≠ j) → w2 w1 j = w j)
    (hr : va_Run p l e R s m args below meth c H locs k n mc ms (F0 m pc ls st) rest (gw_Q D cA (fun i => ρ (π i)) S' H.size post a) (gw_A (fun i => ρ (π i)) S'.1 H.size))
    (K : ∀ (v : Option Value) (w1 : gw_M), post v w1 → ∀ (H1 : Heap) (locs1 : List Loc), va_P D vwCl (gw_W cA ρ S (w2 w1)) H1 → va_D A (gw_W cA ρ S (w2 w1)) → va_S A s.heap H1 locs1 → W p l e R s m args below meth c H1 locs1 (k + mc) (n + ms) Q (F0 m (pc + 3) ls ((v.map (gw_v (fun i => ρ (π i)))).toList ++ rest))) :
    W p l e R s m args below meth c H locs k n Q (F0 m pc ls st) := by
  intro T hT X
  obtain ⟨v, st₀, t, T', L, h0, X', hL, e1, e2, ⟨⟨v1, w1, hv, hp, hB⟩, hz, hk⟩, st⟩ := hr T hT X
  have hv : v = v1.map (gw_v (fun i => ρ (π i))) := by injection hv
  subst hv
  rw [h0] at hz hk
  have hAA : ∀ q, q < H.size → gw_A (fun i => ρ (π i)) S'.1 H.size q → A q := by
    rintro q hq (⟨i, hi1, rfl⟩ | h)
    · exact gw_D_A hD (gw_at_lt (E.1 i hi1)).1
    · exact absurd hq (Nat.not_lt.mpr h)
  have hAf : ∀ q, gw_A (fun i => ρ (π i)) S'.1 H.size q → A q := by
    rintro q (⟨i, hi1, rfl⟩ | h)
    · exact gw_D_A hD (gw_at_lt (E.1 i hi1)).1
    · exact hA q (Nat.le_trans hS.1 h)
  have hP2 : va_P D vwCl (gw_W cA ρ S (w2 w1)) T'.heap := by
    rw [e1]
    exact gw_back_P E hP hD hB.1 hk (hi w1) (ho w1)
  have hS2 : va_S A s.heap T'.heap (locs ++ L) := ⟨Nat.le_trans hS.1 (by rw [e1]; exact hz), fun q h1 h2 => by rw [e1, hk q (Nat.lt_of_lt_of_le h1 hS.1) (fun z => h2 (hAA q (Nat.lt_of_lt_of_le h1 hS.1) z))]; exact hS.2.1 q h1 h2, fun q hq => by
      rcases List.mem_append.mp hq with h | h
      · exact hS.2.2 q h
      · exact hAf _ (hL q h)⟩
  obtain ⟨t2, a1, b1⟩ := K v1 w1 hp T'.heap (locs ++ L) hP2 (gw_D_w hD) hS2 T' rfl X'
  exact ⟨t2, st t2 a1, b1⟩
/-- a call of a static method with a room of its own -/
theorem g_callR {X : gw_X} {own : String} {cc : ByteArray} {nL d mc ms : Nat} (C : gw_ok X own cc nL d mc ms) (hst9 : X.2.1.stackTraces = false) {S S' : gw_S} {π : Nat → Nat} (E : gw_emb S S' π) {k n pc : Nat} {lv : gw_LV} {st rest : List Value} {w : gw_M} {y : MethodName} {cc' : ByteArray} {nL' d' mc' ms' na index : Nat} {ret' : Option FieldType} {As : List Value} {pre : gw_M → Prop} {post : gw_M → Option Value → gw_M → Prop}
    (M : gw_OkR y cc' nL' ret' S' d' mc' ms' As pre post) (My : gw_my y cc' nL' ret' na) (L : gw_si own index y) (hdd : d' + 1 ≤ d) (hkn : k + mc' ≤ mc ∧ n + ms' ≤ ms) (hna : As.length = na)
    (w2 : gw_M → gw_M) (hi : ∀ w1 i, i < S'.1 → w2 w1 (π i) = w1 i) (ho : ∀ w1 j, j < S.1 → (∀ i, i < S'.1 → π i ≠ j) → w2 w1 j = w j)
    (w0 : gw_M) (hw0 : ∀ i, i < S'.1 → w0 i = w (π i)) (hroom : (rest.map fun v => v.category).sum ≤ 8)
    (hd : decode cc pc = .ok (.invokestatic index, 3)) (hst : st = (As.map (gw_v π)).reverse ++ rest) (hpre : pre w0)
    (K : ∀ (v : Option Value) (w1 : gw_M), post w0 v w1 → gw_G X S nL (k + mc') (n + ms') (pc + 3) lv (gw_pu (v.map (gw_v π)) rest) (w2 w1)) : gw_G X S nL k n pc lv st w := by
  obtain ⟨p, l, e, R, s, m, args, below, meth, c, D, cA, ρ, A, Q⟩ := X
  obtain ⟨hx, hb, hml, hown, hts, hK, hA, hE, hRf, hRl, hRc, hRs⟩ := C
  intro H locs ls hP hD hS hl
  obtain ⟨hc1, hc2, hc3, hc4, hc5, hc6⟩ := My
  obtain ⟨hl1, hl2⟩ := L
  subst hst
  have hcw : CallB R s args own index y cc' nL' ret' (.code y cc' nL' ret' :: gw_T) (gw_rm d' mc' ms') mc' ms' na ∧ (Cond.static y).before args s = true :=
    va_cwS na hts (by
      intro z hz
      simp only [va_wsS, List.cons_append, List.nil_append, List.mem_cons] at hz
      rcases hz with rfl | rfl | rfl | rfl | hz
      · exact gw_T_good _ hl1
      · exact gw_T_good _ hl2
      · exact gw_T_good _ hc2
      · exact gw_T_good _ hc1
      · exact gw_T_good _ hz) rfl rfl rfl ⟨hc3, hc4, hc5⟩ ⟨Nat.le_trans hdd hRf, by show 8 + (nL' + 11) + 40 * d' ≤ R.locals; omega⟩
  have hrun := va_runS (H := H) (locs := locs) (cells := k) (slots := n) (e := e) (below := below) (meth := meth) (As := As.map (gw_v (fun i => ρ (π i)))) (rest := rest.map (gw_v ρ)) (g := F0 m pc ls ((((As.map (gw_v π)).reverse ++ rest)).map (gw_v ρ))) (Ts := gw_T) ⟨hx, hb, hml, hown, hts⟩ (M l hst9 D cA (fun i => ρ (π i)) H.size w0 hpre) hcw
    ⟨gw_blind _ _ _ _ _ _ _, fun U hU hW => ⟨rfl, by rw [hU], ⟨by rw [hU]; exact gw_emb_P E hw0 hP, va_K.moved hW.alike hK, gw_emb_D E hD⟩, gw_E_in hA hE hD hS E hU hW⟩⟩ rfl (by rw [List.length_map]; exact hna) hl.1
    (by show (((As.map (gw_v π)).reverse ++ rest)).map (gw_v ρ) = _
        rw [List.map_append, List.map_reverse, gw_vs])
    (by rw [gw_cats]; show 2 * 0 + _ ≤ 8; omega) hd ⟨by omega, by omega⟩
  refine gw_contN hA hP hD hS E w2 hi ho hrun (fun v w1 hp H1 locs1 hP1 hD1 hS1 => ?_)
  have e1 := K v w1 hp H1 locs1 ls hP1 hD1 hS1 hl
  have e2 : (gw_pu (v.map (gw_v π)) rest).map (gw_v ρ) = (v.map (gw_v (fun i => ρ (π i)))).toList ++ rest.map (gw_v ρ) := by
    cases v with
    | none => rfl
    | some z => show gw_v ρ (gw_v π z) :: _ = _; rw [gw_v_v]; rfl
  rw [e2] at e1
  exact e1

def gw_OkN (y : MethodName) (cc : ByteArray) (nL : Nat) (ret : Option FieldType) (hh : List (Nat × Nat × Nat × Nat)) (S : gw_S) (d : Nat) (av : List Value) (pre : gw_M → Prop) (post : gw_M → Option Value → gw_M → Prop) : Prop :=
  ∀ (l : Launch) (D : va_G) (cA : Nat → ClassId) (ρ : Nat → Nat) (sz : Nat) (w : gw_M), pre w → vx_Met l y (.codeWith y cc nL ret hh :: gw_T) (gw_rm d 0 0) (gw_Pc D cA ρ S sz av w) (gw_Q D cA ρ S sz (post w)) (fun _ _ _ => False) 0 0 (gw_A ρ S.1 sz)

def gw_finN (X : gw_X) (S : gw_S) (post : Option Value → gw_M → Prop) (hh : List (Nat × Nat × Nat × Nat)) : Prop :=
  match X with
  | (p, l, e, R, s, m, args, below, meth, c, D, cA, ρ, A, Q) => meth.sig.returnType = some .int ∧ meth.locks = false ∧ c.exceptionTable.toList = tableOf hh ∧ A = gw_A ρ S.1 s.heap.size ∧ Q = vx_MQ below (gw_Q D cA ρ S s.heap.size post) (fun _ _ _ => False) args s 0 0 (gw_A ρ S.1 s.heap.size)

theorem gw_ofN {y : MethodName} {cc : ByteArray} {nL : Nat} {hh : List (Nat × Nat × Nat × Nat)} {S : gw_S} {d : Nat} {av : List Value} {pre : gw_M → Prop} {post : gw_M → Option Value → gw_M → Prop} (hy : plainName y.cls = true) (hn : (lg_sl av).length ≤ nL)
    (body : ∀ (X : gw_X) (w : gw_M), pre w → gw_ok X y.cls cc nL d 0 0 → gw_finN X S (post w) hh → gw_G X S nL 0 0 0 (lv_args 0 av) [] w) : gw_OkN y cc nL (some .int) hh S d av pre post := by
  intro l D cA ρ sz w hpre
  refine vx_ofWH (cc := cc) (maxL := nL) (ret := some .int) (hh := hh) hy rfl ?_
  intro p e s m args below meth c s₁ B hml hv
  obtain ⟨rfl, hsz, hB, hE⟩ := hv
  subst hsz
  have hts := atoms_spec (ws := .codeWith y cc nL (some .int) hh :: gw_T) B.pre
  have htab := vx_table (x := y) B (hts _ List.mem_cons_self)
  have hown : s.vm.findClass y.cls = some m.cls := findClass_of_methodNamed B.named
  have K := body (p, l, e, gw_rm d 0 0, s, m, (av.map (gw_v ρ)).toArray, below, meth, c, D, cA, ρ, gw_A ρ S.1 s.heap.size, vx_MQ below (gw_Q D cA ρ S s.heap.size (post w)) (fun _ _ _ => False) (av.map (gw_v ρ)).toArray s 0 0 (gw_A ρ S.1 s.heap.size)) w hpre
    ⟨B.exec, B.bytes, hml, hown, fun w hw => hts w (List.mem_cons_of_mem _ hw), hB.2.1, fun q hq => Or.inr hq, hE, Nat.le_refl _, Nat.le_refl _, Nat.le_refl _, Nat.le_refl _⟩
    ⟨B.returns, B.notSynchronized, htab, rfl, rfl⟩
  have hn' : (lg_sl (av.map (gw_v ρ))).length ≤ nL := by rw [gw_lg_len]; exact hn
  have hl := lv_entry (av.map (gw_v ρ)) hn'
  rw [lg_entry_eq]
  rw [gw_args] at hl
  exact K s.heap [] _ hB.1 (gw_D_self _ hB.2.2) va_S.rf hl

theorem g_iretN {X : gw_X} {own : String} {cc : ByteArray} {nL d : Nat} (C : gw_ok X own cc nL d 0 0) {S : gw_S} {post : Option Value → gw_M → Prop} {hh : List (Nat × Nat × Nat × Nat)} (F : gw_finN X S post hh) {pc : Nat} {lv : gw_LV} {w : gw_M} {x : Int32} (hd : decode cc pc = .ok (.ireturn, 1)) (hp : post (some (.int x)) w) : gw_G X S nL 0 0 pc lv [.int x] w := by
  obtain ⟨p, l, e, R, s, m, args, below, meth, c, D, cA, ρ, A, Q⟩ := X
  obtain ⟨hx, hb, hml, hown, hts, hK, hA, hE, hRf, hRl, hRc, hRs⟩ := C
  obtain ⟨hr, hlocks, -, hAe, hQe⟩ := F
  subst hAe; subst hQe
  intro H locs ls hP hD hS hl
  refine vx_ret ?_
  exact W.iret hx hb hr (fun t ht hW => ⟨⟨some (.int x), w, rfl, hp, by rw [ht]; exact hP, va_K.moved hW.alike hK, hD⟩, hS.F ht⟩) hS.2.2 hd hlocks

theorem gw_contL {p : Program} {l : Launch} {e : Env} {R : Room} {s : State} {m : MethodId} {args : Array Value} {below : List Frame} {meth : Method} {c : Code} {D : va_G} {cA : Nat → ClassId} {ρ π : Nat → Nat} {A : Nat → Prop} {Q : State → Prop}
    {S S' : gw_S} {k n pc : Nat} {ls : Array Slot} {st rest : List Value} {w : gw_M} {H : Heap} {locs : List Loc} {a : Array Value} {post : Option Value → gw_M → Prop} (hA : ∀ q : Nat, s.heap.size ≤ q → A q) (hP : va_P D vwCl (gw_W cA ρ S w) H) (hD : va_D A (gw_W cA ρ S w)) (hS : va_S A s.heap H locs) (E : gw_emb S S' π)
    (w2 : gw_M → gw_M) (hi : ∀ w1 i, i < S'.1 → w2 w1 (π i) = w1 i) (ho : ∀ w1 j, j < S.1 → (∀ i, i < S'.1 → π i ≠ j) → w2 w1 j = w j)
    (hr : vx_Run p l e R s m args below meth c H locs k n 1 6 (F0 m pc ls st) rest (gw_Q D cA (fun i => ρ (π i)) S' H.size post a) (fun _ _ _ => False) (gw_A (fun i => ρ (π i)) S'.1 H.size))
    (K : ∀ (v : Option Value) (w1 : gw_M), post v w1 → ∀ (H1 : Heap) (locs1 : List Loc), va_P D vwCl (gw_W cA ρ S (w2 w1)) H1 → va_D A (gw_W cA ρ S (w2 w1)) → va_S A s.heap H1 locs1 → W p l e R s m args below meth c H1 locs1 (k + 1) (n + 6) Q (F0 m (pc + 3) ls ((v.map (gw_v (fun i => ρ (π i)))).toList ++ rest))) :
    W p l e R s m args below meth c H locs k n Q (F0 m pc ls st) := by
  intro T hT X
  rcases hr T hT X with ⟨v, st₀, t, T', L, h0, X', hL, e1, e2, ⟨⟨v1, w1, hv, hp, hB⟩, hz, hk⟩, st⟩ | ⟨_, _, _, _, _, _, _, _, _, _, _, _, hf, _⟩
  · have hv : v = v1.map (gw_v (fun i => ρ (π i))) := by injection hv
    subst hv
    rw [h0] at hz hk
    have hAA : ∀ q, q < H.size → gw_A (fun i => ρ (π i)) S'.1 H.size q → A q := by
      rintro q hq (⟨i, hi1, rfl⟩ | h)
      · exact gw_D_A hD (gw_at_lt (E.1 i hi1)).1
      · exact absurd hq (Nat.not_lt.mpr h)
    have hAf : ∀ q, gw_A (fun i => ρ (π i)) S'.1 H.size q → A q := by
      rintro q (⟨i, hi1, rfl⟩ | h)
      · exact gw_D_A hD (gw_at_lt (E.1 i hi1)).1
      · exact hA q (Nat.le_trans hS.1 h)
    have hP2 : va_P D vwCl (gw_W cA ρ S (w2 w1)) T'.heap := by
      rw [e1]
      exact gw_back_P E hP hD hB.1 hk (hi w1) (ho w1)
    have hS2 : va_S A s.heap T'.heap (locs ++ L) := ⟨Nat.le_trans hS.1 (by rw [e1]; exact hz), fun q h1 h2 => by rw [e1, hk q (Nat.lt_of_lt_of_le h1 hS.1) (fun z => h2 (hAA q (Nat.lt_of_lt_of_le h1 hS.1) z))]; exact hS.2.1 q h1 h2, fun q hq => by
        rcases List.mem_append.mp hq with h | h
        · exact hS.2.2 q h
        · exact hAf _ (hL q h)⟩
    obtain ⟨t2, a1, b1⟩ := K v1 w1 hp T'.heap (locs ++ L) hP2 (gw_D_w hD) hS2 T' rfl X'
    exact ⟨t2, st t2 a1, b1⟩
  · exact hf.elim

def gw_myH (y : MethodName) (cc : ByteArray) (nL : Nat) (ret : Option FieldType) (hh : List (Nat × Nat × Nat × Nat)) (na : Nat) : Prop := Cond.codeWith y cc nL ret hh ∈ gw_T ∧ Cond.initialized y.cls ∈ gw_T ∧ y.cls ≠ "java/lang/invoke/MethodHandle" ∧ y.cls ≠ "java/lang/invoke/VarHandle" ∧ (parseMethodDescriptor y.desc).map (fun d => d.parameters.length) = some na ∧ nL ≤ 21

theorem g_callL {X : gw_X} {own : String} {cc : ByteArray} {nL d mc ms : Nat} (C : gw_ok X own cc nL d mc ms) (hst : X.2.1.stackTraces = false) {S S' : gw_S} {π : Nat → Nat} (E : gw_emb S S' π) {k n pc : Nat} {lv : gw_LV} {st rest : List Value} {w : gw_M} {y : MethodName} {cc' : ByteArray} {nL' d' na index : Nat} {ret' : Option FieldType} {hh : List (Nat × Nat × Nat × Nat)} {As : List Value} {pre : gw_M → Prop} {post : gw_M → Option Value → gw_M → Prop}
    (M : gw_OkH y cc' nL' ret' hh S' d' As pre post) (My : gw_myH y cc' nL' ret' hh na) (L : gw_si own index y) (hdd : d' + 1 ≤ d) (hkn : k + 1 ≤ mc ∧ n + 6 ≤ ms) (hna : As.length = na)
    (w2 : gw_M → gw_M) (hi : ∀ w1 i, i < S'.1 → w2 w1 (π i) = w1 i) (ho : ∀ w1 j, j < S.1 → (∀ i, i < S'.1 → π i ≠ j) → w2 w1 j = w j)
    (w0 : gw_M) (hw0 : ∀ i, i < S'.1 → w0 i = w (π i)) (hroom : (rest.map fun v => v.category).sum ≤ 8)
    (hd : decode cc pc = .ok (.invokestatic index, 3)) (hsk : st = (As.map (gw_v π)).reverse ++ rest) (hpre : pre w0)
    (K : ∀ (v : Option Value) (w1 : gw_M), post w0 v w1 → gw_G X S nL (k + 1) (n + 6) (pc + 3) lv (gw_pu (v.map (gw_v π)) rest) (w2 w1)) : gw_G X S nL k n pc lv st w := by
  obtain ⟨p, l, e, R, s, m, args, below, meth, c, D, cA, ρ, A, Q⟩ := X
  obtain ⟨hx, hb, hml, hown, hts, hK, hA, hE, hRf, hRl, hRc, hRs⟩ := C
  intro H locs ls hP hD hS hl
  obtain ⟨hc1, hc2, hc3, hc4, hc5, hc6⟩ := My
  obtain ⟨hl1, hl2⟩ := L
  subst hsk
  have hcw : vx_CSW R s args own index y cc' nL' ret' hh (.codeWith y cc' nL' ret' hh :: gw_T) (gw_rm d' 1 6) 1 6 na :=
    vx_cwSW na hts (by
      intro z hz
      simp only [va_wsS, List.cons_append, List.nil_append, List.mem_cons] at hz
      rcases hz with rfl | rfl | rfl | rfl | hz
      · exact gw_T_good _ hl1
      · exact gw_T_good _ hl2
      · exact gw_T_good _ hc2
      · exact gw_T_good _ hc1
      · exact gw_T_good _ hz) rfl rfl rfl ⟨hc3, hc4, hc5⟩ ⟨Nat.le_trans hdd hRf, by show 8 + (nL' + 11) + 40 * d' ≤ R.locals; omega⟩
  have hrun := vx_runSX (H := H) (locs := locs) (cells := k) (slots := n) (e := e) (below := below) (meth := meth) (As := As.map (gw_v (fun i => ρ (π i)))) (rest := rest.map (gw_v ρ)) (g := F0 m pc ls ((((As.map (gw_v π)).reverse ++ rest)).map (gw_v ρ))) (Ts := gw_T) ⟨hx, hb, hml, hown, hts⟩ (M l hst D cA (fun i => ρ (π i)) H.size w0 hpre) hcw
    ⟨gw_blind _ _ _ _ _ _ _, fun U hU hW => ⟨rfl, by rw [hU], ⟨by rw [hU]; exact gw_emb_P E hw0 hP, va_K.moved hW.alike hK, gw_emb_D E hD⟩, gw_E_in hA hE hD hS E hU hW⟩⟩ rfl (by rw [List.length_map]; exact hna) hl.1
    (by show (((As.map (gw_v π)).reverse ++ rest)).map (gw_v ρ) = _
        rw [List.map_append, List.map_reverse, gw_vs])
    (by rw [gw_cats]; show 2 * 0 + _ ≤ 8; omega) hd ⟨by omega, by omega⟩
  refine gw_contL hA hP hD hS E w2 hi ho hrun (fun v w1 hp H1 locs1 hP1 hD1 hS1 => ?_)
  have e1 := K v w1 hp H1 locs1 ls hP1 hD1 hS1 hl
  have e2 : (gw_pu (v.map (gw_v π)) rest).map (gw_v ρ) = (v.map (gw_v (fun i => ρ (π i)))).toList ++ rest.map (gw_v ρ) := by
    cases v with
    | none => rfl
    | some z => show gw_v ρ (gw_v π z) :: _ = _; rw [gw_v_v]; rfl
  rw [e2] at e1
  exact e1

theorem gw_contM {p : Program} {l : Launch} {e : Env} {R : Room} {s : State} {m : MethodId} {args : Array Value} {below : List Frame} {meth : Method} {c : Code} {D : va_G} {cA : Nat → ClassId} {ρ π : Nat → Nat} {A : Nat → Prop} {Q : State → Prop}
    {S S' : gw_S} {k n pc : Nat} {ls : Array Slot} {st rest : List Value} {w : gw_M} {H : Heap} {locs : List Loc} {a : Array Value} {post : Option Value → gw_M → Prop} (hA : ∀ q : Nat, s.heap.size ≤ q → A q) (hP : va_P D vwCl (gw_W cA ρ S w) H) (hD : va_D A (gw_W cA ρ S w)) (hS : va_S A s.heap H locs) (E : gw_emb S S' π)
    (w2 : gw_M → gw_M) (hi : ∀ w1 i, i < S'.1 → w2 w1 (π i) = w1 i) (ho : ∀ w1 j, j < S.1 → (∀ i, i < S'.1 → π i ≠ j) → w2 w1 j = w j)
    (hr : vx_Run p l e R s m args below meth c H locs k n 0 0 (F0 m pc ls st) rest (gw_Q D cA (fun i => ρ (π i)) S' H.size post a) (fun _ _ _ => False) (gw_A (fun i => ρ (π i)) S'.1 H.size))
    (K : ∀ (v : Option Value) (w1 : gw_M), post v w1 → ∀ (H1 : Heap) (locs1 : List Loc), va_P D vwCl (gw_W cA ρ S (w2 w1)) H1 → va_D A (gw_W cA ρ S (w2 w1)) → va_S A s.heap H1 locs1 → W p l e R s m args below meth c H1 locs1 k n Q (F0 m (pc + 3) ls ((v.map (gw_v (fun i => ρ (π i)))).toList ++ rest))) :
    W p l e R s m args below meth c H locs k n Q (F0 m pc ls st) := by
  intro T hT X
  rcases hr T hT X with ⟨v, st₀, t, T', L, h0, X', hL, e1, e2, ⟨⟨v1, w1, hv, hp, hB⟩, hz, hk⟩, st⟩ | ⟨_, _, _, _, _, _, _, _, _, _, _, _, hf, _⟩
  · have hv : v = v1.map (gw_v (fun i => ρ (π i))) := by injection hv
    subst hv
    rw [h0] at hz hk
    have hAA : ∀ q, q < H.size → gw_A (fun i => ρ (π i)) S'.1 H.size q → A q := by
      rintro q hq (⟨i, hi1, rfl⟩ | h)
      · exact gw_D_A hD (gw_at_lt (E.1 i hi1)).1
      · exact absurd hq (Nat.not_lt.mpr h)
    have hAf : ∀ q, gw_A (fun i => ρ (π i)) S'.1 H.size q → A q := by
      rintro q (⟨i, hi1, rfl⟩ | h)
      · exact gw_D_A hD (gw_at_lt (E.1 i hi1)).1
      · exact hA q (Nat.le_trans hS.1 h)
    have hP2 : va_P D vwCl (gw_W cA ρ S (w2 w1)) T'.heap := by
      rw [e1]
      exact gw_back_P E hP hD hB.1 hk (hi w1) (ho w1)
    have hS2 : va_S A s.heap T'.heap (locs ++ L) := ⟨Nat.le_trans hS.1 (by rw [e1]; exact hz), fun q h1 h2 => by rw [e1, hk q (Nat.lt_of_lt_of_le h1 hS.1) (fun z => h2 (hAA q (Nat.lt_of_lt_of_le h1 hS.1) z))]; exact hS.2.1 q h1 h2, fun q hq => by
        rcases List.mem_append.mp hq with h | h
        · exact hS.2.2 q h
        · exact hAf _ (hL q h)⟩
    obtain ⟨t2, a1, b1⟩ := K v1 w1 hp T'.heap (locs ++ L) hP2 (gw_D_w hD) hS2 T' rfl X'
    exact ⟨t2, st t2 a1, b1⟩
  · exact hf.elim

theorem g_callN {X : gw_X} {own : String} {cc : ByteArray} {nL d mc ms : Nat} (C : gw_ok X own cc nL d mc ms) {S S' : gw_S} {π : Nat → Nat} (E : gw_emb S S' π) {k n pc : Nat} {lv : gw_LV} {st rest : List Value} {w : gw_M} {y : MethodName} {cc' : ByteArray} {nL' d' na index : Nat} {ret' : Option FieldType} {hh : List (Nat × Nat × Nat × Nat)} {As : List Value} {pre : gw_M → Prop} {post : gw_M → Option Value → gw_M → Prop}
    (M : gw_OkN y cc' nL' ret' hh S' d' As pre post) (My : gw_myH y cc' nL' ret' hh na) (L : gw_si own index y) (hdd : d' + 1 ≤ d) (hkn : k ≤ mc ∧ n ≤ ms) (hna : As.length = na)
    (w2 : gw_M → gw_M) (hi : ∀ w1 i, i < S'.1 → w2 w1 (π i) = w1 i) (ho : ∀ w1 j, j < S.1 → (∀ i, i < S'.1 → π i ≠ j) → w2 w1 j = w j)
    (w0 : gw_M) (hw0 : ∀ i, i < S'.1 → w0 i = w (π i)) (hroom : (rest.map fun v => v.category).sum ≤ 8)
    (hd : decode cc pc = .ok (.invokestatic index, 3)) (hsk : st = (As.map (gw_v π)).reverse ++ rest) (hpre : pre w0)
    (K : ∀ (v : Option Value) (w1 : gw_M), post w0 v w1 → gw_G X S nL k n (pc + 3) lv (gw_pu (v.map (gw_v π)) rest) (w2 w1)) : gw_G X S nL k n pc lv st w := by
  obtain ⟨p, l, e, R, s, m, args, below, meth, c, D, cA, ρ, A, Q⟩ := X
  obtain ⟨hx, hb, hml, hown, hts, hK, hA, hE, hRf, hRl, hRc, hRs⟩ := C
  intro H locs ls hP hD hS hl
  obtain ⟨hc1, hc2, hc3, hc4, hc5, hc6⟩ := My
  obtain ⟨hl1, hl2⟩ := L
  subst hsk
  have hcw : vx_CSW R s args own index y cc' nL' ret' hh (.codeWith y cc' nL' ret' hh :: gw_T) (gw_rm d' 0 0) 0 0 na :=
    vx_cwSW na hts (by
      intro z hz
      simp only [va_wsS, List.cons_append, List.nil_append, List.mem_cons] at hz
      rcases hz with rfl | rfl | rfl | rfl | hz
      · exact gw_T_good _ hl1
      · exact gw_T_good _ hl2
      · exact gw_T_good _ hc2
      · exact gw_T_good _ hc1
      · exact gw_T_good _ hz) rfl rfl rfl ⟨hc3, hc4, hc5⟩ ⟨Nat.le_trans hdd hRf, by show 8 + (nL' + 11) + 40 * d' ≤ R.locals; omega⟩
  have hrun := vx_runSX (H := H) (locs := locs) (cells := k) (slots := n) (e := e) (below := below) (meth := meth) (As := As.map (gw_v (fun i => ρ (π i)))) (rest := rest.map (gw_v ρ)) (g := F0 m pc ls ((((As.map (gw_v π)).reverse ++ rest)).map (gw_v ρ))) (Ts := gw_T) ⟨hx, hb, hml, hown, hts⟩ (M l D cA (fun i => ρ (π i)) H.size w0 hpre) hcw
    ⟨gw_blind _ _ _ _ _ _ _, fun U hU hW => ⟨rfl, by rw [hU], ⟨by rw [hU]; exact gw_emb_P E hw0 hP, va_K.moved hW.alike hK, gw_emb_D E hD⟩, gw_E_in hA hE hD hS E hU hW⟩⟩ rfl (by rw [List.length_map]; exact hna) hl.1
    (by show (((As.map (gw_v π)).reverse ++ rest)).map (gw_v ρ) = _
        rw [List.map_append, List.map_reverse, gw_vs])
    (by rw [gw_cats]; show 2 * 0 + _ ≤ 8; omega) hd ⟨by omega, by omega⟩
  refine gw_contM hA hP hD hS E w2 hi ho hrun (fun v w1 hp H1 locs1 hP1 hD1 hS1 => ?_)
  have e1 := K v w1 hp H1 locs1 ls hP1 hD1 hS1 hl
  have e2 : (gw_pu (v.map (gw_v π)) rest).map (gw_v ρ) = (v.map (gw_v (fun i => ρ (π i)))).toList ++ rest.map (gw_v ρ) := by
    cases v with
    | none => rfl
    | some z => show gw_v ρ (gw_v π z) :: _ = _; rw [gw_v_v]; rfl
  rw [e2] at e1
  exact e1

/-- the script: L ints at the cell ρ 527, outside the world -/
def gw_lx (X : gw_X) (L : Nat) (xs : Nat → Int32) : Prop :=
  match X with
  | (p, l, e, R, s, m, args, below, meth, c, D, cA, ρ, A, Q) => va_X (ρ 527) L xs s s.heap ∧ ρ 527 < s.heap.size ∧ ¬ A (ρ 527)
theorem g_scr {X : gw_X} {own : String} {cc : ByteArray} {nL d mc ms : Nat} (C : gw_ok X own cc nL d mc ms) {L : Nat} {xs : Nat → Int32} (hX : gw_lx X L xs) {S : gw_S} {k n pc j : Nat} {lv : gw_LV} {st : List Value} {w : gw_M} {i : Int32} (hi : i = nI j) (hj : j < L) (hL : L < 2147483648) (hd : decode cc pc = .ok (.iaload, 1)) (K : gw_G X S nL k n (pc + 1) lv (.int (xs j) :: st) w) : gw_G X S nL k n pc lv (.int i :: .ref 527 :: st) w := by
  obtain ⟨p, l, e, R, s, m, args, below, meth, c, D, cA, ρ, A, Q⟩ := X
  obtain ⟨hx, hb, hml, hown, hts, hK, hA, hE, hRf, hRl, hRc, hRs⟩ := C
  obtain ⟨h1, h2, h3⟩ := hX
  intro H locs ls hP hD hS hl
  subst hi
  refine va_sld hx hb h1 h2 h3 hS (vp_in_nI hj hL) hd ?_
  rw [nI_clamp (Nat.lt_trans hj hL)]
  exact K H locs ls hP hD hS hl
theorem g_slen2 {X : gw_X} {own : String} {cc : ByteArray} {nL d mc ms : Nat} (C : gw_ok X own cc nL d mc ms) {L : Nat} {xs : Nat → Int32} (hX : gw_lx X L xs) {S : gw_S} {k n pc : Nat} {lv : gw_LV} {st : List Value} {w : gw_M} (hd : decode cc pc = .ok (.arraylength, 1)) (K : gw_G X S nL k n (pc + 1) lv (.int (nI L) :: st) w) : gw_G X S nL k n pc lv (.ref 527 :: st) w := by
  obtain ⟨p, l, e, R, s, m, args, below, meth, c, D, cA, ρ, A, Q⟩ := X
  obtain ⟨hx, hb, hml, hown, hts, hK, hA, hE, hRf, hRl, hRc, hRs⟩ := C
  obtain ⟨h1, h2, h3⟩ := hX
  intro H locs ls hP hD hS hl
  exact va_slen hx hb h1 h2 h3 hS hd (K H locs ls hP hD hS hl)
def gw_PcX (D : va_G) (cA : Nat → ClassId) (ρ : Nat → Nat) (sz : Nat) (av : List Value) (w : gw_M) (L : Nat) (xs : Nat → Int32) : Array Value → State → Prop :=
  va_Pc (av.map (gw_v ρ)) (fun U => U.heap.size = sz ∧ gw_B D cA ρ sZ (fun _ => True) w U ∧ gw_E (gw_A ρ 0 sz) U U.heap ∧ va_X (ρ 527) L xs U U.heap ∧ ρ 527 < U.heap.size)
def gw_OkX (y : MethodName) (cc : ByteArray) (nL : Nat) (ret : Option FieldType) (d : Nat) (av : List Value) (L : Nat) (xs : Nat → Int32) (post : Option Value → Prop) : Prop :=
  ∀ (l : Launch) (D : va_G) (cA : Nat → ClassId) (ρ : Nat → Nat) (sz : Nat) (w : gw_M), Met l y (.code y cc nL ret :: gw_T) (gw_rm d 0 0) (gw_PcX D cA ρ sz av w L xs) (gw_Q D cA ρ sZ sz (fun v _ => post v)) 0 0 (gw_A ρ 0 sz)
theorem gw_blindX (D : va_G) (cA : Nat → ClassId) (ρ : Nat → Nat) (sz : Nat) (av : List Value) (w : gw_M) (L : Nat) (xs : Nat → Int32) : FrameBlind (gw_PcX D cA ρ sz av w L xs) := by
  intro a U g mk q
  obtain ⟨q0, q1, qB, qE, qs, qz⟩ := q
  exact ⟨q0, q1, ⟨qB.1, va_K.moved (u := U) (U := U.calling g mk a) (Vm.Alike.refl U.vm) qB.2.1, qB.2.2⟩, gw_E.same (u := U) (U := U.calling g mk a) rfl qE, va_X.moved (u := U) (U := U.calling g mk a) (Vm.Alike.refl U.vm) qs, qz⟩
theorem gw_ofX {y : MethodName} {cc : ByteArray} {nL : Nat} {ret : Option FieldType} {d : Nat} {av : List Value} {L : Nat} {xs : Nat → Int32} {post : Option Value → Prop} (hy : plainName y.cls = true) (hn : (lg_sl av).length ≤ nL)
    (body : ∀ (X : gw_X) (w : gw_M), gw_lx X L xs → gw_ok X y.cls cc nL d 0 0 → gw_fin X ret sZ (fun v _ => post v) 0 0 → gw_G X sZ nL 0 0 0 (lv_args 0 av) [] w) : gw_OkX y cc nL ret d av L xs post := by
  intro l D cA ρ sz w
  refine Met.ofW (cc := cc) (maxL := nL) (ret := ret) hy rfl ?_
  intro p e s m args below meth c s₁ B hml hv
  obtain ⟨rfl, hsz, hB, hE, hs, hz⟩ := hv
  subst hsz
  have hts := atoms_spec (ws := .code y cc nL ret :: gw_T) B.pre
  have hown : s.vm.findClass y.cls = some m.cls := findClass_of_methodNamed B.named
  have hno : ¬ gw_A ρ 0 s.heap.size (ρ 527) := by
    rintro (⟨i, hi1, -⟩ | h)
    · exact absurd hi1 (Nat.not_lt_zero _)
    · exact absurd hz (Nat.not_lt.mpr h)
  have K := body (p, l, e, gw_rm d 0 0, s, m, (av.map (gw_v ρ)).toArray, below, meth, c, D, cA, ρ, gw_A ρ 0 s.heap.size, MQ below (gw_Q D cA ρ sZ s.heap.size (fun v _ => post v)) (av.map (gw_v ρ)).toArray s 0 0 (gw_A ρ 0 s.heap.size)) w ⟨hs, hz, hno⟩
    ⟨B.exec, B.bytes, hml, hown, fun w hw => hts w (List.mem_cons_of_mem _ hw), hB.2.1, fun q hq => Or.inr hq, hE, Nat.le_refl _, Nat.le_refl _, Nat.le_refl _, Nat.le_refl _⟩
    ⟨B.returns, B.notSynchronized, rfl, rfl⟩
  have hn' : (lg_sl (av.map (gw_v ρ))).length ≤ nL := by rw [gw_lg_len]; exact hn
  have hl := lv_entry (av.map (gw_v ρ)) hn'
  rw [lg_entry_eq]
  rw [gw_args] at hl
  exact K s.heap [] _ hB.1 (gw_D_self _ hB.2.2) va_S.rf hl
theorem gw_Xin {s U : State} {A : Nat → Prop} {b L : Nat} {xs : Nat → Int32} {H : Heap} {locs : List Loc} (h1 : va_X b L xs s s.heap) (h2 : b < s.heap.size) (h3 : ¬ A b) (hS : va_S A s.heap H locs) (hU : U.heap = H) (hW : s.WarmedH U.vm) : va_X b L xs U U.heap ∧ b < U.heap.size := by
  rw [hU]
  exact ⟨va_X.moved hW.alike (va_X.kept h1 (hS.2.1 b h2 h3)), Nat.lt_of_lt_of_le h2 hS.1⟩
/-- a static method that reads the script -/
theorem g_callX {X : gw_X} {own : String} {cc : ByteArray} {nL d mc ms : Nat} (C : gw_ok X own cc nL d mc ms) {L : Nat} {xs : Nat → Int32} (hX : gw_lx X L xs) {S : gw_S} {k n pc : Nat} {lv : gw_LV} {st rest : List Value} {w : gw_M} {y : MethodName} {cc' : ByteArray} {nL' d' na index : Nat} {ret' : Option FieldType} {As : List Value} {post : Option Value → Prop}
    (M : gw_OkX y cc' nL' ret' d' As L xs post) (My : gw_my y cc' nL' ret' na) (Li : gw_si own index y) (hdd : d' + 1 ≤ d) (hkn : k ≤ mc ∧ n ≤ ms) (hna : As.length = na)
    (hroom : (rest.map fun v => v.category).sum ≤ 8) (hd : decode cc pc = .ok (.invokestatic index, 3)) (hst : st = As.reverse ++ rest)
    (K : ∀ (v : Option Value), post v → gw_G X S nL k n (pc + 3) lv (gw_pu v rest) w) : gw_G X S nL k n pc lv st w := by
  obtain ⟨p, l, e, R, s, m, args, below, meth, c, D, cA, ρ, A, Q⟩ := X
  obtain ⟨hx, hb, hml, hown, hts, hK, hA, hE, hRf, hRl, hRc, hRs⟩ := C
  obtain ⟨h1, h2, h3⟩ := hX
  intro H locs ls hP hD hS hl
  obtain ⟨hc1, hc2, hc3, hc4, hc5, hc6⟩ := My
  obtain ⟨hl1, hl2⟩ := Li
  subst hst
  have hcw : CallB R s args own index y cc' nL' ret' (.code y cc' nL' ret' :: gw_T) (gw_rm d' 0 0) 0 0 na ∧ (Cond.static y).before args s = true :=
    va_cwS na hts (by
      intro z hz
      simp only [va_wsS, List.cons_append, List.nil_append, List.mem_cons] at hz
      rcases hz with rfl | rfl | rfl | rfl | hz
      · exact gw_T_good _ hl1
      · exact gw_T_good _ hl2
      · exact gw_T_good _ hc2
      · exact gw_T_good _ hc1
      · exact gw_T_good _ hz) rfl rfl rfl ⟨hc3, hc4, hc5⟩ ⟨Nat.le_trans hdd hRf, by show 8 + (nL' + 11) + 40 * d' ≤ R.locals; omega⟩
  have hrun := va_runS (H := H) (locs := locs) (cells := k) (slots := n) (e := e) (below := below) (meth := meth) (As := As.map (gw_v ρ)) (rest := rest.map (gw_v ρ)) (g := F0 m pc ls ((As.reverse ++ rest).map (gw_v ρ))) (Ts := gw_T) ⟨hx, hb, hml, hown, hts⟩ (M l D cA ρ H.size (fun _ _ => 0)) hcw
    ⟨gw_blindX _ _ _ _ _ _ _ _, fun U hU hW => ⟨rfl, by rw [hU], ⟨gw_sZ_P, va_K.moved hW.alike hK, gw_sZ_D⟩, gw_Ein0 hA hE hS hU hW, gw_Xin h1 h2 h3 hS hU hW⟩⟩ rfl (by rw [List.length_map]; exact hna) hl.1
    (by show (As.reverse ++ rest).map (gw_v ρ) = _
        rw [List.map_append, List.map_reverse])
    (by rw [gw_cats]; show 2 * 0 + _ ≤ 8; omega) hd ⟨by omega, by omega⟩
  refine gw_cont0 hA hP hD hS hrun (fun v hp H1 locs1 hP1 hD1 hS1 => ?_)
  have e1 := K v hp H1 locs1 ls hP1 hD1 hS1 hl
  have e2 : (gw_pu v rest).map (gw_v ρ) = (v.map (gw_v ρ)).toList ++ rest.map (gw_v ρ) := by
    cases v with
    | none => rfl
    | some z => rfl
  rw [e2] at e1
  exact e1
