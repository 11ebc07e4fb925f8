/-! STRING.INDEXOF over the text of the commands: contracts over no cell at all; the string stands at ρ 0, its bytes at ρ 1 -/
def sZ : gw_S := (0, fun _ => .inl (0, 0, fun j => j))
def cw_st (ρ : Nat → Nat) (A : Nat → Prop) (U : State) (H : Heap) : Prop := vk_S 1 [11] [gw_cmd] (fun _ => ρ 0) (fun _ => ρ 1) A U H
def gw_stX (X : gw_X) : Prop := match X with
  | (p, l, e, R, s, m, args, below, meth, c, D, cA, ρ, A, Q) => cw_st ρ A s s.heap
def gw_PcS (D : va_G) (cA : Nat → ClassId) (ρ : Nat → Nat) (sz : Nat) (av : List Value) (w : gw_M) : Array Value → State → Prop :=
  va_Pc (av.map (gw_v ρ)) (fun U => U.heap.size = sz ∧ gw_B D cA ρ sZ (fun _ => True) w U ∧ gw_E (gw_A ρ 0 sz) U U.heap ∧ cw_st ρ (gw_A ρ 0 sz) U U.heap)
def gw_OkS (y : MethodName) (cc : ByteArray) (nL : Nat) (ret : Option FieldType) (d : Nat) (av : List Value) (post : Option Value → Prop) : Prop :=
  ∀ (l : Launch) (D : va_G) (cA : Nat → ClassId) (ρ : Nat → Nat) (sz : Nat) (w : gw_M), Met l y (.code y cc nL ret :: gw_T) (gw_rm d 0 0) (gw_PcS D cA ρ sz av w) (gw_Q D cA ρ sZ sz (fun v _ => post v)) 0 0 (gw_A ρ 0 sz)
theorem gw_blindS (D : va_G) (cA : Nat → ClassId) (ρ : Nat → Nat) (sz : Nat) (av : List Value) (w : gw_M) : FrameBlind (gw_PcS D cA ρ sz av w) := by
  intro a U g mk q
  obtain ⟨q0, q1, qB, qE, qs⟩ := q
  exact ⟨q0, q1, ⟨qB.1, va_K.moved (u := U) (U := U.calling g mk a) (Vm.Alike.refl U.vm) qB.2.1, qB.2.2⟩, gw_E.same (u := U) (U := U.calling g mk a) rfl qE, vk_S.moved (u := U) (U := U.calling g mk a) (Vm.Alike.refl U.vm) qs⟩
theorem gw_ofS {y : MethodName} {cc : ByteArray} {nL : Nat} {ret : Option FieldType} {d : Nat} {av : List Value} {post : Option Value → Prop} (hy : plainName y.cls = true) (hn : (lg_sl av).length ≤ nL)
    (body : ∀ (X : gw_X) (w : gw_M), gw_stX X → gw_ok X y.cls cc nL d 0 0 → gw_fin X ret sZ (fun v _ => post v) 0 0 → gw_G X sZ nL 0 0 0 (lv_args 0 av) [] w) : gw_OkS y cc nL ret d av post := by
  intro l D cA ρ sz w
  refine Met.ofW (cc := cc) (maxL := nL) (ret := ret) hy rfl ?_
  intro p e s m args below meth c s₁ B hml hv
  obtain ⟨rfl, hsz, hB, hE, hs⟩ := hv
  subst hsz
  have hts := atoms_spec (ws := .code y cc nL ret :: gw_T) B.pre
  have hown : s.vm.findClass y.cls = some m.cls := findClass_of_methodNamed B.named
  have K := body (p, l, e, gw_rm d 0 0, s, m, (av.map (gw_v ρ)).toArray, below, meth, c, D, cA, ρ, gw_A ρ 0 s.heap.size, MQ below (gw_Q D cA ρ sZ s.heap.size (fun v _ => post v)) (av.map (gw_v ρ)).toArray s 0 0 (gw_A ρ 0 s.heap.size)) w hs
    ⟨B.exec, B.bytes, hml, hown, fun w hw => hts w (List.mem_cons_of_mem _ hw), hB.2.1, fun q hq => Or.inr hq, hE, Nat.le_refl _, Nat.le_refl _, Nat.le_refl _, Nat.le_refl _⟩
    ⟨B.returns, B.notSynchronized, rfl, rfl⟩
  have hn' : (lg_sl (av.map (gw_v ρ))).length ≤ nL := by rw [gw_lg_len]; exact hn
  have hl := lv_entry (av.map (gw_v ρ)) hn'
  rw [lg_entry_eq]
  rw [gw_args] at hl
  exact K s.heap [] _ hB.1 (gw_D_self _ hB.2.2) va_S.rf hl
theorem gw_cont0 {p : Program} {l : Launch} {e : Env} {R : Room} {s : State} {m : MethodId} {args : Array Value} {below : List Frame} {meth : Method} {c : Code} {D : va_G} {cA : Nat → ClassId} {ρ π : Nat → Nat} {A : Nat → Prop} {Q : State → Prop}
    {S : gw_S} {k n pc : Nat} {ls : Array Slot} {st rest : List Value} {w : gw_M} {H : Heap} {locs : List Loc} {a : Array Value} {post : Option Value → Prop} (hA : ∀ q : Nat, s.heap.size ≤ q → A q) (hP : va_P D vwCl (gw_W cA ρ S w) H) (hD : va_D A (gw_W cA ρ S w)) (hS : va_S A s.heap H locs)
    (hr : va_Run p l e R s m args below meth c H locs k n 0 0 (F0 m pc ls st) rest (gw_Q D cA π sZ H.size (fun v _ => post v) a) (gw_A π 0 H.size))
    (K : ∀ (v : Option Value), post v → ∀ (H1 : Heap) (locs1 : List Loc), va_P D vwCl (gw_W cA ρ S w) H1 → va_D A (gw_W cA ρ S w) → va_S A s.heap H1 locs1 → W p l e R s m args below meth c H1 locs1 k n Q (F0 m (pc + 3) ls ((v.map (gw_v π)).toList ++ rest))) :
    W p l e R s m args below meth c H locs k n Q (F0 m pc ls st) := by
  intro T hT X
  obtain ⟨v, st₀, t, T', L, h0, X', hL, e1, e2, ⟨⟨v1, w1, hv, hp, hB⟩, hz, hk⟩, st⟩ := hr T hT X
  have hv : v = v1.map (gw_v π) := by injection hv
  subst hv
  rw [h0] at hz hk
  have no : ∀ q, q < H.size → ¬ gw_A π 0 H.size q := by
    rintro q hq (⟨i, hi1, -⟩ | h)
    · exact absurd hi1 (Nat.not_lt_zero _)
    · exact absurd hq (Nat.not_lt.mpr h)
  have hAf : ∀ q, gw_A π 0 H.size q → A q := by
    rintro q (⟨i, hi1, -⟩ | h)
    · exact absurd hi1 (Nat.not_lt_zero _)
    · exact hA q (Nat.le_trans hS.1 h)
  have hP2 : va_P D vwCl (gw_W cA ρ S w) T'.heap := by
    rw [e1]
    intro i q hq
    have e9 := hP i q hq
    exact e9.kept (hk q.1 e9.lt (no _ e9.lt))
  have hS2 : va_S A s.heap T'.heap (locs ++ L) := ⟨Nat.le_trans hS.1 (by rw [e1]; exact hz), fun q h1 h2 => by rw [e1, hk q (Nat.lt_of_lt_of_le h1 hS.1) (no q (Nat.lt_of_lt_of_le h1 hS.1))]; exact hS.2.1 q h1 h2, fun q hq => by
      rcases List.mem_append.mp hq with h | h
      · exact hS.2.2 q h
      · exact hAf _ (hL q h)⟩
  obtain ⟨t2, a1, b1⟩ := K v1 hp T'.heap (locs ++ L) hP2 hD hS2 T' rfl X'
  exact ⟨t2, st t2 a1, b1⟩
theorem gw_sZ_P {D : va_G} {cA : Nat → ClassId} {ρ : Nat → Nat} {w : gw_M} {H : Heap} : va_P D vwCl (gw_W cA ρ sZ w) H := fun k q hk => by
  have e : (gw_W cA ρ sZ w)[k]? = none := rfl
  rw [e] at hk; cases hk
theorem gw_sZ_D {A : Nat → Prop} {cA : Nat → ClassId} {ρ : Nat → Nat} {w : gw_M} : va_D A (gw_W cA ρ sZ w) := by
  refine ⟨fun i j p q hi hj he => ?_, fun k q hk => ?_⟩
  · have e : (gw_W cA ρ sZ w)[i]? = none := rfl
    rw [e] at hi; cases hi
  · have e : (gw_W cA ρ sZ w)[k]? = none := rfl
    rw [e] at hk; cases hk
theorem gw_sin {s U : State} {A : Nat → Prop} {π : Nat → Nat} {H : Heap} {locs : List Loc} (hA : ∀ q : Nat, s.heap.size ≤ q → A q) (hs : cw_st π A s s.heap) (hS : va_S A s.heap H locs) (hU : U.heap = H) (hW : s.WarmedH U.vm) : cw_st π (gw_A π 0 H.size) U U.heap := by
  rw [hU]
  refine ((vk_S.moved hW.alike (vk_S.kept hs (fun a h1 h2 => hS.2.1 a h1 h2)))).narrow ?_
  rintro q (⟨i, hi, -⟩ | h)
  · exact absurd hi (Nat.not_lt_zero _)
  · exact hA q (Nat.le_trans hS.1 h)
theorem gw_Ein0 {s U : State} {A : Nat → Prop} {π : Nat → Nat} {H : Heap} {locs : List Loc} (hA : ∀ q : Nat, s.heap.size ≤ q → A q) (hE : gw_E A s s.heap) (hS : va_S A s.heap H locs) (hU : U.heap = H) (hW : s.WarmedH U.vm) : gw_E (gw_A π 0 H.size) U U.heap := by
  rw [hU]
  refine ((hE.kept (fun a h1 h2 => hS.2.1 a h1 h2)).warm hW).narrow ?_
  rintro q (⟨i, hi, -⟩ | h)
  · exact absurd hi (Nat.not_lt_zero _)
  · exact hA q (Nat.le_trans hS.1 h)
/-- a static method of the JDK over the string -/
theorem g_scallS {X : gw_X} {own : String} {cc : ByteArray} {nL d mc ms : Nat} (C : gw_ok X own cc nL d mc ms) (hs : gw_stX X) {S : gw_S} {k n pc : Nat} {lv : gw_LV} {st rest : List Value} {w : gw_M} {y : MethodName} {cc' : ByteArray} {nL' d' na index : Nat} {ret' : Option FieldType} {As : List Value} {post : Option Value → Prop}
    (M : gw_OkS y cc' nL' ret' d' As post) (My : gw_my y cc' nL' ret' na) (L : gw_si own index y) (hdd : d' + 1 ≤ d) (hkn : k ≤ mc ∧ n ≤ ms) (hna : As.length = na)
    (hroom : (rest.map fun v => v.category).sum ≤ 8) (hd : decode cc pc = .ok (.invokestatic index, 3)) (hst : st = As.reverse ++ rest)
    (K : ∀ (v : Option Value), post v → gw_G X S nL k n (pc + 3) lv (gw_pu v rest) w) : gw_G X S nL k n pc lv st w := by
  obtain ⟨p, l, e, R, s, m, args, below, meth, c, D, cA, ρ, A, Q⟩ := X
  obtain ⟨hx, hb, hml, hown, hts, hK, hA, hE, hRf, hRl, hRc, hRs⟩ := C
  intro H locs ls hP hD hS hl
  obtain ⟨hc1, hc2, hc3, hc4, hc5, hc6⟩ := My
  obtain ⟨hl1, hl2⟩ := L
  subst hst
  have hcw : CallB R s args own index y cc' nL' ret' (.code y cc' nL' ret' :: gw_T) (gw_rm d' 0 0) 0 0 na ∧ (Cond.static y).before args s = true :=
    va_cwS na hts (by
      intro z hz
      simp only [va_wsS, List.cons_append, List.nil_append, List.mem_cons] at hz
      rcases hz with rfl | rfl | rfl | rfl | hz
      · exact gw_T_good _ hl1
      · exact gw_T_good _ hl2
      · exact gw_T_good _ hc2
      · exact gw_T_good _ hc1
      · exact gw_T_good _ hz) rfl rfl rfl ⟨hc3, hc4, hc5⟩ ⟨Nat.le_trans hdd hRf, by show 8 + (nL' + 11) + 40 * d' ≤ R.locals; omega⟩
  have hrun := va_runS (H := H) (locs := locs) (cells := k) (slots := n) (e := e) (below := below) (meth := meth) (As := As.map (gw_v ρ)) (rest := rest.map (gw_v ρ)) (g := F0 m pc ls ((As.reverse ++ rest).map (gw_v ρ))) (Ts := gw_T) ⟨hx, hb, hml, hown, hts⟩ (M l D cA ρ H.size (fun _ _ => 0)) hcw
    ⟨gw_blindS _ _ _ _ _ _, fun U hU hW => ⟨rfl, by rw [hU], ⟨gw_sZ_P, va_K.moved hW.alike hK, gw_sZ_D⟩, gw_Ein0 hA hE hS hU hW, gw_sin hA hs hS hU hW⟩⟩ rfl (by rw [List.length_map]; exact hna) hl.1
    (by show (As.reverse ++ rest).map (gw_v ρ) = _
        rw [List.map_append, List.map_reverse])
    (by rw [gw_cats]; show 2 * 0 + _ ≤ 8; omega) hd ⟨by omega, by omega⟩
  refine gw_cont0 hA hP hD hS hrun (fun v hp H1 locs1 hP1 hD1 hS1 => ?_)
  have e1 := K v hp H1 locs1 ls hP1 hD1 hS1 hl
  have e2 : (gw_pu v rest).map (gw_v ρ) = (v.map (gw_v ρ)).toList ++ rest.map (gw_v ρ) := by
    cases v with
    | none => rfl
    | some z => rfl
  rw [e2] at e1
  exact e1
/-- an instance method of the string -/
theorem gw_scallV {p : Program} {l : Launch} {e : Env} {R : Room} {s : State} {m : MethodId} {args : Array Value} {below : List Frame} {meth : Method} {c : Code} {D : va_G} {cA : Nat → ClassId} {ρ π : Nat → Nat} {A : Nat → Prop} {Q : State → Prop} {own : String} {cc : ByteArray} {nL d mc ms : Nat}
    (C : gw_ok (p, l, e, R, s, m, args, below, meth, c, D, cA, ρ, A, Q) own cc nL d mc ms) (hs : cw_st π A s s.heap) {S : gw_S} {k n pc : Nat} {rest : List Value} {w : gw_M} {y : MethodName} {cc' : ByteArray} {nL' d' na index : Nat} {ret' : Option FieldType} {As : List Value} {post : Option Value → Prop}
    (M : gw_OkS y cc' nL' ret' d' (.ref 0 :: As) post) (My : gw_my y cc' nL' ret' na) (L : gw_vi own index y) (hcl : y.cls = "java/lang/String") (hdd : d' + 1 ≤ d) (hkn : k ≤ mc ∧ n ≤ ms) (hna : As.length = na)
    (hroom : (rest.map fun v => v.category).sum ≤ 8) (hd : decode cc pc = .ok (.invokevirtual index, 3)) {H : Heap} {locs : List Loc} {ls : Array Slot} (hP : va_P D vwCl (gw_W cA ρ S w) H) (hD : va_D A (gw_W cA ρ S w)) (hS : va_S A s.heap H locs) (hl : ls.size = nL)
    (K : ∀ (v : Option Value), post v → ∀ (H1 : Heap) (locs1 : List Loc), va_P D vwCl (gw_W cA ρ S w) H1 → va_D A (gw_W cA ρ S w) → va_S A s.heap H1 locs1 → W p l e R s m args below meth c H1 locs1 k n Q (F0 m (pc + 3) ls ((v.map (gw_v π)).toList ++ rest))) :
    W p l e R s m args below meth c H locs k n Q (F0 m pc ls ((As.map (gw_v π)).reverse ++ .ref (π 0) :: rest)) := by
  obtain ⟨hx, hb, hml, hown, hts, hK, hA, hE, hRf, hRl, hRc, hRs⟩ := C
  obtain ⟨hc1, hc2, hc3, hc4, hc5, hc6⟩ := My
  obtain ⟨hl1, hl2, hl3⟩ := L
  have hcw : CallW R s args own y.cls index y cc' nL' ret' (.code y cc' nL' ret' :: gw_T) (gw_rm d' 0 0) 0 0 na :=
    cwV na hts (by
      intro z hz
      simp only [wsV, List.cons_append, List.nil_append, List.mem_cons] at hz
      rcases hz with rfl | rfl | rfl | rfl | rfl | hz
      · exact gw_T_good _ hl1
      · exact gw_T_good _ hl2
      · exact gw_T_good _ hl3
      · exact gw_T_good _ hc2
      · exact gw_T_good _ hc1
      · exact gw_T_good _ hz) rfl rfl rfl ⟨rfl, hc3, hc4, hc5⟩ ⟨Nat.le_trans hdd hRf, by show 8 + (nL' + 11) + 40 * d' ≤ R.locals; omega⟩
  have hrun := va_runV (H := H) (locs := locs) (cells := k) (slots := n) (e := e) (below := below) (meth := meth) (b := π 0) (As := As.map (gw_v π)) (rest := rest) (g := F0 m pc ls ((As.map (gw_v π)).reverse ++ .ref (π 0) :: rest)) (Ts := gw_T) ⟨hx, hb, hml, hown, hts⟩ (M l D cA π H.size (fun _ _ => 0)) hcw
    ⟨gw_blindS _ _ _ _ _ _, by rw [hcl]; exact vk_recv (N := 1) (len := [11]) (byt := [gw_cmd]) (adK := fun _ => π 0) (adV := fun _ => π 1) (i := 0) hs (by decide) hS, fun U hU hW => ⟨rfl, by rw [hU], ⟨gw_sZ_P, va_K.moved hW.alike hK, gw_sZ_D⟩, gw_Ein0 hA hE hS hU hW, gw_sin hA hs hS hU hW⟩⟩ rfl (by rw [List.length_map]; exact hna) hl
    rfl (by show 2 * 0 + _ ≤ 8; omega) hd ⟨by omega, by omega⟩
  exact gw_cont0 hA hP hD hS hrun K
theorem g_scallV {X : gw_X} {own : String} {cc : ByteArray} {nL d mc ms : Nat} (C : gw_ok X own cc nL d mc ms) (hs : gw_stX X) {S : gw_S} {k n pc : Nat} {lv : gw_LV} {st rest : List Value} {w : gw_M} {y : MethodName} {cc' : ByteArray} {nL' d' na index : Nat} {ret' : Option FieldType} {As : List Value} {post : Option Value → Prop}
    (M : gw_OkS y cc' nL' ret' d' (.ref 0 :: As) post) (My : gw_my y cc' nL' ret' na) (L : gw_vi own index y) (hcl : y.cls = "java/lang/String") (hdd : d' + 1 ≤ d) (hkn : k ≤ mc ∧ n ≤ ms) (hna : As.length = na)
    (hroom : (rest.map fun v => v.category).sum ≤ 8) (hd : decode cc pc = .ok (.invokevirtual index, 3)) (hst : st = As.reverse ++ .ref 0 :: rest)
    (K : ∀ (v : Option Value), post v → gw_G X S nL k n (pc + 3) lv (gw_pu v rest) w) : gw_G X S nL k n pc lv st w := by
  obtain ⟨p, l, e, R, s, m, args, below, meth, c, D, cA, ρ, A, Q⟩ := X
  intro H locs ls hP hD hS hl
  subst hst
  rw [show (As.reverse ++ .ref 0 :: rest).map (gw_v ρ) = (As.map (gw_v ρ)).reverse ++ .ref (ρ 0) :: rest.map (gw_v ρ) by rw [List.map_append, List.map_reverse]; rfl]
  refine gw_scallV C hs M My L hcl hdd hkn hna (by rw [gw_cats]; exact hroom) hd hP hD hS hl.1 (fun v hp H1 locs1 hP1 hD1 hS1 => ?_)
  have e1 := K v hp H1 locs1 ls hP1 hD1 hS1 hl
  have e2 : (gw_pu v rest).map (gw_v ρ) = (v.map (gw_v ρ)).toList ++ rest.map (gw_v ρ) := by
    cases v with
    | none => rfl
    | some z => rfl
  rw [e2] at e1
  exact e1
/-! rows over the string -/
theorem g_svalue {X : gw_X} {own : String} {cc : ByteArray} {nL d mc ms : Nat} (C : gw_ok X own cc nL d mc ms) (hs : gw_stX X) {S : gw_S} {k n pc : Nat} {lv : gw_LV} {st : List Value} {w : gw_M} {index : Nat} (hlk : (Cond.fieldLink own index "java/lang/String" "value" "[B") ∈ gw_T) (hd : decode cc pc = .ok (.getfield index, 3)) (K : gw_G X S nL k n (pc + 3) lv (.ref 1 :: st) w) : gw_G X S nL k n pc lv (.ref 0 :: st) w := by
  obtain ⟨p, l, e, R, s, m, args, below, meth, c, D, cA, ρ, A, Q⟩ := X
  obtain ⟨hx, hb, hml, hown, hts, hK, hA, hE, hRf, hRl, hRc, hRs⟩ := C
  intro H locs ls hP hD hS hl
  exact vk_getf hx hb (hs.1 0 (by decide)).2.2.1 hS hown (hts _ hlk) (fun _ h => h) hd (K H locs ls hP hD hS hl)
theorem g_scoder {X : gw_X} {own : String} {cc : ByteArray} {nL d mc ms : Nat} (C : gw_ok X own cc nL d mc ms) (hs : gw_stX X) {S : gw_S} {k n pc : Nat} {lv : gw_LV} {st : List Value} {w : gw_M} {index : Nat} (hlk : (Cond.fieldLink own index "java/lang/String" "coder" "B") ∈ gw_T) (hd : decode cc pc = .ok (.getfield index, 3)) (K : gw_G X S nL k n (pc + 3) lv (.int 0 :: st) w) : gw_G X S nL k n pc lv (.ref 0 :: st) w := by
  obtain ⟨p, l, e, R, s, m, args, below, meth, c, D, cA, ρ, A, Q⟩ := X
  obtain ⟨hx, hb, hml, hown, hts, hK, hA, hE, hRf, hRl, hRc, hRs⟩ := C
  intro H locs ls hP hD hS hl
  exact vk_getf hx hb (hs.1 0 (by decide)).2.1 hS hown (hts _ hlk) (fun _ h => h) hd (K H locs ls hP hD hS hl)
theorem g_scompact {X : gw_X} {own : String} {cc : ByteArray} {nL d mc ms : Nat} (C : gw_ok X own cc nL d mc ms) {S : gw_S} {k n pc : Nat} {lv : gw_LV} {st : List Value} {w : gw_M} {index : Nat} (hlk : (Cond.fieldLink own index "java/lang/String" "COMPACT_STRINGS" "Z") ∈ gw_T) (hd : decode cc pc = .ok (.getstatic index, 3)) (K : gw_G X S nL k n (pc + 3) lv (.int 1 :: st) w) : gw_G X S nL k n pc lv st w := by
  obtain ⟨p, l, e, R, s, m, args, below, meth, c, D, cA, ρ, A, Q⟩ := X
  obtain ⟨hx, hb, hml, hown, hts, hK, hA, hE, hRf, hRl, hRc, hRs⟩ := C
  intro H locs ls hP hD hS hl
  obtain ⟨-, -, -, -, -, -, -, a, v, -, -, hz⟩ := hE
  exact va_gets hx hb hz hS hown (hts _ hlk) (fun _ h => h) hd (K H locs ls hP hD hS hl)
theorem g_sbyte {X : gw_X} {own : String} {cc : ByteArray} {nL d mc ms : Nat} (C : gw_ok X own cc nL d mc ms) (hs : gw_stX X) {S : gw_S} {k n pc j : Nat} {lv : gw_LV} {st : List Value} {w : gw_M} (hj : j < 11) (hd : decode cc pc = .ok (.baload, 1)) (K : gw_G X S nL k n (pc + 1) lv (.int (gw_cmd.getD j 0) :: st) w) : gw_G X S nL k n pc lv (.int (nI j) :: .ref 1 :: st) w := by
  obtain ⟨p, l, e, R, s, m, args, below, meth, c, D, cA, ρ, A, Q⟩ := X
  obtain ⟨hx, hb, hml, hown, hts, hK, hA, hE, hRf, hRl, hRc, hRs⟩ := C
  intro H locs ls hP hD hS hl
  refine va_tb hx hb (hs.1 0 (by decide)).2.2.2 hS (vp_in_nI (show j < [11].getD 0 0 from hj) (by decide)) (v := .int (gw_cmd.getD j 0)) ?_ hd (K H locs ls hP hD hS hl)
  rw [nI_clamp (by omega)]
  rfl
theorem g_slen {X : gw_X} {own : String} {cc : ByteArray} {nL d mc ms : Nat} (C : gw_ok X own cc nL d mc ms) (hs : gw_stX X) {S : gw_S} {k n pc : Nat} {lv : gw_LV} {st : List Value} {w : gw_M} (hd : decode cc pc = .ok (.arraylength, 1)) (K : gw_G X S nL k n (pc + 1) lv (.int 11 :: st) w) : gw_G X S nL k n pc lv (.ref 1 :: st) w := by
  obtain ⟨p, l, e, R, s, m, args, below, meth, c, D, cA, ρ, A, Q⟩ := X
  obtain ⟨hx, hb, hml, hown, hts, hK, hA, hE, hRf, hRl, hRc, hRs⟩ := C
  intro H locs ls hP hD hS hl
  exact va_tlen hx hb (hs.1 0 (by decide)).2.2.2 hS (v := 11) rfl hd (K H locs ls hP hD hS hl)
theorem g_i2b {X : gw_X} {own : String} {cc : ByteArray} {nL d mc ms : Nat} (C : gw_ok X own cc nL d mc ms) {S : gw_S} {k n pc : Nat} {lv : gw_LV} {st : List Value} {w : gw_M} {x v : Int32} (hv : x.toInt8.toInt32 = v) (hd : decode cc pc = .ok (.i2b, 1)) (K : gw_G X S nL k n (pc + 1) lv (.int v :: st) w) : gw_G X S nL k n pc lv (.int x :: st) w := by
  obtain ⟨p, l, e, R, s, m, args, below, meth, c, D, cA, ρ, A, Q⟩ := X
  obtain ⟨hx, hb, hml, hown, hts, hK, hA, hE, hRf, hRl, hRc, hRs⟩ := C
  intro H locs ls hP hD hS hl
  exact lv_i2b hx hb hd hv (K H locs ls hP hD hS hl)
theorem g_iushr {X : gw_X} {own : String} {cc : ByteArray} {nL d mc ms : Nat} (C : gw_ok X own cc nL d mc ms) {S : gw_S} {k n pc : Nat} {lv : gw_LV} {st : List Value} {w : gw_M} {x y : Int32} (hd : decode cc pc = .ok (.iushr, 1)) (K : gw_G X S nL k n (pc + 1) lv (.int (x.toUInt32 >>> (y.toUInt32 &&& Int32.toUInt32 31)).toInt32 :: st) w) : gw_G X S nL k n pc lv (.int y :: .int x :: st) w := by
  obtain ⟨p, l, e, R, s, m, args, below, meth, c, D, cA, ρ, A, Q⟩ := X
  obtain ⟨hx, hb, hml, hown, hts, hK, hA, hE, hRf, hRl, hRc, hRs⟩ := C
  intro H locs ls hP hD hS hl
  exact lv_iushr hx hb hd rfl (K H locs ls hP hD hS hl)
def gw_mn (own : String) (index : Nat) : Prop := (Cond.methodLink own index Lib.Math.min.name) ∈ gw_T ∧ (Cond.static Lib.Math.min.name) ∈ gw_T ∧ (Cond.initialized "java/lang/Math") ∈ gw_T ∧ (Cond.code Lib.Math.min.name Lib.Math.min.code 2 (some .int)) ∈ gw_T
theorem g_mmin {X : gw_X} {own : String} {cc : ByteArray} {nL d mc ms : Nat} (C : gw_ok X own cc nL d mc ms) {S : gw_S} {k n pc : Nat} {lv : gw_LV} {st : List Value} {w : gw_M} {index : Nat} {x y : Int32} (M : gw_mn own index) (hdm : 1 ≤ d ∧ k ≤ mc ∧ n ≤ ms ∧ (st.map fun v => v.category).sum ≤ 8) (hd : decode cc pc = .ok (.invokestatic index, 3)) (K : gw_G X S nL k n (pc + 3) lv (.int (if y < x then y else x) :: st) w) : gw_G X S nL k n pc lv (.int y :: .int x :: st) w := by
  obtain ⟨p, l, e, R, s, m, args, below, meth, c, D, cA, ρ, A, Q⟩ := X
  obtain ⟨hx, hb, hml, hown, hts, hK, hA, hE, hRf, hRl, hRc, hRs⟩ := C
  intro H locs ls hP hD hS hl
  obtain ⟨m1, m2, m3, m4⟩ := M
  obtain ⟨h1, h2, h3, h4⟩ := hdm
  exact va_mmin hx hb (hml.trans hl.1.symm) hown (hts _ m1) (hts _ m2) (hts _ m3) (hts _ m4) (by omega) (by rw [gw_cats]; omega) (by omega) (by omega) hd (K H locs ls hP hD hS hl)
/-! links -/

theorem mx_J1_92 : gw_mx RJ1 92 := ⟨gw_T_at 257 (by decide +kernel) rfl, gw_T_at 258 (by decide +kernel) rfl, gw_T_at 16 (by decide +kernel) rfl, gw_T_at 259 (by decide +kernel) rfl⟩

theorem mn_J1_38 : gw_mn RJ1 38 := ⟨gw_T_at 260 (by decide +kernel) rfl, gw_T_at 261 (by decide +kernel) rfl, gw_T_at 16 (by decide +kernel) rfl, gw_T_at 262 (by decide +kernel) rfl⟩

theorem my_J0_length_8abf5 : gw_my yJ0_length_8abf5 cJ0_length_8abf5 1 (some .int) 0 := ⟨gw_T_at 246 (by decide +kernel) rfl, gw_T_at 14 (by decide +kernel) rfl, by decide +kernel, by decide +kernel, by decide +kernel, by decide⟩

theorem my_J0_coder_7d493 : gw_my yJ0_coder_7d493 cJ0_coder_7d493 1 (some .byte) 0 := ⟨gw_T_at 250 (by decide +kernel) rfl, gw_T_at 14 (by decide +kernel) rfl, by decide +kernel, by decide +kernel, by decide +kernel, by decide⟩

theorem my_J1_indexOfChar_4cfef : gw_my yJ1_indexOfChar_4cfef cJ1_indexOfChar_4cfef 6 (some .int) 4 := ⟨gw_T_at 265 (by decide +kernel) rfl, gw_T_at 15 (by decide +kernel) rfl, by decide +kernel, by decide +kernel, by decide +kernel, by decide⟩

theorem vi_J0_505 : gw_vi RJ0 505 yJ0_length_8abf5 := ⟨gw_T_at 243 (by decide +kernel) rfl, gw_T_at 244 (by decide +kernel) rfl, gw_T_at 245 (by decide +kernel) rfl⟩

theorem vi_J0_335 : gw_vi RJ0 335 yJ0_coder_7d493 := ⟨gw_T_at 247 (by decide +kernel) rfl, gw_T_at 248 (by decide +kernel) rfl, gw_T_at 249 (by decide +kernel) rfl⟩

theorem si_J1_95 : gw_si RJ1 95 yJ1_indexOfChar_4cfef := ⟨gw_T_at 263 (by decide +kernel) rfl, gw_T_at 264 (by decide +kernel) rfl⟩

theorem fj_9 : Cond.fieldLink "java/lang/String" 9 "java/lang/String" "value" "[B" ∈ gw_T := gw_T_at 1409 (by decide +kernel) rfl

theorem fj_15 : Cond.fieldLink "java/lang/String" 15 "java/lang/String" "coder" "B" ∈ gw_T := gw_T_at 1408 (by decide +kernel) rfl

theorem fj_38 : Cond.fieldLink "java/lang/String" 38 "java/lang/String" "COMPACT_STRINGS" "Z" ∈ gw_T := gw_T_at 241 (by decide +kernel) rfl

set_option maxHeartbeats 8000000 in
set_option maxRecDepth 100000 in
theorem ok_J0_isLatin1_aae02 : gw_OkS yJ0_isLatin1_aae02 cJ0_isLatin1_aae02 1 (some .boolean) 1 [.ref 0] (fun v => v = some (.int 1)) := by
  refine gw_ofS (by decide) (Nat.le_of_ble_eq_true rfl) ?_
  intro X w hs C F
  refine g_scompact C fj_38 dJ0_isLatin1_aae02_0 ?_
  refine g_if_eq (tgt := 17) C (by decide) dJ0_isLatin1_aae02_3 (fun z => absurd z (by decide)) (fun _ => ?_)
  refine g_aload_n C rfl dJ0_isLatin1_aae02_6 ?_
  refine g_scoder C hs fj_15 dJ0_isLatin1_aae02_7 ?_
  refine g_if_ne (tgt := 17) C (by decide) dJ0_isLatin1_aae02_10 (fun z => absurd rfl z) (fun _ => ?_)
  refine g_iconst (v := 1) C (by decide) dJ0_isLatin1_aae02_13 ?_
  refine g_goto (tgt := 18) C (by decide) dJ0_isLatin1_aae02_14 ?_
  refine g_zret C F (by decide) dJ0_isLatin1_aae02_18 ?_
  rfl

set_option maxHeartbeats 8000000 in
set_option maxRecDepth 100000 in
theorem ok_J0_coder_7d493 : gw_OkS yJ0_coder_7d493 cJ0_coder_7d493 1 (some .byte) 1 [.ref 0] (fun v => v = some (.int 0)) := by
  refine gw_ofS (by decide) (Nat.le_of_ble_eq_true rfl) ?_
  intro X w hs C F
  refine g_scompact C fj_38 dJ0_coder_7d493_0 ?_
  refine g_if_eq (tgt := 13) C (by decide) dJ0_coder_7d493_3 (fun z => absurd z (by decide)) (fun _ => ?_)
  refine g_aload_n C rfl dJ0_coder_7d493_6 ?_
  refine g_scoder C hs fj_15 dJ0_coder_7d493_7 ?_
  refine g_goto (tgt := 14) C (by decide) dJ0_coder_7d493_10 ?_
  refine g_zret C F (by decide) dJ0_coder_7d493_14 ?_
  rfl

set_option maxHeartbeats 8000000 in
set_option maxRecDepth 100000 in
theorem ok_J0_length_8abf5 : gw_OkS yJ0_length_8abf5 cJ0_length_8abf5 1 (some .int) 2 [.ref 0] (fun v => v = some (.int 11)) := by
  refine gw_ofS (by decide) (Nat.le_of_ble_eq_true rfl) ?_
  intro X w hs C F
  refine g_aload_n C rfl dJ0_length_8abf5_0 ?_
  refine g_svalue C hs fj_9 dJ0_length_8abf5_1 ?_
  refine g_slen C hs dJ0_length_8abf5_4 ?_
  refine g_aload_n C rfl dJ0_length_8abf5_5 ?_
  refine g_scallV C hs ok_J0_coder_7d493 my_J0_coder_7d493 vi_J0_335 rfl (by decide) ⟨Nat.le_refl _, Nat.le_refl _⟩ rfl (Nat.le_of_ble_eq_true rfl) dJ0_length_8abf5_6 rfl (fun v hv => ?_)
  subst hv
  refine g_ishr C dJ0_length_8abf5_9 ?_
  refine g_iret C F dJ0_length_8abf5_10 ?_
  decide

set_option maxHeartbeats 8000000 in
set_option maxRecDepth 100000 in
theorem ok_J1_canEncode_9a6ad (k : Nat) (hk : k < 256) : gw_OkS yJ1_canEncode_9a6ad cJ1_canEncode_9a6ad 1 (some .boolean) 1 [.int (nI k)] (fun v => v = some (.int 1)) := by
  refine gw_ofS (by decide) (Nat.le_of_ble_eq_true rfl) ?_
  intro X w hs C F
  refine g_iload_n C rfl dJ1_canEncode_9a6ad_0 ?_
  refine g_if_lt (tgt := 15) C (by decide) dJ1_canEncode_9a6ad_1 (fun z => absurd z (nI_pos (by omega))) (fun _ => ?_)
  refine g_iload_n C rfl dJ1_canEncode_9a6ad_4 ?_
  refine g_sipush (v := 255) C (by decide) dJ1_canEncode_9a6ad_5 ?_
  refine g_cmp_gt (tgt := 15) C (by decide) dJ1_canEncode_9a6ad_8 (fun z => absurd z (nI_nlt (a := 255) (by omega) (by omega))) (fun _ => ?_)
  refine g_iconst (v := 1) C (by decide) dJ1_canEncode_9a6ad_11 ?_
  refine g_goto (tgt := 16) C (by decide) dJ1_canEncode_9a6ad_12 ?_
  refine g_zret C F (by decide) dJ1_canEncode_9a6ad_16 ?_
  rfl

theorem cw_okst_b : ∀ (k : Fin 256) (j : Fin 11), gw_cmd.getD j.val 0 = (nI k.val).toInt8.toInt32 ↔ gw_cmd.getD j.val 0 = nI k.val := by decide +kernel
def cw_ixp (k : Nat) (v : Option Value) : Prop := ∃ r : Int32, v = some (.int r) ∧ (r < 0 ↔ ¬ ∃ j, j < 11 ∧ gw_cmd.getD j 0 = nI k)

set_option maxHeartbeats 8000000 in
set_option maxRecDepth 100000 in
theorem ok_J1_indexOfChar_4cfef (k : Nat) (hk : k < 256) : gw_OkS yJ1_indexOfChar_4cfef cJ1_indexOfChar_4cfef 6 (some .int) 1 [.ref 1, .int (nI k), .int 0, .int 11] (cw_ixp k) := by
  refine gw_ofS (by decide) (Nat.le_of_ble_eq_true rfl) ?_
  intro X w hs C F
  refine g_iload_n C rfl dJ1_indexOfChar_4cfef_0 ?_
  refine g_i2b (v := (nI k).toInt8.toInt32) C rfl dJ1_indexOfChar_4cfef_1 ?_
  refine g_istore C (by decide) dJ1_indexOfChar_4cfef_2 ?_
  refine g_iload_n C rfl dJ1_indexOfChar_4cfef_4 ?_
  refine g_istore C (by decide) dJ1_indexOfChar_4cfef_5 ?_
  refine g_sub rfl (g_for (α := Unit) 11 (fun i1 x1 => [(0, .ref 1), (1, .int (nI k)), (2, .int 0), (3, .int 11), (4, .int (nI k).toInt8.toInt32), (5, .int (nI i1))]) (fun i1 x1 w1 => ∀ j, j < i1 → ¬ gw_cmd.getD j 0 = nI k) 0 () _ (Nat.zero_le _) (fun j hj => absurd hj (Nat.not_lt_zero _)) (fun i1 x1 w1 hi1 hR1 ih1 => ?_) (fun x1 w1 hR1 => ?_))
  · refine g_iload C rfl dJ1_indexOfChar_4cfef_7 ?_
    refine g_iload_n C rfl dJ1_indexOfChar_4cfef_9 ?_
    refine g_cmp_ge (tgt := 31) C (by decide) dJ1_indexOfChar_4cfef_10 (fun c_7 => absurd c_7 (nI_ge (a := i1) (b := 11) hi1 (by decide))) (fun c_7 => ?_)
    refine g_aload_n C rfl dJ1_indexOfChar_4cfef_13 ?_
    refine g_iload C rfl dJ1_indexOfChar_4cfef_14 ?_
    refine g_sbyte C hs hi1 dJ1_indexOfChar_4cfef_16 ?_
    refine g_iload C rfl dJ1_indexOfChar_4cfef_17 ?_
    refine g_cmp_ne (tgt := 25) C (by decide) dJ1_indexOfChar_4cfef_19 (fun c_9 => ?_) (fun c_9 => ?_)
    · refine g_iinc (v := nI (i1 + 1)) C rfl (nI_1 i1) (by decide) dJ1_indexOfChar_4cfef_25 ?_
      refine g_goto (tgt := 7) C (by decide) dJ1_indexOfChar_4cfef_28 ?_
      exact g_sub rfl (ih1 () _ (fun j hj => by
        rcases Nat.lt_or_ge j i1 with q | q
        · exact hR1 j q
        · obtain rfl : j = i1 := by omega
          exact fun z => c_9 ((cw_okst_b ⟨k, hk⟩ ⟨j, hi1⟩).mpr z)))
    · refine g_iload C rfl dJ1_indexOfChar_4cfef_22 ?_
      refine g_iret C F dJ1_indexOfChar_4cfef_24 ?_
      have c9 := (cw_okst_b ⟨k, hk⟩ ⟨i1, hi1⟩).mp c_9
      exact ⟨nI i1, rfl, fun q => absurd q (nI_pos (by omega)), fun q => absurd ⟨i1, hi1, c9⟩ q⟩
  refine g_iload C rfl dJ1_indexOfChar_4cfef_7 ?_
  refine g_iload_n C rfl dJ1_indexOfChar_4cfef_9 ?_
  refine g_cmp_ge (tgt := 31) C (by decide) dJ1_indexOfChar_4cfef_10 (fun c_7 => ?_) (fun c_7 => absurd (nI_le (Nat.le_refl 11) (by decide)) c_7)
  refine g_iconst (v := (-1)) C (by decide) dJ1_indexOfChar_4cfef_31 ?_
  refine g_iret C F dJ1_indexOfChar_4cfef_32 ?_
  exact ⟨-1, rfl, fun _ => fun ⟨j, h1, h2⟩ => hR1 j h1 h2, fun _ => by decide⟩

set_option maxHeartbeats 8000000 in
set_option maxRecDepth 100000 in
theorem ok_J1_indexOf_4cfef (k : Nat) (hk : k < 256) : gw_OkS yJ1_indexOf_4cfef cJ1_indexOf_4cfef 4 (some .int) 2 [.ref 1, .int (nI k), .int 0, .int 11] (cw_ixp k) := by
  refine gw_ofS (by decide) (Nat.le_of_ble_eq_true rfl) ?_
  intro X w hs C F
  refine g_iload_n C rfl dJ1_indexOf_4cfef_0 ?_
  refine g_scallS C hs (ok_J1_canEncode_9a6ad k hk) my_J1_canEncode_9a6ad si_J1_88 (by decide) ⟨Nat.le_refl _, Nat.le_refl _⟩ rfl (Nat.le_of_ble_eq_true rfl) dJ1_indexOf_4cfef_1 rfl (fun v hv => ?_)
  subst hv
  refine g_if_ne (tgt := 9) C (by decide) dJ1_indexOf_4cfef_4 (fun _ => ?_) (fun z => absurd z (by decide))
  refine g_iload_n C rfl dJ1_indexOf_4cfef_9 ?_
  refine g_iconst (v := 0) C (by decide) dJ1_indexOf_4cfef_10 ?_
  refine g_mmax C mx_J1_92 ⟨by decide, Nat.le_refl _, Nat.le_refl _, Nat.le_of_ble_eq_true rfl⟩ dJ1_indexOf_4cfef_11 ?_
  refine g_top (show _ = 0 by decide) ?_
  refine g_istore_n C (by decide) dJ1_indexOf_4cfef_14 ?_
  refine g_iload_n C rfl dJ1_indexOf_4cfef_15 ?_
  refine g_aload_n C rfl dJ1_indexOf_4cfef_16 ?_
  refine g_slen C hs dJ1_indexOf_4cfef_17 ?_
  refine g_mmin C mn_J1_38 ⟨by decide, Nat.le_refl _, Nat.le_refl _, Nat.le_of_ble_eq_true rfl⟩ dJ1_indexOf_4cfef_18 ?_
  refine g_top (show _ = 11 by decide) ?_
  refine g_istore_n C (by decide) dJ1_indexOf_4cfef_21 ?_
  refine g_iload_n C rfl dJ1_indexOf_4cfef_22 ?_
  refine g_iload_n C rfl dJ1_indexOf_4cfef_23 ?_
  refine g_cmp_lt (tgt := 29) C (by decide) dJ1_indexOf_4cfef_24 (fun _ => ?_) (fun z => absurd (by decide) z)
  refine g_aload_n C rfl dJ1_indexOf_4cfef_29 ?_
  refine g_iload_n C rfl dJ1_indexOf_4cfef_30 ?_
  refine g_iload_n C rfl dJ1_indexOf_4cfef_31 ?_
  refine g_iload_n C rfl dJ1_indexOf_4cfef_32 ?_
  refine g_scallS C hs (ok_J1_indexOfChar_4cfef k hk) my_J1_indexOfChar_4cfef si_J1_95 (by decide) ⟨Nat.le_refl _, Nat.le_refl _⟩ rfl (Nat.le_of_ble_eq_true rfl) dJ1_indexOf_4cfef_33 rfl (fun v hv => ?_)
  obtain ⟨r, rfl, hr⟩ := hv
  refine g_iret C F dJ1_indexOf_4cfef_36 ?_
  exact ⟨r, rfl, hr⟩

set_option maxHeartbeats 8000000 in
set_option maxRecDepth 100000 in
theorem ok_J0_indexOf_7cf53 (k : Nat) (hk : k < 256) : gw_OkS yJ0_indexOf_7cf53 cJ0_indexOf_7cf53 3 (some .int) 3 [.ref 0, .int (nI k), .int 0] (cw_ixp k) := by
  refine gw_ofS (by decide) (Nat.le_of_ble_eq_true rfl) ?_
  intro X w hs C F
  refine g_aload_n C rfl dJ0_indexOf_7cf53_0 ?_
  refine g_scallV C hs ok_J0_isLatin1_aae02 my_J0_isLatin1_aae02 vi_J0_492 rfl (by decide) ⟨Nat.le_refl _, Nat.le_refl _⟩ rfl (Nat.le_of_ble_eq_true rfl) dJ0_indexOf_7cf53_1 rfl (fun v hv => ?_)
  subst hv
  refine g_if_eq (tgt := 23) C (by decide) dJ0_indexOf_7cf53_4 (fun z => absurd z (by decide)) (fun _ => ?_)
  refine g_aload_n C rfl dJ0_indexOf_7cf53_7 ?_
  refine g_svalue C hs fj_9 dJ0_indexOf_7cf53_8 ?_
  refine g_iload_n C rfl dJ0_indexOf_7cf53_11 ?_
  refine g_iload_n C rfl dJ0_indexOf_7cf53_12 ?_
  refine g_aload_n C rfl dJ0_indexOf_7cf53_13 ?_
  refine g_scallV C hs ok_J0_length_8abf5 my_J0_length_8abf5 vi_J0_505 rfl (by decide) ⟨Nat.le_refl _, Nat.le_refl _⟩ rfl (Nat.le_of_ble_eq_true rfl) dJ0_indexOf_7cf53_14 rfl (fun v hv => ?_)
  subst hv
  refine g_scallS C hs (ok_J1_indexOf_4cfef k hk) my_J1_indexOf_4cfef si_J0_637 (by decide) ⟨Nat.le_refl _, Nat.le_refl _⟩ rfl (Nat.le_of_ble_eq_true rfl) dJ0_indexOf_7cf53_17 rfl (fun v hv => ?_)
  obtain ⟨r, rfl, hr⟩ := hv
  refine g_goto (tgt := 36) C (by decide) dJ0_indexOf_7cf53_20 ?_
  refine g_iret C F dJ0_indexOf_7cf53_36 ?_
  exact ⟨r, rfl, hr⟩

set_option maxHeartbeats 8000000 in
set_option maxRecDepth 100000 in
theorem ok_J0_indexOf_0f7a4 (k : Nat) (hk : k < 256) : gw_OkS yJ0_indexOf_0f7a4 cJ0_indexOf_0f7a4 2 (some .int) 4 [.ref 0, .int (nI k)] (cw_ixp k) := by
  refine gw_ofS (by decide) (Nat.le_of_ble_eq_true rfl) ?_
  intro X w hs C F
  refine g_aload_n C rfl dJ0_indexOf_0f7a4_0 ?_
  refine g_iload_n C rfl dJ0_indexOf_0f7a4_1 ?_
  refine g_iconst (v := 0) C (by decide) dJ0_indexOf_0f7a4_2 ?_
  refine g_scallV C hs (ok_J0_indexOf_7cf53 k hk) my_J0_indexOf_7cf53 vi_J0_633 rfl (by decide) ⟨Nat.le_refl _, Nat.le_refl _⟩ rfl (Nat.le_of_ble_eq_true rfl) dJ0_indexOf_0f7a4_3 rfl (fun v hv => ?_)
  obtain ⟨r, rfl, hr⟩ := hv
  refine g_iret C F dJ0_indexOf_0f7a4_6 ?_
  exact ⟨r, rfl, hr⟩

set_option maxHeartbeats 8000000 in
set_option maxRecDepth 100000 in
/-- `"okstberfauy".indexOf((char) letter)`, from the literal on -/
theorem g_index {X : gw_X} {own : String} {cc : ByteArray} {nL d mc ms : Nat} (C : gw_ok X own cc nL d mc ms) (hown : own = "CottageWeeks$Text") {S : gw_S} {k n pc j : Nat} {lv : gw_LV} {st : List Value} {w : gw_M} (hj : j < 256) (hv : gw_lk lv 1 = some (.int (nI j))) (hd5 : 5 ≤ d) (hkn : k ≤ mc ∧ n ≤ ms) (hroom : (st.map fun v => v.category).sum ≤ 8)
    (hd0 : decode cc pc = .ok (.ldc 54, 2)) (hd2 : decode cc (pc + 2) = .ok (.iload_n 1, 1)) (hd3 : decode cc (pc + 3) = .ok (.i2c, 1)) (hd4 : decode cc (pc + 4) = .ok (.invokevirtual 56, 3))
    (K : ∀ r : Int32, (r < 0 ↔ ¬ ∃ i, i < 11 ∧ gw_cmd.getD i 0 = nI j) → gw_G X S nL k n (pc + 7) lv (.int r :: st) w) : gw_G X S nL k n pc lv st w := by
  obtain ⟨p, l, e, R, s, m, args, below, meth, c, D, cA, ρ, A, Q⟩ := X
  have C1 := C
  obtain ⟨hx, hb, hml, how, hts, hK, hA, hE, hRf, hRl, hRc, hRs⟩ := C
  intro H locs ls hP hD hS hl
  obtain ⟨-, -, -, -, -, -, -, a, v, hr, hst, hz⟩ := hE
  subst hown
  refine va_ldcS hx hb how hr hd0 ?_
  refine lv_iload_n hx hb hd2 rfl (hl.2.2 (1, .int (nI j)) (List.mem_map.mpr ⟨(1, .int (nI j)), gw_lk_mem hv, rfl⟩)) ?_
  refine lv_i2c (v := nI j) hx hb hd3 ((by decide +kernel : ∀ j : Fin 256, ((nI j.val).toUInt32 % 65536).toInt32 = nI j.val) ⟨j, hj⟩) ?_
  refine gw_scallV (π := fun i => if i = 0 then a else v) (As := [.int (nI j)]) C1 ?_ (ok_J0_indexOf_0f7a4 j hj) my_J0_indexOf_0f7a4 vi_X5_56 rfl (by omega) hkn rfl (by rw [gw_cats]; exact hroom) hd4 hP hD hS hl.1 (fun z hp H1 locs1 hP1 hD1 hS1 => ?_)
  · exact hst
  · obtain ⟨r, rfl, hr⟩ := hp
    exact K r hr H1 locs1 ls hP1 hD1 hS1 hl

