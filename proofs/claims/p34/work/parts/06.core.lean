/-! THE JUDGEMENT gw_G: a frame over a world of cells whose numbers are ints: w q k is the place k of the cell q. References are the cells' numbers; ρ gives their addresses. -/
abbrev gw_M : Type := Nat → Nat → Int32
abbrev gw_C : Type := (Nat × Nat × (Nat → Nat)) ⊕ (Nat × List (Option Nat))
abbrev gw_S : Type := Nat × (Nat → gw_C)
abbrev gw_LV : Type := List (Nat × Value)
def gw_v (ρ : Nat → Nat) : Value → Value
  | .ref a => .ref (ρ a)
  | v => v
theorem gw_v_cat (ρ : Nat → Nat) (v : Value) : (gw_v ρ v).category = v.category := by cases v <;> rfl
theorem gw_v_v (ρ π : Nat → Nat) (v : Value) : gw_v ρ (gw_v π v) = gw_v (fun i => ρ (π i)) v := by cases v <;> rfl
theorem gw_vs (ρ π : Nat → Nat) (vs : List Value) : (vs.map (gw_v π)).map (gw_v ρ) = vs.map (gw_v (fun i => ρ (π i))) := by
  rw [List.map_map]; exact List.map_congr_left fun v _ => gw_v_v ρ π v
theorem gw_v_id (v : Value) : gw_v (fun i => i) v = v := by cases v <;> rfl
theorem gw_vs_id (vs : List Value) : vs.map (gw_v (fun i => i)) = vs := by
  induction vs with
  | nil => rfl
  | cons a l ih => rw [List.map_cons, ih, gw_v_id]
theorem gw_cats (ρ : Nat → Nat) (vs : List Value) : ((vs.map (gw_v ρ)).map fun v => v.category) = vs.map fun v => v.category := by
  rw [List.map_map]; exact List.map_congr_left fun v _ => gw_v_cat ρ v
def gw_fv (ρ : Nat → Nat) (w : Nat → Int32) (k : Nat) : Option Nat → Value
  | none => .int (w k)
  | some j => .ref (ρ j)
def gw_ac (ρ : Nat → Nat) (kd : Nat) (tg : Nat → Nat) (f : Nat → Int32) : (Nat → Int32) ⊕ (Nat → Int64) ⊕ (Nat → UInt32) ⊕ (Nat → UInt64) ⊕ (Nat → Option Nat) :=
  if kd ≤ 2 then .inl f else if kd = 3 then .inr (.inl (fun j => (f j).toInt64)) else .inr (.inr (.inr (.inr (fun j => some (ρ (tg j))))))
def gw_cell (cA : Nat → ClassId) (ρ : Nat → Nat) (w : Nat → Int32) : gw_C → va_E
  | .inl (kd, n, tg) => .inl (cA kd, n, gw_ac ρ kd tg w)
  | .inr (ci, fs) => .inr (ci, fs.mapIdx (fun k t => gw_fv ρ w k t))
def gw_W (cA : Nat → ClassId) (ρ : Nat → Nat) (S : gw_S) (w : gw_M) : va_W := (List.range S.1).map (fun i => (ρ i, gw_cell cA ρ (w i) (S.2 i)))
def gw_at (S : gw_S) (q : Nat) : Option gw_C := if q < S.1 then some (S.2 q) else none
def gw_set (w : gw_M) (q k : Nat) (x : Int32) : gw_M := fun q' k' => if q' = q ∧ k' = k then x else w q' k'
theorem gw_set_self (w : gw_M) (q k : Nat) (x : Int32) : gw_set w q k x q = upd (w q) k x := by
  funext j; simp [gw_set, upd]
theorem gw_set_ne (w : gw_M) (q k : Nat) (x : Int32) {q' : Nat} (h : q' ≠ q) : gw_set w q k x q' = w q' := by
  funext j; simp [gw_set, h]
theorem gw_at_lt {S : gw_S} {q : Nat} {c : gw_C} (h : gw_at S q = some c) : q < S.1 ∧ S.2 q = c := by
  unfold gw_at at h
  split at h
  · exact ⟨by assumption, Option.some.inj h⟩
  · cases h
theorem gw_W_get {cA : Nat → ClassId} {ρ : Nat → Nat} {S : gw_S} {w : gw_M} {q : Nat} {c : gw_C} (h : gw_at S q = some c) : (gw_W cA ρ S w)[q]? = some (ρ q, gw_cell cA ρ (w q) c) := by
  obtain ⟨h1, h2⟩ := gw_at_lt h
  simp [gw_W, h1, h2]
theorem gw_W_len {cA : Nat → ClassId} {ρ : Nat → Nat} {S : gw_S} {w : gw_M} : (gw_W cA ρ S w).length = S.1 := by simp [gw_W]
theorem gw_W_some {cA : Nat → ClassId} {ρ : Nat → Nat} {S : gw_S} {w : gw_M} {k : Nat} {q : Nat × va_E} (h : (gw_W cA ρ S w)[k]? = some q) : k < S.1 ∧ q = (ρ k, gw_cell cA ρ (w k) (S.2 k)) := by
  have h1 : k < S.1 := by
    have := (List.getElem?_eq_some_iff.mp h).1
    rwa [gw_W_len] at this
  rw [gw_W_get (c := S.2 k) (by simp [gw_at, h1])] at h
  exact ⟨h1, (Option.some.inj h).symm⟩
theorem gw_W_set {cA : Nat → ClassId} {ρ : Nat → Nat} {S : gw_S} {w w' : gw_M} {q : Nat} {c : gw_C} {z : va_E} (h : gw_at S q = some c) (hz : z = gw_cell cA ρ (w' q) c) (hn : ∀ j, j ≠ q → w' j = w j) : (gw_W cA ρ S w).set q (ρ q, z) = gw_W cA ρ S w' := by
  obtain ⟨h1, h2⟩ := gw_at_lt h
  apply List.ext_getElem?
  intro i
  rw [List.getElem?_set]
  by_cases hi : i < S.1
  · rw [gw_W_get (w := w') (c := S.2 i) (by simp [gw_at, hi])]
    by_cases hq : q = i
    · subst hq
      rw [if_pos rfl, if_pos (by rw [gw_W_len]; exact h1), hz, h2]
    · rw [if_neg hq, gw_W_get (c := S.2 i) (by simp [gw_at, hi]), hn i (Ne.symm hq)]
  · have e1 : (gw_W cA ρ S w)[i]? = none := by rw [List.getElem?_eq_none_iff, gw_W_len]; omega
    have e2 : (gw_W cA ρ S w')[i]? = none := by rw [List.getElem?_eq_none_iff, gw_W_len]; omega
    rw [e1, e2, if_neg (fun hq => hi (by rw [← hq]; exact h1))]
def gw_ty (cA : Nat → ClassId) : List (ClassId × FieldType) := [(cA 0, .int), (cA 1, .boolean), (cA 2, .char), (cA 3, .int), (cA 4, .object "CottageWeeks$House")]
/-- the String constants: class, entry, text -/
def gw_str : List (String × Nat × String) := [("CottageWeeks", 112, "what is not 0 to 13"), ("CottageWeeks", 137, "what is not 0 to 6"), ("CottageWeeks", 157, "what is not 0 to 4"), ("CottageWeeks", 179, "what is not 0 to 3"), ("CottageWeeks", 181, "there are 6 owners"), ("CottageWeeks", 204, "the owner does not hold the week"), ("CottageWeeks", 213, "the week is no school week, or held"), ("CottageWeeks", 225, "the weeks cannot be offered for each other, or there are 8 offers"), ("CottageWeeks", 233, "there are no owners"), ("CottageWeeks", 241, "there is no such setting"), ("CottageWeeks", 255, "no state is remembered"), ("CottageWeeks", 269, "way is neither 0 nor 1"), ("CottageWeeks", 112, "what is not 0 to 13"), ("CottageWeeks", 112, "what is not 0 to 13"), ("CottageWeeks", 313, "there is no such owner"), ("CottageWeeks", 319, "there is no such week"), ("CottageWeeks", 324, "there is no such offer"), ("CottageWeeks", 112, "what is not 0 to 13"), ("CottageWeeks", 328, "an argument is out of its range"), ("CottageWeeks", 112, "what is not 0 to 13"), ("CottageWeeks", 112, "what is not 0 to 13")]
/-- pairs of exception classes, the first no subclass of the second -/
def gw_nc : List (String × String) := [("java/lang/IllegalStateException", "java/lang/IllegalArgumentException"), ("java/lang/IllegalArgumentException", "java/lang/IndexOutOfBoundsException"), ("java/lang/IllegalStateException", "java/lang/IndexOutOfBoundsException"), ("java/lang/IllegalArgumentException", "java/lang/IllegalStateException"), ("java/lang/IndexOutOfBoundsException", "java/lang/IllegalArgumentException"), ("java/lang/IndexOutOfBoundsException", "java/lang/IllegalStateException")]
/-- the bytes of "okstberfauy" -/
def gw_cmd : List Int32 := [111, 107, 115, 116, 98, 101, 114, 102, 97, 117, 121]
/-- what stands outside the world and stays: the arrays of the class's statics, String constants, words -/
def gw_E (A : Nat → Prop) (U : State) (H : Heap) : Prop :=
  (∃ t : Nat, va_Z "CottageWeeks" "SETTING_AT_FIRST" "[I" (.ref t) A U H ∧ va_T .int t 3 (fun j => .int (if j = 0 then 4 else if j = 1 then 5 else 3)) A U H) ∧
  (∃ t : Nat, va_Z "CottageWeeks" "SETTING_LEAST" "[I" (.ref t) A U H ∧ va_T .int t 3 (fun j => .int (if j = 0 then 1 else if j = 1 then 0 else 1)) A U H) ∧
  (∃ t : Nat, va_Z "CottageWeeks" "SETTING_MOST" "[I" (.ref t) A U H ∧ va_T .int t 3 (fun j => .int (if j = 0 then 20 else if j = 1 then 20 else 10)) A U H) ∧
  (vx_Zq Bundle.tN "UNASSIGNED_STACK" Bundle.steD A U H ∧ vx_Zq Bundle.tN "SUPPRESSED_SENTINEL" Bundle.listD A U H) ∧
  (∀ w ∈ gw_N, va_Nw w U) ∧ (∀ q ∈ gw_str, ∃ a : Nat, vk_R q.1 q.2.1 q.2.2 a U) ∧ (∀ q ∈ gw_nc, va_Nc q.1 q.2 U) ∧
  True
theorem gw_E.kept {A : Nat → Prop} {U : State} {H H1 : Heap} (h : gw_E A U H) (hq : ∀ a : Nat, a < H.size → ¬ A a → H1[a]? = H[a]?) : gw_E A U H1 := by
  obtain ⟨⟨t1, a1, b1⟩, ⟨t2, a2, b2⟩, ⟨t3, a3, b3⟩, ⟨c1, c2⟩, d1, d2, d3, -⟩ := h
  exact ⟨⟨t1, a1.kept hq, b1.kept hq⟩, ⟨t2, a2.kept hq, b2.kept hq⟩, ⟨t3, a3.kept hq, b3.kept hq⟩, ⟨c1.kept hq, c2.kept hq⟩, d1, d2, d3, trivial⟩
theorem gw_E.narrow {A B : Nat → Prop} {U : State} {H : Heap} (h : gw_E A U H) (hAB : ∀ q, B q → A q) : gw_E B U H := by
  obtain ⟨⟨t1, a1, b1⟩, ⟨t2, a2, b2⟩, ⟨t3, a3, b3⟩, ⟨c1, c2⟩, d1, d2, d3, -⟩ := h
  exact ⟨⟨t1, a1.narrow hAB, b1.narrow hAB⟩, ⟨t2, a2.narrow hAB, b2.narrow hAB⟩, ⟨t3, a3.narrow hAB, b3.narrow hAB⟩, ⟨c1.narrow hAB, c2.narrow hAB⟩, d1, d2, d3, trivial⟩
theorem gw_E.mv {A : Nat → Prop} {u U : State} {H : Heap} (hvm : u.vm.Alike U.vm) (hN : ∀ w ∈ gw_N, va_Nw w u → va_Nw w U) (hR : ∀ (o : String) (k : Nat) (tx : String) (a : Nat), vk_R o k tx a u → vk_R o k tx a U) (h : gw_E A u H) : gw_E A U H := by
  obtain ⟨⟨t1, a1, b1⟩, ⟨t2, a2, b2⟩, ⟨t3, a3, b3⟩, ⟨c1, c2⟩, d1, d2, d3, -⟩ := h
  exact ⟨⟨t1, a1.moved hvm, b1.moved hvm⟩, ⟨t2, a2.moved hvm, b2.moved hvm⟩, ⟨t3, a3.moved hvm, b3.moved hvm⟩, ⟨c1.moved hvm, c2.moved hvm⟩, fun w hw => hN w hw (d1 w hw), fun q hq => by
    obtain ⟨a, ha⟩ := d2 q hq
    exact ⟨a, hR _ _ _ _ ha⟩, fun q hq => va_Nc.moved hvm (d3 q hq), trivial⟩
theorem gw_E.warm {A : Nat → Prop} {s U : State} {H : Heap} (hW : s.WarmedH U.vm) (h : gw_E A s H) : gw_E A U H :=
  h.mv hW.alike (fun w hw hz => gw_nw_warm (List.mem_filter.mp hw).2 hW hz) (fun _ _ _ _ hr => vk_R.warm hW hr)
theorem gw_E.same {A : Nat → Prop} {u U : State} {H : Heap} (hv : u.vm = U.vm) (h : gw_E A u H) : gw_E A U H :=
  h.mv (by rw [hv]; exact Vm.Alike.refl U.vm) (fun w hw hz => va_Nw.same (gw_nw_tab (List.mem_filter.mp hw).2) hv hz) (fun _ _ _ _ hr => vk_R.same hv.symm hr)
abbrev gw_X : Type := Program × Launch × Env × Room × State × MethodId × Array Value × List Frame × Method × Code × va_G × (Nat → ClassId) × (Nat → Nat) × (Nat → Prop) × (State → Prop)
def gw_l (ρ : Nat → Nat) (lv : gw_LV) : gw_LV := lv.map (fun q => (q.1, gw_v ρ q.2))
def gw_G (X : gw_X) (S : gw_S) (nL k n : Nat) (pc : Nat) (lv : gw_LV) (st : List Value) (w : gw_M) : Prop :=
  match X with
  | (p, l, e, R, s, m, args, below, meth, c, D, cA, ρ, A, Q) =>
    ∀ (H : Heap) (locs : List Loc) (ls : Array Slot), va_P D vwCl (gw_W cA ρ S w) H → va_D A (gw_W cA ρ S w) → va_S A s.heap H locs → lv_has ls nL (gw_l ρ lv) → W p l e R s m args below meth c H locs k n Q (F0 m pc ls (st.map (gw_v ρ)))
def gw_ok (X : gw_X) (own : String) (cc : ByteArray) (nL d mc ms : Nat) : Prop :=
  match X with
  | (p, l, e, R, s, m, args, below, meth, c, D, cA, ρ, A, Q) =>
    p.tables.exec = Jvm.exec ∧ c.code = cc ∧ c.maxLocals = nL ∧ s.vm.findClass own = some m.cls ∧ (∀ w ∈ gw_T, w.before args s = true) ∧ va_K D vwCl (gw_ty cA) s ∧ (∀ q : Nat, s.heap.size ≤ q → A q) ∧ gw_E A s s.heap ∧ d ≤ R.frames ∧ 40 * d ≤ R.locals ∧ mc ≤ R.cells ∧ ms ≤ R.slots
def gw_A (ρ : Nat → Nat) (N sz : Nat) : Nat → Prop := fun q => (∃ i, i < N ∧ ρ i = q) ∨ sz ≤ q
def gw_B (D : va_G) (cA : Nat → ClassId) (ρ : Nat → Nat) (S : gw_S) (A : Nat → Prop) (w : gw_M) (U : State) : Prop := va_P D vwCl (gw_W cA ρ S w) U.heap ∧ va_K D vwCl (gw_ty cA) U ∧ va_D A (gw_W cA ρ S w)
def gw_Pc (D : va_G) (cA : Nat → ClassId) (ρ : Nat → Nat) (S : gw_S) (sz : Nat) (av : List Value) (w : gw_M) : Array Value → State → Prop :=
  va_Pc (av.map (gw_v ρ)) (fun U => U.heap.size = sz ∧ gw_B D cA ρ S (fun _ => True) w U ∧ gw_E (gw_A ρ S.1 sz) U U.heap)
def gw_Q (D : va_G) (cA : Nat → ClassId) (ρ : Nat → Nat) (S : gw_S) (sz : Nat) (post : Option Value → gw_M → Prop) : Array Value → State → Outcome → State → Prop :=
  fun _ st o t => (∃ (v : Option Value) (w' : gw_M), o = .returned (v.map (gw_v ρ)) ∧ post v w' ∧ gw_B D cA ρ S (gw_A ρ S.1 sz) w' t) ∧ va_F (gw_A ρ S.1 sz) st t
def gw_rm (d mc ms : Nat) : Room := { frames := d, cells := mc, slots := ms, locals := 40 * d }
/-- a method's contract -/
def gw_Ok (y : MethodName) (cc : ByteArray) (nL : Nat) (ret : Option FieldType) (S : gw_S) (d : Nat) (av : List Value) (pre : gw_M → Prop) (post : gw_M → Option Value → gw_M → Prop) : Prop :=
  ∀ (l : Launch) (D : va_G) (cA : Nat → ClassId) (ρ : Nat → Nat) (sz : Nat) (w : gw_M), pre w → Met l y (.code y cc nL ret :: gw_T) (gw_rm d 0 0) (gw_Pc D cA ρ S sz av w) (gw_Q D cA ρ S sz (post w)) 0 0 (gw_A ρ S.1 sz)
def gw_fin (X : gw_X) (ret : Option FieldType) (S : gw_S) (post : Option Value → gw_M → Prop) (mc ms : Nat) : Prop :=
  match X with
  | (p, l, e, R, s, m, args, below, meth, c, D, cA, ρ, A, Q) =>
    meth.sig.returnType = ret ∧ meth.locks = false ∧ A = gw_A ρ S.1 s.heap.size ∧ Q = MQ below (gw_Q D cA ρ S s.heap.size post) args s mc ms (gw_A ρ S.1 s.heap.size)
theorem gw_lg_len (ρ : Nat → Nat) (vs : List Value) : (lg_sl (vs.map (gw_v ρ))).length = (lg_sl vs).length := by
  induction vs with
  | nil => rfl
  | cons a l ih =>
    rw [List.map_cons]
    cases a <;> simp_all [lg_sl, gw_v, Value.category]
theorem gw_args (ρ : Nat → Nat) (vs : List Value) : ∀ i, lv_args i (vs.map (gw_v ρ)) = gw_l ρ (lv_args i vs) := by
  induction vs with
  | nil => intro i; rfl
  | cons a l ih =>
    intro i
    rw [List.map_cons]
    simp only [lv_args, gw_l, List.map_cons, gw_v_cat]
    rw [ih]; rfl
theorem gw_D_self {cA : Nat → ClassId} {ρ : Nat → Nat} {S : gw_S} {w : gw_M} {A : Nat → Prop} (sz : Nat) (h : va_D A (gw_W cA ρ S w)) : va_D (gw_A ρ S.1 sz) (gw_W cA ρ S w) :=
  ⟨h.1, fun k q hk => by obtain ⟨h1, rfl⟩ := gw_W_some hk; exact Or.inl ⟨k, h1, rfl⟩⟩
theorem gw_of {y : MethodName} {cc : ByteArray} {nL : Nat} {ret : Option FieldType} {S : gw_S} {d : Nat} {av : List Value} {pre : gw_M → Prop} {post : gw_M → Option Value → gw_M → Prop} (hy : plainName y.cls = true) (hn : (lg_sl av).length ≤ nL)
    (body : ∀ (X : gw_X) (w : gw_M), pre w → gw_ok X y.cls cc nL d 0 0 → gw_fin X ret S (post w) 0 0 → gw_G X S nL 0 0 0 (lv_args 0 av) [] w) : gw_Ok y cc nL ret S d av pre post := by
  intro l D cA ρ sz w hpre
  refine Met.ofW (cc := cc) (maxL := nL) (ret := ret) hy rfl ?_
  intro p e s m args below meth c s₁ B hml hv
  obtain ⟨rfl, hsz, hB, hE⟩ := hv
  subst hsz
  have hts := atoms_spec (ws := .code y cc nL ret :: gw_T) B.pre
  have hown : s.vm.findClass y.cls = some m.cls := findClass_of_methodNamed B.named
  have K := body (p, l, e, gw_rm d 0 0, s, m, (av.map (gw_v ρ)).toArray, below, meth, c, D, cA, ρ, gw_A ρ S.1 s.heap.size, MQ below (gw_Q D cA ρ S s.heap.size (post w)) (av.map (gw_v ρ)).toArray s 0 0 (gw_A ρ S.1 s.heap.size)) w hpre
    ⟨B.exec, B.bytes, hml, hown, fun w hw => hts w (List.mem_cons_of_mem _ hw), hB.2.1, fun q hq => Or.inr hq, hE, Nat.le_refl _, Nat.le_refl _, Nat.le_refl _, Nat.le_refl _⟩
    ⟨B.returns, B.notSynchronized, rfl, rfl⟩
  have hn' : (lg_sl (av.map (gw_v ρ))).length ≤ nL := by rw [gw_lg_len]; exact hn
  have hl := lv_entry (av.map (gw_v ρ)) hn'
  rw [lg_entry_eq]
  rw [gw_args] at hl
  exact K s.heap [] _ hB.1 (gw_D_self _ hB.2.2) va_S.rf hl
