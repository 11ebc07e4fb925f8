/-- the words that every method may use -/
def gw_T : List Cond := lw_tbl.filter goodWord
theorem gw_T_of {w : Cond} (h : w ∈ lw_tbl) (hg : goodWord w = true) : w ∈ gw_T := List.mem_filter.mpr ⟨h, hg⟩
theorem gw_T_at {w : Cond} (i : Nat) (h : tables_1[i]? = some w) (hg : goodWord w = true) : w ∈ gw_T := gw_T_of (List.mem_append_right _ (List.mem_of_getElem? h)) hg
theorem gw_T_good : GoodIn gw_T gw_T := fun w h => ⟨h, good_of_word (List.mem_filter.mp h).2⟩
theorem gw_T_cons {w : Cond} (h : w ∈ gw_T) : GoodIn gw_T (w :: gw_T) := fun z hz => gw_T_good z ((List.mem_cons.mp hz).elim (fun e => by rw [e]; exact h) id)
/-- words that are no good words, but stay: links of nest mates, casts -/
def gw_nw : Cond → Bool
  | .fieldLinkNest .. => true
  | .methodLinkNest .. => true
  | .castable .. => true
  | _ => false
theorem gw_nw_warm {w : Cond} (h : gw_nw w = true) {s U : State} (hW : s.WarmedH U.vm) (hZ : va_Nw w s) : va_Nw w U := by
  cases w <;> first | exact va_Nw.warmF hW hZ | exact va_Nw.warmM hW hZ | exact va_Nw.warmC hW hZ | cases h
theorem gw_nw_tab {w : Cond} (h : gw_nw w = true) : w.onTables = true := by
  cases w <;> first | rfl | cases h
def gw_N : List Cond := lw_tbl.filter gw_nw
theorem gw_N_at {w : Cond} (i : Nat) (h : tables_1[i]? = some w) (hg : gw_nw w = true) : w ∈ gw_N := List.mem_filter.mpr ⟨List.mem_append_right _ (List.mem_of_getElem? h), hg⟩
/-- the entry of a class's pool that links the field kf of the class ci -/
def gw_fl (own : String) (index ci kf : Nat) : Prop := ∃ (C : String) (T : u_T) (N : Nat), vwCl[ci]? = some (C, T, N) ∧ kf < N ∧ (∀ w ∈ u_ws C T N, w ∈ gw_T) ∧ ((Cond.fieldLink own index (T kf).1 (T kf).2.1 (T kf).2.2.1) ∈ gw_T ∨ ∃ host, (Cond.fieldLinkNest own index (T kf).1 (T kf).2.1 (T kf).2.2.1 host) ∈ gw_N)
/-- besides: the field is not final, and of this type -/
def gw_fp (ci kf : Nat) (ty : FieldType) : Prop := ∃ (C : String) (T : u_T) (N : Nat) (t : Nat → FieldType), vwCl[ci]? = some (C, T, N) ∧ (∀ k, k < N → parseFieldDescriptor (T k).2.2.1 = some (t k)) ∧ (∀ a, a < N → ∀ b, b < N → a ≠ b → (T a).2.1 ≠ (T b).2.1) ∧ (T kf).2.2.2 = false ∧ t kf = ty
/-- what the tables say of a method -/
def gw_my (y : MethodName) (cc : ByteArray) (nL : Nat) (ret : Option FieldType) (na : Nat) : Prop := Cond.code y cc nL ret ∈ gw_T ∧ Cond.initialized y.cls ∈ gw_T ∧ y.cls ≠ "java/lang/invoke/MethodHandle" ∧ y.cls ≠ "java/lang/invoke/VarHandle" ∧ (parseMethodDescriptor y.desc).map (fun d => d.parameters.length) = some na ∧ nL ≤ 21
def gw_vi (own : String) (index : Nat) (y : MethodName) : Prop := Cond.methodLink own index y ∈ gw_T ∧ Cond.instanceMethod y ∈ gw_T ∧ Cond.selects y.cls y y ∈ gw_T
def gw_si (own : String) (index : Nat) (y : MethodName) : Prop := Cond.methodLink own index y ∈ gw_T ∧ Cond.static y ∈ gw_T
