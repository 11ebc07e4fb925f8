/-! CONSTRUCTORS: a walk over a list of cells that grows -/
def rw_cA (X : gw_X) : Nat → ClassId := match X with
  | (_, _, _, _, _, _, _, _, _, _, _, cA, _, _, _) => cA
def rw_ao (X : gw_X) : Prop := match X with
  | (_, _, _, _, s, _, _, _, _, _, _, _, _, _, _) => va_AO "CottageWeeks$House" s
def rw_in (X : gw_X) : Prop := match X with
  | (_, _, _, _, _, _, _, _, meth, _, _, _, _, _, _) => meth.name = "<init>"
def rw_X (X : gw_X) (ρ : Nat → Nat) : gw_X := match X with
  | (p, l, e, R, s, m, args, below, meth, c, D, cA, _, A, Q) => (p, l, e, R, s, m, args, below, meth, c, D, cA, ρ, A, Q)
theorem rw_okX {X : gw_X} {own : String} {cc : ByteArray} {nL d mc ms : Nat} (C : gw_ok X own cc nL d mc ms) (ρ : Nat → Nat) : gw_ok (rw_X X ρ) own cc nL d mc ms := by
  obtain ⟨p, l, e, R, s, m, args, below, meth, c, D, cA, ρ0, A, Q⟩ := X
  exact C
def rw_G (X : gw_X) (ws : va_W) (nL k n : Nat) (pc : Nat) (lv : gw_LV) (st : List Value) : Prop :=
  match X with
  | (p, l, e, R, s, m, args, below, meth, c, D, _, _, A, Q) =>
    ∀ (H : Heap) (locs : List Loc) (ls : Array Slot), va_P D vwCl ws H → va_D A ws → va_S A s.heap H locs → lv_has ls nL lv → W p l e R s m args below meth c H locs k n Q (F0 m pc ls st)
theorem rw_gw {X : gw_X} {S : gw_S} {ρ : Nat → Nat} {nL k n pc : Nat} {lv : gw_LV} {st : List Value} {w : gw_M} (K : gw_G (rw_X X ρ) S nL k n pc lv st w) : rw_G X (gw_W (rw_cA X) ρ S w) nL k n pc (gw_l ρ lv) (st.map (gw_v ρ)) := by
  obtain ⟨p, l, e, R, s, m, args, below, meth, c, D, cA, ρ0, A, Q⟩ := X
  exact K
theorem rw_wg {X : gw_X} {S : gw_S} {ρ : Nat → Nat} {nL k n pc : Nat} {lv : gw_LV} {st : List Value} {w : gw_M} (K : rw_G X (gw_W (rw_cA X) ρ S w) nL k n pc (gw_l ρ lv) (st.map (gw_v ρ))) : gw_G (rw_X X ρ) S nL k n pc lv st w := by
  obtain ⟨p, l, e, R, s, m, args, below, meth, c, D, cA, ρ0, A, Q⟩ := X
  exact K
/-- cells by membership -/
theorem rw_Pm {D : va_G} {cl : List vw_C} {ws : va_W} {H : Heap} : va_P D cl ws H ↔ ∀ x ∈ ws, va_at D cl x H := by
  constructor
  · intro h x hx
    obtain ⟨k, hk⟩ := List.getElem?_of_mem hx
    exact h k x hk
  · exact fun h k x hk => h x (List.mem_of_getElem? hk)
theorem rw_Dm {A : Nat → Prop} {ws : va_W} : va_D A ws ↔ (ws.map Prod.fst).Nodup ∧ ∀ a ∈ ws.map Prod.fst, A a := by
  constructor
  · intro h
    refine ⟨?_, ?_⟩
    · refine List.pairwise_iff_getElem.mpr (fun i j hi hj hij he => ?_)
      rw [List.length_map] at hi hj
      rw [List.getElem_map, List.getElem_map] at he
      have e := h.1 i j _ _ (List.getElem?_eq_getElem hi) (List.getElem?_eq_getElem hj) he
      omega
    · intro a ha
      obtain ⟨x, hx, rfl⟩ := List.mem_map.mp ha
      obtain ⟨k, hk⟩ := List.getElem?_of_mem hx
      exact h.2 k x hk
  · rintro ⟨h1, h2⟩
    refine ⟨fun i j p q hi hj he => ?_, fun k q hk => h2 _ (List.mem_map.mpr ⟨q, List.mem_of_getElem? hk, rfl⟩)⟩
    have hil := (List.getElem?_eq_some_iff.mp hi).1
    have hjl := (List.getElem?_eq_some_iff.mp hj).1
    have e1 : (ws.map Prod.fst)[i]? = (ws.map Prod.fst)[j]? := by rw [List.getElem?_map, List.getElem?_map, hi, hj]; exact congrArg some he
    exact (List.getElem?_inj (by rw [List.length_map]; exact hil) h1).mp e1
theorem rw_Papp {D : va_G} {cl : List vw_C} {a b : va_W} {H : Heap} : va_P D cl (a ++ b) H ↔ va_P D cl a H ∧ va_P D cl b H := by
  simp only [rw_Pm, List.mem_append]
  exact ⟨fun h => ⟨fun x hx => h x (Or.inl hx), fun x hx => h x (Or.inr hx)⟩, fun h x hx => hx.elim (h.1 x) (h.2 x)⟩
theorem rw_Pone {D : va_G} {cl : List vw_C} {x : Nat × va_E} {a : va_W} {H : Heap} : va_P D cl (x :: a) H ↔ va_at D cl x H ∧ va_P D cl a H := by
  simp only [rw_Pm, List.mem_cons]
  exact ⟨fun h => ⟨h x (Or.inl rfl), fun y hy => h y (Or.inr hy)⟩, fun h y hy => hy.elim (fun e => e ▸ h.1) (h.2 y)⟩
theorem rw_PW {D : va_G} {cA : Nat → ClassId} {ρ : Nat → Nat} {S : gw_S} {w : gw_M} {H : Heap} (h : va_P D vwCl (gw_W cA ρ S w) H) {i : Nat} (hi : i < S.1) : va_at D vwCl (ρ i, gw_cell cA ρ (w i) (S.2 i)) H := h i _ (gw_W_get (by simp [gw_at, hi]))
theorem rw_fst (cA : Nat → ClassId) (ρ : Nat → Nat) (S : gw_S) (w : gw_M) : (gw_W cA ρ S w).map Prod.fst = (List.range S.1).map ρ := by
  simp only [gw_W, List.map_map]
  rfl
/-- a cell refers to places under n only -/
def gw_lo (n : Nat) : gw_C → Bool
  | .inl (kd, N, tg) => (kd ≤ 3 : Bool) || (List.range N).all (fun j => (tg j < n : Bool))
  | .inr (_, fs) => fs.all (fun t => match t with | none => true | some j => (j < n : Bool))
theorem rw_arr {cA : ClassId} {N : Nat} {f g : Nat → Value} (h : ∀ j, j < N → f j = g j) : arrV cA N f = arrV cA N g := by
  unfold arrV
  congr 2
  funext j
  exact h j.val j.isLt
theorem rw_lo {D : va_G} {cA : Nat → ClassId} {ρ ρ' : Nat → Nat} {f : Nat → Int32} {c : gw_C} {a n : Nat} {H : Heap} (hc : gw_lo n c = true) (hr : ∀ j, j < n → ρ j = ρ' j) (h : va_at D vwCl (a, gw_cell cA ρ f c) H) : va_at D vwCl (a, gw_cell cA ρ' f c) H := by
  match c, hc, h with
  | .inr (ci, fs), hc, h =>
    have e : fs.mapIdx (fun k t => gw_fv ρ f k t) = fs.mapIdx (fun k t => gw_fv ρ' f k t) := by
      apply List.ext_getElem?
      intro k
      rw [List.getElem?_mapIdx, List.getElem?_mapIdx]
      cases hk : fs[k]? with
      | none => rfl
      | some t =>
        cases t with
        | none => rfl
        | some j =>
          have hj := List.all_eq_true.mp hc _ (List.mem_of_getElem? hk)
          have hj : j < n := by simpa using hj
          show some (Value.ref (ρ j)) = some (Value.ref (ρ' j))
          rw [hr j hj]
    simp only [gw_cell] at h ⊢
    rw [← e]
    exact h
  | .inl (kd, N, tg), hc, h =>
    show H[a]? = some (vp_cell (cA kd) (N, gw_ac ρ' kd tg f))
    have h : H[a]? = some (vp_cell (cA kd) (N, gw_ac ρ kd tg f)) := h
    rw [h]
    congr 1
    unfold gw_ac
    by_cases h1 : kd ≤ 2
    · rw [if_pos h1, if_pos h1]
    · rw [if_neg h1, if_neg h1]
      by_cases h2 : kd = 3
      · rw [if_pos h2, if_pos h2]
      · rw [if_neg h2, if_neg h2, vp_cell_q, vp_cell_q]
        refine rw_arr (fun j hj => ?_)
        have hc' : (decide (kd ≤ 3) || (List.range N).all (fun j => decide (tg j < n))) = true := hc
        rw [decide_eq_false (by omega), Bool.false_or] at hc'
        have hj2 := List.all_eq_true.mp hc' j (List.mem_range.mpr hj)
        rw [hr (tg j) (by simpa using hj2)]
/-- what new instructions and links of constructors need -/
def rw_fd (own : String) (index ci kf : Nat) : Prop := ∃ (C : String) (T : u_T) (N : Nat) (ty : Nat → FieldType), vwCl[ci]? = some (C, T, N) ∧ kf < N ∧ (∀ w ∈ u_ws C T N, w ∈ gw_T) ∧ (∀ k, k < N → parseFieldDescriptor (T k).2.2.1 = some (ty k)) ∧ (∀ a, a < N → ∀ b, b < N → a ≠ b → (T a).2.1 ≠ (T b).2.1) ∧ Cond.fieldLink own index (T kf).1 (T kf).2.1 (T kf).2.2.1 ∈ gw_T ∧ (T kf).2.2.2 = true ∧ (T kf).1 = own ∧ (∀ q : Nat, narrow (ty kf) (.ref q) = .ref q) ∧ ∀ q : Nat, fits (ty kf) (.ref q) = true
def rw_li (own : String) (index : Nat) (y : MethodName) : Prop := (Cond.methodLink own index y ∈ gw_T ∨ ∃ host, Cond.methodLinkNest own index y host ∈ gw_N) ∧ Cond.instanceMethod y ∈ gw_T ∧ y.name = "<init>"
def rw_nw (own : String) (index ci : Nat) (cls : String) (fs : List Value) (N : Nat) : Prop := ∃ (T : u_T) (ty : Nat → FieldType), vwCl[ci]? = some (cls, T, N) ∧ (∀ w ∈ u_ws cls T N, w ∈ gw_T) ∧ (∀ k, k < N → parseFieldDescriptor (T k).2.2.1 = some (ty k)) ∧ Cond.classLink own index cls ∈ gw_T ∧ Cond.instantiable cls N ∈ gw_T ∧ Cond.initialized cls ∈ gw_T ∧ ∀ j, j < N → defaultValue (ty j) = vp_V fs j
/-- a constructor's contract: its object is the cell r of a new world -/
def rw_A (h0 sz : Nat) : Nat → Prop := fun q => q = h0 ∨ sz ≤ q
def rw_Pc (D : va_G) (cA : Nat → ClassId) (ci : Nat) (fs : List Value) (h0 sz : Nat) : Array Value → State → Prop :=
  va_Pc [.ref h0] (fun U => U.heap.size = sz ∧ va_P D vwCl [(h0, .inr (ci, fs))] U.heap ∧ va_K D vwCl (gw_ty cA) U ∧ gw_E (rw_A h0 sz) U U.heap ∧ va_AO "CottageWeeks$House" U)
abbrev rw_Q (D : va_G) (cA : Nat → ClassId) (S : gw_S) (r h0 sz : Nat) (P : gw_M → Prop) : Array Value → State → Outcome → State → Prop :=
  va_Qv (S := (Nat → Nat) × gw_M) (fun u => u.1 r = h0 ∧ P u.2) (fun u t => va_P D vwCl (gw_W cA u.1 S u.2) t.heap ∧ va_D (rw_A h0 sz) (gw_W cA u.1 S u.2)) (rw_A h0 sz)
def rw_Ok (y : MethodName) (cc : ByteArray) (nL : Nat) (S : gw_S) (r d mc ms ci : Nat) (fs : List Value) (P : gw_M → Prop) : Prop :=
  ∀ (l : Launch) (D : va_G) (cA : Nat → ClassId) (h0 sz : Nat), Met l y (.code y cc nL none :: gw_T) (gw_rm d mc ms) (rw_Pc D cA ci fs h0 sz) (rw_Q D cA S r h0 sz P) mc ms (rw_A h0 sz)
def rw_fin (X : gw_X) (S : gw_S) (r h0 : Nat) (P : gw_M → Prop) (mc ms : Nat) : Prop :=
  match X with
  | (_, _, _, _, s, _, args, below, meth, _, D, cA, _, A, Q) =>
    meth.sig.returnType = none ∧ meth.locks = false ∧ A = rw_A h0 s.heap.size ∧ Q = MQ below (rw_Q D cA S r h0 s.heap.size P) args s mc ms (rw_A h0 s.heap.size)

set_option maxHeartbeats 8000000 in
set_option maxRecDepth 100000 in
theorem rw_of {y : MethodName} {cc : ByteArray} {nL : Nat} {S : gw_S} {r d mc ms ci : Nat} {fs : List Value} {P : gw_M → Prop} (hy : plainName y.cls = true) (hny : y.name = "<init>") (hn : 1 ≤ nL)
    (body : ∀ (X : gw_X) (h0 : Nat), gw_ok X y.cls cc nL d mc ms → rw_ao X → rw_in X → rw_fin X S r h0 P mc ms → rw_G X [(h0, .inr (ci, fs))] nL 0 0 0 [(0, .ref h0)] []) : rw_Ok y cc nL S r d mc ms ci fs P := by
  intro l D cA h0 sz
  refine Met.ofW (cc := cc) (maxL := nL) (ret := none) hy rfl ?_
  intro p e s m args below meth c s₁ B hml hv
  obtain ⟨rfl, hsz, hP, hK, hE, hao⟩ := hv
  subst hsz
  have hts := atoms_spec (ws := .code y cc nL none :: gw_T) B.pre
  have hown : s.vm.findClass y.cls = some m.cls := findClass_of_methodNamed B.named
  have K := body (p, l, e, gw_rm d mc ms, s, m, ([.ref h0] : List Value).toArray, below, meth, c, D, cA, (fun i => i), rw_A h0 s.heap.size, MQ below (rw_Q D cA S r h0 s.heap.size P) ([.ref h0] : List Value).toArray s mc ms (rw_A h0 s.heap.size)) h0
    ⟨B.exec, B.bytes, hml, hown, fun w hw => hts w (List.mem_cons_of_mem _ hw), hK, fun q hq => Or.inr hq, hE, Nat.le_refl _, Nat.le_refl _, Nat.le_refl _, Nat.le_refl _⟩ hao
    ((name_of_methodNamed B.named B.method).1.trans hny) ⟨B.returns, B.notSynchronized, rfl, rfl⟩
  have hl := lv_entry ([.ref h0] : List Value) (n := nL) hn
  rw [lg_entry_eq]
  exact K s.heap [] _ hP ⟨fun i j p q hi hj _ => by
    have h1 := (List.getElem?_eq_some_iff.mp hi).1
    have h2 := (List.getElem?_eq_some_iff.mp hj).1
    simp only [List.length_cons, List.length_nil] at h1 h2
    omega, fun k q hk => by
    have h1 := (List.getElem?_eq_some_iff.mp hk).1
    simp only [List.length_cons, List.length_nil] at h1
    rw [show k = 0 by omega] at hk
    cases hk
    exact Or.inl rfl⟩ va_S.rf hl
/-- other cells, of the same addresses -/
theorem r_to {X : gw_X} {nL : Nat} {ws : va_W} {k n pc : Nat} {lv : gw_LV} {st : List Value} {S : gw_S} (ρ : Nat → Nat) (w : gw_M) (hPv : ∀ (D : va_G) (H : Heap), va_P D vwCl ws H → ∀ i, i < S.1 → va_at D vwCl (ρ i, gw_cell (rw_cA X) ρ (w i) (S.2 i)) H) (hPm : ((List.range S.1).map ρ).Perm (ws.map Prod.fst))
    (K : rw_G X (gw_W (rw_cA X) ρ S w) nL k n pc lv st) : rw_G X ws nL k n pc lv st := by
  obtain ⟨p, l, e, R, s, m, args, below, meth, c, D, cA, ρ0, A, Q⟩ := X
  intro H locs ls hP hD hS hl
  refine K H locs ls ?_ ?_ hS hl
  · intro j q hj
    obtain ⟨h1, rfl⟩ := gw_W_some hj
    exact hPv D H hP j h1
  · have hD := rw_Dm.mp hD
    refine rw_Dm.mpr ?_
    rw [rw_fst]
    exact ⟨hPm.nodup_iff.mpr hD.1, fun a ha => hD.2 a (hPm.mem_iff.mp ha)⟩
theorem r_perm {X : gw_X} {nL : Nat} {ws : va_W} {k n pc : Nat} {lv : gw_LV} {st : List Value} {ws' : va_W} (hp : ws.Perm ws') (K : rw_G X ws' nL k n pc lv st) : rw_G X ws nL k n pc lv st := by
  obtain ⟨p, l, e, R, s, m, args, below, meth, c, D, cA, ρ0, A, Q⟩ := X
  intro H locs ls hP hD hS hl
  refine K H locs ls (rw_Pm.mpr fun x hx => rw_Pm.mp hP x (hp.mem_iff.mpr hx)) ?_ hS hl
  have hD := rw_Dm.mp hD
  have hq := hp.map Prod.fst
  exact rw_Dm.mpr ⟨hq.nodup_iff.mp hD.1, fun a ha => hD.2 a (hq.mem_iff.mpr ha)⟩
theorem r_ws {X : gw_X} {nL : Nat} {ws : va_W} {k n pc : Nat} {lv : gw_LV} {st : List Value} {ws' : va_W} (hp : ws = ws') (K : rw_G X ws' nL k n pc lv st) : rw_G X ws nL k n pc lv st := hp ▸ K
theorem r_widen {X : gw_X} {nL : Nat} {ws : va_W} {k n pc : Nat} {lv : gw_LV} {st : List Value} {k' n' : Nat} (h1 : k ≤ k') (h2 : n ≤ n') (K : rw_G X ws nL k' n' pc lv st) : rw_G X ws nL k n pc lv st := by
  obtain ⟨p, l, e, R, s, m, args, below, meth, c, D, cA, ρ0, A, Q⟩ := X
  intro H locs ls hP hD hS hl
  exact W.widen h1 h2 (K H locs ls hP hD hS hl)

theorem r_iconst {X : gw_X} {own : String} {cc : ByteArray} {nL d mc ms : Nat} (C : gw_ok X own cc nL d mc ms) {ws : va_W} {k n pc : Nat} {lv : gw_LV} {st : List Value} {i : Int} {v : Int32} (hv : Int32.ofInt i = v) (hd : decode cc pc = .ok (.iconst i, 1)) (K : rw_G X ws nL k n (pc + 1) lv (.int v :: st)) : rw_G X ws nL k n pc lv st := by
  obtain ⟨p, l, e, R, s, m, args, below, meth, c, D, cA, ρ0, A, Q⟩ := X
  obtain ⟨hx, hb, hml, hown, hts, hK, hA, hE, hRf, hRl, hRc, hRs⟩ := C
  intro H locs ls hP hD hS hl
  exact lv_iconst hx hb hd hv (K H locs ls hP hD hS hl)

theorem r_bipush {X : gw_X} {own : String} {cc : ByteArray} {nL d mc ms : Nat} (C : gw_ok X own cc nL d mc ms) {ws : va_W} {k n pc : Nat} {lv : gw_LV} {st : List Value} {i : Int} {v : Int32} (hv : (Int8.ofInt i).toInt32 = v) (hd : decode cc pc = .ok (.bipush i, 2)) (K : rw_G X ws nL k n (pc + 2) lv (.int v :: st)) : rw_G X ws nL k n pc lv st := by
  obtain ⟨p, l, e, R, s, m, args, below, meth, c, D, cA, ρ0, A, Q⟩ := X
  obtain ⟨hx, hb, hml, hown, hts, hK, hA, hE, hRf, hRl, hRc, hRs⟩ := C
  intro H locs ls hP hD hS hl
  exact lv_bipush hx hb hd hv (K H locs ls hP hD hS hl)

theorem r_sipush {X : gw_X} {own : String} {cc : ByteArray} {nL d mc ms : Nat} (C : gw_ok X own cc nL d mc ms) {ws : va_W} {k n pc : Nat} {lv : gw_LV} {st : List Value} {i : Int} {v : Int32} (hv : (Int16.ofInt i).toInt32 = v) (hd : decode cc pc = .ok (.sipush i, 3)) (K : rw_G X ws nL k n (pc + 3) lv (.int v :: st)) : rw_G X ws nL k n pc lv st := by
  obtain ⟨p, l, e, R, s, m, args, below, meth, c, D, cA, ρ0, A, Q⟩ := X
  obtain ⟨hx, hb, hml, hown, hts, hK, hA, hE, hRf, hRl, hRc, hRs⟩ := C
  intro H locs ls hP hD hS hl
  exact lv_sipush hx hb hd hv (K H locs ls hP hD hS hl)

theorem r_aload_n {X : gw_X} {own : String} {cc : ByteArray} {nL d mc ms : Nat} (C : gw_ok X own cc nL d mc ms) {ws : va_W} {k n pc : Nat} {lv : gw_LV} {st : List Value} {i : Fin 4} {x : Nat} (hi : gw_lk lv i.val = some (.ref x)) (hd : decode cc pc = .ok (.aload_n i, 1)) (K : rw_G X ws nL k n (pc + 1) lv (.ref x :: st)) : rw_G X ws nL k n pc lv st := by
  obtain ⟨p, l, e, R, s, m, args, below, meth, c, D, cA, ρ0, A, Q⟩ := X
  obtain ⟨hx, hb, hml, hown, hts, hK, hA, hE, hRf, hRl, hRc, hRs⟩ := C
  intro H locs ls hP hD hS hl
  exact lv_aload_n hx hb hd rfl (hl.2.2 _ (gw_lk_mem hi)) (K H locs ls hP hD hS hl)

theorem r_iload_n {X : gw_X} {own : String} {cc : ByteArray} {nL d mc ms : Nat} (C : gw_ok X own cc nL d mc ms) {ws : va_W} {k n pc : Nat} {lv : gw_LV} {st : List Value} {i : Fin 4} {x : Int32} (hi : gw_lk lv i.val = some (.int x)) (hd : decode cc pc = .ok (.iload_n i, 1)) (K : rw_G X ws nL k n (pc + 1) lv (.int x :: st)) : rw_G X ws nL k n pc lv st := by
  obtain ⟨p, l, e, R, s, m, args, below, meth, c, D, cA, ρ0, A, Q⟩ := X
  obtain ⟨hx, hb, hml, hown, hts, hK, hA, hE, hRf, hRl, hRc, hRs⟩ := C
  intro H locs ls hP hD hS hl
  exact lv_iload_n hx hb hd rfl (hl.2.2 _ (gw_lk_mem hi)) (K H locs ls hP hD hS hl)

theorem r_istore_n {X : gw_X} {own : String} {cc : ByteArray} {nL d mc ms : Nat} (C : gw_ok X own cc nL d mc ms) {ws : va_W} {k n pc : Nat} {lv : gw_LV} {st : List Value} {i : Fin 4} {x : Int32} (hn : i.val < nL) (hd : decode cc pc = .ok (.istore_n i, 1)) (K : rw_G X ws nL k n (pc + 1) (gw_st1 i.val (.int x) lv) st) : rw_G X ws nL k n pc lv (.int x :: st) := by
  obtain ⟨p, l, e, R, s, m, args, below, meth, c, D, cA, ρ0, A, Q⟩ := X
  obtain ⟨hx, hb, hml, hown, hts, hK, hA, hE, hRf, hRl, hRc, hRs⟩ := C
  intro H locs ls hP hD hS hl
  exact lv_istore_n hx hb hd rfl hl hn rfl (fun ls1 hl1 => K H locs ls1 hP hD hS hl1)

theorem r_istore {X : gw_X} {own : String} {cc : ByteArray} {nL d mc ms : Nat} (C : gw_ok X own cc nL d mc ms) {ws : va_W} {k n pc : Nat} {lv : gw_LV} {st : List Value} {i : Nat} {x : Int32} (hn : i < nL) (hd : decode cc pc = .ok (.istore i, 2)) (K : rw_G X ws nL k n (pc + 2) (gw_st1 i (.int x) lv) st) : rw_G X ws nL k n pc lv (.int x :: st) := by
  obtain ⟨p, l, e, R, s, m, args, below, meth, c, D, cA, ρ0, A, Q⟩ := X
  obtain ⟨hx, hb, hml, hown, hts, hK, hA, hE, hRf, hRl, hRc, hRs⟩ := C
  intro H locs ls hP hD hS hl
  exact lv_istore hx hb hd hl hn rfl (fun ls1 hl1 => K H locs ls1 hP hD hS hl1)

theorem r_astore_n {X : gw_X} {own : String} {cc : ByteArray} {nL d mc ms : Nat} (C : gw_ok X own cc nL d mc ms) {ws : va_W} {k n pc : Nat} {lv : gw_LV} {st : List Value} {i : Fin 4} {x : Nat} (hn : i.val < nL) (hd : decode cc pc = .ok (.astore_n i, 1)) (K : rw_G X ws nL k n (pc + 1) (gw_st1 i.val (.ref x) lv) st) : rw_G X ws nL k n pc lv (.ref x :: st) := by
  obtain ⟨p, l, e, R, s, m, args, below, meth, c, D, cA, ρ0, A, Q⟩ := X
  obtain ⟨hx, hb, hml, hown, hts, hK, hA, hE, hRf, hRl, hRc, hRs⟩ := C
  intro H locs ls hP hD hS hl
  exact lv_astore_n hx hb hd rfl hl hn rfl (fun ls1 hl1 => K H locs ls1 hP hD hS hl1)

theorem r_iinc {X : gw_X} {own : String} {cc : ByteArray} {nL d mc ms : Nat} (C : gw_ok X own cc nL d mc ms) {ws : va_W} {k n pc : Nat} {lv : gw_LV} {st : List Value} {i : Nat} {z : Int} {x v : Int32} (hi : gw_lk lv i = some (.int x)) (hv : x + Int32.ofInt z = v) (hn : i < nL) (hd : decode cc pc = .ok (.iinc i z, 3)) (K : rw_G X ws nL k n (pc + 3) (gw_st1 i (.int v) lv) st) : rw_G X ws nL k n pc lv st := by
  obtain ⟨p, l, e, R, s, m, args, below, meth, c, D, cA, ρ0, A, Q⟩ := X
  obtain ⟨hx, hb, hml, hown, hts, hK, hA, hE, hRf, hRl, hRc, hRs⟩ := C
  intro H locs ls hP hD hS hl
  obtain ⟨j, hj⟩ := List.getElem?_of_mem (gw_lk_mem hi)
  exact lv_iinc hx hb hd hl hj hv hn rfl (fun ls1 hl1 => K H locs ls1 hP hD hS hl1)

theorem r_cmp_ge {X : gw_X} {own : String} {cc : ByteArray} {nL d mc ms : Nat} (C : gw_ok X own cc nL d mc ms) {ws : va_W} {k n pc : Nat} {lv : gw_LV} {st : List Value} {x y : Int32} {off : Int} {tgt : Nat} (ht : (pc : Int) + off = (tgt : Int)) (hd : decode cc pc = .ok (.if_icmp .ge off, 3)) (Kt : y ≤ x → rw_G X ws nL k n tgt lv st) (Kf : ¬ y ≤ x → rw_G X ws nL k n (pc + 3) lv st) : rw_G X ws nL k n pc lv (.int y :: .int x :: st) := by
  obtain ⟨p, l, e, R, s, m, args, below, meth, c, D, cA, ρ0, A, Q⟩ := X
  obtain ⟨hx, hb, hml, hown, hts, hK, hA, hE, hRf, hRl, hRc, hRs⟩ := C
  intro H locs ls hP hD hS hl
  exact lv_icmp_ge hx hb hd ht (fun h => Kt h H locs ls hP hD hS hl) (fun h => Kf h H locs ls hP hD hS hl)

theorem r_goto {X : gw_X} {own : String} {cc : ByteArray} {nL d mc ms : Nat} (C : gw_ok X own cc nL d mc ms) {ws : va_W} {k n pc : Nat} {lv : gw_LV} {st : List Value} {off : Int} {tgt : Nat} (ht : (pc : Int) + off = (tgt : Int)) (hd : decode cc pc = .ok (.goto off, 3)) (K : rw_G X ws nL k n tgt lv st) : rw_G X ws nL k n pc lv st := by
  obtain ⟨p, l, e, R, s, m, args, below, meth, c, D, cA, ρ0, A, Q⟩ := X
  obtain ⟨hx, hb, hml, hown, hts, hK, hA, hE, hRf, hRl, hRc, hRs⟩ := C
  intro H locs ls hP hD hS hl
  exact lv_goto hx hb hd ht (K H locs ls hP hD hS hl)

set_option maxHeartbeats 8000000 in
set_option maxRecDepth 100000 in
theorem r_objinit {X : gw_X} {own : String} {cc : ByteArray} {nL d mc ms : Nat} (C : gw_ok X own cc nL d mc ms) {ws : va_W} {k n pc : Nat} {lv : gw_LV} {st : List Value} {ix a : Nat} (hlk : Cond.methodLink own ix Lib.objectInit ∈ gw_T) (hdd : 1 ≤ d) (hroom : (st.map fun v => v.category).sum ≤ 8) (hd : decode cc pc = .ok (.invokespecial ix, 3)) (K : rw_G X ws nL k n (pc + 3) lv st) : rw_G X ws nL k n pc lv (.ref a :: st) := by
  obtain ⟨p, l, e, R, s, m, args, below, meth, c, D, cA, ρ0, A, Q⟩ := X
  obtain ⟨hx, hb, hml, hown, hts, hK, hA, hE, hRf, hRl, hRc, hRs⟩ := C
  intro H locs ls hP hD hS hl
  have h30 : Cond.instanceMethod Lib.objectInit ∈ gw_T := gw_T_at 22 (by decide +kernel) rfl
  have h31 : Cond.code Lib.objectInit ⟨#[0xb1]⟩ 1 none ∈ gw_T := gw_T_at 23 (by decide +kernel) rfl
  refine W.objInit hx hb hown (hts _ hlk) (hts _ h30) (hts _ h31) rfl (by rw [hml]; exact hl.1) rfl hd (by omega) (by show 2 * 0 + _ + 12 ≤ _; omega) ?_
  exact W.eq (g2 := F0 m (pc + 3) ls st) rfl (K H locs ls hP hD hS hl)

set_option maxHeartbeats 8000000 in
set_option maxRecDepth 100000 in
theorem r_new_int {X : gw_X} {own : String} {cc : ByteArray} {nL d mc ms : Nat} (C : gw_ok X own cc nL d mc ms) {ws : va_W} {k n pc : Nat} {lv : gw_LV} {st : List Value} {N : Nat} {v : Int32} (hn : ¬ v < 0) (hN : v.toNatClampNeg = N) (hbytes : N * componentBytes .int ≤ 536870912) (hkn : k + 1 ≤ mc ∧ n + N ≤ ms) (hd : decode cc pc = .ok (.newarray .int, 2))
    (K : ∀ q : Nat, rw_G X (ws ++ [(q, .inl (rw_cA X 0, N, .inl (fun _ => 0)))]) nL (k + 1) (n + N) (pc + 2) lv (.ref q :: st)) : rw_G X ws nL k n pc lv (.int v :: st) := by
  obtain ⟨p, l, e, R, s, m, args, below, meth, c, D, cA, ρ0, A, Q⟩ := X
  obtain ⟨hx, hb, hml, hown, hts, hK, hA, hE, hRf, hRl, hRc, hRs⟩ := C
  intro H locs ls hP hD hS hl
  refine va_newa (ty := .int) hx hb (hts _ (gw_T_at 106 (by decide +kernel) rfl)) rfl hK hP hD hS hA (a0 := (N, .inl (fun _ => 0))) (fun _ => rfl) hn hN hbytes (by omega) (by omega) hd (fun q cB H1 hK1 hP1 hD1 hS1 => ?_)
  have e1 : s.vm.findClass ("[" ++ FieldType.toString .int) = some cB := (hK1.2 5 (cB, .int) rfl).2
  have e2 : s.vm.findClass ("[" ++ FieldType.toString .int) = some (cA 0) := (hK.2 0 (cA 0, .int) rfl).2
  cases e1.symm.trans e2
  exact K q H1 locs ls hP1 hD1 hS1 hl

set_option maxHeartbeats 8000000 in
set_option maxRecDepth 100000 in
theorem r_new_boolean {X : gw_X} {own : String} {cc : ByteArray} {nL d mc ms : Nat} (C : gw_ok X own cc nL d mc ms) {ws : va_W} {k n pc : Nat} {lv : gw_LV} {st : List Value} {N : Nat} {v : Int32} (hn : ¬ v < 0) (hN : v.toNatClampNeg = N) (hbytes : N * componentBytes .boolean ≤ 536870912) (hkn : k + 1 ≤ mc ∧ n + N ≤ ms) (hd : decode cc pc = .ok (.newarray .boolean, 2))
    (K : ∀ q : Nat, rw_G X (ws ++ [(q, .inl (rw_cA X 1, N, .inl (fun _ => 0)))]) nL (k + 1) (n + N) (pc + 2) lv (.ref q :: st)) : rw_G X ws nL k n pc lv (.int v :: st) := by
  obtain ⟨p, l, e, R, s, m, args, below, meth, c, D, cA, ρ0, A, Q⟩ := X
  obtain ⟨hx, hb, hml, hown, hts, hK, hA, hE, hRf, hRl, hRc, hRs⟩ := C
  intro H locs ls hP hD hS hl
  refine va_newa (ty := .boolean) hx hb (hts _ (gw_T_at 107 (by decide +kernel) rfl)) rfl hK hP hD hS hA (a0 := (N, .inl (fun _ => 0))) (fun _ => rfl) hn hN hbytes (by omega) (by omega) hd (fun q cB H1 hK1 hP1 hD1 hS1 => ?_)
  have e1 : s.vm.findClass ("[" ++ FieldType.toString .boolean) = some cB := (hK1.2 5 (cB, .boolean) rfl).2
  have e2 : s.vm.findClass ("[" ++ FieldType.toString .boolean) = some (cA 1) := (hK.2 1 (cA 1, .boolean) rfl).2
  cases e1.symm.trans e2
  exact K q H1 locs ls hP1 hD1 hS1 hl

set_option maxHeartbeats 8000000 in
set_option maxRecDepth 100000 in
theorem r_new_char {X : gw_X} {own : String} {cc : ByteArray} {nL d mc ms : Nat} (C : gw_ok X own cc nL d mc ms) {ws : va_W} {k n pc : Nat} {lv : gw_LV} {st : List Value} {N : Nat} {v : Int32} (hn : ¬ v < 0) (hN : v.toNatClampNeg = N) (hbytes : N * componentBytes .char ≤ 536870912) (hkn : k + 1 ≤ mc ∧ n + N ≤ ms) (hd : decode cc pc = .ok (.newarray .char, 2))
    (K : ∀ q : Nat, rw_G X (ws ++ [(q, .inl (rw_cA X 2, N, .inl (fun _ => 0)))]) nL (k + 1) (n + N) (pc + 2) lv (.ref q :: st)) : rw_G X ws nL k n pc lv (.int v :: st) := by
  obtain ⟨p, l, e, R, s, m, args, below, meth, c, D, cA, ρ0, A, Q⟩ := X
  obtain ⟨hx, hb, hml, hown, hts, hK, hA, hE, hRf, hRl, hRc, hRs⟩ := C
  intro H locs ls hP hD hS hl
  refine va_newa (ty := .char) hx hb (hts _ (gw_T_at 148 (by decide +kernel) rfl)) rfl hK hP hD hS hA (a0 := (N, .inl (fun _ => 0))) (fun _ => rfl) hn hN hbytes (by omega) (by omega) hd (fun q cB H1 hK1 hP1 hD1 hS1 => ?_)
  have e1 : s.vm.findClass ("[" ++ FieldType.toString .char) = some cB := (hK1.2 5 (cB, .char) rfl).2
  have e2 : s.vm.findClass ("[" ++ FieldType.toString .char) = some (cA 2) := (hK.2 2 (cA 2, .char) rfl).2
  cases e1.symm.trans e2
  exact K q H1 locs ls hP1 hD1 hS1 hl

set_option maxHeartbeats 8000000 in
set_option maxRecDepth 100000 in
theorem r_anew {X : gw_X} {own : String} {cc : ByteArray} {nL d mc ms : Nat} (C : gw_ok X own cc nL d mc ms) (I : rw_ao X) {ws : va_W} {k n pc : Nat} {lv : gw_LV} {st : List Value} {N ix : Nat} {v : Int32} (hcl : Cond.classLink own ix "CottageWeeks$House" ∈ gw_T) (hn : ¬ v < 0) (hN : v.toNatClampNeg = N) (hbytes : N * 4 ≤ 536870912) (hkn : k + 1 ≤ mc ∧ n + N ≤ ms) (hd : decode cc pc = .ok (.anewarray ix, 3))
    (K : ∀ q : Nat, rw_G X (ws ++ [(q, .inl (rw_cA X 4, N, .inr (.inr (.inr (.inr (fun _ => none))))))]) nL (k + 1) (n + N) (pc + 3) lv (.ref q :: st)) : rw_G X ws nL k n pc lv (.int v :: st) := by
  obtain ⟨p, l, e, R, s, m, args, below, meth, c, D, cA, ρ0, A, Q⟩ := X
  obtain ⟨hx, hb, hml, hown, hts, hK, hA, hE, hRf, hRl, hRc, hRs⟩ := C
  intro H locs ls hP hD hS hl
  refine va_newq hx hb hown (hts _ hcl) I hK hP hD hS hA hn hN hbytes (by omega) (by omega) hd (fun q cB H1 hK1 hP1 hD1 hS1 => ?_)
  obtain ⟨_, _, _, _, _, e1⟩ : va_RA s cB (.object "CottageWeeks$House") := (hK1.2 5 (cB, .object "CottageWeeks$House") rfl).2
  obtain ⟨_, _, _, _, _, e2⟩ : va_RA s (cA 4) (.object "CottageWeeks$House") := (hK.2 4 (cA 4, .object "CottageWeeks$House") rfl).2
  cases e1.symm.trans e2
  exact K q H1 locs ls hP1 hD1 hS1 hl
theorem r_putF {X : gw_X} {own : String} {cc : ByteArray} {nL d mc ms : Nat} (C : gw_ok X own cc nL d mc ms) (I : rw_in X) {ws : va_W} {k n pc : Nat} {lv : gw_LV} {st : List Value} {ix ci kf h0 q : Nat} {fs : List Value} (hf : rw_fd own ix ci kf) (hk : kf < fs.length) (hd : decode cc pc = .ok (.putfield ix, 3))
    (K : rw_G X ((h0, .inr (ci, fs.set kf (.ref q))) :: ws) nL k n (pc + 3) lv st) : rw_G X ((h0, .inr (ci, fs)) :: ws) nL k n pc lv (.ref q :: .ref h0 :: st) := by
  obtain ⟨p, l, e, R, s, m, args, below, meth, c, D, cA, ρ0, A, Q⟩ := X
  obtain ⟨hx, hb, hml, hown, hts, hK, hA, hE, hRf, hRl, hRc, hRs⟩ := C
  intro H locs ls hP hD hS hl
  obtain ⟨C1, T, N, ty, hc, hN, hin, hty, hnm, hlk, hfin, hdecl, hnar, hfit⟩ := hf
  exact va_putF (v := .ref q) hx hb hts hin ty hty hnm hown hK hP hD hS 0 rfl hc kf hN (hts _ hlk) (fun _ h => h) hfin I hdecl (hty kf hN) (hnar q) (hfit q) hk hd (fun H1 locs1 hP1 hD1 hS1 => K H1 locs1 ls hP1 hD1 hS1 hl)
theorem r_getr {X : gw_X} {own : String} {cc : ByteArray} {nL d mc ms : Nat} (C : gw_ok X own cc nL d mc ms) {ws : va_W} {k n pc : Nat} {lv : gw_LV} {st : List Value} {ix ci kf h0 q : Nat} {fs : List Value} (hf : rw_fd own ix ci kf) (hv : fs[kf]? = some (.ref q)) (hd : decode cc pc = .ok (.getfield ix, 3))
    (K : rw_G X ((h0, .inr (ci, fs)) :: ws) nL k n (pc + 3) lv (.ref q :: st)) : rw_G X ((h0, .inr (ci, fs)) :: ws) nL k n pc lv (.ref h0 :: st) := by
  obtain ⟨p, l, e, R, s, m, args, below, meth, c, D, cA, ρ0, A, Q⟩ := X
  obtain ⟨hx, hb, hml, hown, hts, hK, hA, hE, hRf, hRl, hRc, hRs⟩ := C
  intro H locs ls hP hD hS hl
  obtain ⟨C1, T, N, ty, hc, hN, hin, hty, hnm, hlk, hfin, hdecl, hnar, hfit⟩ := hf
  exact va_get hx hb hts hin hown hK hP 0 rfl hc kf hN (hts _ hlk) (fun _ h => h) hv hd (K H locs ls hP hD hS hl)
theorem r_aast {X : gw_X} {own : String} {cc : ByteArray} {nL d mc ms : Nat} (C : gw_ok X own cc nL d mc ms) {ws : va_W} {k n pc : Nat} {lv : gw_LV} {st : List Value} {z : Nat × va_E} {qa N v : Nat} {vs : List Value} {f : Nat → Option Nat} {i : Int32} (hv : (v, .inr (1, vs)) ∈ z :: (qa, .inl (rw_cA X 4, N, .inr (.inr (.inr (.inr f))))) :: ws) (hi : vp_in i N) (hd : decode cc pc = .ok (.aastore, 1))
    (K : rw_G X (z :: (qa, .inl (rw_cA X 4, N, .inr (.inr (.inr (.inr (va_up f i.toNatClampNeg (some v))))))) :: ws) nL k n (pc + 1) lv st) : rw_G X (z :: (qa, .inl (rw_cA X 4, N, .inr (.inr (.inr (.inr f))))) :: ws) nL k n pc lv (.ref v :: .int i :: .ref qa :: st) := by
  obtain ⟨p, l, e, R, s, m, args, below, meth, c, D, cA, ρ0, A, Q⟩ := X
  obtain ⟨hx, hb, hml, hown, hts, hK, hA, hE, hRf, hRl, hRc, hRs⟩ := C
  intro H locs ls hP hD hS hl
  obtain ⟨qk, hqk⟩ := List.getElem?_of_mem hv
  exact va_astq hx hb hK hP hD hS 1 4 qk 1 rfl rfl hqk rfl hi hd (fun H1 locs1 hP1 hD1 hS1 => K H1 locs1 ls hP1 hD1 hS1 hl)
/-- the end of a constructor -/
theorem r_ret {X : gw_X} {own : String} {cc : ByteArray} {nL d mc ms : Nat} (C : gw_ok X own cc nL d mc ms) {k n pc : Nat} {lv : gw_LV} {S : gw_S} {r h0 : Nat} {P : gw_M → Prop} (F : rw_fin X S r h0 P mc ms) {ρ : Nat → Nat} {w : gw_M} (hr : ρ r = h0) (hPw : P w) (hkn : k ≤ mc ∧ n ≤ ms) (hd : decode cc pc = .ok (.return_, 1)) : rw_G X (gw_W (rw_cA X) ρ S w) nL k n pc lv [] := by
  obtain ⟨p, l, e, R, s, m, args, below, meth, c, D, cA, ρ0, A, Q⟩ := X
  obtain ⟨hx, hb, hml, hown, hts, hK, hA, hE, hRf, hRl, hRc, hRs⟩ := C
  intro H locs ls hP hD hS hl
  obtain ⟨h1, h2, h3, h4⟩ := F
  subst h3
  subst h4
  refine W.widen hkn.1 hkn.2 ?_
  exact W.vret hx hb h1 (fun t ht hW => ⟨⟨(ρ, w), rfl, ⟨hr, hPw⟩, by rw [ht]; exact hP, hD⟩, hS.F ht⟩) hS.2.2 hd h2
/-- new, dup, and the constructor's call -/
theorem r_new3 {X : gw_X} {own : String} {cc : ByteArray} {nL d mc ms : Nat} (C : gw_ok X own cc nL d mc ms) (I : rw_ao X) {ws : va_W} {k n pc : Nat} {lv : gw_LV} {st : List Value} {ix1 ix2 ci N : Nat} {y : MethodName} {cc' : ByteArray} {nL' r d' mc' ms' : Nat} {S : gw_S} {fs : List Value} {P : gw_M → Prop}
    (M : rw_Ok y cc' nL' S r d' mc' ms' ci fs P) (My : gw_my y cc' nL' none 0) (L : rw_li own ix2 y) (Nw : rw_nw own ix1 ci y.cls fs N) (hdd : d' + 1 ≤ d) (hkn : k + 1 + mc' ≤ mc ∧ n + N + ms' ≤ ms) (hroom : 1 + (st.map fun v => v.category).sum ≤ 8)
    (hd0 : decode cc pc = .ok (.new ix1, 3)) (hd1 : decode cc (pc + 3) = .ok (.dup, 1)) (hd2 : decode cc (pc + 4) = .ok (.invokespecial ix2, 3))
    (K : ∀ (ρ : Nat → Nat) (w : gw_M), P w → rw_G X (ws ++ gw_W (rw_cA X) ρ S w) nL (k + 1 + mc') (n + N + ms') (pc + 7) lv (.ref (ρ r) :: st)) : rw_G X ws nL k n pc lv st := by
  obtain ⟨p, l, e, R, s, m, args, below, meth, c, D, cA, ρ0, A, Q⟩ := X
  obtain ⟨hx, hb, hml, hown, hts, hK, hA, hE, hRf, hRl, hRc, hRs⟩ := C
  intro H locs ls hP hD hS hl
  obtain ⟨T, ty, hc, hin, hty, hcl, hinst, hini, hfs⟩ := Nw
  obtain ⟨hc1, hc2, hc3, hc4, hc5, hc6⟩ := My
  obtain ⟨hlk, hl2, hnm⟩ := L
  have I : va_AO "CottageWeeks$House" s := I
  refine va_new hx hb hts hin ty hty hown (hts _ hcl) (hts _ hinst) (hts _ hini) hK hP hD hS hA hc hfs (by omega) (by omega) hd0 (fun q H1 hP1 hD1 hS1 => ?_)
  refine lv_dup hx hb hd1 rfl ?_
  have hPa := rw_Papp.mp hP1
  have hDa := rw_Dm.mp hD1
  rw [List.map_append] at hDa
  have hAq : A q := hDa.2 q (List.mem_append_right _ (by simp))
  have hnq : ∀ x ∈ ws, x.1 ≠ q := fun x hx he => (List.nodup_append.mp hDa.1).2.2 x.1 (List.mem_map.mpr ⟨x, hx, rfl⟩) q (by simp) he
  have hlt : ∀ x ∈ ws, x.1 < H1.size := fun x hx => (rw_Pm.mp hPa.1 x hx).lt
  have hrA : ∀ x, rw_A q H1.size x → A x := by
    rintro x (rfl | h)
    · exact hAq
    · exact hA x (Nat.le_trans hS1.1 h)
  have hpre : PreS s H1 (rw_Pc D cA ci fs q H1.size) [.ref q] := ⟨fun a U g mk h => by
    obtain ⟨z1, z2, z3, z4, z5, z6⟩ := h
    exact ⟨z1, z2, z3, va_K.moved (u := U) (U := U.calling g mk a) (Vm.Alike.refl U.vm) z4, gw_E.same (u := U) (U := U.calling g mk a) rfl z5, va_AO.moved (u := U) (U := U.calling g mk a) (Vm.Alike.refl U.vm) z6⟩, fun U hU hW => ⟨rfl, by rw [hU], by rw [hU]; exact hPa.2, va_K.moved hW.alike hK, by
      rw [hU]
      exact ((hE.kept (fun a h1 h2 => hS1.2.1 a h1 h2)).warm hW).narrow hrA, va_AO.moved hW.alike I⟩⟩
  have hRR : (gw_rm d' mc' ms').frames + 1 ≤ R.frames ∧ 8 + (nL' + 11) + (gw_rm d' mc' ms').locals ≤ R.locals := ⟨Nat.le_trans hdd hRf, by show 8 + (nL' + 11) + 40 * d' ≤ R.locals; omega⟩
  have hrm : (Value.ref q :: st |>.map fun v => v.category).sum ≤ 8 := by
    rw [List.map_cons, List.sum_cons]; exact hroom
  have hrun : va_Run p l e R s m args below meth c H1 locs (k + 1) (n + N) mc' ms' (F0 m (pc + 3 + 1) ls (.ref q :: .ref q :: st)) (.ref q :: st) (rw_Q D cA S r q H1.size P #[.ref q]) (rw_A q H1.size) := by
    rcases hlk with hlk | ⟨host, hlk⟩
    · exact va_runI (As := []) (rest := .ref q :: st) (Ts := gw_T) ⟨hx, hb, hml, hown, hts⟩ (M l D cA q H1.size) (cwI 0 hts (gw_T_cons hc1) rfl rfl rfl (hts _ hc2) (hts _ hlk) (hts _ hl2) hnm ⟨hc3, hc4, hc5⟩ hRR) hpre rfl rfl hl.1 rfl (by show 2 * 0 + _ ≤ 8; omega) hd2 ⟨by omega, by omega⟩
    · exact va_runIN (As := []) (rest := .ref q :: st) (Ts := gw_T) (host := host) ⟨hx, hb, hml, hown, hts⟩ (M l D cA q H1.size) ⟨va_cnB 0 hts (gw_T_cons hc1) rfl rfl rfl (hE.2.2.2.2.1 _ hlk) (hts _ hc2) ⟨hc3, hc4, hc5⟩ hRR, hnm, hts _ hl2⟩ hpre rfl rfl hl.1 rfl (by show 2 * 0 + _ ≤ 8; omega) hd2 ⟨by omega, by omega⟩
  refine va_callv hrun hS1 (fun x _ h => hrA x h) hrA (fun u t H2 locs2 ht hvm hpost hB hz2 hk2 hS2 => ?_)
  rw [ht] at hB
  have e := K u.1 u.2 hpost.2 H2 locs2 ls (rw_Papp.mpr ⟨rw_Pm.mpr fun x hx => ?_, hB.1⟩) ?_ hS2 hl
  · rw [hpost.1] at e
    exact e
  · exact (rw_Pm.mp hPa.1 x hx).kept (hk2 x.1 (hlt x hx) (by
      rintro (h | h)
      · exact hnq x hx h
      · exact absurd (hlt x hx) (Nat.not_lt.mpr h)))
  · have hDb := rw_Dm.mp hB.2
    refine rw_Dm.mpr ⟨?_, ?_⟩
    · rw [List.map_append]
      refine List.nodup_append.mpr ⟨(List.nodup_append.mp hDa.1).1, hDb.1, fun a ha b hb he => ?_⟩
      obtain ⟨x, hx, rfl⟩ := List.mem_map.mp ha
      rcases hDb.2 b hb with h | h
      · exact hnq x hx (he.trans h)
      · have := hlt x hx
        omega
    · intro a ha
      rw [List.map_append] at ha
      rcases List.mem_append.mp ha with h | h
      · exact hDa.2 a (List.mem_append_left _ h)
      · exact hrA a (hDb.2 a h)
