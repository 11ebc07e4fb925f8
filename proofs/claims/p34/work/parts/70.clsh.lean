/-! STRING.INDEXOF over the text of the commands: contracts over no cell at all; the string stands at ρ 0, its bytes at ρ 1 -/
def sZ : gw_S := (0, fun _ => .inl (0, 0, fun j => j))
theorem gw_cont0 {p : Program} {l : Launch} {e : Env} {R : Room} {s : State} {m : MethodId} {args : Array Value} {below : List Frame} {meth : Method} {c : Code} {D : va_G} {cA : Nat → ClassId} {ρ π : Nat → Nat} {A : Nat → Prop} {Q : State → Prop}
    {S : gw_S} {k n pc : Nat} {ls : Array Slot} {st rest : List Value} {w : gw_M} {H : Heap} {locs : List Loc} {a : Array Value} {post : Option Value → Prop} (hA : ∀ q : Nat, s.heap.size ≤ q → A q) (hP : va_P D vwCl (gw_W cA ρ S w) H) (hD : va_D A (gw_W cA ρ S w)) (hS : va_S A s.heap H locs)
    (hr : va_Run p l e R s m args below meth c H locs k n 0 0 (F0 m pc ls st) rest (gw_Q D cA π sZ H.size (fun v _ => post v) a) (gw_A π 0 H.size))
    (K : ∀ (v : Option Value), post v → ∀ (H1 : Heap) (locs1 : List Loc), va_P D vwCl (gw_W cA ρ S w) H1 → va_D A (gw_W cA ρ S w) → va_S A s.heap H1 locs1 → W p l e R s m args below meth c H1 locs1 k n Q (F0 m (pc + 3) ls ((v.map (gw_v π)).toList ++ rest))) :
    W p l e R s m args below meth c H locs k n Q (F0 m pc ls st) := by
  intro T hT X
  obtain ⟨v, st₀, t, T', L, h0, X', hL, e1, e2, ⟨⟨v1, w1, hv, hp, hB⟩, hz, hk⟩, st⟩ := hr T hT X
  have hv : v = v1.map (gw_v π) := by injection hv
  subst hv
  rw [h0] at hz hk
  have no : ∀ q, q < H.size → ¬ gw_A π 0 H.size q := by
    rintro q hq (⟨i, hi1, -⟩ | h)
    · exact absurd hi1 (Nat.not_lt_zero _)
    · exact absurd hq (Nat.not_lt.mpr h)
  have hAf : ∀ q, gw_A π 0 H.size q → A q := by
    rintro q (⟨i, hi1, -⟩ | h)
    · exact absurd hi1 (Nat.not_lt_zero _)
    · exact hA q (Nat.le_trans hS.1 h)
  have hP2 : va_P D vwCl (gw_W cA ρ S w) T'.heap := by
    rw [e1]
    intro i q hq
    have e9 := hP i q hq
    exact e9.kept (hk q.1 e9.lt (no _ e9.lt))
  have hS2 : va_S A s.heap T'.heap (locs ++ L) := ⟨Nat.le_trans hS.1 (by rw [e1]; exact hz), fun q h1 h2 => by rw [e1, hk q (Nat.lt_of_lt_of_le h1 hS.1) (no q (Nat.lt_of_lt_of_le h1 hS.1))]; exact hS.2.1 q h1 h2, fun q hq => by
      rcases List.mem_append.mp hq with h | h
      · exact hS.2.2 q h
      · exact hAf _ (hL q h)⟩
  obtain ⟨t2, a1, b1⟩ := K v1 hp T'.heap (locs ++ L) hP2 hD hS2 T' rfl X'
  exact ⟨t2, st t2 a1, b1⟩
theorem gw_sZ_P {D : va_G} {cA : Nat → ClassId} {ρ : Nat → Nat} {w : gw_M} {H : Heap} : va_P D vwCl (gw_W cA ρ sZ w) H := fun k q hk => by
  have e : (gw_W cA ρ sZ w)[k]? = none := rfl
  rw [e] at hk; cases hk
theorem gw_sZ_D {A : Nat → Prop} {cA : Nat → ClassId} {ρ : Nat → Nat} {w : gw_M} : va_D A (gw_W cA ρ sZ w) := by
  refine ⟨fun i j p q hi hj he => ?_, fun k q hk => ?_⟩
  · have e : (gw_W cA ρ sZ w)[i]? = none := rfl
    rw [e] at hi; cases hi
  · have e : (gw_W cA ρ sZ w)[k]? = none := rfl
    rw [e] at hk; cases hk
theorem gw_Ein0 {s U : State} {A : Nat → Prop} {π : Nat → Nat} {H : Heap} {locs : List Loc} (hA : ∀ q : Nat, s.heap.size ≤ q → A q) (hE : gw_E A s s.heap) (hS : va_S A s.heap H locs) (hU : U.heap = H) (hW : s.WarmedH U.vm) : gw_E (gw_A π 0 H.size) U U.heap := by
  rw [hU]
  refine ((hE.kept (fun a h1 h2 => hS.2.1 a h1 h2)).warm hW).narrow ?_
  rintro q (⟨i, hi, -⟩ | h)
  · exact absurd hi (Nat.not_lt_zero _)
  · exact hA q (Nat.le_trans hS.1 h)
/-! rows over the string -/
theorem g_iushr {X : gw_X} {own : String} {cc : ByteArray} {nL d mc ms : Nat} (C : gw_ok X own cc nL d mc ms) {S : gw_S} {k n pc : Nat} {lv : gw_LV} {st : List Value} {w : gw_M} {x y : Int32} (hd : decode cc pc = .ok (.iushr, 1)) (K : gw_G X S nL k n (pc + 1) lv (.int (x.toUInt32 >>> (y.toUInt32 &&& Int32.toUInt32 31)).toInt32 :: st) w) : gw_G X S nL k n pc lv (.int y :: .int x :: st) w := by
  obtain ⟨p, l, e, R, s, m, args, below, meth, c, D, cA, ρ, A, Q⟩ := X
  obtain ⟨hx, hb, hml, hown, hts, hK, hA, hE, hRf, hRl, hRc, hRs⟩ := C
  intro H locs ls hP hD hS hl
  exact lv_iushr hx hb hd rfl (K H locs ls hP hD hS hl)
/-! links -/
