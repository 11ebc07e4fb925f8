/-! STRING.INDEXOF over the text of the commands: contracts over no cell at all; the string stands at ρ 0, its bytes at ρ 1 -/
def sZ : gw_S := (0, fun _ => .inl (0, 0, fun j => j))
/-! rows over the string -/
theorem g_iushr {X : gw_X} {own : String} {cc : ByteArray} {nL d mc ms : Nat} (C : gw_ok X own cc nL d mc ms) {S : gw_S} {k n pc : Nat} {lv : gw_LV} {st : List Value} {w : gw_M} {x y : Int32} (hd : decode cc pc = .ok (.iushr, 1)) (K : gw_G X S nL k n (pc + 1) lv (.int (x.toUInt32 >>> (y.toUInt32 &&& Int32.toUInt32 31)).toInt32 :: st) w) : gw_G X S nL k n pc lv (.int y :: .int x :: st) w := by
  obtain ⟨p, l, e, R, s, m, args, below, meth, c, D, cA, ρ, A, Q⟩ := X
  obtain ⟨hx, hb, hml, hown, hts, hK, hA, hE, hRf, hRl, hRc, hRs⟩ := C
  intro H locs ls hP hD hS hl
  exact lv_iushr hx hb hd rfl (K H locs ls hP hD hS hl)
/-! links -/
