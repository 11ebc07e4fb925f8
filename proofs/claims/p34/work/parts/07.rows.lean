theorem g_iconst {X : gw_X} {own : String} {cc : ByteArray} {nL d mc ms : Nat} (C : gw_ok X own cc nL d mc ms) {S : gw_S} {k n pc : Nat} {lv : gw_LV} {st : List Value} {w : gw_M} {i : Int} {v : Int32} (hv : Int32.ofInt i = v) (hd : decode cc pc = .ok (.iconst i, 1)) (K : gw_G X S nL k n (pc + 1) lv (.int v :: st) w) : gw_G X S nL k n pc lv st w := by
  obtain ⟨p, l, e, R, s, m, args, below, meth, c, D, cA, ρ, A, Q⟩ := X
  obtain ⟨hx, hb, hml, hown, hts, hK, hA, hE, hRf, hRl, hRc, hRs⟩ := C
  intro H locs ls hP hD hS hl
  exact lv_iconst hx hb hd hv (K H locs ls hP hD hS hl)
theorem g_bipush {X : gw_X} {own : String} {cc : ByteArray} {nL d mc ms : Nat} (C : gw_ok X own cc nL d mc ms) {S : gw_S} {k n pc : Nat} {lv : gw_LV} {st : List Value} {w : gw_M} {i : Int} {v : Int32} (hv : (Int8.ofInt i).toInt32 = v) (hd : decode cc pc = .ok (.bipush i, 2)) (K : gw_G X S nL k n (pc + 2) lv (.int v :: st) w) : gw_G X S nL k n pc lv st w := by
  obtain ⟨p, l, e, R, s, m, args, below, meth, c, D, cA, ρ, A, Q⟩ := X
  obtain ⟨hx, hb, hml, hown, hts, hK, hA, hE, hRf, hRl, hRc, hRs⟩ := C
  intro H locs ls hP hD hS hl
  exact lv_bipush hx hb hd hv (K H locs ls hP hD hS hl)
theorem g_sipush {X : gw_X} {own : String} {cc : ByteArray} {nL d mc ms : Nat} (C : gw_ok X own cc nL d mc ms) {S : gw_S} {k n pc : Nat} {lv : gw_LV} {st : List Value} {w : gw_M} {i : Int} {v : Int32} (hv : (Int16.ofInt i).toInt32 = v) (hd : decode cc pc = .ok (.sipush i, 3)) (K : gw_G X S nL k n (pc + 3) lv (.int v :: st) w) : gw_G X S nL k n pc lv st w := by
  obtain ⟨p, l, e, R, s, m, args, below, meth, c, D, cA, ρ, A, Q⟩ := X
  obtain ⟨hx, hb, hml, hown, hts, hK, hA, hE, hRf, hRl, hRc, hRs⟩ := C
  intro H locs ls hP hD hS hl
  exact lv_sipush hx hb hd hv (K H locs ls hP hD hS hl)
theorem g_iadd {X : gw_X} {own : String} {cc : ByteArray} {nL d mc ms : Nat} (C : gw_ok X own cc nL d mc ms) {S : gw_S} {k n pc : Nat} {lv : gw_LV} {st : List Value} {w : gw_M} {x y : Int32} (hd : decode cc pc = .ok (.iadd, 1)) (K : gw_G X S nL k n (pc + 1) lv (.int (x + y) :: st) w) : gw_G X S nL k n pc lv (.int y :: .int x :: st) w := by
  obtain ⟨p, l, e, R, s, m, args, below, meth, c, D, cA, ρ, A, Q⟩ := X
  obtain ⟨hx, hb, hml, hown, hts, hK, hA, hE, hRf, hRl, hRc, hRs⟩ := C
  intro H locs ls hP hD hS hl
  exact lv_iadd hx hb hd  (K H locs ls hP hD hS hl)
theorem g_isub {X : gw_X} {own : String} {cc : ByteArray} {nL d mc ms : Nat} (C : gw_ok X own cc nL d mc ms) {S : gw_S} {k n pc : Nat} {lv : gw_LV} {st : List Value} {w : gw_M} {x y : Int32} (hd : decode cc pc = .ok (.isub, 1)) (K : gw_G X S nL k n (pc + 1) lv (.int (x - y) :: st) w) : gw_G X S nL k n pc lv (.int y :: .int x :: st) w := by
  obtain ⟨p, l, e, R, s, m, args, below, meth, c, D, cA, ρ, A, Q⟩ := X
  obtain ⟨hx, hb, hml, hown, hts, hK, hA, hE, hRf, hRl, hRc, hRs⟩ := C
  intro H locs ls hP hD hS hl
  exact lv_isub hx hb hd  (K H locs ls hP hD hS hl)
theorem g_imul {X : gw_X} {own : String} {cc : ByteArray} {nL d mc ms : Nat} (C : gw_ok X own cc nL d mc ms) {S : gw_S} {k n pc : Nat} {lv : gw_LV} {st : List Value} {w : gw_M} {x y : Int32} (hd : decode cc pc = .ok (.imul, 1)) (K : gw_G X S nL k n (pc + 1) lv (.int (x * y) :: st) w) : gw_G X S nL k n pc lv (.int y :: .int x :: st) w := by
  obtain ⟨p, l, e, R, s, m, args, below, meth, c, D, cA, ρ, A, Q⟩ := X
  obtain ⟨hx, hb, hml, hown, hts, hK, hA, hE, hRf, hRl, hRc, hRs⟩ := C
  intro H locs ls hP hD hS hl
  exact lv_imul hx hb hd  (K H locs ls hP hD hS hl)
theorem g_iand {X : gw_X} {own : String} {cc : ByteArray} {nL d mc ms : Nat} (C : gw_ok X own cc nL d mc ms) {S : gw_S} {k n pc : Nat} {lv : gw_LV} {st : List Value} {w : gw_M} {x y : Int32} (hd : decode cc pc = .ok (.iand, 1)) (K : gw_G X S nL k n (pc + 1) lv (.int (x &&& y) :: st) w) : gw_G X S nL k n pc lv (.int y :: .int x :: st) w := by
  obtain ⟨p, l, e, R, s, m, args, below, meth, c, D, cA, ρ, A, Q⟩ := X
  obtain ⟨hx, hb, hml, hown, hts, hK, hA, hE, hRf, hRl, hRc, hRs⟩ := C
  intro H locs ls hP hD hS hl
  exact lv_iand hx hb hd  (K H locs ls hP hD hS hl)
theorem g_ior {X : gw_X} {own : String} {cc : ByteArray} {nL d mc ms : Nat} (C : gw_ok X own cc nL d mc ms) {S : gw_S} {k n pc : Nat} {lv : gw_LV} {st : List Value} {w : gw_M} {x y : Int32} (hd : decode cc pc = .ok (.ior, 1)) (K : gw_G X S nL k n (pc + 1) lv (.int (x ||| y) :: st) w) : gw_G X S nL k n pc lv (.int y :: .int x :: st) w := by
  obtain ⟨p, l, e, R, s, m, args, below, meth, c, D, cA, ρ, A, Q⟩ := X
  obtain ⟨hx, hb, hml, hown, hts, hK, hA, hE, hRf, hRl, hRc, hRs⟩ := C
  intro H locs ls hP hD hS hl
  exact lv_ior hx hb hd  (K H locs ls hP hD hS hl)
theorem g_ixor {X : gw_X} {own : String} {cc : ByteArray} {nL d mc ms : Nat} (C : gw_ok X own cc nL d mc ms) {S : gw_S} {k n pc : Nat} {lv : gw_LV} {st : List Value} {w : gw_M} {x y : Int32} (hd : decode cc pc = .ok (.ixor, 1)) (K : gw_G X S nL k n (pc + 1) lv (.int (x ^^^ y) :: st) w) : gw_G X S nL k n pc lv (.int y :: .int x :: st) w := by
  obtain ⟨p, l, e, R, s, m, args, below, meth, c, D, cA, ρ, A, Q⟩ := X
  obtain ⟨hx, hb, hml, hown, hts, hK, hA, hE, hRf, hRl, hRc, hRs⟩ := C
  intro H locs ls hP hD hS hl
  exact lv_ixor hx hb hd  (K H locs ls hP hD hS hl)
theorem g_ladd {X : gw_X} {own : String} {cc : ByteArray} {nL d mc ms : Nat} (C : gw_ok X own cc nL d mc ms) {S : gw_S} {k n pc : Nat} {lv : gw_LV} {st : List Value} {w : gw_M} {x y : Int64} (hd : decode cc pc = .ok (.ladd, 1)) (K : gw_G X S nL k n (pc + 1) lv (.long (x + y) :: st) w) : gw_G X S nL k n pc lv (.long y :: .long x :: st) w := by
  obtain ⟨p, l, e, R, s, m, args, below, meth, c, D, cA, ρ, A, Q⟩ := X
  obtain ⟨hx, hb, hml, hown, hts, hK, hA, hE, hRf, hRl, hRc, hRs⟩ := C
  intro H locs ls hP hD hS hl
  exact lv_ladd hx hb hd  (K H locs ls hP hD hS hl)
theorem g_lsub {X : gw_X} {own : String} {cc : ByteArray} {nL d mc ms : Nat} (C : gw_ok X own cc nL d mc ms) {S : gw_S} {k n pc : Nat} {lv : gw_LV} {st : List Value} {w : gw_M} {x y : Int64} (hd : decode cc pc = .ok (.lsub, 1)) (K : gw_G X S nL k n (pc + 1) lv (.long (x - y) :: st) w) : gw_G X S nL k n pc lv (.long y :: .long x :: st) w := by
  obtain ⟨p, l, e, R, s, m, args, below, meth, c, D, cA, ρ, A, Q⟩ := X
  obtain ⟨hx, hb, hml, hown, hts, hK, hA, hE, hRf, hRl, hRc, hRs⟩ := C
  intro H locs ls hP hD hS hl
  exact lv_lsub hx hb hd  (K H locs ls hP hD hS hl)
theorem g_lmul {X : gw_X} {own : String} {cc : ByteArray} {nL d mc ms : Nat} (C : gw_ok X own cc nL d mc ms) {S : gw_S} {k n pc : Nat} {lv : gw_LV} {st : List Value} {w : gw_M} {x y : Int64} (hd : decode cc pc = .ok (.lmul, 1)) (K : gw_G X S nL k n (pc + 1) lv (.long (x * y) :: st) w) : gw_G X S nL k n pc lv (.long y :: .long x :: st) w := by
  obtain ⟨p, l, e, R, s, m, args, below, meth, c, D, cA, ρ, A, Q⟩ := X
  obtain ⟨hx, hb, hml, hown, hts, hK, hA, hE, hRf, hRl, hRc, hRs⟩ := C
  intro H locs ls hP hD hS hl
  exact lv_lmul hx hb hd  (K H locs ls hP hD hS hl)
theorem g_land {X : gw_X} {own : String} {cc : ByteArray} {nL d mc ms : Nat} (C : gw_ok X own cc nL d mc ms) {S : gw_S} {k n pc : Nat} {lv : gw_LV} {st : List Value} {w : gw_M} {x y : Int64} (hd : decode cc pc = .ok (.land, 1)) (K : gw_G X S nL k n (pc + 1) lv (.long (x &&& y) :: st) w) : gw_G X S nL k n pc lv (.long y :: .long x :: st) w := by
  obtain ⟨p, l, e, R, s, m, args, below, meth, c, D, cA, ρ, A, Q⟩ := X
  obtain ⟨hx, hb, hml, hown, hts, hK, hA, hE, hRf, hRl, hRc, hRs⟩ := C
  intro H locs ls hP hD hS hl
  exact lv_land hx hb hd  (K H locs ls hP hD hS hl)
theorem g_lor {X : gw_X} {own : String} {cc : ByteArray} {nL d mc ms : Nat} (C : gw_ok X own cc nL d mc ms) {S : gw_S} {k n pc : Nat} {lv : gw_LV} {st : List Value} {w : gw_M} {x y : Int64} (hd : decode cc pc = .ok (.lor, 1)) (K : gw_G X S nL k n (pc + 1) lv (.long (x ||| y) :: st) w) : gw_G X S nL k n pc lv (.long y :: .long x :: st) w := by
  obtain ⟨p, l, e, R, s, m, args, below, meth, c, D, cA, ρ, A, Q⟩ := X
  obtain ⟨hx, hb, hml, hown, hts, hK, hA, hE, hRf, hRl, hRc, hRs⟩ := C
  intro H locs ls hP hD hS hl
  exact lv_lor hx hb hd  (K H locs ls hP hD hS hl)
theorem g_lxor {X : gw_X} {own : String} {cc : ByteArray} {nL d mc ms : Nat} (C : gw_ok X own cc nL d mc ms) {S : gw_S} {k n pc : Nat} {lv : gw_LV} {st : List Value} {w : gw_M} {x y : Int64} (hd : decode cc pc = .ok (.lxor, 1)) (K : gw_G X S nL k n (pc + 1) lv (.long (x ^^^ y) :: st) w) : gw_G X S nL k n pc lv (.long y :: .long x :: st) w := by
  obtain ⟨p, l, e, R, s, m, args, below, meth, c, D, cA, ρ, A, Q⟩ := X
  obtain ⟨hx, hb, hml, hown, hts, hK, hA, hE, hRf, hRl, hRc, hRs⟩ := C
  intro H locs ls hP hD hS hl
  exact lv_lxor hx hb hd  (K H locs ls hP hD hS hl)
theorem g_idiv {X : gw_X} {own : String} {cc : ByteArray} {nL d mc ms : Nat} (C : gw_ok X own cc nL d mc ms) {S : gw_S} {k n pc : Nat} {lv : gw_LV} {st : List Value} {w : gw_M} {x y : Int32} (hne : ¬ y = 0) (hd : decode cc pc = .ok (.idiv, 1)) (K : gw_G X S nL k n (pc + 1) lv (.int (x / y) :: st) w) : gw_G X S nL k n pc lv (.int y :: .int x :: st) w := by
  obtain ⟨p, l, e, R, s, m, args, below, meth, c, D, cA, ρ, A, Q⟩ := X
  obtain ⟨hx, hb, hml, hown, hts, hK, hA, hE, hRf, hRl, hRc, hRs⟩ := C
  intro H locs ls hP hD hS hl
  exact lv_idiv hx hb hd hne (K H locs ls hP hD hS hl)
theorem g_irem {X : gw_X} {own : String} {cc : ByteArray} {nL d mc ms : Nat} (C : gw_ok X own cc nL d mc ms) {S : gw_S} {k n pc : Nat} {lv : gw_LV} {st : List Value} {w : gw_M} {x y : Int32} (hne : ¬ y = 0) (hd : decode cc pc = .ok (.irem, 1)) (K : gw_G X S nL k n (pc + 1) lv (.int (x - x / y * y) :: st) w) : gw_G X S nL k n pc lv (.int y :: .int x :: st) w := by
  obtain ⟨p, l, e, R, s, m, args, below, meth, c, D, cA, ρ, A, Q⟩ := X
  obtain ⟨hx, hb, hml, hown, hts, hK, hA, hE, hRf, hRl, hRc, hRs⟩ := C
  intro H locs ls hP hD hS hl
  exact lv_irem hx hb hd hne (K H locs ls hP hD hS hl)
theorem g_ldiv {X : gw_X} {own : String} {cc : ByteArray} {nL d mc ms : Nat} (C : gw_ok X own cc nL d mc ms) {S : gw_S} {k n pc : Nat} {lv : gw_LV} {st : List Value} {w : gw_M} {x y : Int64} (hne : ¬ y = 0) (hd : decode cc pc = .ok (.ldiv, 1)) (K : gw_G X S nL k n (pc + 1) lv (.long (x / y) :: st) w) : gw_G X S nL k n pc lv (.long y :: .long x :: st) w := by
  obtain ⟨p, l, e, R, s, m, args, below, meth, c, D, cA, ρ, A, Q⟩ := X
  obtain ⟨hx, hb, hml, hown, hts, hK, hA, hE, hRf, hRl, hRc, hRs⟩ := C
  intro H locs ls hP hD hS hl
  exact lv_ldiv hx hb hd hne (K H locs ls hP hD hS hl)
theorem g_lrem {X : gw_X} {own : String} {cc : ByteArray} {nL d mc ms : Nat} (C : gw_ok X own cc nL d mc ms) {S : gw_S} {k n pc : Nat} {lv : gw_LV} {st : List Value} {w : gw_M} {x y : Int64} (hne : ¬ y = 0) (hd : decode cc pc = .ok (.lrem, 1)) (K : gw_G X S nL k n (pc + 1) lv (.long (x - x / y * y) :: st) w) : gw_G X S nL k n pc lv (.long y :: .long x :: st) w := by
  obtain ⟨p, l, e, R, s, m, args, below, meth, c, D, cA, ρ, A, Q⟩ := X
  obtain ⟨hx, hb, hml, hown, hts, hK, hA, hE, hRf, hRl, hRc, hRs⟩ := C
  intro H locs ls hP hD hS hl
  exact lv_lrem hx hb hd hne (K H locs ls hP hD hS hl)
theorem g_ishl {X : gw_X} {own : String} {cc : ByteArray} {nL d mc ms : Nat} (C : gw_ok X own cc nL d mc ms) {S : gw_S} {k n pc : Nat} {lv : gw_LV} {st : List Value} {w : gw_M} {x y : Int32} (hd : decode cc pc = .ok (.ishl, 1)) (K : gw_G X S nL k n (pc + 1) lv (.int (x <<< (y &&& 31)) :: st) w) : gw_G X S nL k n pc lv (.int y :: .int x :: st) w := by
  obtain ⟨p, l, e, R, s, m, args, below, meth, c, D, cA, ρ, A, Q⟩ := X
  obtain ⟨hx, hb, hml, hown, hts, hK, hA, hE, hRf, hRl, hRc, hRs⟩ := C
  intro H locs ls hP hD hS hl
  exact lv_ishl hx hb hd  (K H locs ls hP hD hS hl)
theorem g_ishr {X : gw_X} {own : String} {cc : ByteArray} {nL d mc ms : Nat} (C : gw_ok X own cc nL d mc ms) {S : gw_S} {k n pc : Nat} {lv : gw_LV} {st : List Value} {w : gw_M} {x y : Int32} (hd : decode cc pc = .ok (.ishr, 1)) (K : gw_G X S nL k n (pc + 1) lv (.int (x >>> (y &&& 31)) :: st) w) : gw_G X S nL k n pc lv (.int y :: .int x :: st) w := by
  obtain ⟨p, l, e, R, s, m, args, below, meth, c, D, cA, ρ, A, Q⟩ := X
  obtain ⟨hx, hb, hml, hown, hts, hK, hA, hE, hRf, hRl, hRc, hRs⟩ := C
  intro H locs ls hP hD hS hl
  exact lv_ishr hx hb hd  (K H locs ls hP hD hS hl)
theorem g_lshl {X : gw_X} {own : String} {cc : ByteArray} {nL d mc ms : Nat} (C : gw_ok X own cc nL d mc ms) {S : gw_S} {k n pc : Nat} {lv : gw_LV} {st : List Value} {w : gw_M} {x : Int64} {y : Int32} (hd : decode cc pc = .ok (.lshl, 1)) (K : gw_G X S nL k n (pc + 1) lv (.long (x <<< (y.toInt64 &&& 63)) :: st) w) : gw_G X S nL k n pc lv (.int y :: .long x :: st) w := by
  obtain ⟨p, l, e, R, s, m, args, below, meth, c, D, cA, ρ, A, Q⟩ := X
  obtain ⟨hx, hb, hml, hown, hts, hK, hA, hE, hRf, hRl, hRc, hRs⟩ := C
  intro H locs ls hP hD hS hl
  exact lv_lshl hx hb hd rfl (K H locs ls hP hD hS hl)
theorem g_lushr {X : gw_X} {own : String} {cc : ByteArray} {nL d mc ms : Nat} (C : gw_ok X own cc nL d mc ms) {S : gw_S} {k n pc : Nat} {lv : gw_LV} {st : List Value} {w : gw_M} {x : Int64} {y : Int32} (hd : decode cc pc = .ok (.lushr, 1)) (K : gw_G X S nL k n (pc + 1) lv (.long (x.toUInt64 >>> (y.toInt64.toUInt64 &&& Int64.toUInt64 63)).toInt64 :: st) w) : gw_G X S nL k n pc lv (.int y :: .long x :: st) w := by
  obtain ⟨p, l, e, R, s, m, args, below, meth, c, D, cA, ρ, A, Q⟩ := X
  obtain ⟨hx, hb, hml, hown, hts, hK, hA, hE, hRf, hRl, hRc, hRs⟩ := C
  intro H locs ls hP hD hS hl
  exact lv_lushr hx hb hd rfl (K H locs ls hP hD hS hl)
theorem g_i2l {X : gw_X} {own : String} {cc : ByteArray} {nL d mc ms : Nat} (C : gw_ok X own cc nL d mc ms) {S : gw_S} {k n pc : Nat} {lv : gw_LV} {st : List Value} {w : gw_M} {x : Int32} (hd : decode cc pc = .ok (.i2l, 1)) (K : gw_G X S nL k n (pc + 1) lv (.long x.toInt64 :: st) w) : gw_G X S nL k n pc lv (.int x :: st) w := by
  obtain ⟨p, l, e, R, s, m, args, below, meth, c, D, cA, ρ, A, Q⟩ := X
  obtain ⟨hx, hb, hml, hown, hts, hK, hA, hE, hRf, hRl, hRc, hRs⟩ := C
  intro H locs ls hP hD hS hl
  exact lv_i2l hx hb hd rfl (K H locs ls hP hD hS hl)
theorem g_l2i {X : gw_X} {own : String} {cc : ByteArray} {nL d mc ms : Nat} (C : gw_ok X own cc nL d mc ms) {S : gw_S} {k n pc : Nat} {lv : gw_LV} {st : List Value} {w : gw_M} {x : Int64} (hd : decode cc pc = .ok (.l2i, 1)) (K : gw_G X S nL k n (pc + 1) lv (.int x.toInt32 :: st) w) : gw_G X S nL k n pc lv (.long x :: st) w := by
  obtain ⟨p, l, e, R, s, m, args, below, meth, c, D, cA, ρ, A, Q⟩ := X
  obtain ⟨hx, hb, hml, hown, hts, hK, hA, hE, hRf, hRl, hRc, hRs⟩ := C
  intro H locs ls hP hD hS hl
  exact lv_l2i hx hb hd rfl (K H locs ls hP hD hS hl)
theorem g_pop {X : gw_X} {own : String} {cc : ByteArray} {nL d mc ms : Nat} (C : gw_ok X own cc nL d mc ms) {S : gw_S} {k n pc : Nat} {lv : gw_LV} {st : List Value} {w : gw_M} {v : Value} (hv : v.category = 1) (hd : decode cc pc = .ok (.pop, 1)) (K : gw_G X S nL k n (pc + 1) lv (st) w) : gw_G X S nL k n pc lv (v :: st) w := by
  obtain ⟨p, l, e, R, s, m, args, below, meth, c, D, cA, ρ, A, Q⟩ := X
  obtain ⟨hx, hb, hml, hown, hts, hK, hA, hE, hRf, hRl, hRc, hRs⟩ := C
  intro H locs ls hP hD hS hl
  exact lv_pop hx hb hd (by rw [gw_v_cat]; exact hv) (K H locs ls hP hD hS hl)
theorem g_dup {X : gw_X} {own : String} {cc : ByteArray} {nL d mc ms : Nat} (C : gw_ok X own cc nL d mc ms) {S : gw_S} {k n pc : Nat} {lv : gw_LV} {st : List Value} {w : gw_M} {v : Value} (hv : v.category = 1) (hd : decode cc pc = .ok (.dup, 1)) (K : gw_G X S nL k n (pc + 1) lv (v :: v :: st) w) : gw_G X S nL k n pc lv (v :: st) w := by
  obtain ⟨p, l, e, R, s, m, args, below, meth, c, D, cA, ρ, A, Q⟩ := X
  obtain ⟨hx, hb, hml, hown, hts, hK, hA, hE, hRf, hRl, hRc, hRs⟩ := C
  intro H locs ls hP hD hS hl
  exact lv_dup hx hb hd (by rw [gw_v_cat]; exact hv) (K H locs ls hP hD hS hl)
theorem g_dup2 {X : gw_X} {own : String} {cc : ByteArray} {nL d mc ms : Nat} (C : gw_ok X own cc nL d mc ms) {S : gw_S} {k n pc : Nat} {lv : gw_LV} {st : List Value} {w : gw_M} {va vb : Value} (hva : va.category = 1) (hvb : vb.category = 1) (hd : decode cc pc = .ok (.dup2, 1)) (K : gw_G X S nL k n (pc + 1) lv (va :: vb :: va :: vb :: st) w) : gw_G X S nL k n pc lv (va :: vb :: st) w := by
  obtain ⟨p, l, e, R, s, m, args, below, meth, c, D, cA, ρ, A, Q⟩ := X
  obtain ⟨hx, hb, hml, hown, hts, hK, hA, hE, hRf, hRl, hRc, hRs⟩ := C
  intro H locs ls hP hD hS hl
  exact lv_dup2_11 hx hb hd (by rw [gw_v_cat]; exact hva) (by rw [gw_v_cat]; exact hvb) (K H locs ls hP hD hS hl)
def gw_lk (lv : gw_LV) (i : Nat) : Option Value := lv.lookup i
theorem gw_lk_mem {lv : gw_LV} {i : Nat} {v : Value} (h : gw_lk lv i = some v) : (i, v) ∈ lv := by
  unfold gw_lk at h
  induction lv with
  | nil => cases h
  | cons a l ih =>
    obtain ⟨j, z⟩ := a
    rw [List.lookup_cons] at h
    split at h
    · rename_i hq
      have e1 : i = j := by simpa using hq
      cases h; rw [e1]; exact List.mem_cons_self
    · exact List.mem_cons_of_mem _ (ih h)
theorem gw_lk_ls {ρ : Nat → Nat} {ls : Array Slot} {nL : Nat} {lv : gw_LV} {i : Nat} {v : Value} (hl : lv_has ls nL (gw_l ρ lv)) (h : gw_lk lv i = some v) : ls[i]? = some (.val (gw_v ρ v)) :=
  hl.2.2 (i, gw_v ρ v) (List.mem_map.mpr ⟨(i, v), gw_lk_mem h, rfl⟩)
def gw_st1 (i : Nat) (v : Value) (lv : gw_LV) : gw_LV := (i, v) :: lv.filter (fun q => !(q.1 == i) && !(q.1 + 1 == i && q.2.category == 2))
def gw_st2 (i : Nat) (v : Value) (lv : gw_LV) : gw_LV := (i, v) :: lv.filter (fun q => !(q.1 == i) && (!(q.1 == i + 1) && !(q.1 + 1 == i && q.2.category == 2)))
theorem gw_st1_l (ρ : Nat → Nat) (i : Nat) (v : Value) (lv : gw_LV) : (i, gw_v ρ v) :: (gw_l ρ lv).filter (fun q => !(q.1 == i) && !(q.1 + 1 == i && q.2.category == 2)) = gw_l ρ (gw_st1 i v lv) := by
  simp only [gw_l, gw_st1, List.map_cons, List.filter_map]
  congr 2
  apply List.filter_congr
  intro q _
  simp [Function.comp, gw_v_cat]
theorem gw_st2_l (ρ : Nat → Nat) (i : Nat) (v : Value) (lv : gw_LV) : (i, gw_v ρ v) :: (gw_l ρ lv).filter (fun q => !(q.1 == i) && (!(q.1 == i + 1) && !(q.1 + 1 == i && q.2.category == 2))) = gw_l ρ (gw_st2 i v lv) := by
  simp only [gw_l, gw_st2, List.map_cons, List.filter_map]
  congr 2
  apply List.filter_congr
  intro q _
  simp [Function.comp, gw_v_cat]
theorem g_iload {X : gw_X} {own : String} {cc : ByteArray} {nL d mc ms : Nat} (C : gw_ok X own cc nL d mc ms) {S : gw_S} {k n pc : Nat} {lv : gw_LV} {st : List Value} {w : gw_M} {i : Nat} {x : Int32} (hi : gw_lk lv i = some (.int x)) (hd : decode cc pc = .ok (.iload i, 2)) (K : gw_G X S nL k n (pc + 2) lv (.int x :: st) w) : gw_G X S nL k n pc lv st w := by
  obtain ⟨p, l, e, R, s, m, args, below, meth, c, D, cA, ρ, A, Q⟩ := X
  obtain ⟨hx, hb, hml, hown, hts, hK, hA, hE, hRf, hRl, hRc, hRs⟩ := C
  intro H locs ls hP hD hS hl
  exact lv_iload hx hb hd (gw_lk_ls hl hi) (K H locs ls hP hD hS hl)
theorem g_iload_n {X : gw_X} {own : String} {cc : ByteArray} {nL d mc ms : Nat} (C : gw_ok X own cc nL d mc ms) {S : gw_S} {k n pc : Nat} {lv : gw_LV} {st : List Value} {w : gw_M} {i : Fin 4} {x : Int32} (hi : gw_lk lv i.val = some (.int x)) (hd : decode cc pc = .ok (.iload_n i, 1)) (K : gw_G X S nL k n (pc + 1) lv (.int x :: st) w) : gw_G X S nL k n pc lv st w := by
  obtain ⟨p, l, e, R, s, m, args, below, meth, c, D, cA, ρ, A, Q⟩ := X
  obtain ⟨hx, hb, hml, hown, hts, hK, hA, hE, hRf, hRl, hRc, hRs⟩ := C
  intro H locs ls hP hD hS hl
  exact lv_iload_n hx hb hd rfl (gw_lk_ls hl hi) (K H locs ls hP hD hS hl)
theorem g_lload {X : gw_X} {own : String} {cc : ByteArray} {nL d mc ms : Nat} (C : gw_ok X own cc nL d mc ms) {S : gw_S} {k n pc : Nat} {lv : gw_LV} {st : List Value} {w : gw_M} {i : Nat} {x : Int64} (hi : gw_lk lv i = some (.long x)) (hd : decode cc pc = .ok (.lload i, 2)) (K : gw_G X S nL k n (pc + 2) lv (.long x :: st) w) : gw_G X S nL k n pc lv st w := by
  obtain ⟨p, l, e, R, s, m, args, below, meth, c, D, cA, ρ, A, Q⟩ := X
  obtain ⟨hx, hb, hml, hown, hts, hK, hA, hE, hRf, hRl, hRc, hRs⟩ := C
  intro H locs ls hP hD hS hl
  exact lv_lload hx hb hd (gw_lk_ls hl hi) (K H locs ls hP hD hS hl)
theorem g_lload_n {X : gw_X} {own : String} {cc : ByteArray} {nL d mc ms : Nat} (C : gw_ok X own cc nL d mc ms) {S : gw_S} {k n pc : Nat} {lv : gw_LV} {st : List Value} {w : gw_M} {i : Fin 4} {x : Int64} (hi : gw_lk lv i.val = some (.long x)) (hd : decode cc pc = .ok (.lload_n i, 1)) (K : gw_G X S nL k n (pc + 1) lv (.long x :: st) w) : gw_G X S nL k n pc lv st w := by
  obtain ⟨p, l, e, R, s, m, args, below, meth, c, D, cA, ρ, A, Q⟩ := X
  obtain ⟨hx, hb, hml, hown, hts, hK, hA, hE, hRf, hRl, hRc, hRs⟩ := C
  intro H locs ls hP hD hS hl
  exact lv_lload_n hx hb hd rfl (gw_lk_ls hl hi) (K H locs ls hP hD hS hl)
theorem g_aload {X : gw_X} {own : String} {cc : ByteArray} {nL d mc ms : Nat} (C : gw_ok X own cc nL d mc ms) {S : gw_S} {k n pc : Nat} {lv : gw_LV} {st : List Value} {w : gw_M} {i : Nat} {x : Nat} (hi : gw_lk lv i = some (.ref x)) (hd : decode cc pc = .ok (.aload i, 2)) (K : gw_G X S nL k n (pc + 2) lv (.ref x :: st) w) : gw_G X S nL k n pc lv st w := by
  obtain ⟨p, l, e, R, s, m, args, below, meth, c, D, cA, ρ, A, Q⟩ := X
  obtain ⟨hx, hb, hml, hown, hts, hK, hA, hE, hRf, hRl, hRc, hRs⟩ := C
  intro H locs ls hP hD hS hl
  exact lv_aload hx hb hd (gw_lk_ls hl hi) (K H locs ls hP hD hS hl)
theorem g_aload_n {X : gw_X} {own : String} {cc : ByteArray} {nL d mc ms : Nat} (C : gw_ok X own cc nL d mc ms) {S : gw_S} {k n pc : Nat} {lv : gw_LV} {st : List Value} {w : gw_M} {i : Fin 4} {x : Nat} (hi : gw_lk lv i.val = some (.ref x)) (hd : decode cc pc = .ok (.aload_n i, 1)) (K : gw_G X S nL k n (pc + 1) lv (.ref x :: st) w) : gw_G X S nL k n pc lv st w := by
  obtain ⟨p, l, e, R, s, m, args, below, meth, c, D, cA, ρ, A, Q⟩ := X
  obtain ⟨hx, hb, hml, hown, hts, hK, hA, hE, hRf, hRl, hRc, hRs⟩ := C
  intro H locs ls hP hD hS hl
  exact lv_aload_n hx hb hd rfl (gw_lk_ls hl hi) (K H locs ls hP hD hS hl)
theorem g_istore {X : gw_X} {own : String} {cc : ByteArray} {nL d mc ms : Nat} (C : gw_ok X own cc nL d mc ms) {S : gw_S} {k n pc : Nat} {lv : gw_LV} {st : List Value} {w : gw_M} {i : Nat} {x : Int32} (hn : i < nL) (hd : decode cc pc = .ok (.istore i, 2)) (K : gw_G X S nL k n (pc + 2) (gw_st1 i (.int x) lv) st w) : gw_G X S nL k n pc lv (.int x :: st) w := by
  obtain ⟨p, l, e, R, s, m, args, below, meth, c, D, cA, ρ, A, Q⟩ := X
  obtain ⟨hx, hb, hml, hown, hts, hK, hA, hE, hRf, hRl, hRc, hRs⟩ := C
  intro H locs ls hP hD hS hl
  exact lv_istore hx hb hd hl hn (gw_st1_l ρ i (.int x) lv) (fun ls1 hl1 => K H locs ls1 hP hD hS hl1)
theorem g_istore_n {X : gw_X} {own : String} {cc : ByteArray} {nL d mc ms : Nat} (C : gw_ok X own cc nL d mc ms) {S : gw_S} {k n pc : Nat} {lv : gw_LV} {st : List Value} {w : gw_M} {i : Fin 4} {x : Int32} (hn : i.val < nL) (hd : decode cc pc = .ok (.istore_n i, 1)) (K : gw_G X S nL k n (pc + 1) (gw_st1 i.val (.int x) lv) st w) : gw_G X S nL k n pc lv (.int x :: st) w := by
  obtain ⟨p, l, e, R, s, m, args, below, meth, c, D, cA, ρ, A, Q⟩ := X
  obtain ⟨hx, hb, hml, hown, hts, hK, hA, hE, hRf, hRl, hRc, hRs⟩ := C
  intro H locs ls hP hD hS hl
  exact lv_istore_n hx hb hd rfl hl hn (gw_st1_l ρ i.val (.int x) lv) (fun ls1 hl1 => K H locs ls1 hP hD hS hl1)
theorem g_lstore {X : gw_X} {own : String} {cc : ByteArray} {nL d mc ms : Nat} (C : gw_ok X own cc nL d mc ms) {S : gw_S} {k n pc : Nat} {lv : gw_LV} {st : List Value} {w : gw_M} {i : Nat} {x : Int64} (hn : i + 1 < nL) (hd : decode cc pc = .ok (.lstore i, 2)) (K : gw_G X S nL k n (pc + 2) (gw_st2 i (.long x) lv) st w) : gw_G X S nL k n pc lv (.long x :: st) w := by
  obtain ⟨p, l, e, R, s, m, args, below, meth, c, D, cA, ρ, A, Q⟩ := X
  obtain ⟨hx, hb, hml, hown, hts, hK, hA, hE, hRf, hRl, hRc, hRs⟩ := C
  intro H locs ls hP hD hS hl
  exact lv_lstore hx hb hd hl hn (gw_st2_l ρ i (.long x) lv) (fun ls1 hl1 => K H locs ls1 hP hD hS hl1)
theorem g_lstore_n {X : gw_X} {own : String} {cc : ByteArray} {nL d mc ms : Nat} (C : gw_ok X own cc nL d mc ms) {S : gw_S} {k n pc : Nat} {lv : gw_LV} {st : List Value} {w : gw_M} {i : Fin 4} {x : Int64} (hn : i.val + 1 < nL) (hd : decode cc pc = .ok (.lstore_n i, 1)) (K : gw_G X S nL k n (pc + 1) (gw_st2 i.val (.long x) lv) st w) : gw_G X S nL k n pc lv (.long x :: st) w := by
  obtain ⟨p, l, e, R, s, m, args, below, meth, c, D, cA, ρ, A, Q⟩ := X
  obtain ⟨hx, hb, hml, hown, hts, hK, hA, hE, hRf, hRl, hRc, hRs⟩ := C
  intro H locs ls hP hD hS hl
  exact lv_lstore_n hx hb hd rfl hl hn (gw_st2_l ρ i.val (.long x) lv) (fun ls1 hl1 => K H locs ls1 hP hD hS hl1)
theorem g_astore {X : gw_X} {own : String} {cc : ByteArray} {nL d mc ms : Nat} (C : gw_ok X own cc nL d mc ms) {S : gw_S} {k n pc : Nat} {lv : gw_LV} {st : List Value} {w : gw_M} {i : Nat} {x : Nat} (hn : i < nL) (hd : decode cc pc = .ok (.astore i, 2)) (K : gw_G X S nL k n (pc + 2) (gw_st1 i (.ref x) lv) st w) : gw_G X S nL k n pc lv (.ref x :: st) w := by
  obtain ⟨p, l, e, R, s, m, args, below, meth, c, D, cA, ρ, A, Q⟩ := X
  obtain ⟨hx, hb, hml, hown, hts, hK, hA, hE, hRf, hRl, hRc, hRs⟩ := C
  intro H locs ls hP hD hS hl
  exact lv_astore hx hb hd hl hn (gw_st1_l ρ i (.ref x) lv) (fun ls1 hl1 => K H locs ls1 hP hD hS hl1)
theorem g_astore_n {X : gw_X} {own : String} {cc : ByteArray} {nL d mc ms : Nat} (C : gw_ok X own cc nL d mc ms) {S : gw_S} {k n pc : Nat} {lv : gw_LV} {st : List Value} {w : gw_M} {i : Fin 4} {x : Nat} (hn : i.val < nL) (hd : decode cc pc = .ok (.astore_n i, 1)) (K : gw_G X S nL k n (pc + 1) (gw_st1 i.val (.ref x) lv) st w) : gw_G X S nL k n pc lv (.ref x :: st) w := by
  obtain ⟨p, l, e, R, s, m, args, below, meth, c, D, cA, ρ, A, Q⟩ := X
  obtain ⟨hx, hb, hml, hown, hts, hK, hA, hE, hRf, hRl, hRc, hRs⟩ := C
  intro H locs ls hP hD hS hl
  exact lv_astore_n hx hb hd rfl hl hn (gw_st1_l ρ i.val (.ref x) lv) (fun ls1 hl1 => K H locs ls1 hP hD hS hl1)
theorem g_iinc {X : gw_X} {own : String} {cc : ByteArray} {nL d mc ms : Nat} (C : gw_ok X own cc nL d mc ms) {S : gw_S} {k n pc : Nat} {lv : gw_LV} {st : List Value} {w : gw_M} {i : Nat} {z : Int} {x v : Int32} (hi : gw_lk lv i = some (.int x)) (hv : x + Int32.ofInt z = v) (hn : i < nL) (hd : decode cc pc = .ok (.iinc i z, 3)) (K : gw_G X S nL k n (pc + 3) (gw_st1 i (.int v) lv) st w) : gw_G X S nL k n pc lv st w := by
  obtain ⟨p, l, e, R, s, m, args, below, meth, c, D, cA, ρ, A, Q⟩ := X
  obtain ⟨hx, hb, hml, hown, hts, hK, hA, hE, hRf, hRl, hRc, hRs⟩ := C
  intro H locs ls hP hD hS hl
  obtain ⟨j, hj⟩ := List.getElem?_of_mem (List.mem_map.mpr ⟨(i, .int x), gw_lk_mem hi, rfl⟩ : (i, Value.int x) ∈ gw_l ρ lv)
  exact lv_iinc hx hb hd hl hj hv hn (gw_st1_l ρ i (.int v) lv) (fun ls1 hl1 => K H locs ls1 hP hD hS hl1)
/-- other locals, of those that are there -/
theorem g_sub {X : gw_X} {S : gw_S} {nL k n pc : Nat} {lv lv' : gw_LV} {st : List Value} {w : gw_M} (h2 : lv'.map (fun q => gw_lk lv q.1) = lv'.map (fun q => some q.2)) (K : gw_G X S nL k n pc lv' st w) : gw_G X S nL k n pc lv st w := by
  obtain ⟨p, l, e, R, s, m, args, below, meth, c, D, cA, ρ, A, Q⟩ := X
  intro H locs ls hP hD hS hl
  refine K H locs ls hP hD hS ⟨hl.1, hl.2.1, fun q hq => ?_⟩
  obtain ⟨z, hz, rfl⟩ := List.mem_map.mp hq
  have e1 : gw_lk lv z.1 = some z.2 := by
    obtain ⟨j, hj⟩ := List.getElem?_of_mem hz
    have e2 := congrArg (fun t => t[j]?) h2
    simp only [List.getElem?_map, hj, Option.map_some] at e2
    exact Option.some.inj e2
  exact gw_lk_ls hl e1
theorem g_if_eq {X : gw_X} {own : String} {cc : ByteArray} {nL d mc ms : Nat} (C : gw_ok X own cc nL d mc ms) {S : gw_S} {k n pc : Nat} {lv : gw_LV} {st : List Value} {w : gw_M} {x : Int32} {off : Int} {tgt : Nat} (ht : (pc : Int) + off = (tgt : Int)) (hd : decode cc pc = .ok (.ifCond .eq off, 3)) (Kt : x = 0 → gw_G X S nL k n tgt lv st w) (Kf : ¬ x = 0 → gw_G X S nL k n (pc + 3) lv st w) : gw_G X S nL k n pc lv (.int x :: st) w := by
  obtain ⟨p, l, e, R, s, m, args, below, meth, c, D, cA, ρ, A, Q⟩ := X
  obtain ⟨hx, hb, hml, hown, hts, hK, hA, hE, hRf, hRl, hRc, hRs⟩ := C
  intro H locs ls hP hD hS hl
  exact lv_if_eq hx hb hd ht (fun h => Kt h H locs ls hP hD hS hl) (fun h => Kf h H locs ls hP hD hS hl)
theorem g_if_ne {X : gw_X} {own : String} {cc : ByteArray} {nL d mc ms : Nat} (C : gw_ok X own cc nL d mc ms) {S : gw_S} {k n pc : Nat} {lv : gw_LV} {st : List Value} {w : gw_M} {x : Int32} {off : Int} {tgt : Nat} (ht : (pc : Int) + off = (tgt : Int)) (hd : decode cc pc = .ok (.ifCond .ne off, 3)) (Kt : ¬ x = 0 → gw_G X S nL k n tgt lv st w) (Kf : x = 0 → gw_G X S nL k n (pc + 3) lv st w) : gw_G X S nL k n pc lv (.int x :: st) w := by
  obtain ⟨p, l, e, R, s, m, args, below, meth, c, D, cA, ρ, A, Q⟩ := X
  obtain ⟨hx, hb, hml, hown, hts, hK, hA, hE, hRf, hRl, hRc, hRs⟩ := C
  intro H locs ls hP hD hS hl
  exact lv_if_ne hx hb hd ht (fun h => Kt h H locs ls hP hD hS hl) (fun h => Kf h H locs ls hP hD hS hl)
theorem g_if_lt {X : gw_X} {own : String} {cc : ByteArray} {nL d mc ms : Nat} (C : gw_ok X own cc nL d mc ms) {S : gw_S} {k n pc : Nat} {lv : gw_LV} {st : List Value} {w : gw_M} {x : Int32} {off : Int} {tgt : Nat} (ht : (pc : Int) + off = (tgt : Int)) (hd : decode cc pc = .ok (.ifCond .lt off, 3)) (Kt : x < 0 → gw_G X S nL k n tgt lv st w) (Kf : ¬ x < 0 → gw_G X S nL k n (pc + 3) lv st w) : gw_G X S nL k n pc lv (.int x :: st) w := by
  obtain ⟨p, l, e, R, s, m, args, below, meth, c, D, cA, ρ, A, Q⟩ := X
  obtain ⟨hx, hb, hml, hown, hts, hK, hA, hE, hRf, hRl, hRc, hRs⟩ := C
  intro H locs ls hP hD hS hl
  exact lv_if_lt hx hb hd ht (fun h => Kt h H locs ls hP hD hS hl) (fun h => Kf h H locs ls hP hD hS hl)
theorem g_if_ge {X : gw_X} {own : String} {cc : ByteArray} {nL d mc ms : Nat} (C : gw_ok X own cc nL d mc ms) {S : gw_S} {k n pc : Nat} {lv : gw_LV} {st : List Value} {w : gw_M} {x : Int32} {off : Int} {tgt : Nat} (ht : (pc : Int) + off = (tgt : Int)) (hd : decode cc pc = .ok (.ifCond .ge off, 3)) (Kt : 0 ≤ x → gw_G X S nL k n tgt lv st w) (Kf : ¬ 0 ≤ x → gw_G X S nL k n (pc + 3) lv st w) : gw_G X S nL k n pc lv (.int x :: st) w := by
  obtain ⟨p, l, e, R, s, m, args, below, meth, c, D, cA, ρ, A, Q⟩ := X
  obtain ⟨hx, hb, hml, hown, hts, hK, hA, hE, hRf, hRl, hRc, hRs⟩ := C
  intro H locs ls hP hD hS hl
  exact lv_if_ge hx hb hd ht (fun h => Kt h H locs ls hP hD hS hl) (fun h => Kf h H locs ls hP hD hS hl)
theorem g_if_gt {X : gw_X} {own : String} {cc : ByteArray} {nL d mc ms : Nat} (C : gw_ok X own cc nL d mc ms) {S : gw_S} {k n pc : Nat} {lv : gw_LV} {st : List Value} {w : gw_M} {x : Int32} {off : Int} {tgt : Nat} (ht : (pc : Int) + off = (tgt : Int)) (hd : decode cc pc = .ok (.ifCond .gt off, 3)) (Kt : 0 < x → gw_G X S nL k n tgt lv st w) (Kf : ¬ 0 < x → gw_G X S nL k n (pc + 3) lv st w) : gw_G X S nL k n pc lv (.int x :: st) w := by
  obtain ⟨p, l, e, R, s, m, args, below, meth, c, D, cA, ρ, A, Q⟩ := X
  obtain ⟨hx, hb, hml, hown, hts, hK, hA, hE, hRf, hRl, hRc, hRs⟩ := C
  intro H locs ls hP hD hS hl
  exact lv_if_gt hx hb hd ht (fun h => Kt h H locs ls hP hD hS hl) (fun h => Kf h H locs ls hP hD hS hl)
theorem g_if_le {X : gw_X} {own : String} {cc : ByteArray} {nL d mc ms : Nat} (C : gw_ok X own cc nL d mc ms) {S : gw_S} {k n pc : Nat} {lv : gw_LV} {st : List Value} {w : gw_M} {x : Int32} {off : Int} {tgt : Nat} (ht : (pc : Int) + off = (tgt : Int)) (hd : decode cc pc = .ok (.ifCond .le off, 3)) (Kt : x ≤ 0 → gw_G X S nL k n tgt lv st w) (Kf : ¬ x ≤ 0 → gw_G X S nL k n (pc + 3) lv st w) : gw_G X S nL k n pc lv (.int x :: st) w := by
  obtain ⟨p, l, e, R, s, m, args, below, meth, c, D, cA, ρ, A, Q⟩ := X
  obtain ⟨hx, hb, hml, hown, hts, hK, hA, hE, hRf, hRl, hRc, hRs⟩ := C
  intro H locs ls hP hD hS hl
  exact lv_if_le hx hb hd ht (fun h => Kt h H locs ls hP hD hS hl) (fun h => Kf h H locs ls hP hD hS hl)
theorem g_cmp_eq {X : gw_X} {own : String} {cc : ByteArray} {nL d mc ms : Nat} (C : gw_ok X own cc nL d mc ms) {S : gw_S} {k n pc : Nat} {lv : gw_LV} {st : List Value} {w : gw_M} {x y : Int32} {off : Int} {tgt : Nat} (ht : (pc : Int) + off = (tgt : Int)) (hd : decode cc pc = .ok (.if_icmp .eq off, 3)) (Kt : x = y → gw_G X S nL k n tgt lv st w) (Kf : ¬ x = y → gw_G X S nL k n (pc + 3) lv st w) : gw_G X S nL k n pc lv (.int y :: .int x :: st) w := by
  obtain ⟨p, l, e, R, s, m, args, below, meth, c, D, cA, ρ, A, Q⟩ := X
  obtain ⟨hx, hb, hml, hown, hts, hK, hA, hE, hRf, hRl, hRc, hRs⟩ := C
  intro H locs ls hP hD hS hl
  exact lv_icmp_eq hx hb hd ht (fun h => Kt h H locs ls hP hD hS hl) (fun h => Kf h H locs ls hP hD hS hl)
theorem g_cmp_ne {X : gw_X} {own : String} {cc : ByteArray} {nL d mc ms : Nat} (C : gw_ok X own cc nL d mc ms) {S : gw_S} {k n pc : Nat} {lv : gw_LV} {st : List Value} {w : gw_M} {x y : Int32} {off : Int} {tgt : Nat} (ht : (pc : Int) + off = (tgt : Int)) (hd : decode cc pc = .ok (.if_icmp .ne off, 3)) (Kt : ¬ x = y → gw_G X S nL k n tgt lv st w) (Kf : x = y → gw_G X S nL k n (pc + 3) lv st w) : gw_G X S nL k n pc lv (.int y :: .int x :: st) w := by
  obtain ⟨p, l, e, R, s, m, args, below, meth, c, D, cA, ρ, A, Q⟩ := X
  obtain ⟨hx, hb, hml, hown, hts, hK, hA, hE, hRf, hRl, hRc, hRs⟩ := C
  intro H locs ls hP hD hS hl
  exact lv_icmp_ne hx hb hd ht (fun h => Kt h H locs ls hP hD hS hl) (fun h => Kf h H locs ls hP hD hS hl)
theorem g_cmp_lt {X : gw_X} {own : String} {cc : ByteArray} {nL d mc ms : Nat} (C : gw_ok X own cc nL d mc ms) {S : gw_S} {k n pc : Nat} {lv : gw_LV} {st : List Value} {w : gw_M} {x y : Int32} {off : Int} {tgt : Nat} (ht : (pc : Int) + off = (tgt : Int)) (hd : decode cc pc = .ok (.if_icmp .lt off, 3)) (Kt : x < y → gw_G X S nL k n tgt lv st w) (Kf : ¬ x < y → gw_G X S nL k n (pc + 3) lv st w) : gw_G X S nL k n pc lv (.int y :: .int x :: st) w := by
  obtain ⟨p, l, e, R, s, m, args, below, meth, c, D, cA, ρ, A, Q⟩ := X
  obtain ⟨hx, hb, hml, hown, hts, hK, hA, hE, hRf, hRl, hRc, hRs⟩ := C
  intro H locs ls hP hD hS hl
  exact lv_icmp_lt hx hb hd ht (fun h => Kt h H locs ls hP hD hS hl) (fun h => Kf h H locs ls hP hD hS hl)
theorem g_cmp_ge {X : gw_X} {own : String} {cc : ByteArray} {nL d mc ms : Nat} (C : gw_ok X own cc nL d mc ms) {S : gw_S} {k n pc : Nat} {lv : gw_LV} {st : List Value} {w : gw_M} {x y : Int32} {off : Int} {tgt : Nat} (ht : (pc : Int) + off = (tgt : Int)) (hd : decode cc pc = .ok (.if_icmp .ge off, 3)) (Kt : y ≤ x → gw_G X S nL k n tgt lv st w) (Kf : ¬ y ≤ x → gw_G X S nL k n (pc + 3) lv st w) : gw_G X S nL k n pc lv (.int y :: .int x :: st) w := by
  obtain ⟨p, l, e, R, s, m, args, below, meth, c, D, cA, ρ, A, Q⟩ := X
  obtain ⟨hx, hb, hml, hown, hts, hK, hA, hE, hRf, hRl, hRc, hRs⟩ := C
  intro H locs ls hP hD hS hl
  exact lv_icmp_ge hx hb hd ht (fun h => Kt h H locs ls hP hD hS hl) (fun h => Kf h H locs ls hP hD hS hl)
theorem g_cmp_gt {X : gw_X} {own : String} {cc : ByteArray} {nL d mc ms : Nat} (C : gw_ok X own cc nL d mc ms) {S : gw_S} {k n pc : Nat} {lv : gw_LV} {st : List Value} {w : gw_M} {x y : Int32} {off : Int} {tgt : Nat} (ht : (pc : Int) + off = (tgt : Int)) (hd : decode cc pc = .ok (.if_icmp .gt off, 3)) (Kt : y < x → gw_G X S nL k n tgt lv st w) (Kf : ¬ y < x → gw_G X S nL k n (pc + 3) lv st w) : gw_G X S nL k n pc lv (.int y :: .int x :: st) w := by
  obtain ⟨p, l, e, R, s, m, args, below, meth, c, D, cA, ρ, A, Q⟩ := X
  obtain ⟨hx, hb, hml, hown, hts, hK, hA, hE, hRf, hRl, hRc, hRs⟩ := C
  intro H locs ls hP hD hS hl
  exact lv_icmp_gt hx hb hd ht (fun h => Kt h H locs ls hP hD hS hl) (fun h => Kf h H locs ls hP hD hS hl)
theorem g_cmp_le {X : gw_X} {own : String} {cc : ByteArray} {nL d mc ms : Nat} (C : gw_ok X own cc nL d mc ms) {S : gw_S} {k n pc : Nat} {lv : gw_LV} {st : List Value} {w : gw_M} {x y : Int32} {off : Int} {tgt : Nat} (ht : (pc : Int) + off = (tgt : Int)) (hd : decode cc pc = .ok (.if_icmp .le off, 3)) (Kt : x ≤ y → gw_G X S nL k n tgt lv st w) (Kf : ¬ x ≤ y → gw_G X S nL k n (pc + 3) lv st w) : gw_G X S nL k n pc lv (.int y :: .int x :: st) w := by
  obtain ⟨p, l, e, R, s, m, args, below, meth, c, D, cA, ρ, A, Q⟩ := X
  obtain ⟨hx, hb, hml, hown, hts, hK, hA, hE, hRf, hRl, hRc, hRs⟩ := C
  intro H locs ls hP hD hS hl
  exact lv_icmp_le hx hb hd ht (fun h => Kt h H locs ls hP hD hS hl) (fun h => Kf h H locs ls hP hD hS hl)
theorem g_goto {X : gw_X} {own : String} {cc : ByteArray} {nL d mc ms : Nat} (C : gw_ok X own cc nL d mc ms) {S : gw_S} {k n pc : Nat} {lv : gw_LV} {st : List Value} {w : gw_M} {off : Int} {tgt : Nat} (ht : (pc : Int) + off = (tgt : Int)) (hd : decode cc pc = .ok (.goto off, 3)) (K : gw_G X S nL k n tgt lv st w) : gw_G X S nL k n pc lv st w := by
  obtain ⟨p, l, e, R, s, m, args, below, meth, c, D, cA, ρ, A, Q⟩ := X
  obtain ⟨hx, hb, hml, hown, hts, hK, hA, hE, hRf, hRl, hRc, hRs⟩ := C
  intro H locs ls hP hD hS hl
  exact lv_goto hx hb hd ht (K H locs ls hP hD hS hl)
theorem g_tabIn {X : gw_X} {own : String} {cc : ByteArray} {nL d mc ms : Nat} (C : gw_ok X own cc nL d mc ms) {S : gw_S} {k n pc : Nat} {lv : gw_LV} {st : List Value} {w : gw_M} {dflt lo hi : Int} {offs : Array Int} {len : Nat} {x : Int32} {off : Int} {tgt : Nat} (h1 : ¬ x.toInt < lo) (h2 : ¬ hi < x.toInt) (ho : offs[(x.toInt - lo).toNat]? = some off) (ht : (pc : Int) + off = (tgt : Int)) (hd : decode cc pc = .ok (.tableswitch dflt lo hi offs, len)) (K : gw_G X S nL k n tgt lv st w) : gw_G X S nL k n pc lv (.int x :: st) w := by
  obtain ⟨p, l, e, R, s, m, args, below, meth, c, D, cA, ρ, A, Q⟩ := X
  obtain ⟨hx, hb, hml, hown, hts, hK, hA, hE, hRf, hRl, hRc, hRs⟩ := C
  intro H locs ls hP hD hS hl
  exact lv_tableIn hx hb hd h1 h2 ho ht (K H locs ls hP hD hS hl)
theorem g_tabOut {X : gw_X} {own : String} {cc : ByteArray} {nL d mc ms : Nat} (C : gw_ok X own cc nL d mc ms) {S : gw_S} {k n pc : Nat} {lv : gw_LV} {st : List Value} {w : gw_M} {dflt lo hi : Int} {offs : Array Int} {len : Nat} {x : Int32} {tgt : Nat} (h : x.toInt < lo ∨ hi < x.toInt) (ht : (pc : Int) + dflt = (tgt : Int)) (hd : decode cc pc = .ok (.tableswitch dflt lo hi offs, len)) (K : gw_G X S nL k n tgt lv st w) : gw_G X S nL k n pc lv (.int x :: st) w := by
  obtain ⟨p, l, e, R, s, m, args, below, meth, c, D, cA, ρ, A, Q⟩ := X
  obtain ⟨hx, hb, hml, hown, hts, hK, hA, hE, hRf, hRl, hRc, hRs⟩ := C
  intro H locs ls hP hD hS hl
  exact lv_tableOut hx hb hd h ht (K H locs ls hP hD hS hl)
theorem g_lookup {X : gw_X} {own : String} {cc : ByteArray} {nL d mc ms : Nat} (C : gw_ok X own cc nL d mc ms) {S : gw_S} {k n pc : Nat} {lv : gw_LV} {st : List Value} {w : gw_M} {dflt : Int} {ps : Array (Int × Int)} {len : Nat} {x : Int32} {off : Int} {tgt : Nat} (hp : (ps.toList.zip (ps.toList.drop 1)).all (fun (a, next) => a.1 < next.1) = true) (ho : Op.lookupswitch.offset ps.toList dflt x.toInt = off) (ht : (pc : Int) + off = (tgt : Int)) (hd : decode cc pc = .ok (.lookupswitch dflt ps, len)) (K : gw_G X S nL k n tgt lv st w) : gw_G X S nL k n pc lv (.int x :: st) w := by
  obtain ⟨p, l, e, R, s, m, args, below, meth, c, D, cA, ρ, A, Q⟩ := X
  obtain ⟨hx, hb, hml, hown, hts, hK, hA, hE, hRf, hRl, hRc, hRs⟩ := C
  intro H locs ls hP hD hS hl
  exact lv_lookup hx hb hd hp ho ht (K H locs ls hP hD hS hl)
theorem g_ldc {X : gw_X} {own : String} {cc : ByteArray} {nL d mc ms : Nat} (C : gw_ok X own cc nL d mc ms) {S : gw_S} {k n pc : Nat} {lv : gw_LV} {st : List Value} {w : gw_M} {index : Nat} {v : Int32} (hc : Jvm.Cond.constant own index v ∈ gw_T) (hd : decode cc pc = .ok (.ldc index, 2)) (K : gw_G X S nL k n (pc + 2) lv (.int v :: st) w) : gw_G X S nL k n pc lv st w := by
  obtain ⟨p, l, e, R, s, m, args, below, meth, c, D, cA, ρ, A, Q⟩ := X
  obtain ⟨hx, hb, hml, hown, hts, hK, hA, hE, hRf, hRl, hRc, hRs⟩ := C
  intro H locs ls hP hD hS hl
  exact lv_ldc hx hb hown (hts _ hc) hd (K H locs ls hP hD hS hl)
theorem g_ldc_w {X : gw_X} {own : String} {cc : ByteArray} {nL d mc ms : Nat} (C : gw_ok X own cc nL d mc ms) {S : gw_S} {k n pc : Nat} {lv : gw_LV} {st : List Value} {w : gw_M} {index : Nat} {v : Int32} (hc : Jvm.Cond.constant own index v ∈ gw_T) (hd : decode cc pc = .ok (.ldc_w index, 3)) (K : gw_G X S nL k n (pc + 3) lv (.int v :: st) w) : gw_G X S nL k n pc lv st w := by
  obtain ⟨p, l, e, R, s, m, args, below, meth, c, D, cA, ρ, A, Q⟩ := X
  obtain ⟨hx, hb, hml, hown, hts, hK, hA, hE, hRf, hRl, hRc, hRs⟩ := C
  intro H locs ls hP hD hS hl
  exact lv_ldcw hx hb hown (hts _ hc) hd (K H locs ls hP hD hS hl)
theorem g_ldc2 {X : gw_X} {own : String} {cc : ByteArray} {nL d mc ms : Nat} (C : gw_ok X own cc nL d mc ms) {S : gw_S} {k n pc : Nat} {lv : gw_LV} {st : List Value} {w : gw_M} {index : Nat} {v : Int64} (hc : Jvm.Cond.constantLong own index v ∈ gw_T) (hd : decode cc pc = .ok (.ldc2_w index, 3)) (K : gw_G X S nL k n (pc + 3) lv (.long v :: st) w) : gw_G X S nL k n pc lv st w := by
  obtain ⟨p, l, e, R, s, m, args, below, meth, c, D, cA, ρ, A, Q⟩ := X
  obtain ⟨hx, hb, hml, hown, hts, hK, hA, hE, hRf, hRl, hRc, hRs⟩ := C
  intro H locs ls hP hD hS hl
  exact lv_ldc2 hx hb hown (hts _ hc) hd (K H locs ls hP hD hS hl)
theorem g_lconst {X : gw_X} {own : String} {cc : ByteArray} {nL d mc ms : Nat} (C : gw_ok X own cc nL d mc ms) {S : gw_S} {k n pc : Nat} {lv : gw_LV} {st : List Value} {w : gw_M} {b : Fin 2} {v : Int64} (hv : Int64.ofNat b.val = v) (hd : decode cc pc = .ok (.lconst b, 1)) (K : gw_G X S nL k n (pc + 1) lv (.long v :: st) w) : gw_G X S nL k n pc lv st w := by
  obtain ⟨p, l, e, R, s, m, args, below, meth, c, D, cA, ρ, A, Q⟩ := X
  obtain ⟨hx, hb, hml, hown, hts, hK, hA, hE, hRf, hRl, hRc, hRs⟩ := C
  intro H locs ls hP hD hS hl
  exact lv_lconst hx hb hd hv (K H locs ls hP hD hS hl)
theorem g_iald {X : gw_X} {own : String} {cc : ByteArray} {nL d mc ms : Nat} (C : gw_ok X own cc nL d mc ms) {S : gw_S} {k n pc : Nat} {lv : gw_LV} {st : List Value} {w : gw_M} {q len j : Nat} {tg : Nat → Nat} {i : Int32} (ha : gw_at S q = some (.inl (0, len, tg))) (hi : i = nI j) (hj : j < len) (hlen : len < 2147483648) (hd : decode cc pc = .ok (.iaload, 1)) (K : gw_G X S nL k n (pc + 1) lv (.int (w q j) :: st) w) : gw_G X S nL k n pc lv (.int i :: .ref q :: st) w := by
  obtain ⟨p, l, e, R, s, m, args, below, meth, c, D, cA, ρ, A, Q⟩ := X
  obtain ⟨hx, hb, hml, hown, hts, hK, hA, hE, hRf, hRl, hRc, hRs⟩ := C
  intro H locs ls hP hD hS hl
  subst hi
  refine va_iald (cA := cA 0) (n := len) (f := w q) (i := nI j) hx hb hK hP q 0 (gw_W_get ha) rfl (vp_in_nI hj hlen) hd ?_
  rw [nI_clamp (Nat.lt_trans hj hlen)]
  exact (K H locs ls hP hD hS hl)
theorem g_zald {X : gw_X} {own : String} {cc : ByteArray} {nL d mc ms : Nat} (C : gw_ok X own cc nL d mc ms) {S : gw_S} {k n pc : Nat} {lv : gw_LV} {st : List Value} {w : gw_M} {q len j : Nat} {tg : Nat → Nat} {i : Int32} (ha : gw_at S q = some (.inl (1, len, tg))) (hi : i = nI j) (hj : j < len) (hlen : len < 2147483648) (hd : decode cc pc = .ok (.baload, 1)) (K : gw_G X S nL k n (pc + 1) lv (.int (w q j) :: st) w) : gw_G X S nL k n pc lv (.int i :: .ref q :: st) w := by
  obtain ⟨p, l, e, R, s, m, args, below, meth, c, D, cA, ρ, A, Q⟩ := X
  obtain ⟨hx, hb, hml, hown, hts, hK, hA, hE, hRf, hRl, hRc, hRs⟩ := C
  intro H locs ls hP hD hS hl
  subst hi
  refine va_zald (cA := cA 1) (n := len) (f := w q) (i := nI j) hx hb hK hP q 1 (gw_W_get ha) rfl (vp_in_nI hj hlen) hd ?_
  rw [nI_clamp (Nat.lt_trans hj hlen)]
  exact (K H locs ls hP hD hS hl)
theorem g_cald {X : gw_X} {own : String} {cc : ByteArray} {nL d mc ms : Nat} (C : gw_ok X own cc nL d mc ms) {S : gw_S} {k n pc : Nat} {lv : gw_LV} {st : List Value} {w : gw_M} {q len j : Nat} {tg : Nat → Nat} {i : Int32} (ha : gw_at S q = some (.inl (2, len, tg))) (hi : i = nI j) (hj : j < len) (hlen : len < 2147483648) (hd : decode cc pc = .ok (.caload, 1)) (K : gw_G X S nL k n (pc + 1) lv (.int (w q j) :: st) w) : gw_G X S nL k n pc lv (.int i :: .ref q :: st) w := by
  obtain ⟨p, l, e, R, s, m, args, below, meth, c, D, cA, ρ, A, Q⟩ := X
  obtain ⟨hx, hb, hml, hown, hts, hK, hA, hE, hRf, hRl, hRc, hRs⟩ := C
  intro H locs ls hP hD hS hl
  subst hi
  refine va_cald (cA := cA 2) (n := len) (f := w q) (i := nI j) hx hb hK hP q 2 (gw_W_get ha) rfl (vp_in_nI hj hlen) hd ?_
  rw [nI_clamp (Nat.lt_trans hj hlen)]
  exact (K H locs ls hP hD hS hl)
theorem gw_upd_W {cA : Nat → ClassId} {ρ : Nat → Nat} {S : gw_S} {w : gw_M} {q len kd j : Nat} {tg : Nat → Nat} {x : Int32} (hk : kd ≤ 2) (ha : gw_at S q = some (.inl (kd, len, tg))) : (gw_W cA ρ S w).set q (ρ q, .inl (cA kd, len, .inl (upd (w q) j x))) = gw_W cA ρ S (gw_set w q j x) :=
  gw_W_set ha (by simp [gw_cell, gw_ac, hk, gw_set_self]) (fun z hz => gw_set_ne _ _ _ _ hz)
theorem g_iast {X : gw_X} {own : String} {cc : ByteArray} {nL d mc ms : Nat} (C : gw_ok X own cc nL d mc ms) {S : gw_S} {k n pc : Nat} {lv : gw_LV} {st : List Value} {w : gw_M} {q len j : Nat} {tg : Nat → Nat} {i x : Int32} (ha : gw_at S q = some (.inl (0, len, tg))) (hi : i = nI j) (hj : j < len) (hlen : len < 2147483648) (hd : decode cc pc = .ok (.iastore, 1)) (K : gw_G X S nL k n (pc + 1) lv st (gw_set w q j x)) : gw_G X S nL k n pc lv (.int x :: .int i :: .ref q :: st) w := by
  obtain ⟨p, l, e, R, s, m, args, below, meth, c, D, cA, ρ, A, Q⟩ := X
  obtain ⟨hx, hb, hml, hown, hts, hK, hA, hE, hRf, hRl, hRc, hRs⟩ := C
  intro H locs ls hP hD hS hl
  subst hi
  refine va_iast (cA := cA 0) (n := len) (f := w q) (i := nI j) (x := x) hx hb hK hP hD hS q 0 (gw_W_get ha) rfl (vp_in_nI hj hlen) hd (fun H1 locs1 hP1 hD1 hS1 => ?_)
  rw [nI_clamp (Nat.lt_trans hj hlen)] at hP1 hD1
  rw [gw_upd_W (by decide) ha] at hP1 hD1
  exact K H1 locs1 ls hP1 hD1 hS1 hl
theorem g_zast {X : gw_X} {own : String} {cc : ByteArray} {nL d mc ms : Nat} (C : gw_ok X own cc nL d mc ms) {S : gw_S} {k n pc : Nat} {lv : gw_LV} {st : List Value} {w : gw_M} {q len j : Nat} {tg : Nat → Nat} {i x : Int32} (ha : gw_at S q = some (.inl (1, len, tg))) (hi : i = nI j) (hj : j < len) (hlen : len < 2147483648) (hnar : vp_nar .boolean x = x) (hd : decode cc pc = .ok (.bastore, 1)) (K : gw_G X S nL k n (pc + 1) lv st (gw_set w q j x)) : gw_G X S nL k n pc lv (.int x :: .int i :: .ref q :: st) w := by
  obtain ⟨p, l, e, R, s, m, args, below, meth, c, D, cA, ρ, A, Q⟩ := X
  obtain ⟨hx, hb, hml, hown, hts, hK, hA, hE, hRf, hRl, hRc, hRs⟩ := C
  intro H locs ls hP hD hS hl
  subst hi
  refine va_zast (cA := cA 1) (n := len) (f := w q) (i := nI j) (x := x) hx hb hK hP hD hS q 1 (gw_W_get ha) rfl (vp_in_nI hj hlen) hd (fun H1 locs1 hP1 hD1 hS1 => ?_)
  rw [nI_clamp (Nat.lt_trans hj hlen)] at hP1 hD1
  rw [hnar] at hP1 hD1
  rw [gw_upd_W (by decide) ha] at hP1 hD1
  exact K H1 locs1 ls hP1 hD1 hS1 hl
theorem g_cast {X : gw_X} {own : String} {cc : ByteArray} {nL d mc ms : Nat} (C : gw_ok X own cc nL d mc ms) {S : gw_S} {k n pc : Nat} {lv : gw_LV} {st : List Value} {w : gw_M} {q len j : Nat} {tg : Nat → Nat} {i x : Int32} (ha : gw_at S q = some (.inl (2, len, tg))) (hi : i = nI j) (hj : j < len) (hlen : len < 2147483648) (hnar : vp_nar .char x = x) (hd : decode cc pc = .ok (.castore, 1)) (K : gw_G X S nL k n (pc + 1) lv st (gw_set w q j x)) : gw_G X S nL k n pc lv (.int x :: .int i :: .ref q :: st) w := by
  obtain ⟨p, l, e, R, s, m, args, below, meth, c, D, cA, ρ, A, Q⟩ := X
  obtain ⟨hx, hb, hml, hown, hts, hK, hA, hE, hRf, hRl, hRc, hRs⟩ := C
  intro H locs ls hP hD hS hl
  subst hi
  refine va_cast (cA := cA 2) (n := len) (f := w q) (i := nI j) (x := x) hx hb hK hP hD hS q 2 (gw_W_get ha) rfl (vp_in_nI hj hlen) hd (fun H1 locs1 hP1 hD1 hS1 => ?_)
  rw [nI_clamp (Nat.lt_trans hj hlen)] at hP1 hD1
  rw [hnar] at hP1 hD1
  rw [gw_upd_W (by decide) ha] at hP1 hD1
  exact K H1 locs1 ls hP1 hD1 hS1 hl
theorem g_alen {X : gw_X} {own : String} {cc : ByteArray} {nL d mc ms : Nat} (C : gw_ok X own cc nL d mc ms) {S : gw_S} {k n pc : Nat} {lv : gw_LV} {st : List Value} {w : gw_M} {q len kd : Nat} {tg : Nat → Nat} {v : Int32} (ha : gw_at S q = some (.inl (kd, len, tg))) (hk : kd ≤ 4) (hv : Int32.ofNat len = v) (hd : decode cc pc = .ok (.arraylength, 1)) (K : gw_G X S nL k n (pc + 1) lv (.int v :: st) w) : gw_G X S nL k n pc lv (.ref q :: st) w := by
  obtain ⟨p, l, e, R, s, m, args, below, meth, c, D, cA, ρ, A, Q⟩ := X
  obtain ⟨hx, hb, hml, hown, hts, hK, hA, hE, hRf, hRl, hRc, hRs⟩ := C
  intro H locs ls hP hD hS hl
  have hty : ∃ ty, (gw_ty cA)[kd]? = some (cA kd, ty) := by
    have h5 : kd = 0 ∨ kd = 1 ∨ kd = 2 ∨ kd = 3 ∨ kd = 4 := by omega
    rcases h5 with rfl | rfl | rfl | rfl | rfl <;> exact ⟨_, rfl⟩
  obtain ⟨ty, hty⟩ := hty
  exact va_alen hx hb hK hP q kd (gw_W_get ha) hty hv hd (K H locs ls hP hD hS hl)
theorem g_aald {X : gw_X} {own : String} {cc : ByteArray} {nL d mc ms : Nat} (C : gw_ok X own cc nL d mc ms) {S : gw_S} {k n pc : Nat} {lv : gw_LV} {st : List Value} {w : gw_M} {q len j : Nat} {tg : Nat → Nat} {i : Int32} (ha : gw_at S q = some (.inl (4, len, tg))) (hi : i = nI j) (hj : j < len) (hlen : len < 2147483648) (hd : decode cc pc = .ok (.aaload, 1)) (K : gw_G X S nL k n (pc + 1) lv (.ref (tg j) :: st) w) : gw_G X S nL k n pc lv (.int i :: .ref q :: st) w := by
  obtain ⟨p, l, e, R, s, m, args, below, meth, c, D, cA, ρ, A, Q⟩ := X
  obtain ⟨hx, hb, hml, hown, hts, hK, hA, hE, hRf, hRl, hRc, hRs⟩ := C
  intro H locs ls hP hD hS hl
  subst hi
  refine va_aldq (cA := cA 4) (n := len) (f := fun j => some (ρ (tg j))) (i := nI j) hx hb hK hP q 4 (gw_W_get ha) rfl (vp_in_nI hj hlen) hd ?_
  rw [nI_clamp (Nat.lt_trans hj hlen)]
  exact (K H locs ls hP hD hS hl)
theorem g_getf {X : gw_X} {own : String} {cc : ByteArray} {nL d mc ms : Nat} (C : gw_ok X own cc nL d mc ms) {S : gw_S} {k n pc : Nat} {lv : gw_LV} {st : List Value} {w : gw_M} {index ci kf q : Nat} {fs : List (Option Nat)} (hf : gw_fl own index ci kf) (ha : gw_at S q = some (.inr (ci, fs))) (hk : fs[kf]? = some none) (hd : decode cc pc = .ok (.getfield index, 3)) (K : gw_G X S nL k n (pc + 3) lv (.int (w q kf) :: st) w) : gw_G X S nL k n pc lv (.ref q :: st) w := by
  obtain ⟨p, l, e, R, s, m, args, below, meth, c, D, cA, ρ, A, Q⟩ := X
  obtain ⟨hx, hb, hml, hown, hts, hK, hA, hE, hRf, hRl, hRc, hRs⟩ := C
  intro H locs ls hP hD hS hl
  obtain ⟨C1, T, N, hc, hN, hin, hlk⟩ := hf
  have hv : (fs.mapIdx (fun k t => gw_fv ρ (w q) k t))[kf]? = some (.int (w q kf)) := by rw [List.getElem?_mapIdx, hk]; rfl
  rcases hlk with hlk | ⟨host, hlk⟩
  · exact va_get hx hb hts hin hown hK hP q (gw_W_get ha) hc kf hN (hts _ hlk) (fun _ h => h) hv hd (K H locs ls hP hD hS hl)
  · exact va_getN hx hb hts hin hown hK hP q (gw_W_get ha) hc kf hN (va_Nw.use rfl (hE.2.2.2.2.1 _ hlk)) (fun _ h => h) hv hd (K H locs ls hP hD hS hl)
theorem g_getr {X : gw_X} {own : String} {cc : ByteArray} {nL d mc ms : Nat} (C : gw_ok X own cc nL d mc ms) {S : gw_S} {k n pc : Nat} {lv : gw_LV} {st : List Value} {w : gw_M} {index ci kf q j : Nat} {fs : List (Option Nat)} (hf : gw_fl own index ci kf) (ha : gw_at S q = some (.inr (ci, fs))) (hk : fs[kf]? = some (some j)) (hd : decode cc pc = .ok (.getfield index, 3)) (K : gw_G X S nL k n (pc + 3) lv (.ref j :: st) w) : gw_G X S nL k n pc lv (.ref q :: st) w := by
  obtain ⟨p, l, e, R, s, m, args, below, meth, c, D, cA, ρ, A, Q⟩ := X
  obtain ⟨hx, hb, hml, hown, hts, hK, hA, hE, hRf, hRl, hRc, hRs⟩ := C
  intro H locs ls hP hD hS hl
  obtain ⟨C1, T, N, hc, hN, hin, hlk⟩ := hf
  have hv : (fs.mapIdx (fun k t => gw_fv ρ (w q) k t))[kf]? = some (.ref (ρ j)) := by rw [List.getElem?_mapIdx, hk]; rfl
  rcases hlk with hlk | ⟨host, hlk⟩
  · exact va_get hx hb hts hin hown hK hP q (gw_W_get ha) hc kf hN (hts _ hlk) (fun _ h => h) hv hd (K H locs ls hP hD hS hl)
  · exact va_getN hx hb hts hin hown hK hP q (gw_W_get ha) hc kf hN (va_Nw.use rfl (hE.2.2.2.2.1 _ hlk)) (fun _ h => h) hv hd (K H locs ls hP hD hS hl)
theorem gw_put_W {cA : Nat → ClassId} {ρ : Nat → Nat} {S : gw_S} {w : gw_M} {q ci kf : Nat} {fs : List (Option Nat)} {x : Int32} (ha : gw_at S q = some (.inr (ci, fs))) (hk : fs[kf]? = some none) : (gw_W cA ρ S w).set q (ρ q, .inr (ci, (fs.mapIdx (fun k t => gw_fv ρ (w q) k t)).set kf (.int x))) = gw_W cA ρ S (gw_set w q kf x) := by
  refine gw_W_set ha ?_ (fun z hz => gw_set_ne _ _ _ _ hz)
  simp only [gw_cell]
  congr 2
  apply List.ext_getElem?
  intro i
  rw [List.getElem?_set, List.getElem?_mapIdx, List.getElem?_mapIdx, gw_set_self]
  by_cases h : kf = i
  · subst h
    have h1 : kf < fs.length := (List.getElem?_eq_some_iff.mp hk).1
    rw [hk]
    simp [h1, gw_fv, upd]
  · rw [if_neg h]
    cases hi : fs[i]? with
    | none => rfl
    | some t =>
      cases t with
      | none => simp [gw_fv, upd, Ne.symm h]
      | some j => rfl
theorem g_putf {X : gw_X} {own : String} {cc : ByteArray} {nL d mc ms : Nat} (C : gw_ok X own cc nL d mc ms) {S : gw_S} {k n pc : Nat} {lv : gw_LV} {st : List Value} {w : gw_M} {index ci kf q : Nat} {fs : List (Option Nat)} {x : Int32} {ty : FieldType} (hf : gw_fl own index ci kf) (hp : gw_fp ci kf ty) (ha : gw_at S q = some (.inr (ci, fs))) (hk : fs[kf]? = some none) (hn : narrow ty (.int x) = .int x) (hfit : fits ty (.int x) = true) (hd : decode cc pc = .ok (.putfield index, 3)) (K : gw_G X S nL k n (pc + 3) lv st (gw_set w q kf x)) : gw_G X S nL k n pc lv (.int x :: .ref q :: st) w := by
  obtain ⟨p, l, e, R, s, m, args, below, meth, c, D, cA, ρ, A, Q⟩ := X
  obtain ⟨hx, hb, hml, hown, hts, hK, hA, hE, hRf, hRl, hRc, hRs⟩ := C
  intro H locs ls hP hD hS hl
  obtain ⟨C1, T, N, hc, hN, hin, hlk⟩ := hf
  obtain ⟨C2, T2, N2, t2, hc2, ht2, hnm, hfin, hty⟩ := hp
  cases hc.symm.trans hc2
  have hlen : kf < (fs.mapIdx (fun k t => gw_fv ρ (w q) k t)).length := by rw [List.length_mapIdx]; exact (List.getElem?_eq_some_iff.mp hk).1
  have hpd : parseFieldDescriptor (T kf).2.2.1 = some ty := by rw [ht2 kf hN, hty]
  rcases hlk with hlk | ⟨host, hlk⟩
  · refine va_put (v := .int x) hx hb hts hin t2 ht2 hnm hown hK hP hD hS q (gw_W_get ha) hc kf hN (hts _ hlk) (fun _ h => h) hfin hpd hn hfit hlen hd (fun H1 locs1 hP1 hD1 hS1 => ?_)
    rw [gw_put_W ha hk] at hP1 hD1
    exact K H1 locs1 ls hP1 hD1 hS1 hl
  · refine va_putN (v := .int x) hx hb hts hin t2 ht2 hnm hown hK hP hD hS q (gw_W_get ha) hc kf hN (va_Nw.use rfl (hE.2.2.2.2.1 _ hlk)) (fun _ h => h) hfin hpd hn hfit hlen hd (fun H1 locs1 hP1 hD1 hS1 => ?_)
    rw [gw_put_W ha hk] at hP1 hD1
    exact K H1 locs1 ls hP1 hD1 hS1 hl
theorem gw_toInt {x : Int32} {v : Int32} (h : x.toInt = v.toInt) : x = v := Int32.toInt_inj.mp h
/-- Math.max's words; arraycopy's words -/
def gw_mx (own : String) (index : Nat) : Prop := (Cond.methodLink own index Lib.Math.max.name) ∈ gw_T ∧ (Cond.static Lib.Math.max.name) ∈ gw_T ∧ (Cond.initialized "java/lang/Math") ∈ gw_T ∧ (Cond.code Lib.Math.max.name Lib.Math.max.code 2 (some .int)) ∈ gw_T
def gw_cy (own : String) (index : Nat) : Prop := (Cond.methodLink own index arraycopyName) ∈ gw_T ∧ (Cond.native arraycopyName) ∈ gw_T ∧ (Cond.static arraycopyName) ∈ gw_T ∧ (Cond.initialized "java/lang/System") ∈ gw_T
theorem g_mmax {X : gw_X} {own : String} {cc : ByteArray} {nL d mc ms : Nat} (C : gw_ok X own cc nL d mc ms) {S : gw_S} {k n pc : Nat} {lv : gw_LV} {st : List Value} {w : gw_M} {index : Nat} {x y : Int32} (M : gw_mx own index) (hdm : 1 ≤ d ∧ k ≤ mc ∧ n ≤ ms ∧ (st.map fun v => v.category).sum ≤ 8) (hd : decode cc pc = .ok (.invokestatic index, 3)) (K : gw_G X S nL k n (pc + 3) lv (.int (if x < y then y else x) :: st) w) : gw_G X S nL k n pc lv (.int y :: .int x :: st) w := by
  obtain ⟨p, l, e, R, s, m, args, below, meth, c, D, cA, ρ, A, Q⟩ := X
  obtain ⟨hx, hb, hml, hown, hts, hK, hA, hE, hRf, hRl, hRc, hRs⟩ := C
  intro H locs ls hP hD hS hl
  obtain ⟨m1, m2, m3, m4⟩ := M
  exact va_mmax hx hb (by rw [hml]; exact hl.1.symm) hown (hts _ m1) (hts _ m2) (hts _ m3) (hts _ m4) (by omega) (by rw [gw_cats]; omega) (by omega) (by omega) hd (K H locs ls hP hD hS hl)
theorem g_acopy {X : gw_X} {own : String} {cc : ByteArray} {nL d mc ms : Nat} (C : gw_ok X own cc nL d mc ms) {S : gw_S} {k n pc : Nat} {lv : gw_LV} {st : List Value} {w : gw_M} {index q0 q1 kd n0 n1 sp dp ln : Nat} {tg0 tg1 : Nat → Nat} {i0 i1 i2 : Int32} (M : gw_cy own index) (ha0 : gw_at S q0 = some (.inl (kd, n0, tg0))) (ha1 : gw_at S q1 = some (.inl (kd, n1, tg1))) (hkd : kd ≤ 1) (h0 : i0 = nI sp) (h1 : i1 = nI dp) (h2 : i2 = nI ln) (hs0 : sp + ln ≤ n0) (hs1 : dp + ln ≤ n1) (hn0 : n0 < 2147483648) (hn1 : n1 < 2147483648) (hfit : kd = 1 → ∀ i, i < ln → fits .boolean (.int (w q0 (sp + i))) = true) (hdm : 1 ≤ d ∧ (st.map fun v => v.category).sum ≤ 8) (hd : decode cc pc = .ok (.invokestatic index, 3)) (K : gw_G X S nL k n (pc + 3) lv st (fun q => if q = q1 then va_cpy (w q0) (w q1) sp dp ln else w q)) : gw_G X S nL k n pc lv (.int i2 :: .int i1 :: .ref q1 :: .int i0 :: .ref q0 :: st) w := by
  obtain ⟨p, l, e, R, s, m, args, below, meth, c, D, cA, ρ, A, Q⟩ := X
  obtain ⟨hx, hb, hml, hown, hts, hK, hA, hE, hRf, hRl, hRc, hRs⟩ := C
  intro H locs ls hP hD hS hl
  obtain ⟨m1, m2, m3, m4⟩ := M
  subst h0; subst h1; subst h2
  have hty : ∃ ty, (gw_ty cA)[kd]? = some (cA kd, ty) ∧ refKind ty = false ∧ ∀ i, i < ln → fits ty (.int (w q0 (sp + i))) = true := by
    have h5 : kd = 0 ∨ kd = 1 := by omega
    rcases h5 with rfl | rfl
    · exact ⟨.int, rfl, rfl, fun _ _ => rfl⟩
    · exact ⟨.boolean, rfl, rfl, fun i hi => hfit rfl i hi⟩
  obtain ⟨ty, hty, hrk, hft⟩ := hty
  have hk2 : kd ≤ 2 := by omega
  have e0 : gw_cell cA ρ (w q0) (.inl (kd, n0, tg0)) = .inl (cA kd, n0, .inl (w q0)) := by simp [gw_cell, gw_ac, hk2]
  have e1 : gw_cell cA ρ (w q1) (.inl (kd, n1, tg1)) = .inl (cA kd, n1, .inl (w q1)) := by simp [gw_cell, gw_ac, hk2]
  have c0 : (nI sp).toNatClampNeg = sp := nI_clamp (by omega)
  have c1 : (nI dp).toNatClampNeg = dp := nI_clamp (by omega)
  have c2 : (nI ln).toNatClampNeg = ln := nI_clamp (by omega)
  refine va_copyi hx hb (by rw [hml]; exact hl.1.symm) hown (hts _ m1) (hts _ m2) (hts _ m3) (hts _ m4) hK hP hD hS q0 q1 kd kd (by rw [← e0]; exact gw_W_get ha0) (by rw [← e1]; exact gw_W_get ha1) hty hty hrk (nI_pos (by omega)) (nI_pos (by omega)) (nI_pos (by omega)) (by rw [c0, c2]; exact hs0) (by rw [c1, c2]; exact hs1) (by rw [c0, c2]; exact hft) (by omega) ?_ hd (fun H1 locs1 hP1 hD1 hS1 => ?_)
  · rw [gw_cats]
    have : nativeFrameWords "java/lang/System" "arraycopy" 5 + 11 ≤ 32 := by decide
    omega
  · rw [c0, c1, c2] at hP1 hD1
    have e2 : (gw_W cA ρ S w).set q1 (ρ q1, .inl (cA kd, n1, .inl (va_cpy (w q0) (w q1) sp dp ln))) = gw_W cA ρ S (fun q => if q = q1 then va_cpy (w q0) (w q1) sp dp ln else w q) :=
      gw_W_set ha1 (by simp [gw_cell, gw_ac, hk2]) (fun z hz => by simp [hz])
    rw [e2] at hP1 hD1
    exact K H1 locs1 ls hP1 hD1 hS1 hl
