section XR
variable {z : xk} {cc : ByteArray} {own : String} {nl : Nat} {w : va_W} {cs ss : Nat} {pc : Nat} {lv : List (Nat × Value)} {rest : List Value}
theorem k_iconst (C : xC z cc own nl) {n : Int} {v : Int32} (hdg : decode cc pc = .ok (.iconst n, 1)) (hv : Int32.ofInt n = v) (kk : xK z w cs ss (pc + 1) lv (.int v :: rest)) : xK z w cs ss pc lv (rest) := by
  obtain ⟨p, l, e, R, s, m, args, below, meth, c, A, H0, D, tys, nL, Q⟩ := z
  obtain ⟨hx, hb, hml, hown, hts, hN, hK, hA, hn0⟩ := C
  exact fun H locs ls hP hD hS hl0 => lv_iconst hx hb hdg hv (kk H locs ls hP hD hS hl0)
theorem k_bipush (C : xC z cc own nl) {n : Int} {v : Int32} (hdg : decode cc pc = .ok (.bipush n, 2)) (hv : (Int8.ofInt n).toInt32 = v) (kk : xK z w cs ss (pc + 2) lv (.int v :: rest)) : xK z w cs ss pc lv (rest) := by
  obtain ⟨p, l, e, R, s, m, args, below, meth, c, A, H0, D, tys, nL, Q⟩ := z
  obtain ⟨hx, hb, hml, hown, hts, hN, hK, hA, hn0⟩ := C
  exact fun H locs ls hP hD hS hl0 => lv_bipush hx hb hdg hv (kk H locs ls hP hD hS hl0)
theorem k_sipush (C : xC z cc own nl) {n : Int} {v : Int32} (hdg : decode cc pc = .ok (.sipush n, 3)) (hv : (Int16.ofInt n).toInt32 = v) (kk : xK z w cs ss (pc + 3) lv (.int v :: rest)) : xK z w cs ss pc lv (rest) := by
  obtain ⟨p, l, e, R, s, m, args, below, meth, c, A, H0, D, tys, nL, Q⟩ := z
  obtain ⟨hx, hb, hml, hown, hts, hN, hK, hA, hn0⟩ := C
  exact fun H locs ls hP hD hS hl0 => lv_sipush hx hb hdg hv (kk H locs ls hP hD hS hl0)
theorem k_lconst (C : xC z cc own nl) {n : Fin 2} {v : Int64} (hdg : decode cc pc = .ok (.lconst n, 1)) (hv : Int64.ofNat (n : Nat) = v) (kk : xK z w cs ss (pc + 1) lv (.long v :: rest)) : xK z w cs ss pc lv (rest) := by
  obtain ⟨p, l, e, R, s, m, args, below, meth, c, A, H0, D, tys, nL, Q⟩ := z
  obtain ⟨hx, hb, hml, hown, hts, hN, hK, hA, hn0⟩ := C
  exact fun H locs ls hP hD hS hl0 => lv_lconst hx hb hdg hv (kk H locs ls hP hD hS hl0)
theorem k_iload_n (C : xC z cc own nl) {k : Fin 4} {i : Nat} {x : Int32} (hdg : decode cc pc = .ok (.iload_n k, 1)) (hi : (k : Nat) = i) (j : Nat) (hl : lv[j]? = some (i, (.int x))) (kk : xK z w cs ss (pc + 1) lv (.int x :: rest)) : xK z w cs ss pc lv (rest) := by
  obtain ⟨p, l, e, R, s, m, args, below, meth, c, A, H0, D, tys, nL, Q⟩ := z
  obtain ⟨hx, hb, hml, hown, hts, hN, hK, hA, hn0⟩ := C
  exact fun H locs ls hP hD hS hl0 => lv_iload_n hx hb hdg hi (lv_at hl0 j hl) (kk H locs ls hP hD hS hl0)
theorem k_iload (C : xC z cc own nl) {i : Nat} {x : Int32} (hdg : decode cc pc = .ok (.iload i, 2)) (j : Nat) (hl : lv[j]? = some (i, (.int x))) (kk : xK z w cs ss (pc + 2) lv (.int x :: rest)) : xK z w cs ss pc lv (rest) := by
  obtain ⟨p, l, e, R, s, m, args, below, meth, c, A, H0, D, tys, nL, Q⟩ := z
  obtain ⟨hx, hb, hml, hown, hts, hN, hK, hA, hn0⟩ := C
  exact fun H locs ls hP hD hS hl0 => lv_iload hx hb hdg (lv_at hl0 j hl) (kk H locs ls hP hD hS hl0)
theorem k_lload_n (C : xC z cc own nl) {k : Fin 4} {i : Nat} {x : Int64} (hdg : decode cc pc = .ok (.lload_n k, 1)) (hi : (k : Nat) = i) (j : Nat) (hl : lv[j]? = some (i, (.long x))) (kk : xK z w cs ss (pc + 1) lv (.long x :: rest)) : xK z w cs ss pc lv (rest) := by
  obtain ⟨p, l, e, R, s, m, args, below, meth, c, A, H0, D, tys, nL, Q⟩ := z
  obtain ⟨hx, hb, hml, hown, hts, hN, hK, hA, hn0⟩ := C
  exact fun H locs ls hP hD hS hl0 => lv_lload_n hx hb hdg hi (lv_at hl0 j hl) (kk H locs ls hP hD hS hl0)
theorem k_lload (C : xC z cc own nl) {i : Nat} {x : Int64} (hdg : decode cc pc = .ok (.lload i, 2)) (j : Nat) (hl : lv[j]? = some (i, (.long x))) (kk : xK z w cs ss (pc + 2) lv (.long x :: rest)) : xK z w cs ss pc lv (rest) := by
  obtain ⟨p, l, e, R, s, m, args, below, meth, c, A, H0, D, tys, nL, Q⟩ := z
  obtain ⟨hx, hb, hml, hown, hts, hN, hK, hA, hn0⟩ := C
  exact fun H locs ls hP hD hS hl0 => lv_lload hx hb hdg (lv_at hl0 j hl) (kk H locs ls hP hD hS hl0)
theorem k_aload_n (C : xC z cc own nl) {k : Fin 4} {i : Nat} {x : Nat} (hdg : decode cc pc = .ok (.aload_n k, 1)) (hi : (k : Nat) = i) (j : Nat) (hl : lv[j]? = some (i, (.ref x))) (kk : xK z w cs ss (pc + 1) lv (.ref x :: rest)) : xK z w cs ss pc lv (rest) := by
  obtain ⟨p, l, e, R, s, m, args, below, meth, c, A, H0, D, tys, nL, Q⟩ := z
  obtain ⟨hx, hb, hml, hown, hts, hN, hK, hA, hn0⟩ := C
  exact fun H locs ls hP hD hS hl0 => lv_aload_n hx hb hdg hi (lv_at hl0 j hl) (kk H locs ls hP hD hS hl0)
theorem k_aload (C : xC z cc own nl) {i : Nat} {x : Nat} (hdg : decode cc pc = .ok (.aload i, 2)) (j : Nat) (hl : lv[j]? = some (i, (.ref x))) (kk : xK z w cs ss (pc + 2) lv (.ref x :: rest)) : xK z w cs ss pc lv (rest) := by
  obtain ⟨p, l, e, R, s, m, args, below, meth, c, A, H0, D, tys, nL, Q⟩ := z
  obtain ⟨hx, hb, hml, hown, hts, hN, hK, hA, hn0⟩ := C
  exact fun H locs ls hP hD hS hl0 => lv_aload hx hb hdg (lv_at hl0 j hl) (kk H locs ls hP hD hS hl0)
theorem k_istore_n (C : xC z cc own nl) {k : Fin 4} {i : Nat} {x : Int32} {lv' : List (Nat × Value)} (hdg : decode cc pc = .ok (.istore_n k, 1)) (hi : (k : Nat) = i) (hn : i < nl) (hl : (i, Value.int x) :: lv.filter (fun q => !(q.1 == i) && !(q.1 + 1 == i && q.2.category == 2)) = lv') (kk : xK z w cs ss (pc + 1) lv' rest) : xK z w cs ss pc lv (.int x :: rest) := by
  obtain ⟨p, l, e, R, s, m, args, below, meth, c, A, H0, D, tys, nL, Q⟩ := z
  obtain ⟨hx, hb, hml, hown, hts, hN, hK, hA, hn0⟩ := C
  exact fun H locs ls hP hD hS hl0 => lv_istore_n hx hb hdg hi hl0 (by rw [hn0]; exact hn) hl (fun ls9 hl9 => kk H locs ls9 hP hD hS hl9)
theorem k_istore (C : xC z cc own nl) {i : Nat} {x : Int32} {lv' : List (Nat × Value)} (hdg : decode cc pc = .ok (.istore i, 2)) (hn : i < nl) (hl : (i, Value.int x) :: lv.filter (fun q => !(q.1 == i) && !(q.1 + 1 == i && q.2.category == 2)) = lv') (kk : xK z w cs ss (pc + 2) lv' rest) : xK z w cs ss pc lv (.int x :: rest) := by
  obtain ⟨p, l, e, R, s, m, args, below, meth, c, A, H0, D, tys, nL, Q⟩ := z
  obtain ⟨hx, hb, hml, hown, hts, hN, hK, hA, hn0⟩ := C
  exact fun H locs ls hP hD hS hl0 => lv_istore hx hb hdg hl0 (by rw [hn0]; exact hn) hl (fun ls9 hl9 => kk H locs ls9 hP hD hS hl9)
theorem k_lstore_n (C : xC z cc own nl) {k : Fin 4} {i : Nat} {x : Int64} {lv' : List (Nat × Value)} (hdg : decode cc pc = .ok (.lstore_n k, 1)) (hi : (k : Nat) = i) (hn : i + 1 < nl) (hl : (i, Value.long x) :: lv.filter (fun q => !(q.1 == i) && (!(q.1 == i + 1) && !(q.1 + 1 == i && q.2.category == 2))) = lv') (kk : xK z w cs ss (pc + 1) lv' rest) : xK z w cs ss pc lv (.long x :: rest) := by
  obtain ⟨p, l, e, R, s, m, args, below, meth, c, A, H0, D, tys, nL, Q⟩ := z
  obtain ⟨hx, hb, hml, hown, hts, hN, hK, hA, hn0⟩ := C
  exact fun H locs ls hP hD hS hl0 => lv_lstore_n hx hb hdg hi hl0 (by rw [hn0]; exact hn) hl (fun ls9 hl9 => kk H locs ls9 hP hD hS hl9)
theorem k_lstore (C : xC z cc own nl) {i : Nat} {x : Int64} {lv' : List (Nat × Value)} (hdg : decode cc pc = .ok (.lstore i, 2)) (hn : i + 1 < nl) (hl : (i, Value.long x) :: lv.filter (fun q => !(q.1 == i) && (!(q.1 == i + 1) && !(q.1 + 1 == i && q.2.category == 2))) = lv') (kk : xK z w cs ss (pc + 2) lv' rest) : xK z w cs ss pc lv (.long x :: rest) := by
  obtain ⟨p, l, e, R, s, m, args, below, meth, c, A, H0, D, tys, nL, Q⟩ := z
  obtain ⟨hx, hb, hml, hown, hts, hN, hK, hA, hn0⟩ := C
  exact fun H locs ls hP hD hS hl0 => lv_lstore hx hb hdg hl0 (by rw [hn0]; exact hn) hl (fun ls9 hl9 => kk H locs ls9 hP hD hS hl9)
theorem k_astore_n (C : xC z cc own nl) {k : Fin 4} {i : Nat} {x : Nat} {lv' : List (Nat × Value)} (hdg : decode cc pc = .ok (.astore_n k, 1)) (hi : (k : Nat) = i) (hn : i < nl) (hl : (i, Value.ref x) :: lv.filter (fun q => !(q.1 == i) && !(q.1 + 1 == i && q.2.category == 2)) = lv') (kk : xK z w cs ss (pc + 1) lv' rest) : xK z w cs ss pc lv (.ref x :: rest) := by
  obtain ⟨p, l, e, R, s, m, args, below, meth, c, A, H0, D, tys, nL, Q⟩ := z
  obtain ⟨hx, hb, hml, hown, hts, hN, hK, hA, hn0⟩ := C
  exact fun H locs ls hP hD hS hl0 => lv_astore_n hx hb hdg hi hl0 (by rw [hn0]; exact hn) hl (fun ls9 hl9 => kk H locs ls9 hP hD hS hl9)
theorem k_astore (C : xC z cc own nl) {i : Nat} {x : Nat} {lv' : List (Nat × Value)} (hdg : decode cc pc = .ok (.astore i, 2)) (hn : i < nl) (hl : (i, Value.ref x) :: lv.filter (fun q => !(q.1 == i) && !(q.1 + 1 == i && q.2.category == 2)) = lv') (kk : xK z w cs ss (pc + 2) lv' rest) : xK z w cs ss pc lv (.ref x :: rest) := by
  obtain ⟨p, l, e, R, s, m, args, below, meth, c, A, H0, D, tys, nL, Q⟩ := z
  obtain ⟨hx, hb, hml, hown, hts, hN, hK, hA, hn0⟩ := C
  exact fun H locs ls hP hD hS hl0 => lv_astore hx hb hdg hl0 (by rw [hn0]; exact hn) hl (fun ls9 hl9 => kk H locs ls9 hP hD hS hl9)
theorem k_iinc (C : xC z cc own nl) {i k : Nat} {n : Int} {x v : Int32} {lv' : List (Nat × Value)} (hdg : decode cc pc = .ok (.iinc i n, 3)) (hk : lv[k]? = some (i, .int x)) (hv : x + Int32.ofInt n = v) (hn : i < nl) (hl : (i, Value.int v) :: lv.filter (fun q => !(q.1 == i) && !(q.1 + 1 == i && q.2.category == 2)) = lv') (kk : xK z w cs ss (pc + 3) lv' rest) : xK z w cs ss pc lv rest := by
  obtain ⟨p, l, e, R, s, m, args, below, meth, c, A, H0, D, tys, nL, Q⟩ := z
  obtain ⟨hx, hb, hml, hown, hts, hN, hK, hA, hn0⟩ := C
  exact fun H locs ls hP hD hS hl0 => lv_iinc hx hb hdg hl0 hk hv (by rw [hn0]; exact hn) hl (fun ls9 hl9 => kk H locs ls9 hP hD hS hl9)
theorem k_iadd (C : xC z cc own nl) {x y : Int32} (hdg : decode cc pc = .ok (.iadd, 1)) (kk : xK z w cs ss (pc + 1) lv (.int (x + y) :: rest)) : xK z w cs ss pc lv (.int y :: .int x :: rest) := by
  obtain ⟨p, l, e, R, s, m, args, below, meth, c, A, H0, D, tys, nL, Q⟩ := z
  obtain ⟨hx, hb, hml, hown, hts, hN, hK, hA, hn0⟩ := C
  exact fun H locs ls hP hD hS hl0 => lv_iadd hx hb hdg (kk H locs ls hP hD hS hl0)
theorem k_isub (C : xC z cc own nl) {x y : Int32} (hdg : decode cc pc = .ok (.isub, 1)) (kk : xK z w cs ss (pc + 1) lv (.int (x - y) :: rest)) : xK z w cs ss pc lv (.int y :: .int x :: rest) := by
  obtain ⟨p, l, e, R, s, m, args, below, meth, c, A, H0, D, tys, nL, Q⟩ := z
  obtain ⟨hx, hb, hml, hown, hts, hN, hK, hA, hn0⟩ := C
  exact fun H locs ls hP hD hS hl0 => lv_isub hx hb hdg (kk H locs ls hP hD hS hl0)
theorem k_imul (C : xC z cc own nl) {x y : Int32} (hdg : decode cc pc = .ok (.imul, 1)) (kk : xK z w cs ss (pc + 1) lv (.int (x * y) :: rest)) : xK z w cs ss pc lv (.int y :: .int x :: rest) := by
  obtain ⟨p, l, e, R, s, m, args, below, meth, c, A, H0, D, tys, nL, Q⟩ := z
  obtain ⟨hx, hb, hml, hown, hts, hN, hK, hA, hn0⟩ := C
  exact fun H locs ls hP hD hS hl0 => lv_imul hx hb hdg (kk H locs ls hP hD hS hl0)
theorem k_iand (C : xC z cc own nl) {x y : Int32} (hdg : decode cc pc = .ok (.iand, 1)) (kk : xK z w cs ss (pc + 1) lv (.int (x &&& y) :: rest)) : xK z w cs ss pc lv (.int y :: .int x :: rest) := by
  obtain ⟨p, l, e, R, s, m, args, below, meth, c, A, H0, D, tys, nL, Q⟩ := z
  obtain ⟨hx, hb, hml, hown, hts, hN, hK, hA, hn0⟩ := C
  exact fun H locs ls hP hD hS hl0 => lv_iand hx hb hdg (kk H locs ls hP hD hS hl0)
theorem k_ior (C : xC z cc own nl) {x y : Int32} (hdg : decode cc pc = .ok (.ior, 1)) (kk : xK z w cs ss (pc + 1) lv (.int (x ||| y) :: rest)) : xK z w cs ss pc lv (.int y :: .int x :: rest) := by
  obtain ⟨p, l, e, R, s, m, args, below, meth, c, A, H0, D, tys, nL, Q⟩ := z
  obtain ⟨hx, hb, hml, hown, hts, hN, hK, hA, hn0⟩ := C
  exact fun H locs ls hP hD hS hl0 => lv_ior hx hb hdg (kk H locs ls hP hD hS hl0)
theorem k_ixor (C : xC z cc own nl) {x y : Int32} (hdg : decode cc pc = .ok (.ixor, 1)) (kk : xK z w cs ss (pc + 1) lv (.int (x ^^^ y) :: rest)) : xK z w cs ss pc lv (.int y :: .int x :: rest) := by
  obtain ⟨p, l, e, R, s, m, args, below, meth, c, A, H0, D, tys, nL, Q⟩ := z
  obtain ⟨hx, hb, hml, hown, hts, hN, hK, hA, hn0⟩ := C
  exact fun H locs ls hP hD hS hl0 => lv_ixor hx hb hdg (kk H locs ls hP hD hS hl0)
theorem k_idiv (C : xC z cc own nl) {x y : Int32} (hdg : decode cc pc = .ok (.idiv, 1)) (hne : ¬ y = 0) (kk : xK z w cs ss (pc + 1) lv (.int (x / y) :: rest)) : xK z w cs ss pc lv (.int y :: .int x :: rest) := by
  obtain ⟨p, l, e, R, s, m, args, below, meth, c, A, H0, D, tys, nL, Q⟩ := z
  obtain ⟨hx, hb, hml, hown, hts, hN, hK, hA, hn0⟩ := C
  exact fun H locs ls hP hD hS hl0 => lv_idiv hx hb hdg hne (kk H locs ls hP hD hS hl0)
theorem k_irem (C : xC z cc own nl) {x y : Int32} (hdg : decode cc pc = .ok (.irem, 1)) (hne : ¬ y = 0) (kk : xK z w cs ss (pc + 1) lv (.int (x - x / y * y) :: rest)) : xK z w cs ss pc lv (.int y :: .int x :: rest) := by
  obtain ⟨p, l, e, R, s, m, args, below, meth, c, A, H0, D, tys, nL, Q⟩ := z
  obtain ⟨hx, hb, hml, hown, hts, hN, hK, hA, hn0⟩ := C
  exact fun H locs ls hP hD hS hl0 => lv_irem hx hb hdg hne (kk H locs ls hP hD hS hl0)
theorem k_ineg (C : xC z cc own nl) {x : Int32} (hdg : decode cc pc = .ok (.ineg, 1)) (kk : xK z w cs ss (pc + 1) lv (.int (-x) :: rest)) : xK z w cs ss pc lv (.int x :: rest) := by
  obtain ⟨p, l, e, R, s, m, args, below, meth, c, A, H0, D, tys, nL, Q⟩ := z
  obtain ⟨hx, hb, hml, hown, hts, hN, hK, hA, hn0⟩ := C
  exact fun H locs ls hP hD hS hl0 => lv_ineg hx hb hdg (kk H locs ls hP hD hS hl0)
theorem k_ladd (C : xC z cc own nl) {x y : Int64} (hdg : decode cc pc = .ok (.ladd, 1)) (kk : xK z w cs ss (pc + 1) lv (.long (x + y) :: rest)) : xK z w cs ss pc lv (.long y :: .long x :: rest) := by
  obtain ⟨p, l, e, R, s, m, args, below, meth, c, A, H0, D, tys, nL, Q⟩ := z
  obtain ⟨hx, hb, hml, hown, hts, hN, hK, hA, hn0⟩ := C
  exact fun H locs ls hP hD hS hl0 => lv_ladd hx hb hdg (kk H locs ls hP hD hS hl0)
theorem k_lsub (C : xC z cc own nl) {x y : Int64} (hdg : decode cc pc = .ok (.lsub, 1)) (kk : xK z w cs ss (pc + 1) lv (.long (x - y) :: rest)) : xK z w cs ss pc lv (.long y :: .long x :: rest) := by
  obtain ⟨p, l, e, R, s, m, args, below, meth, c, A, H0, D, tys, nL, Q⟩ := z
  obtain ⟨hx, hb, hml, hown, hts, hN, hK, hA, hn0⟩ := C
  exact fun H locs ls hP hD hS hl0 => lv_lsub hx hb hdg (kk H locs ls hP hD hS hl0)
theorem k_lmul (C : xC z cc own nl) {x y : Int64} (hdg : decode cc pc = .ok (.lmul, 1)) (kk : xK z w cs ss (pc + 1) lv (.long (x * y) :: rest)) : xK z w cs ss pc lv (.long y :: .long x :: rest) := by
  obtain ⟨p, l, e, R, s, m, args, below, meth, c, A, H0, D, tys, nL, Q⟩ := z
  obtain ⟨hx, hb, hml, hown, hts, hN, hK, hA, hn0⟩ := C
  exact fun H locs ls hP hD hS hl0 => lv_lmul hx hb hdg (kk H locs ls hP hD hS hl0)
theorem k_land (C : xC z cc own nl) {x y : Int64} (hdg : decode cc pc = .ok (.land, 1)) (kk : xK z w cs ss (pc + 1) lv (.long (x &&& y) :: rest)) : xK z w cs ss pc lv (.long y :: .long x :: rest) := by
  obtain ⟨p, l, e, R, s, m, args, below, meth, c, A, H0, D, tys, nL, Q⟩ := z
  obtain ⟨hx, hb, hml, hown, hts, hN, hK, hA, hn0⟩ := C
  exact fun H locs ls hP hD hS hl0 => lv_land hx hb hdg (kk H locs ls hP hD hS hl0)
theorem k_lor (C : xC z cc own nl) {x y : Int64} (hdg : decode cc pc = .ok (.lor, 1)) (kk : xK z w cs ss (pc + 1) lv (.long (x ||| y) :: rest)) : xK z w cs ss pc lv (.long y :: .long x :: rest) := by
  obtain ⟨p, l, e, R, s, m, args, below, meth, c, A, H0, D, tys, nL, Q⟩ := z
  obtain ⟨hx, hb, hml, hown, hts, hN, hK, hA, hn0⟩ := C
  exact fun H locs ls hP hD hS hl0 => lv_lor hx hb hdg (kk H locs ls hP hD hS hl0)
theorem k_lxor (C : xC z cc own nl) {x y : Int64} (hdg : decode cc pc = .ok (.lxor, 1)) (kk : xK z w cs ss (pc + 1) lv (.long (x ^^^ y) :: rest)) : xK z w cs ss pc lv (.long y :: .long x :: rest) := by
  obtain ⟨p, l, e, R, s, m, args, below, meth, c, A, H0, D, tys, nL, Q⟩ := z
  obtain ⟨hx, hb, hml, hown, hts, hN, hK, hA, hn0⟩ := C
  exact fun H locs ls hP hD hS hl0 => lv_lxor hx hb hdg (kk H locs ls hP hD hS hl0)
theorem k_ldiv (C : xC z cc own nl) {x y : Int64} (hdg : decode cc pc = .ok (.ldiv, 1)) (hne : ¬ y = 0) (kk : xK z w cs ss (pc + 1) lv (.long (x / y) :: rest)) : xK z w cs ss pc lv (.long y :: .long x :: rest) := by
  obtain ⟨p, l, e, R, s, m, args, below, meth, c, A, H0, D, tys, nL, Q⟩ := z
  obtain ⟨hx, hb, hml, hown, hts, hN, hK, hA, hn0⟩ := C
  exact fun H locs ls hP hD hS hl0 => lv_ldiv hx hb hdg hne (kk H locs ls hP hD hS hl0)
theorem k_lrem (C : xC z cc own nl) {x y : Int64} (hdg : decode cc pc = .ok (.lrem, 1)) (hne : ¬ y = 0) (kk : xK z w cs ss (pc + 1) lv (.long (x - x / y * y) :: rest)) : xK z w cs ss pc lv (.long y :: .long x :: rest) := by
  obtain ⟨p, l, e, R, s, m, args, below, meth, c, A, H0, D, tys, nL, Q⟩ := z
  obtain ⟨hx, hb, hml, hown, hts, hN, hK, hA, hn0⟩ := C
  exact fun H locs ls hP hD hS hl0 => lv_lrem hx hb hdg hne (kk H locs ls hP hD hS hl0)
theorem k_lneg (C : xC z cc own nl) {x : Int64} (hdg : decode cc pc = .ok (.lneg, 1)) (kk : xK z w cs ss (pc + 1) lv (.long (-x) :: rest)) : xK z w cs ss pc lv (.long x :: rest) := by
  obtain ⟨p, l, e, R, s, m, args, below, meth, c, A, H0, D, tys, nL, Q⟩ := z
  obtain ⟨hx, hb, hml, hown, hts, hN, hK, hA, hn0⟩ := C
  exact fun H locs ls hP hD hS hl0 => lv_lneg hx hb hdg (kk H locs ls hP hD hS hl0)
theorem k_ishl (C : xC z cc own nl) {x y : Int32} (hdg : decode cc pc = .ok (.ishl, 1)) (kk : xK z w cs ss (pc + 1) lv (.int (x <<< (y &&& 31)) :: rest)) : xK z w cs ss pc lv (.int y :: .int x :: rest) := by
  obtain ⟨p, l, e, R, s, m, args, below, meth, c, A, H0, D, tys, nL, Q⟩ := z
  obtain ⟨hx, hb, hml, hown, hts, hN, hK, hA, hn0⟩ := C
  exact fun H locs ls hP hD hS hl0 => lv_ishl hx hb hdg (kk H locs ls hP hD hS hl0)
theorem k_ishr (C : xC z cc own nl) {x y : Int32} (hdg : decode cc pc = .ok (.ishr, 1)) (kk : xK z w cs ss (pc + 1) lv (.int (x >>> (y &&& 31)) :: rest)) : xK z w cs ss pc lv (.int y :: .int x :: rest) := by
  obtain ⟨p, l, e, R, s, m, args, below, meth, c, A, H0, D, tys, nL, Q⟩ := z
  obtain ⟨hx, hb, hml, hown, hts, hN, hK, hA, hn0⟩ := C
  exact fun H locs ls hP hD hS hl0 => lv_ishr hx hb hdg (kk H locs ls hP hD hS hl0)
theorem k_i2l (C : xC z cc own nl) {x : Int32} {v : Int64} (hdg : decode cc pc = .ok (.i2l, 1)) (hv : x.toInt64 = v) (kk : xK z w cs ss (pc + 1) lv (.long v :: rest)) : xK z w cs ss pc lv (.int x :: rest) := by
  obtain ⟨p, l, e, R, s, m, args, below, meth, c, A, H0, D, tys, nL, Q⟩ := z
  obtain ⟨hx, hb, hml, hown, hts, hN, hK, hA, hn0⟩ := C
  exact fun H locs ls hP hD hS hl0 => lv_i2l hx hb hdg hv (kk H locs ls hP hD hS hl0)
theorem k_l2i (C : xC z cc own nl) {x : Int64} {v : Int32} (hdg : decode cc pc = .ok (.l2i, 1)) (hv : x.toInt32 = v) (kk : xK z w cs ss (pc + 1) lv (.int v :: rest)) : xK z w cs ss pc lv (.long x :: rest) := by
  obtain ⟨p, l, e, R, s, m, args, below, meth, c, A, H0, D, tys, nL, Q⟩ := z
  obtain ⟨hx, hb, hml, hown, hts, hN, hK, hA, hn0⟩ := C
  exact fun H locs ls hP hD hS hl0 => lv_l2i hx hb hdg hv (kk H locs ls hP hD hS hl0)
theorem k_iushr (C : xC z cc own nl) {x y v : Int32} (hdg : decode cc pc = .ok (.iushr, 1)) (hv : (x.toUInt32 >>> (y.toUInt32 &&& Int32.toUInt32 31)).toInt32 = v) (kk : xK z w cs ss (pc + 1) lv (.int v :: rest)) : xK z w cs ss pc lv (.int y :: .int x :: rest) := by
  obtain ⟨p, l, e, R, s, m, args, below, meth, c, A, H0, D, tys, nL, Q⟩ := z
  obtain ⟨hx, hb, hml, hown, hts, hN, hK, hA, hn0⟩ := C
  exact fun H locs ls hP hD hS hl0 => lv_iushr hx hb hdg hv (kk H locs ls hP hD hS hl0)
theorem k_lushr (C : xC z cc own nl) {x v : Int64} {y : Int32} (hdg : decode cc pc = .ok (.lushr, 1)) (hv : (x.toUInt64 >>> (y.toInt64.toUInt64 &&& Int64.toUInt64 63)).toInt64 = v) (kk : xK z w cs ss (pc + 1) lv (.long v :: rest)) : xK z w cs ss pc lv (.int y :: .long x :: rest) := by
  obtain ⟨p, l, e, R, s, m, args, below, meth, c, A, H0, D, tys, nL, Q⟩ := z
  obtain ⟨hx, hb, hml, hown, hts, hN, hK, hA, hn0⟩ := C
  exact fun H locs ls hP hD hS hl0 => lv_lushr hx hb hdg hv (kk H locs ls hP hD hS hl0)
theorem k_lshl (C : xC z cc own nl) {x v : Int64} {y : Int32} (hdg : decode cc pc = .ok (.lshl, 1)) (hv : x <<< (y.toInt64 &&& 63) = v) (kk : xK z w cs ss (pc + 1) lv (.long v :: rest)) : xK z w cs ss pc lv (.int y :: .long x :: rest) := by
  obtain ⟨p, l, e, R, s, m, args, below, meth, c, A, H0, D, tys, nL, Q⟩ := z
  obtain ⟨hx, hb, hml, hown, hts, hN, hK, hA, hn0⟩ := C
  exact fun H locs ls hP hD hS hl0 => lv_lshl hx hb hdg hv (kk H locs ls hP hD hS hl0)
theorem k_lshr (C : xC z cc own nl) {x v : Int64} {y : Int32} (hdg : decode cc pc = .ok (.lshr, 1)) (hv : x >>> (y.toInt64 &&& 63) = v) (kk : xK z w cs ss (pc + 1) lv (.long v :: rest)) : xK z w cs ss pc lv (.int y :: .long x :: rest) := by
  obtain ⟨p, l, e, R, s, m, args, below, meth, c, A, H0, D, tys, nL, Q⟩ := z
  obtain ⟨hx, hb, hml, hown, hts, hN, hK, hA, hn0⟩ := C
  exact fun H locs ls hP hD hS hl0 => lv_lshr hx hb hdg hv (kk H locs ls hP hD hS hl0)
theorem k_dup (C : xC z cc own nl) {va : Value} (hdg : decode cc pc = .ok (.dup, 1)) (hva : va.category = 1) (kk : xK z w cs ss (pc + 1) lv (va :: va :: rest)) : xK z w cs ss pc lv (va :: rest) := by
  obtain ⟨p, l, e, R, s, m, args, below, meth, c, A, H0, D, tys, nL, Q⟩ := z
  obtain ⟨hx, hb, hml, hown, hts, hN, hK, hA, hn0⟩ := C
  exact fun H locs ls hP hD hS hl0 => lv_dup hx hb hdg hva (kk H locs ls hP hD hS hl0)
theorem k_pop (C : xC z cc own nl) {va : Value} (hdg : decode cc pc = .ok (.pop, 1)) (hva : va.category = 1) (kk : xK z w cs ss (pc + 1) lv (rest)) : xK z w cs ss pc lv (va :: rest) := by
  obtain ⟨p, l, e, R, s, m, args, below, meth, c, A, H0, D, tys, nL, Q⟩ := z
  obtain ⟨hx, hb, hml, hown, hts, hN, hK, hA, hn0⟩ := C
  exact fun H locs ls hP hD hS hl0 => lv_pop hx hb hdg hva (kk H locs ls hP hD hS hl0)
theorem k_dup_x1 (C : xC z cc own nl) {va vb : Value} (hdg : decode cc pc = .ok (.dup_x1, 1)) (hva : va.category = 1) (hvb : vb.category = 1) (kk : xK z w cs ss (pc + 1) lv (va :: vb :: va :: rest)) : xK z w cs ss pc lv (va :: vb :: rest) := by
  obtain ⟨p, l, e, R, s, m, args, below, meth, c, A, H0, D, tys, nL, Q⟩ := z
  obtain ⟨hx, hb, hml, hown, hts, hN, hK, hA, hn0⟩ := C
  exact fun H locs ls hP hD hS hl0 => lv_dup_x1 hx hb hdg hva hvb (kk H locs ls hP hD hS hl0)
theorem k_dup_x2 (C : xC z cc own nl) {va vb vd : Value} (hdg : decode cc pc = .ok (.dup_x2, 1)) (hva : va.category = 1) (hvb : vb.category = 1) (hvd : vd.category = 1) (kk : xK z w cs ss (pc + 1) lv (va :: vb :: vd :: va :: rest)) : xK z w cs ss pc lv (va :: vb :: vd :: rest) := by
  obtain ⟨p, l, e, R, s, m, args, below, meth, c, A, H0, D, tys, nL, Q⟩ := z
  obtain ⟨hx, hb, hml, hown, hts, hN, hK, hA, hn0⟩ := C
  exact fun H locs ls hP hD hS hl0 => lv_dup_x2 hx hb hdg hva hvb hvd (kk H locs ls hP hD hS hl0)
theorem k_dup2_11 (C : xC z cc own nl) {va vb : Value} (hdg : decode cc pc = .ok (.dup2, 1)) (hva : va.category = 1) (hvb : vb.category = 1) (kk : xK z w cs ss (pc + 1) lv (va :: vb :: va :: vb :: rest)) : xK z w cs ss pc lv (va :: vb :: rest) := by
  obtain ⟨p, l, e, R, s, m, args, below, meth, c, A, H0, D, tys, nL, Q⟩ := z
  obtain ⟨hx, hb, hml, hown, hts, hN, hK, hA, hn0⟩ := C
  exact fun H locs ls hP hD hS hl0 => lv_dup2_11 hx hb hdg hva hvb (kk H locs ls hP hD hS hl0)
theorem k_dup2_2 (C : xC z cc own nl) {va : Value} (hdg : decode cc pc = .ok (.dup2, 1)) (hva : va.category = 2) (kk : xK z w cs ss (pc + 1) lv (va :: va :: rest)) : xK z w cs ss pc lv (va :: rest) := by
  obtain ⟨p, l, e, R, s, m, args, below, meth, c, A, H0, D, tys, nL, Q⟩ := z
  obtain ⟨hx, hb, hml, hown, hts, hN, hK, hA, hn0⟩ := C
  exact fun H locs ls hP hD hS hl0 => lv_dup2_2 hx hb hdg hva (kk H locs ls hP hD hS hl0)
theorem k_goto (C : xC z cc own nl) {off : Int} {tgt : Nat} (hdg : decode cc pc = .ok (.goto off, 3)) (ht : (pc : Int) + off = (tgt : Int)) (kk : xK z w cs ss tgt lv rest) : xK z w cs ss pc lv rest := by
  obtain ⟨p, l, e, R, s, m, args, below, meth, c, A, H0, D, tys, nL, Q⟩ := z
  obtain ⟨hx, hb, hml, hown, hts, hN, hK, hA, hn0⟩ := C
  exact fun H locs ls hP hD hS hl0 => lv_goto hx hb hdg ht (kk H locs ls hP hD hS hl0)
theorem k_tableOut (C : xC z cc own nl) {dflt lo hi : Int} {offs : Array Int} {len : Nat} {x : Int32} {tgt : Nat} (hdg : decode cc pc = .ok (.tableswitch dflt lo hi offs, len)) (h : x.toInt < lo ∨ hi < x.toInt) (ht : (pc : Int) + dflt = (tgt : Int)) (kk : xK z w cs ss tgt lv rest) : xK z w cs ss pc lv (.int x :: rest) := by
  obtain ⟨p, l, e, R, s, m, args, below, meth, c, A, H0, D, tys, nL, Q⟩ := z
  obtain ⟨hx, hb, hml, hown, hts, hN, hK, hA, hn0⟩ := C
  exact fun H locs ls hP hD hS hl0 => lv_tableOut hx hb hdg h ht (kk H locs ls hP hD hS hl0)
theorem k_tableIn (C : xC z cc own nl) {dflt lo hi : Int} {offs : Array Int} {len : Nat} {x : Int32} {off : Int} {tgt : Nat} (hdg : decode cc pc = .ok (.tableswitch dflt lo hi offs, len)) (h1 : ¬ x.toInt < lo) (h2 : ¬ hi < x.toInt) (ho : offs[(x.toInt - lo).toNat]? = some off) (ht : (pc : Int) + off = (tgt : Int)) (kk : xK z w cs ss tgt lv rest) : xK z w cs ss pc lv (.int x :: rest) := by
  obtain ⟨p, l, e, R, s, m, args, below, meth, c, A, H0, D, tys, nL, Q⟩ := z
  obtain ⟨hx, hb, hml, hown, hts, hN, hK, hA, hn0⟩ := C
  exact fun H locs ls hP hD hS hl0 => lv_tableIn hx hb hdg h1 h2 ho ht (kk H locs ls hP hD hS hl0)
theorem k_if_eq (C : xC z cc own nl) {x : Int32} {off : Int} {tgt : Nat} (hdg : decode cc pc = .ok (.ifCond .eq off, 3)) (ht : (pc : Int) + off = (tgt : Int)) (kt : x = 0 → xK z w cs ss tgt lv rest) (kf : ¬ x = 0 → xK z w cs ss (pc + 3) lv rest) : xK z w cs ss pc lv (.int x :: rest) := by
  obtain ⟨p, l, e, R, s, m, args, below, meth, c, A, H0, D, tys, nL, Q⟩ := z
  obtain ⟨hx, hb, hml, hown, hts, hN, hK, hA, hn0⟩ := C
  exact fun H locs ls hP hD hS hl0 => lv_if_eq hx hb hdg ht (fun h9 => kt h9 H locs ls hP hD hS hl0) (fun h9 => kf h9 H locs ls hP hD hS hl0)
theorem k_if_ne (C : xC z cc own nl) {x : Int32} {off : Int} {tgt : Nat} (hdg : decode cc pc = .ok (.ifCond .ne off, 3)) (ht : (pc : Int) + off = (tgt : Int)) (kt : ¬ x = 0 → xK z w cs ss tgt lv rest) (kf : x = 0 → xK z w cs ss (pc + 3) lv rest) : xK z w cs ss pc lv (.int x :: rest) := by
  obtain ⟨p, l, e, R, s, m, args, below, meth, c, A, H0, D, tys, nL, Q⟩ := z
  obtain ⟨hx, hb, hml, hown, hts, hN, hK, hA, hn0⟩ := C
  exact fun H locs ls hP hD hS hl0 => lv_if_ne hx hb hdg ht (fun h9 => kt h9 H locs ls hP hD hS hl0) (fun h9 => kf h9 H locs ls hP hD hS hl0)
theorem k_if_lt (C : xC z cc own nl) {x : Int32} {off : Int} {tgt : Nat} (hdg : decode cc pc = .ok (.ifCond .lt off, 3)) (ht : (pc : Int) + off = (tgt : Int)) (kt : x < 0 → xK z w cs ss tgt lv rest) (kf : ¬ x < 0 → xK z w cs ss (pc + 3) lv rest) : xK z w cs ss pc lv (.int x :: rest) := by
  obtain ⟨p, l, e, R, s, m, args, below, meth, c, A, H0, D, tys, nL, Q⟩ := z
  obtain ⟨hx, hb, hml, hown, hts, hN, hK, hA, hn0⟩ := C
  exact fun H locs ls hP hD hS hl0 => lv_if_lt hx hb hdg ht (fun h9 => kt h9 H locs ls hP hD hS hl0) (fun h9 => kf h9 H locs ls hP hD hS hl0)
theorem k_if_ge (C : xC z cc own nl) {x : Int32} {off : Int} {tgt : Nat} (hdg : decode cc pc = .ok (.ifCond .ge off, 3)) (ht : (pc : Int) + off = (tgt : Int)) (kt : 0 ≤ x → xK z w cs ss tgt lv rest) (kf : ¬ 0 ≤ x → xK z w cs ss (pc + 3) lv rest) : xK z w cs ss pc lv (.int x :: rest) := by
  obtain ⟨p, l, e, R, s, m, args, below, meth, c, A, H0, D, tys, nL, Q⟩ := z
  obtain ⟨hx, hb, hml, hown, hts, hN, hK, hA, hn0⟩ := C
  exact fun H locs ls hP hD hS hl0 => lv_if_ge hx hb hdg ht (fun h9 => kt h9 H locs ls hP hD hS hl0) (fun h9 => kf h9 H locs ls hP hD hS hl0)
theorem k_if_gt (C : xC z cc own nl) {x : Int32} {off : Int} {tgt : Nat} (hdg : decode cc pc = .ok (.ifCond .gt off, 3)) (ht : (pc : Int) + off = (tgt : Int)) (kt : 0 < x → xK z w cs ss tgt lv rest) (kf : ¬ 0 < x → xK z w cs ss (pc + 3) lv rest) : xK z w cs ss pc lv (.int x :: rest) := by
  obtain ⟨p, l, e, R, s, m, args, below, meth, c, A, H0, D, tys, nL, Q⟩ := z
  obtain ⟨hx, hb, hml, hown, hts, hN, hK, hA, hn0⟩ := C
  exact fun H locs ls hP hD hS hl0 => lv_if_gt hx hb hdg ht (fun h9 => kt h9 H locs ls hP hD hS hl0) (fun h9 => kf h9 H locs ls hP hD hS hl0)
theorem k_if_le (C : xC z cc own nl) {x : Int32} {off : Int} {tgt : Nat} (hdg : decode cc pc = .ok (.ifCond .le off, 3)) (ht : (pc : Int) + off = (tgt : Int)) (kt : x ≤ 0 → xK z w cs ss tgt lv rest) (kf : ¬ x ≤ 0 → xK z w cs ss (pc + 3) lv rest) : xK z w cs ss pc lv (.int x :: rest) := by
  obtain ⟨p, l, e, R, s, m, args, below, meth, c, A, H0, D, tys, nL, Q⟩ := z
  obtain ⟨hx, hb, hml, hown, hts, hN, hK, hA, hn0⟩ := C
  exact fun H locs ls hP hD hS hl0 => lv_if_le hx hb hdg ht (fun h9 => kt h9 H locs ls hP hD hS hl0) (fun h9 => kf h9 H locs ls hP hD hS hl0)
theorem k_icmp_eq (C : xC z cc own nl) {x y : Int32} {off : Int} {tgt : Nat} (hdg : decode cc pc = .ok (.if_icmp .eq off, 3)) (ht : (pc : Int) + off = (tgt : Int)) (kt : x = y → xK z w cs ss tgt lv rest) (kf : ¬ x = y → xK z w cs ss (pc + 3) lv rest) : xK z w cs ss pc lv (.int y :: .int x :: rest) := by
  obtain ⟨p, l, e, R, s, m, args, below, meth, c, A, H0, D, tys, nL, Q⟩ := z
  obtain ⟨hx, hb, hml, hown, hts, hN, hK, hA, hn0⟩ := C
  exact fun H locs ls hP hD hS hl0 => lv_icmp_eq hx hb hdg ht (fun h9 => kt h9 H locs ls hP hD hS hl0) (fun h9 => kf h9 H locs ls hP hD hS hl0)
theorem k_icmp_ne (C : xC z cc own nl) {x y : Int32} {off : Int} {tgt : Nat} (hdg : decode cc pc = .ok (.if_icmp .ne off, 3)) (ht : (pc : Int) + off = (tgt : Int)) (kt : ¬ x = y → xK z w cs ss tgt lv rest) (kf : x = y → xK z w cs ss (pc + 3) lv rest) : xK z w cs ss pc lv (.int y :: .int x :: rest) := by
  obtain ⟨p, l, e, R, s, m, args, below, meth, c, A, H0, D, tys, nL, Q⟩ := z
  obtain ⟨hx, hb, hml, hown, hts, hN, hK, hA, hn0⟩ := C
  exact fun H locs ls hP hD hS hl0 => lv_icmp_ne hx hb hdg ht (fun h9 => kt h9 H locs ls hP hD hS hl0) (fun h9 => kf h9 H locs ls hP hD hS hl0)
theorem k_icmp_lt (C : xC z cc own nl) {x y : Int32} {off : Int} {tgt : Nat} (hdg : decode cc pc = .ok (.if_icmp .lt off, 3)) (ht : (pc : Int) + off = (tgt : Int)) (kt : x < y → xK z w cs ss tgt lv rest) (kf : ¬ x < y → xK z w cs ss (pc + 3) lv rest) : xK z w cs ss pc lv (.int y :: .int x :: rest) := by
  obtain ⟨p, l, e, R, s, m, args, below, meth, c, A, H0, D, tys, nL, Q⟩ := z
  obtain ⟨hx, hb, hml, hown, hts, hN, hK, hA, hn0⟩ := C
  exact fun H locs ls hP hD hS hl0 => lv_icmp_lt hx hb hdg ht (fun h9 => kt h9 H locs ls hP hD hS hl0) (fun h9 => kf h9 H locs ls hP hD hS hl0)
theorem k_icmp_ge (C : xC z cc own nl) {x y : Int32} {off : Int} {tgt : Nat} (hdg : decode cc pc = .ok (.if_icmp .ge off, 3)) (ht : (pc : Int) + off = (tgt : Int)) (kt : y ≤ x → xK z w cs ss tgt lv rest) (kf : ¬ y ≤ x → xK z w cs ss (pc + 3) lv rest) : xK z w cs ss pc lv (.int y :: .int x :: rest) := by
  obtain ⟨p, l, e, R, s, m, args, below, meth, c, A, H0, D, tys, nL, Q⟩ := z
  obtain ⟨hx, hb, hml, hown, hts, hN, hK, hA, hn0⟩ := C
  exact fun H locs ls hP hD hS hl0 => lv_icmp_ge hx hb hdg ht (fun h9 => kt h9 H locs ls hP hD hS hl0) (fun h9 => kf h9 H locs ls hP hD hS hl0)
theorem k_icmp_gt (C : xC z cc own nl) {x y : Int32} {off : Int} {tgt : Nat} (hdg : decode cc pc = .ok (.if_icmp .gt off, 3)) (ht : (pc : Int) + off = (tgt : Int)) (kt : y < x → xK z w cs ss tgt lv rest) (kf : ¬ y < x → xK z w cs ss (pc + 3) lv rest) : xK z w cs ss pc lv (.int y :: .int x :: rest) := by
  obtain ⟨p, l, e, R, s, m, args, below, meth, c, A, H0, D, tys, nL, Q⟩ := z
  obtain ⟨hx, hb, hml, hown, hts, hN, hK, hA, hn0⟩ := C
  exact fun H locs ls hP hD hS hl0 => lv_icmp_gt hx hb hdg ht (fun h9 => kt h9 H locs ls hP hD hS hl0) (fun h9 => kf h9 H locs ls hP hD hS hl0)
theorem k_icmp_le (C : xC z cc own nl) {x y : Int32} {off : Int} {tgt : Nat} (hdg : decode cc pc = .ok (.if_icmp .le off, 3)) (ht : (pc : Int) + off = (tgt : Int)) (kt : x ≤ y → xK z w cs ss tgt lv rest) (kf : ¬ x ≤ y → xK z w cs ss (pc + 3) lv rest) : xK z w cs ss pc lv (.int y :: .int x :: rest) := by
  obtain ⟨p, l, e, R, s, m, args, below, meth, c, A, H0, D, tys, nL, Q⟩ := z
  obtain ⟨hx, hb, hml, hown, hts, hN, hK, hA, hn0⟩ := C
  exact fun H locs ls hP hD hS hl0 => lv_icmp_le hx hb hdg ht (fun h9 => kt h9 H locs ls hP hD hS hl0) (fun h9 => kf h9 H locs ls hP hD hS hl0)
theorem k_ldc (C : xC z cc own nl) {index : Nat} {v : Int32} (hconst : Cond.constant own index v ∈ xa_W) (hdg : decode cc pc = .ok (.ldc index, 2)) (kk : xK z w cs ss (pc + 2) lv (.int v :: rest)) : xK z w cs ss pc lv rest := by
  obtain ⟨p, l, e, R, s, m, args, below, meth, c, A, H0, D, tys, nL, Q⟩ := z
  obtain ⟨hx, hb, hml, hown, hts, hN, hK, hA, hn0⟩ := C
  exact fun H locs ls hP hD hS hl0 => lv_ldc hx hb hown (hts _ hconst) hdg (kk H locs ls hP hD hS hl0)
theorem k_ldc2 (C : xC z cc own nl) {index : Nat} {v : Int64} (hconst : Cond.constantLong own index v ∈ xa_W) (hdg : decode cc pc = .ok (.ldc2_w index, 3)) (kk : xK z w cs ss (pc + 3) lv (.long v :: rest)) : xK z w cs ss pc lv rest := by
  obtain ⟨p, l, e, R, s, m, args, below, meth, c, A, H0, D, tys, nL, Q⟩ := z
  obtain ⟨hx, hb, hml, hown, hts, hN, hK, hA, hn0⟩ := C
  exact fun H locs ls hP hD hS hl0 => lv_ldc2 hx hb hown (hts _ hconst) hdg (kk H locs ls hP hD hS hl0)
theorem k_lcmp (C : xC z cc own nl) {x y : Int64} (hdg : decode cc pc = .ok (.lcmp, 1)) (kk : xK z w cs ss (pc + 1) lv (.int (lg_cmp x y) :: rest)) : xK z w cs ss pc lv (.long y :: .long x :: rest) := by
  obtain ⟨p, l, e, R, s, m, args, below, meth, c, A, H0, D, tys, nL, Q⟩ := z
  obtain ⟨hx, hb, hml, hown, hts, hN, hK, hA, hn0⟩ := C
  exact fun H locs ls hP hD hS hl0 => W.lcmp hx hb hdg (kk H locs ls hP hD hS hl0)
theorem k_topi {x : Int32} (kk : ∀ y : Int32, y = x → xK z w cs ss pc lv (.int y :: rest)) : xK z w cs ss pc lv (.int x :: rest) := kk x rfl
theorem k_topl {x : Int64} (kk : ∀ y : Int64, y = x → xK z w cs ss pc lv (.long y :: rest)) : xK z w cs ss pc lv (.long x :: rest) := kk x rfl
theorem k_eqi {x y : Int32} (h : x = y) (kk : xK z w cs ss pc lv (.int y :: rest)) : xK z w cs ss pc lv (.int x :: rest) := h ▸ kk
theorem k_eql {x y : Int64} (h : x = y) (kk : xK z w cs ss pc lv (.long y :: rest)) : xK z w cs ss pc lv (.long x :: rest) := h ▸ kk
theorem k_sub {lv' : List (Nat × Value)} (ks : List Nat) (h : lv_pick lv ks = lv') (kk : xK z w cs ss pc lv' rest) : xK z w cs ss pc lv rest := by
  obtain ⟨p, l, e, R, s, m, args, below, meth, c, A, H0, D, tys, nL, Q⟩ := z
  exact fun H locs ls hP hD hS hl0 => kk H locs ls hP hD hS (lv_sub hl0 ks h)
theorem k_w {w' : va_W} (h : w = w') (kk : xK z w' cs ss pc lv rest) : xK z w cs ss pc lv rest := h ▸ kk
theorem k_widen {cs' ss' : Nat} (h1 : cs ≤ cs') (h2 : ss ≤ ss') (kk : xK z w cs' ss' pc lv rest) : xK z w cs ss pc lv rest := by
  obtain ⟨p, l, e, R, s, m, args, below, meth, c, A, H0, D, tys, nL, Q⟩ := z
  exact fun H locs ls hP hD hS hl0 => W.widen h1 h2 (kk H locs ls hP hD hS hl0)
end XR
