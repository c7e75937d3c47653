theorem aw_int : Cond.arrayClass .int ∈ xa_W := xa_t 46 (by decide +kernel) (by decide +kernel)
theorem aw_long : Cond.arrayClass .long ∈ xa_W := xa_t 221 (by decide +kernel) (by decide +kernel)
theorem ao_i : Cond.instanceMethod Lib.objectInit ∈ xa_W := xa_t 24 (by decide +kernel) (by decide +kernel)
theorem ao_c : Cond.code Lib.objectInit ⟨#[0xb1]⟩ 1 none ∈ xa_W := xa_t 25 (by decide +kernel) (by decide +kernel)
theorem an_X0 : Cond.instantiable RX0 5 ∈ xa_W := xa_t 123 (by decide +kernel) (by decide +kernel)
theorem ao_X0 : Cond.methodLink RX0 1 Lib.objectInit ∈ xa_W := xa_t 127 (by decide +kernel) (by decide +kernel)
theorem an_X1 : Cond.instantiable RX1 8 ∈ xa_W := xa_t 79 (by decide +kernel) (by decide +kernel)
theorem ao_X1 : Cond.methodLink RX1 3 Lib.objectInit ∈ xa_W := xa_t 83 (by decide +kernel) (by decide +kernel)
theorem an_X2 : Cond.instantiable RX2 2 ∈ xa_W := xa_t 27 (by decide +kernel) (by decide +kernel)
theorem ao_X2 : Cond.methodLink RX2 3 Lib.objectInit ∈ xa_W := xa_t 31 (by decide +kernel) (by decide +kernel)
theorem an_X3 : Cond.instantiable RX3 4 ∈ xa_W := xa_t 47 (by decide +kernel) (by decide +kernel)
theorem ao_X3 : Cond.methodLink RX3 3 Lib.objectInit ∈ xa_W := xa_t 51 (by decide +kernel) (by decide +kernel)
theorem an_X4 : Cond.instantiable RX4 7 ∈ xa_W := xa_t 151 (by decide +kernel) (by decide +kernel)
theorem ao_X4 : Cond.methodLink RX4 3 Lib.objectInit ∈ xa_W := xa_t 155 (by decide +kernel) (by decide +kernel)
theorem an_X5 : Cond.instantiable RX5 1 ∈ xa_W := xa_t 36 (by decide +kernel) (by decide +kernel)
theorem ao_X5 : Cond.methodLink RX5 1 Lib.objectInit ∈ xa_W := xa_t 40 (by decide +kernel) (by decide +kernel)
theorem an_X6 : Cond.instantiable RX6 13 ∈ xa_W := xa_t 19 (by decide +kernel) (by decide +kernel)
theorem ao_X6 : Cond.methodLink RX6 1 Lib.objectInit ∈ xa_W := xa_t 23 (by decide +kernel) (by decide +kernel)
theorem an_X7 : Cond.instantiable RX7 20 ∈ xa_W := xa_t 735 (by decide +kernel) (by decide +kernel)
theorem ao_X7 : Cond.methodLink RX7 1 Lib.objectInit ∈ xa_W := xa_t 739 (by decide +kernel) (by decide +kernel)
theorem al_X0_16 : Cond.classLink RX0 16 RX5 ∈ xa_W := xa_t 128 (by decide +kernel) (by decide +kernel)
theorem al_X1_9 : Cond.classLink RX1 9 RX5 ∈ xa_W := xa_t 84 (by decide +kernel) (by decide +kernel)
theorem al_X2_9 : Cond.classLink RX2 9 RX5 ∈ xa_W := xa_t 32 (by decide +kernel) (by decide +kernel)
theorem al_X2_17 : Cond.classLink RX2 17 RX3 ∈ xa_W := xa_t 34 (by decide +kernel) (by decide +kernel)
theorem al_X3_9 : Cond.classLink RX3 9 RX5 ∈ xa_W := xa_t 52 (by decide +kernel) (by decide +kernel)
theorem al_X6_7 : Cond.classLink RX6 7 RX2 ∈ xa_W := xa_t 26 (by decide +kernel) (by decide +kernel)
theorem al_X6_19 : Cond.classLink RX6 19 RX1 ∈ xa_W := xa_t 78 (by decide +kernel) (by decide +kernel)
theorem al_X6_26 : Cond.classLink RX6 26 RX0 ∈ xa_W := xa_t 122 (by decide +kernel) (by decide +kernel)
theorem al_X6_33 : Cond.classLink RX6 33 RX4 ∈ xa_W := xa_t 150 (by decide +kernel) (by decide +kernel)
theorem al_X6_47 : Cond.classLink RX6 47 ("[" ++ (FieldType.array .int).toString) ∈ xa_W := xa_t 179 (by decide +kernel) (by decide +kernel)
theorem al_X6_124 : Cond.classLink RX6 124 "java/lang/ArithmeticException" ∈ xa_W := xa_t 686 (by decide +kernel) (by decide +kernel)
theorem al_X6_191 : Cond.classLink RX6 191 "java/lang/ArrayIndexOutOfBoundsException" ∈ xa_W := xa_t 723 (by decide +kernel) (by decide +kernel)
theorem al_L_8 : Cond.classLink RL 8 RX6 ∈ xa_W := xa_t 18 (by decide +kernel) (by decide +kernel)
theorem al_L_13 : Cond.classLink RL 13 "java/lang/ArithmeticException" ∈ xa_W := xa_t 612 (by decide +kernel) (by decide +kernel)
theorem al_L_23 : Cond.classLink RL 23 "java/lang/ArrayIndexOutOfBoundsException" ∈ xa_W := xa_t 700 (by decide +kernel) (by decide +kernel)
theorem al_L_30 : Cond.classLink RL 30 RX7 ∈ xa_W := xa_t 734 (by decide +kernel) (by decide +kernel)
theorem dg_0 : dg 0 = fun _ => 0 := by
  funext i
  unfold dg
  by_cases h : i < 24
  · rw [if_pos h, Nat.zero_div]; rfl
  · rw [if_neg h]
theorem mw_0 : mw (fun _ => 0) = fun _ => 0 := by
  funext i
  unfold mw
  by_cases h : i < 960
  · rw [if_pos h, Nat.zero_div]; rfl
  · rw [if_neg h]
def pX5 (ca : Nat → ClassId) (b : Nat → Nat) : va_W := [(b 0, .inr (7, [.ref (b 1)])), (b 1, .inl (ca 0, 24, .inl (dg 0)))]
def pX3 (ca : Nat → ClassId) (b : Nat → Nat) : va_W := [(b 0, .inr (5, [.ref (b 1), .ref (b 6), .int 0, .int 1])), (b 1, .inl (ca 2, 2, xRf fun k => b (2 + 2 * k))), (b 2, .inr (7, [.ref (b 3)])), (b 3, .inl (ca 0, 24, .inl (dg 0))), (b 4, .inr (7, [.ref (b 5)])), (b 5, .inl (ca 0, 24, .inl (dg 0))), (b 6, .inr (7, [.ref (b 7)])), (b 7, .inl (ca 0, 24, .inl (dg 0)))]
def pX1 (ca : Nat → ClassId) (b : Nat → Nat) : va_W := [(b 0, .inr (3, [.ref (b 1), .ref (b 3), .ref (b 5), .ref (b 7), .ref (b 9), .ref (b 11), .ref (b 13), .ref (b 15)])), (b 1, .inr (7, [.ref (b 2)])), (b 2, .inl (ca 0, 24, .inl (dg 0))), (b 3, .inr (7, [.ref (b 4)])), (b 4, .inl (ca 0, 24, .inl (dg 0))), (b 5, .inr (7, [.ref (b 6)])), (b 6, .inl (ca 0, 24, .inl (dg 0))), (b 7, .inr (7, [.ref (b 8)])), (b 8, .inl (ca 0, 24, .inl (dg 0))), (b 9, .inr (7, [.ref (b 10)])), (b 10, .inl (ca 0, 24, .inl (dg 0))), (b 11, .inr (7, [.ref (b 12)])), (b 12, .inl (ca 0, 24, .inl (dg 0))), (b 13, .inr (7, [.ref (b 14)])), (b 14, .inl (ca 0, 24, .inl (dg 0))), (b 15, .inr (7, [.ref (b 16)])), (b 16, .inl (ca 0, 24, .inl (dg 0)))]
def pX0 (ca : Nat → ClassId) (b : Nat → Nat) : va_W := [(b 0, .inr (2, [.ref (b 1), .ref (b 2), .ref (b 3), .int 1, .int 0])), (b 1, .inl (ca 0, 80, .inl (fun _ => 0))), (b 2, .inl (ca 0, 120, .inl (fun _ => 0))), (b 3, .inr (7, [.ref (b 4)])), (b 4, .inl (ca 0, 24, .inl (dg 0)))]
def pX4 (ca : Nat → ClassId) (b : Nat → Nat) : va_W := [(b 0, .inr (6, [.ref (b 1), .int 0, .int 0, .int 0, .int 0, .int 0, .int 0])), (b 1, .inl (ca 0, 120, .inl (fun _ => 0)))]
