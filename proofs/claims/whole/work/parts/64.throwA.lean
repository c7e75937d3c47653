section TA
variable {l : Launch} {D : va_G} {ca : Nat → ClassId} {ad : Nat → Nat} {V U : Nat → Nat} {sc : Nat → Int32} {ia : Nat → Nat → Int32} {la : Nat → Nat → Int64}
theorem thA_k : Cond.classLink RX6 124 "java/lang/ArithmeticException" ∈ xa_W := by decide +kernel
theorem thA_i : Cond.initialized "java/lang/ArithmeticException" ∈ xa_W := by decide +kernel
theorem thA_a : ∀ w ∈ (vx_atS RX6 128 "java/lang/ArithmeticException" ["java/lang/RuntimeException", "java/lang/Exception"]).filter goodWord, w ∈ xa_W := by decide +kernel
theorem thA_b : ∀ w ∈ (vx_atS RX6 128 "java/lang/ArithmeticException" ["java/lang/RuntimeException", "java/lang/Exception"]).filter (fun w => !goodWord w), w ∈ xa_X := by decide +kernel
theorem thA_g : ∀ w ∈ Cond.classLink RX6 124 "java/lang/ArithmeticException" :: Cond.initialized "java/lang/ArithmeticException" :: vx_atS RX6 128 "java/lang/ArithmeticException" ["java/lang/RuntimeException", "java/lang/Exception"], vx_ot w = true := by decide +kernel
theorem thA_c : Cond.castable "java/lang/ArithmeticException" "java/lang/ArithmeticException" ∈ xa_X := by decide +kernel
theorem thX_k : Cond.classLink RX6 191 "java/lang/ArrayIndexOutOfBoundsException" ∈ xa_W := by decide +kernel
theorem thX_i : Cond.initialized "java/lang/ArrayIndexOutOfBoundsException" ∈ xa_W := by decide +kernel
theorem thX_a : ∀ w ∈ (vx_atS RX6 195 "java/lang/ArrayIndexOutOfBoundsException" ["java/lang/IndexOutOfBoundsException", "java/lang/RuntimeException", "java/lang/Exception"]).filter goodWord, w ∈ xa_W := by decide +kernel
theorem thX_b : ∀ w ∈ (vx_atS RX6 195 "java/lang/ArrayIndexOutOfBoundsException" ["java/lang/IndexOutOfBoundsException", "java/lang/RuntimeException", "java/lang/Exception"]).filter (fun w => !goodWord w), w ∈ xa_X := by decide +kernel
theorem thX_g : ∀ w ∈ Cond.classLink RX6 191 "java/lang/ArrayIndexOutOfBoundsException" :: Cond.initialized "java/lang/ArrayIndexOutOfBoundsException" :: vx_atS RX6 195 "java/lang/ArrayIndexOutOfBoundsException" ["java/lang/IndexOutOfBoundsException", "java/lang/RuntimeException", "java/lang/Exception"], vx_ot w = true := by decide +kernel
theorem thX_c : Cond.castable "java/lang/ArrayIndexOutOfBoundsException" "java/lang/ArrayIndexOutOfBoundsException" ∈ xa_X := by decide +kernel
theorem thL_A : Cond.classLink RL 13 "java/lang/ArithmeticException" ∈ xa_W := by decide +kernel
theorem thL_X : Cond.classLink RL 23 "java/lang/ArrayIndexOutOfBoundsException" ∈ xa_W := by decide +kernel
theorem thL_times : Cond.codeWith yL_times cL_times 10 (some .int) [(0, 16, 19, 13)] ∈ xa_W := by decide +kernel
theorem thL_divide : Cond.codeWith yL_divide cL_divide 6 (some .int) [(0, 12, 15, 13)] ∈ xa_W := by decide +kernel
theorem thL_figure : Cond.codeWith yL_figure cL_figure 5 (some .int) [(0, 10, 13, 23)] ∈ xa_W := by decide +kernel
theorem thL_out : Cond.codeWith yL_out cL_out 4 (some .int) [(0, 9, 12, 23)] ∈ xa_W := by decide +kernel
theorem thM_times : Cond.methodLink RL 7 yX6_times ∈ xa_W := by decide +kernel
theorem thN_times : Cond.instanceMethod yX6_times ∈ xa_W ∧ Cond.selects yX6_times.cls yX6_times yX6_times ∈ xa_W ∧ Cond.initialized yX6_times.cls ∈ xa_W ∧ Cond.code yX6_times cX6_times 9 (some .int) ∈ xa_W := by decide +kernel
theorem thM_divide : Cond.methodLink RL 15 yX6_divide ∈ xa_W := by decide +kernel
theorem thN_divide : Cond.instanceMethod yX6_divide ∈ xa_W ∧ Cond.selects yX6_divide.cls yX6_divide yX6_divide ∈ xa_W ∧ Cond.initialized yX6_divide.cls ∈ xa_W ∧ Cond.code yX6_divide cX6_divide 5 (some .int) ∈ xa_W := by decide +kernel
theorem thM_figure : Cond.methodLink RL 19 yX6_figure ∈ xa_W := by decide +kernel
theorem thN_figure : Cond.instanceMethod yX6_figure ∈ xa_W ∧ Cond.selects yX6_figure.cls yX6_figure yX6_figure ∈ xa_W ∧ Cond.initialized yX6_figure.cls ∈ xa_W ∧ Cond.code yX6_figure cX6_figure 3 (some .int) ∈ xa_W := by decide +kernel
theorem thM_out : Cond.methodLink RL 25 yX6_out ∈ xa_W := by decide +kernel
theorem thN_out : Cond.instanceMethod yX6_out ∈ xa_W ∧ Cond.selects yX6_out.cls yX6_out yX6_out ∈ xa_W ∧ Cond.initialized yX6_out.cls ∈ xa_W ∧ Cond.code yX6_out cX6_out 2 (some .int) ∈ xa_W := by decide +kernel
theorem thD_times : yX6_times.cls ≠ "java/lang/invoke/MethodHandle" ∧ yX6_times.cls ≠ "java/lang/invoke/VarHandle" ∧ (parseMethodDescriptor yX6_times.desc).map (fun d => d.parameters.length) = some 5 := by decide +kernel
theorem thD_divide : yX6_divide.cls ≠ "java/lang/invoke/MethodHandle" ∧ yX6_divide.cls ≠ "java/lang/invoke/VarHandle" ∧ (parseMethodDescriptor yX6_divide.desc).map (fun d => d.parameters.length) = some 3 := by decide +kernel
theorem thD_figure : yX6_figure.cls ≠ "java/lang/invoke/MethodHandle" ∧ yX6_figure.cls ≠ "java/lang/invoke/VarHandle" ∧ (parseMethodDescriptor yX6_figure.desc).map (fun d => d.parameters.length) = some 2 := by decide +kernel
theorem thD_out : yX6_out.cls ≠ "java/lang/invoke/MethodHandle" ∧ yX6_out.cls ≠ "java/lang/invoke/VarHandle" ∧ (parseMethodDescriptor yX6_out.desc).map (fun d => d.parameters.length) = some 1 := by decide +kernel
theorem thE_times : yL_times.cls ≠ "java/lang/invoke/MethodHandle" ∧ yL_times.cls ≠ "java/lang/invoke/VarHandle" ∧ (parseMethodDescriptor yL_times.desc).map (fun d => d.parameters.length) = some 7 := by decide +kernel
theorem thE_divide : yL_divide.cls ≠ "java/lang/invoke/MethodHandle" ∧ yL_divide.cls ≠ "java/lang/invoke/VarHandle" ∧ (parseMethodDescriptor yL_divide.desc).map (fun d => d.parameters.length) = some 5 := by decide +kernel
theorem thE_figure : yL_figure.cls ≠ "java/lang/invoke/MethodHandle" ∧ yL_figure.cls ≠ "java/lang/invoke/VarHandle" ∧ (parseMethodDescriptor yL_figure.desc).map (fun d => d.parameters.length) = some 4 := by decide +kernel
theorem thE_out : yL_out.cls ≠ "java/lang/invoke/MethodHandle" ∧ yL_out.cls ≠ "java/lang/invoke/VarHandle" ∧ (parseMethodDescriptor yL_out.desc).map (fun d => d.parameters.length) = some 3 := by decide +kernel
theorem thL_I : Cond.initialized RL ∈ xa_W := by decide +kernel
set_option maxHeartbeats 4000000 in
set_option maxRecDepth 100000 in
theorem t6_times {T : Nat → Nat} (hT : RC V T) (hB : TB T) {N0 : Nat} {sa : Nat → Nat} (hl : l.stackTraces = false) (hN0 : ∀ i, i < 187 → N0 ≤ ad i) {x0 y0 w0 : Int32} {a0 b0 : Int64} : xTM l D (xty ca) yX6_times cX6_times 9 7 550 [.ref (ad 0), .int x0, .int y0, .long a0, .long b0, .int w0] ad (cm ad ca (V, U, sc, ia, la)) N0 sa (fun r M' => ¬ (sTimes T x0 y0 a0 b0 w0).1 = -5 ∧ ∃ V', M' = cm ad ca (V', U, sc, ia, la) ∧ r = (sTimes T x0 y0 a0 b0 w0).1 ∧ RC V' (sTimes T x0 y0 a0 b0 w0).2) "java/lang/ArithmeticException" (fun M' => (sTimes T x0 y0 a0 b0 w0).1 = -5 ∧ ∃ V', M' = cm ad ca (V', U, sc, ia, la) ∧ RC V' (sTimes T x0 y0 a0 b0 w0).2) := by
  refine xTM.of hl hN0 (by decide) (Nat.le_of_ble_eq_true rfl) (fun z C F Y T9 => ?_)
  refine k_aload_n (pc := 0) C dX6_times_0 rfl 0 rfl ?_
  refine k_iload_n (pc := 1) C dX6_times_1 rfl 1 rfl ?_
  refine k_iload_n (pc := 2) C dX6_times_2 rfl 2 rfl ?_
  refine k_lload_n (pc := 3) C dX6_times_3 rfl 3 rfl ?_
  refine k_lload (pc := 4) C dX6_times_4 4 rfl ?_
  refine k_iload (pc := 6) C dX6_times_6 5 rfl ?_
  refine cvF_X6_120 (pc := 8) C F ⟨Nat.zero_le _, Nat.zero_le _⟩ (c6_times hT hB) rfl (by decide) cm_0 (by decide) rfl (Nat.le_of_ble_eq_true rfl) dX6_times_8 (fun r8 M8 h8 => ?_)
  obtain ⟨V1, rfl, h1, h2, -⟩ := h8
  refine k_istore (pc := 11) (lv' := [(8, .int (r8)), (0, .ref (ad (0))), (1, .int (x0)), (2, .int (y0)), (3, .long (a0)), (5, .long (b0)), (7, .int (w0))]) C dX6_times_11 (by decide) rfl ?_
  refine k_iload (pc := 13) C dX6_times_13 0 rfl ?_
  refine k_bipush (pc := 15) (v := (-5)) C dX6_times_15 (by decide) ?_
  refine k_icmp_ne (pc := 17) (tgt := 30) C dX6_times_17 (by decide) (fun c17 => ?_) (fun c17 => ?_)
  · rw [h1] at c17
    refine k_iload (pc := 30) C dX6_times_30 0 rfl ?_
    exact k_iretT (pc := 32) C T9 (⟨c17, V1, rfl, h1, h2⟩) dX6_times_32
  · rw [h1] at c17
    exact k_throwS (text := "below is 0") (names := ["java/lang/RuntimeException", "java/lang/Exception"]) (k := 0) (pc := 20) C F Y T9 (⟨c17, V1, rfl, h2⟩) (fun U h => h.2.1) (by decide +kernel) (by decide +kernel) thA_k thA_i thA_a thA_b thA_g dX6_times_20 dX6_times_23 dX6_times_24 dX6_times_26 dX6_times_29 (by decide) (by decide) (by decide) (by decide)
set_option maxHeartbeats 4000000 in
set_option maxRecDepth 100000 in
theorem t6_divide {T : Nat → Nat} (hT : RC V T) (hB : TB T) {N0 : Nat} {sa : Nat → Nat} (hl : l.stackTraces = false) (hN0 : ∀ i, i < 187 → N0 ≤ ad i) {x0 y0 t0 : Int32} : xTM l D (xty ca) yX6_divide cX6_divide 5 7 550 [.ref (ad 0), .int x0, .int y0, .int t0] ad (cm ad ca (V, U, sc, ia, la)) N0 sa (fun r M' => ¬ (sDiv T x0 y0 t0).1 = -5 ∧ ∃ V', M' = cm ad ca (V', U, sc, ia, la) ∧ r = (sDiv T x0 y0 t0).1 ∧ RC V' (sDiv T x0 y0 t0).2) "java/lang/ArithmeticException" (fun M' => (sDiv T x0 y0 t0).1 = -5 ∧ ∃ V', M' = cm ad ca (V', U, sc, ia, la) ∧ RC V' (sDiv T x0 y0 t0).2) := by
  refine xTM.of hl hN0 (by decide) (Nat.le_of_ble_eq_true rfl) (fun z C F Y T9 => ?_)
  refine k_aload_n (pc := 0) C dX6_divide_0 rfl 0 rfl ?_
  refine k_iload_n (pc := 1) C dX6_divide_1 rfl 1 rfl ?_
  refine k_iload_n (pc := 2) C dX6_divide_2 rfl 2 rfl ?_
  refine k_iload_n (pc := 3) C dX6_divide_3 rfl 3 rfl ?_
  refine cvF_X6_157 (pc := 4) C F ⟨Nat.zero_le _, Nat.zero_le _⟩ (c6_divide hT hB) rfl (by decide) cm_0 (by decide) rfl (Nat.le_of_ble_eq_true rfl) dX6_divide_4 (fun r4 M4 h4 => ?_)
  obtain ⟨V1, rfl, h1, h2, -⟩ := h4
  refine k_istore (pc := 7) (lv' := [(4, .int (r4)), (0, .ref (ad (0))), (1, .int (x0)), (2, .int (y0)), (3, .int (t0))]) C dX6_divide_7 (by decide) rfl ?_
  refine k_iload (pc := 9) C dX6_divide_9 0 rfl ?_
  refine k_bipush (pc := 11) (v := (-5)) C dX6_divide_11 (by decide) ?_
  refine k_icmp_ne (pc := 13) (tgt := 26) C dX6_divide_13 (by decide) (fun c13 => ?_) (fun c13 => ?_)
  · rw [h1] at c13
    refine k_iload (pc := 26) C dX6_divide_26 0 rfl ?_
    exact k_iretT (pc := 28) C T9 (⟨c13, V1, rfl, h1, h2⟩) dX6_divide_28
  · rw [h1] at c13
    exact k_throwS (text := "the SUM of b is 0") (names := ["java/lang/RuntimeException", "java/lang/Exception"]) (k := 1) (pc := 16) C F Y T9 (⟨c13, V1, rfl, h2⟩) (fun U h => h.2.2.1) (by decide +kernel) (by decide +kernel) thA_k thA_i thA_a thA_b thA_g dX6_divide_16 dX6_divide_19 dX6_divide_20 dX6_divide_22 dX6_divide_25 (by decide) (by decide) (by decide) (by decide)
set_option maxHeartbeats 4000000 in
set_option maxRecDepth 100000 in
theorem t6_figure {T : Nat → Nat} (hT : RC V T) (hB : TB T) {N0 : Nat} {sa : Nat → Nat} (hl : l.stackTraces = false) (hN0 : ∀ i, i < 187 → N0 ≤ ad i) {x0 i0 : Int32} : xTM l D (xty ca) yX6_figure cX6_figure 3 7 550 [.ref (ad 0), .int x0, .int i0] ad (cm ad ca (V, U, sc, ia, la)) N0 sa (fun r M' => ∃ V' sc' ia', M' = cm ad ca (V', U, sc', ia', la) ∧ RC V' T ∧ (∀ k, k ≠ 10 → sc' k = sc k) ∧ (∀ k, k ≠ 153 → ia' k = ia k) ∧ (if inR x0 16 then ∃ c, isND (T (rI x0)) c ∧ inR i0 c ∧ r = nI (T (rI x0) / 10 ^ rI i0 % 10) else r = -1)) "java/lang/ArrayIndexOutOfBoundsException" (fun M' => ∃ V' sc' ia', M' = cm ad ca (V', U, sc', ia', la) ∧ RC V' T ∧ (∀ k, k ≠ 10 → sc' k = sc k) ∧ (∀ k, k ≠ 153 → ia' k = ia k) ∧ inR x0 16 ∧ ∃ c, isND (T (rI x0)) c ∧ ¬ inR i0 c) := by
  refine xTM.of hl hN0 (by decide) (Nat.le_of_ble_eq_true rfl) (fun z C F Y T9 => ?_)
  refine k_iload_n (pc := 0) C dX6_figure_0 rfl 1 rfl ?_
  refine csF_X6_68 (pc := 1) C F ⟨Nat.zero_le _, Nat.zero_le _⟩ (c6_isRegister) rfl (by decide) rfl (Nat.le_of_ble_eq_true rfl) dX6_figure_1 (fun r1 M1 h1 => ?_)
  obtain ⟨rfl, rfl⟩ := h1
  refine k_if_ne (pc := 4) (tgt := 9) C dX6_figure_4 (by decide) (fun c4 => ?_) (fun c4 => ?_)
  · simp only [b01, Decidable.not_not] at c4
    obtain ⟨x, hx, rfl⟩ := inR_k c4
    have hTx := hT.r hx
    have bx1 := hB.1 x hx
    refine k_aload_n (pc := 9) C dX6_figure_9 rfl 0 rfl ?_
    refine gf_X6_29 (pc := 10) C (0) (by decide) cm_0 rfl dX6_figure_10 ?_
    refine k_aload_n (pc := 13) C dX6_figure_13 rfl 0 rfl ?_
    refine gf_X6_10 (pc := 14) C (0) (by decide) cm_0 rfl dX6_figure_14 ?_
    refine gf_X6_72 (pc := 17) C (1) (by decide) cm_1 rfl dX6_figure_17 ?_
    refine k_iload_n (pc := 20) C dX6_figure_20 rfl 1 rfl ?_
    refine k_aaldF (pc := 21) C F (2) (by decide) 2 rfl rfl cm_2 (x) rfl (by omega) (by decide) (4 + 2 * x) rfl dX6_figure_21 ?_
    refine cvF_X6_185 (pc := 22) C F ⟨Nat.zero_le _, Nat.zero_le _⟩ (c0_spell (wR hx) (by omega) (by rw [hTx]; exact bx1)) rfl (by decide) cm_152 (by decide) rfl (Nat.le_of_ble_eq_true rfl) dX6_figure_22 (fun M22 h22 => ?_)
    obtain ⟨c, W, f, rfl, hc, hf, hw⟩ := h22
    rw [hTx] at hc hf
    have hc78 := isND_le bx1 hc
    have hfr : ∃ V' sc' ia', cm ad ca (W, U, va_up sc 10 (nI c), va_up ia 153 f, la) = cm ad ca (V', U, sc', ia', la) ∧ True := ⟨_, _, _, rfl, trivial⟩
    refine k_iload_n (pc := 25) C dX6_figure_25 rfl 2 rfl ?_
    refine k_if_lt (pc := 26) (tgt := 40) C dX6_figure_26 (by decide) (fun c26 => ?_) (fun c26 => ?_)
    · rw [Int32.lt_iff_toInt_lt, show (0 : Int32).toInt = 0 from rfl] at c26
      exact k_throwS (text := "no such figure") (names := ["java/lang/IndexOutOfBoundsException", "java/lang/RuntimeException", "java/lang/Exception"]) (k := 2) (pc := 40) C F Y T9 (⟨W, _, _, rfl, hT.o (fun k hk => hw k (by omega)), fun k hk => upIn hk, fun k hk => upIn hk, c4, c, by rw [rI_n (show x < 2147483648 by omega)]; exact hc, fun q => by have := q.1; have := q.2; omega⟩) (fun U h => h.2.2.2.1) (by decide +kernel) (by decide +kernel) thX_k thX_i thX_a thX_b thX_g dX6_figure_40 dX6_figure_43 dX6_figure_44 dX6_figure_46 dX6_figure_49 (by decide) (by decide) (by decide) (by decide)
    · rw [Int32.lt_iff_toInt_lt, show (0 : Int32).toInt = 0 from rfl] at c26
      refine k_iload_n (pc := 29) C dX6_figure_29 rfl 2 rfl ?_
      refine k_aload_n (pc := 30) C dX6_figure_30 rfl 0 rfl ?_
      refine gf_X6_29 (pc := 31) C (0) (by decide) cm_0 rfl dX6_figure_31 ?_
      refine gf_X6_188 (pc := 34) C (152) (by decide) cm_152 rfl dX6_figure_34 ?_
      refine k_eqi (y := nI c) (upIs) ?_
      refine k_icmp_lt (pc := 37) (tgt := 50) C dX6_figure_37 (by decide) (fun c37 => ?_) (fun c37 => ?_)
      · rw [Int32.lt_iff_toInt_lt, nI_toInt (by omega)] at c37
        have c6 : inR i0 c := ⟨by omega, c37⟩
        obtain ⟨i, hi, rfl⟩ := inR_k c6
        refine k_aload_n (pc := 50) C dX6_figure_50 rfl 0 rfl ?_
        refine gf_X6_29 (pc := 51) C (0) (by decide) cm_0 rfl dX6_figure_51 ?_
        refine gf_X6_196 (pc := 54) C (152) (by decide) cm_152 rfl dX6_figure_54 ?_
        refine k_iload_n (pc := 57) C dX6_figure_57 rfl 2 rfl ?_
        refine k_ialdF (pc := 58) C F (153) (by decide) cm_153 (i) rfl (by omega) (by decide) dX6_figure_58 ?_
        exact k_iretT (pc := 59) C T9 (⟨W, _, _, rfl, hT.o (fun k hk => hw k (by omega)), fun k hk => upIn hk, fun k hk => upIn hk, by rw [if_pos c4, rI_n (show x < 2147483648 by omega), rI_n (show i < 2147483648 by omega)]; exact ⟨c, hc, c6, by rw [upIs]; exact hf i (by omega)⟩⟩) dX6_figure_59
      · rw [Int32.lt_iff_toInt_lt, nI_toInt (by omega)] at c37
        exact k_throwS (text := "no such figure") (names := ["java/lang/IndexOutOfBoundsException", "java/lang/RuntimeException", "java/lang/Exception"]) (k := 2) (pc := 40) C F Y T9 (⟨W, _, _, rfl, hT.o (fun k hk => hw k (by omega)), fun k hk => upIn hk, fun k hk => upIn hk, c4, c, by rw [rI_n (show x < 2147483648 by omega)]; exact hc, fun q => by have := q.1; have := q.2; omega⟩) (fun U h => h.2.2.2.1) (by decide +kernel) (by decide +kernel) thX_k thX_i thX_a thX_b thX_g dX6_figure_40 dX6_figure_43 dX6_figure_44 dX6_figure_46 dX6_figure_49 (by decide) (by decide) (by decide) (by decide)
  · simp only [b01, Decidable.not_not] at c4
    refine k_iconst (pc := 7) (v := (-1)) C dX6_figure_7 (by decide) ?_
    exact k_iretT (pc := 8) C T9 (⟨V, sc, ia, rfl, hT, fun _ _ => rfl, fun _ _ => rfl, by rw [if_neg c4]⟩) dX6_figure_8
set_option maxHeartbeats 4000000 in
set_option maxRecDepth 100000 in
theorem t6_out {N0 : Nat} {sa : Nat → Nat} (hl : l.stackTraces = false) (hN0 : ∀ i, i < 187 → N0 ≤ ad i) {n : Nat} (hn : sc 11 = nI n) (hn9 : n ≤ 120) {x0 : Int32} : xTM l D (xty ca) yX6_out cX6_out 2 7 550 [.ref (ad 0), .int x0] ad (cm ad ca (V, U, sc, ia, la)) N0 sa (fun r M' => inR x0 n ∧ M' = cm ad ca (V, U, sc, ia, la) ∧ r = ia 154 (rI x0)) "java/lang/ArrayIndexOutOfBoundsException" (fun M' => ¬ inR x0 n ∧ M' = cm ad ca (V, U, sc, ia, la)) := by
  refine xTM.of hl hN0 (by decide) (Nat.le_of_ble_eq_true rfl) (fun z C F Y T9 => ?_)
  refine k_iload_n (pc := 0) C dX6_out_0 rfl 1 rfl ?_
  refine k_if_lt (pc := 1) (tgt := 15) C dX6_out_1 (by decide) (fun c1 => ?_) (fun c1 => ?_)
  · rw [Int32.lt_iff_toInt_lt, show (0 : Int32).toInt = 0 from rfl] at c1
    exact k_throwS (text := "no such byte") (names := ["java/lang/IndexOutOfBoundsException", "java/lang/RuntimeException", "java/lang/Exception"]) (k := 3) (pc := 15) C F Y T9 (⟨fun q => by have := q.1; have := q.2; omega, rfl⟩) (fun U h => h.2.2.2.2.1) (by decide +kernel) (by decide +kernel) thX_k thX_i thX_a thX_b thX_g dX6_out_15 dX6_out_18 dX6_out_19 dX6_out_21 dX6_out_24 (by decide) (by decide) (by decide) (by decide)
  · rw [Int32.lt_iff_toInt_lt, show (0 : Int32).toInt = 0 from rfl] at c1
    refine k_iload_n (pc := 4) C dX6_out_4 rfl 1 rfl ?_
    refine k_aload_n (pc := 5) C dX6_out_5 rfl 0 rfl ?_
    refine gf_X6_29 (pc := 6) C (0) (by decide) cm_0 rfl dX6_out_6 ?_
    refine gf_X6_203 (pc := 9) C (152) (by decide) cm_152 rfl dX6_out_9 ?_
    refine k_eqi (y := nI n) (hn) ?_
    refine k_icmp_lt (pc := 12) (tgt := 25) C dX6_out_12 (by decide) (fun c12 => ?_) (fun c12 => ?_)
    · rw [Int32.lt_iff_toInt_lt, nI_toInt (by omega)] at c12
      have c6 : inR x0 n := ⟨by omega, c12⟩
      obtain ⟨x, hx, rfl⟩ := inR_k c6
      refine k_aload_n (pc := 25) C dX6_out_25 rfl 0 rfl ?_
      refine gf_X6_29 (pc := 26) C (0) (by decide) cm_0 rfl dX6_out_26 ?_
      refine gf_X6_208 (pc := 29) C (152) (by decide) cm_152 rfl dX6_out_29 ?_
      refine k_iload_n (pc := 32) C dX6_out_32 rfl 1 rfl ?_
      refine k_ialdF (pc := 33) C F (154) (by decide) cm_154 (x) rfl (by omega) (by decide) dX6_out_33 ?_
      exact k_iretT (pc := 34) C T9 (⟨c6, rfl, by rw [rI_n (show x < 2147483648 by omega)]⟩) dX6_out_34
    · rw [Int32.lt_iff_toInt_lt, nI_toInt (by omega)] at c12
      exact k_throwS (text := "no such byte") (names := ["java/lang/IndexOutOfBoundsException", "java/lang/RuntimeException", "java/lang/Exception"]) (k := 3) (pc := 15) C F Y T9 (⟨fun q => by have := q.1; have := q.2; omega, rfl⟩) (fun U h => h.2.2.2.2.1) (by decide +kernel) (by decide +kernel) thX_k thX_i thX_a thX_b thX_g dX6_out_15 dX6_out_18 dX6_out_19 dX6_out_21 dX6_out_24 (by decide) (by decide) (by decide) (by decide)
end TA
