section MJ
variable {l : Launch} {D : va_G} {ca : Nat → ClassId} {ad : Nat → Nat} {V U : Nat → Nat} {sc : Nat → Int32} {ia : Nat → Nat → Int32} {la : Nat → Nat → Int64}
set_option maxHeartbeats 4000000 in
set_option maxRecDepth 100000 in
/-- give -/
theorem c7_give {T : Nat → Nat} (hT : RM U T) (hB : TB T) {fp fq : Nat → Nat} (hF : FM ia fp fq) (hFB : FB fp fq) {x0 d0 a0 r0 : Int32} : xI l D (xty ca) yX7_give cX7_give 7 (some .int) 3 120 [.ref (ad 174), .int x0, .int d0, .int a0, .int r0] ad (cm ad ca (V, U, sc, ia, la)) (fun r M' => ∃ U', M' = cm ad ca (V, U', sc, ia, la) ∧ r = (sGive T fp fq x0 d0 a0 r0).1 ∧ RM U' (sGive T fp fq x0 d0 a0 r0).2 ∧ ∀ k, 36 ≤ k → U' k = U k) := by
  refine xM.of (by decide) (Nat.le_of_ble_eq_true rfl) (fun z C E => ?_)
  refine k_iload_n (pc := 0) C dX7_give_0 rfl 1 rfl ?_
  refine cs_X7_168 (pc := 1) C E (c7_isPool) rfl (by decide) rfl (Nat.le_of_ble_eq_true rfl) dX7_give_1 (fun r1 M1 h1 => ?_)
  obtain ⟨rfl, rfl⟩ := h1
  refine k_if_eq (pc := 4) (tgt := 32) C dX7_give_4 (by decide) (fun c4 => ?_) (fun c4 => ?_)
  · simp only [b01, Decidable.not_not] at c4
    refine k_iconst (pc := 32) (v := (-1)) C dX7_give_32 (by decide) ?_
    exact r_i (pc := 33) C E (⟨U, rfl, by unfold sGive; rw [if_neg (fun h => by first | exact c4 h.1 | exact c14 h.2.1 | exact c21 h.2.2.1 | exact c29 h.2.2.2)], by unfold sGive; rw [if_neg (fun h => by first | exact c4 h.1 | exact c14 h.2.1 | exact c21 h.2.2.1 | exact c29 h.2.2.2)]; exact hT, fun _ _ => rfl⟩) dX7_give_33
  · simp only [b01, Decidable.not_not] at c4
    refine k_iload_n (pc := 7) C dX7_give_7 rfl 2 rfl ?_
    refine k_i2l (pc := 8) C dX7_give_8 rfl ?_
    refine k_lconst (pc := 9) (v := lN 0) C dX7_give_9 (by decide) ?_
    refine k_lconst (pc := 10) (v := lN 1) C dX7_give_10 (by decide) ?_
    refine cs_X7_56 (pc := 11) C E (c7_in) rfl (by decide) rfl (Nat.le_of_ble_eq_true rfl) dX7_give_11 (fun r11 M11 h11 => ?_)
    obtain ⟨rfl, rfl⟩ := h11
    simp only [in_r (show 1 < 2147483648 by decide)]
    refine k_if_eq (pc := 14) (tgt := 32) C dX7_give_14 (by decide) (fun c14 => ?_) (fun c14 => ?_)
    · simp only [b01, Decidable.not_not] at c14
      refine k_iconst (pc := 32) (v := (-1)) C dX7_give_32 (by decide) ?_
      exact r_i (pc := 33) C E (⟨U, rfl, by unfold sGive; rw [if_neg (fun h => by first | exact c4 h.1 | exact c14 h.2.1 | exact c21 h.2.2.1 | exact c29 h.2.2.2)], by unfold sGive; rw [if_neg (fun h => by first | exact c4 h.1 | exact c14 h.2.1 | exact c21 h.2.2.1 | exact c29 h.2.2.2)]; exact hT, fun _ _ => rfl⟩) dX7_give_33
    · simp only [b01, Decidable.not_not] at c14
      refine k_iload_n (pc := 17) C dX7_give_17 rfl 3 rfl ?_
      refine cs_X7_85 (pc := 18) C E (c7_isRegister) rfl (by decide) rfl (Nat.le_of_ble_eq_true rfl) dX7_give_18 (fun r18 M18 h18 => ?_)
      obtain ⟨rfl, rfl⟩ := h18
      refine k_if_eq (pc := 21) (tgt := 32) C dX7_give_21 (by decide) (fun c21 => ?_) (fun c21 => ?_)
      · simp only [b01, Decidable.not_not] at c21
        refine k_iconst (pc := 32) (v := (-1)) C dX7_give_32 (by decide) ?_
        exact r_i (pc := 33) C E (⟨U, rfl, by unfold sGive; rw [if_neg (fun h => by first | exact c4 h.1 | exact c14 h.2.1 | exact c21 h.2.2.1 | exact c29 h.2.2.2)], by unfold sGive; rw [if_neg (fun h => by first | exact c4 h.1 | exact c14 h.2.1 | exact c21 h.2.2.1 | exact c29 h.2.2.2)]; exact hT, fun _ _ => rfl⟩) dX7_give_33
      · simp only [b01, Decidable.not_not] at c21
        refine k_iload (pc := 24) C dX7_give_24 4 rfl ?_
        refine cs_X7_85 (pc := 26) C E (c7_isRegister) rfl (by decide) rfl (Nat.le_of_ble_eq_true rfl) dX7_give_26 (fun r26 M26 h26 => ?_)
        obtain ⟨rfl, rfl⟩ := h26
        refine k_if_ne (pc := 29) (tgt := 34) C dX7_give_29 (by decide) (fun c29 => ?_) (fun c29 => ?_)
        · simp only [b01, Decidable.not_not] at c29
          have c6 : okG x0 d0 a0 r0 := ⟨c4, c14, c21, c29⟩
          obtain ⟨p, hp, rfl⟩ := inR_k c6.1
          obtain ⟨d, hd, rfl⟩ := inR_k c6.2.1
          obtain ⟨a, ha, rfl⟩ := inR_k c6.2.2.1
          obtain ⟨x, hx, rfl⟩ := inR_k c6.2.2.2
          have hTa := hT a (by omega)
          have ba1 := hB.1 a ha
          have t0 := hT (16 + 3 * p + d) (by omega)
          have t1 := hT (16 + 3 * p + (1 - d)) (by omega)
          have t2 := hT (16 + 3 * p + 2) (by omega)
          have k0 := hB.2.1 (16 + 3 * p + d) (by omega) (by omega)
          have k1 := hB.2.1 (16 + 3 * p + (1 - d)) (by omega) (by omega)
          have k2 := hB.2.1 (16 + 3 * p + 2) (by omega) (by omega)
          obtain ⟨fe1, fe2⟩ := hF p hp
          obtain ⟨g1, g2⟩ := hFB p hp
          obtain ⟨fP, hfP⟩ : ∃ f, f = fp p := ⟨_, rfl⟩
          obtain ⟨fQ, hfQ⟩ : ∃ f, f = fq p := ⟨_, rfl⟩
          rw [← hfP] at fe1 g1
          rw [← hfQ] at fe2 g1 g2
          refine k_iload_n (pc := 34) C dX7_give_34 rfl 1 rfl ?_
          refine k_iload_n (pc := 35) C dX7_give_35 rfl 2 rfl ?_
          refine cs_X7_172 (pc := 36) C E (c7_side hp (s := d) (by omega)) rfl (by decide) rfl (Nat.le_of_ble_eq_true rfl) dX7_give_36 (fun r36 M36 h36 => ?_)
          obtain ⟨rfl, rfl⟩ := h36
          refine k_istore (pc := 39) (lv' := [(5, .int (nI (16 + 3 * p + d))), (0, .ref (ad (174))), (1, .int (nI p)), (2, .int (nI d)), (3, .int (nI a)), (4, .int (nI x))]) C dX7_give_39 (by decide) rfl ?_
          refine k_iload_n (pc := 41) C dX7_give_41 rfl 2 rfl ?_
          refine k_iconst (pc := 42) (v := nI 1) C dX7_give_42 (by decide) ?_
          refine k_iload_n (pc := 43) C dX7_give_43 rfl 3 rfl ?_
          refine k_isub (pc := 44) C dX7_give_44 ?_
          refine k_eqi (y := nI (1 - d)) (pk_sub (by omega)) ?_
          refine cs_X7_172 (pc := 45) C E (c7_side hp (s := 1 - d) (by omega)) rfl (by decide) rfl (Nat.le_of_ble_eq_true rfl) dX7_give_45 (fun r45 M45 h45 => ?_)
          obtain ⟨rfl, rfl⟩ := h45
          refine k_istore (pc := 48) (lv' := [(6, .int (nI (16 + 3 * p + (1 - d)))), (5, .int (nI (16 + 3 * p + d))), (0, .ref (ad (174))), (1, .int (nI p)), (2, .int (nI d)), (3, .int (nI a)), (4, .int (nI x))]) C dX7_give_48 (by decide) rfl ?_
          refine k_aload_n (pc := 50) C dX7_give_50 rfl 2 rfl ?_
          refine k_bipush (pc := 51) (v := nI 31) C dX7_give_51 (by decide) ?_
          refine k_iload (pc := 53) C dX7_give_53 1 rfl ?_
          refine k_iload_n (pc := 55) C dX7_give_55 rfl 5 rfl ?_
          refine cv_X7_66 (pc := 56) C E (c7_plus (t := 31) (a := 16 + 3 * p + d) (b := a) (by decide) (by omega) (by omega)) rfl (by decide) cm_174 (by decide) rfl (Nat.le_of_ble_eq_true rfl) dX7_give_56 (fun M56 h56 => ?_)
          subst h56
          rw [t0, hTa]
          obtain ⟨U1, hU1⟩ : ∃ W, W = va_up U (31) (T (16 + 3 * p + d) + T a) := ⟨_, rfl⟩
          rw [← hU1]
          have v1 : U1 (31) = T (16 + 3 * p + d) + T a := by rw [hU1, ups]
          have f1 : ∀ k, 31 ≠ k → U1 k = U k := fun k hk => by rw [hU1, upn hk]
          refine k_aload_n (pc := 59) C dX7_give_59 rfl 2 rfl ?_
          refine k_iload_n (pc := 60) C dX7_give_60 rfl 5 rfl ?_
          refine cv_X7_175 (pc := 61) C E (c7_isSide (a := a) (by omega) (by rw [f1 a (by omega), hTa]; omega)) rfl (by decide) cm_174 (by decide) rfl (Nat.le_of_ble_eq_true rfl) dX7_give_61 (fun r61 M61 h61 => ?_)
          obtain ⟨rfl, rfl⟩ := h61
          rw [f1 a (by omega), hTa]
          refine k_if_eq (pc := 64) (tgt := 76) C dX7_give_64 (by decide) (fun c64 => ?_) (fun c64 => ?_)
          · simp only [b01, Decidable.not_not] at c64
            refine k_bipush (pc := 76) (v := (-2)) C dX7_give_76 (by decide) ?_
            exact r_i (pc := 78) C E (by
  have j9 : gR (T (16 + 3 * p + d)) (T (16 + 3 * p + (1 - d))) (T (16 + 3 * p + 2)) fP fQ (T a) = -2 := by unfold gR; rw [if_neg (by omega)]
  have e9 : sGive T fp fq (nI p) (nI d) (nI a) (nI x) = (-2, T) := by
    unfold sGive
    rw [if_pos c6]
    simp only [rI_n (show p < 2147483648 by omega), rI_n (show d < 2147483648 by omega), rI_n (show a < 2147483648 by omega), rI_n (show x < 2147483648 by omega), ← hfP, ← hfQ, j9]
    rw [if_neg (by decide)]
  rw [e9]
  exact ⟨U1, rfl, rfl, hT.o (fun k hk => f1 k (by omega)), fun k hk => f1 k (by omega)⟩) dX7_give_78
          · simp only [b01, Decidable.not_not] at c64
            refine k_aload_n (pc := 67) C dX7_give_67 rfl 2 rfl ?_
            refine k_bipush (pc := 68) (v := nI 31) C dX7_give_68 (by decide) ?_
            refine cv_X7_175 (pc := 70) C E (c7_isSide (a := 31) (by decide) (by rw [v1]; omega)) rfl (by decide) cm_174 (by decide) rfl (Nat.le_of_ble_eq_true rfl) dX7_give_70 (fun r70 M70 h70 => ?_)
            obtain ⟨rfl, rfl⟩ := h70
            rw [v1]
            refine k_if_ne (pc := 73) (tgt := 79) C dX7_give_73 (by decide) (fun c73 => ?_) (fun c73 => ?_)
            · simp only [b01, Decidable.not_not] at c73
              refine k_aload_n (pc := 79) C dX7_give_79 rfl 2 rfl ?_
              refine k_iload_n (pc := 80) C dX7_give_80 rfl 3 rfl ?_
              refine k_iconst (pc := 81) (v := nI 2) C dX7_give_81 (by decide) ?_
              refine cs_X7_172 (pc := 82) C E (c7_side hp (s := 2) (by omega)) rfl (by decide) rfl (Nat.le_of_ble_eq_true rfl) dX7_give_82 (fun r82 M82 h82 => ?_)
              obtain ⟨rfl, rfl⟩ := h82
              refine cv_X7_99 (pc := 85) C E (c7_isZero (a := 16 + 3 * p + 2) (by omega) (by rw [f1 _ (by omega), t2]; omega)) rfl (by decide) cm_174 (by decide) rfl (Nat.le_of_ble_eq_true rfl) dX7_give_85 (fun r85 M85 h85 => ?_)
              obtain ⟨rfl, rfl⟩ := h85
              rw [f1 _ (by omega), t2]
              refine k_if_eq (pc := 88) (tgt := 94) C dX7_give_88 (by decide) (fun c88 => ?_) (fun c88 => ?_)
              · simp only [b01, Decidable.not_not] at c88
                have hx0 : 0 < T (16 + 3 * p + d) := by
                  have h8 := hB.2.2 p hp (by omega)
                  rcases (show d = 0 ∨ d = 1 by omega) with e | e <;> subst e <;> first | exact h8.1 | exact h8.2
                have e1 : T a * (fQ - fP) ≤ 2 ^ 100 * 1000000 := Nat.mul_le_mul (by omega) (by omega)
                obtain ⟨f, hf⟩ : ∃ f, f = T a * (fQ - fP) := ⟨_, rfl⟩
                rw [← hf] at e1
                have e2 : T (16 + 3 * p + (1 - d)) * f ≤ 2 ^ 100 * (2 ^ 100 * 1000000) := Nat.mul_le_mul (by omega) e1
                have e3 : T (16 + 3 * p + d) * fQ ≤ 2 ^ 100 * 1000000 := Nat.mul_le_mul (by omega) g2
                have e4 : 0 < T (16 + 3 * p + d) * fQ := Nat.mul_pos hx0 (by omega)
                refine k_aload_n (pc := 94) C dX7_give_94 rfl 2 rfl ?_
                refine k_bipush (pc := 95) (v := nI 29) C dX7_give_95 (by decide) ?_
                refine k_aload_n (pc := 97) C dX7_give_97 rfl 2 rfl ?_
                refine gf_X7_20 (pc := 98) C (174) (by decide) cm_174 rfl dX7_give_98 ?_
                refine k_iload_n (pc := 101) C dX7_give_101 rfl 3 rfl ?_
                refine k_iald (pc := 102) C E (178) (by decide) cm_178 (p) rfl (by omega) (by decide) dX7_give_102 ?_
                refine k_eqi (y := nI fQ) (fe2) ?_
                refine k_aload_n (pc := 103) C dX7_give_103 rfl 2 rfl ?_
                refine gf_X7_16 (pc := 104) C (174) (by decide) cm_174 rfl dX7_give_104 ?_
                refine k_iload_n (pc := 107) C dX7_give_107 rfl 3 rfl ?_
                refine k_iald (pc := 108) C E (177) (by decide) cm_177 (p) rfl (by omega) (by decide) dX7_give_108 ?_
                refine k_eqi (y := nI fP) (fe1) ?_
                refine k_isub (pc := 109) C dX7_give_109 ?_
                refine k_eqi (y := nI (fQ - fP)) (pk_sub (by omega)) ?_
                refine k_i2l (pc := 110) C dX7_give_110 rfl ?_
                refine k_eql (y := lN (fQ - fP)) (nI_l (by omega)) ?_
                refine cv_X7_62 (pc := 111) C E (c7_set (t := 29) (a := fQ - fP) (by decide) (by omega)) rfl (by decide) cm_174 (by decide) rfl (Nat.le_of_ble_eq_true rfl) dX7_give_111 (fun M111 h111 => ?_)
                subst h111
                obtain ⟨U2, hU2⟩ : ∃ W, W = va_up U1 (29) (fQ - fP) := ⟨_, rfl⟩
                rw [← hU2]
                have v2 : U2 (29) = fQ - fP := by rw [hU2, ups]
                have f2 : ∀ k, 29 ≠ k → U2 k = U1 k := fun k hk => by rw [hU2, upn hk]
                refine k_aload_n (pc := 114) C dX7_give_114 rfl 2 rfl ?_
                refine k_bipush (pc := 115) (v := nI 28) C dX7_give_115 (by decide) ?_
                refine k_iload_n (pc := 117) C dX7_give_117 rfl 5 rfl ?_
                refine k_bipush (pc := 118) (v := nI 29) C dX7_give_118 (by decide) ?_
                refine cv_X7_108 (pc := 120) C E (c7_product (t := 28) (a := a) (b := 29) (by decide) (by omega) (by decide) (by omega) (by decide) (by rw [f2 a (by omega), f1 a (by omega), hTa]; omega)) rfl (by decide) cm_174 (by decide) rfl (Nat.le_of_ble_eq_true rfl) dX7_give_120 (fun M120 h120 => ?_)
                subst h120
                rw [f2 a (by omega), f1 a (by omega), hTa, v2, ← hf]
                obtain ⟨U3, hU3⟩ : ∃ W, W = va_up (va_up U2 34 (f)) (28) (f) := ⟨_, rfl⟩
                rw [← hU3]
                have v3 : U3 (28) = f := by rw [hU3, ups]
                have f3 : ∀ k, 34 ≠ k → 28 ≠ k → U3 k = U2 k := fun k h1 h2 => by rw [hU3, upn h2, upn h1]
                refine k_aload_n (pc := 123) C dX7_give_123 rfl 2 rfl ?_
                refine k_bipush (pc := 124) (v := nI 29) C dX7_give_124 (by decide) ?_
                refine k_aload_n (pc := 126) C dX7_give_126 rfl 2 rfl ?_
                refine gf_X7_20 (pc := 127) C (174) (by decide) cm_174 rfl dX7_give_127 ?_
                refine k_iload_n (pc := 130) C dX7_give_130 rfl 3 rfl ?_
                refine k_iald (pc := 131) C E (178) (by decide) cm_178 (p) rfl (by omega) (by decide) dX7_give_131 ?_
                refine k_eqi (y := nI fQ) (fe2) ?_
                refine k_i2l (pc := 132) C dX7_give_132 rfl ?_
                refine k_eql (y := lN fQ) (nI_l (by omega)) ?_
                refine cv_X7_62 (pc := 133) C E (c7_set (t := 29) (a := fQ) (by decide) (by omega)) rfl (by decide) cm_174 (by decide) rfl (Nat.le_of_ble_eq_true rfl) dX7_give_133 (fun M133 h133 => ?_)
                subst h133
                obtain ⟨U4, hU4⟩ : ∃ W, W = va_up U3 (29) (fQ) := ⟨_, rfl⟩
                rw [← hU4]
                have v4 : U4 (29) = fQ := by rw [hU4, ups]
                have f4 : ∀ k, 29 ≠ k → U4 k = U3 k := fun k hk => by rw [hU4, upn hk]
                refine k_aload_n (pc := 136) C dX7_give_136 rfl 2 rfl ?_
                refine k_bipush (pc := 137) (v := nI 29) C dX7_give_137 (by decide) ?_
                refine k_iload (pc := 139) C dX7_give_139 1 rfl ?_
                refine k_bipush (pc := 141) (v := nI 29) C dX7_give_141 (by decide) ?_
                refine cv_X7_108 (pc := 143) C E (c7_product (t := 29) (a := 16 + 3 * p + d) (b := 29) (by decide) (by omega) (by decide) (by omega) (by decide) (by rw [f4 _ (by omega), f3 _ (by omega) (by omega), f2 _ (by omega), f1 _ (by omega), t0]; omega)) rfl (by decide) cm_174 (by decide) rfl (Nat.le_of_ble_eq_true rfl) dX7_give_143 (fun M143 h143 => ?_)
                subst h143
                rw [v4, f4 (16 + 3 * p + d) (by omega), f3 (16 + 3 * p + d) (by omega) (by omega), f2 (16 + 3 * p + d) (by omega), f1 (16 + 3 * p + d) (by omega), t0]
                obtain ⟨U5, hU5⟩ : ∃ W, W = va_up (va_up U4 34 (T (16 + 3 * p + d) * fQ)) (29) (T (16 + 3 * p + d) * fQ) := ⟨_, rfl⟩
                rw [← hU5]
                have v5 : U5 (29) = T (16 + 3 * p + d) * fQ := by rw [hU5, ups]
                have f5 : ∀ k, 34 ≠ k → 29 ≠ k → U5 k = U4 k := fun k h1 h2 => by rw [hU5, upn h2, upn h1]
                have y28 : U5 28 = f := by rw [f5 28 (by decide) (by decide), f4 28 (by decide), v3]
                refine k_aload_n (pc := 146) C dX7_give_146 rfl 2 rfl ?_
                refine k_bipush (pc := 147) (v := nI 29) C dX7_give_147 (by decide) ?_
                refine k_bipush (pc := 149) (v := nI 29) C dX7_give_149 (by decide) ?_
                refine k_bipush (pc := 151) (v := nI 28) C dX7_give_151 (by decide) ?_
                refine cv_X7_66 (pc := 153) C E (c7_plus (t := 29) (a := 29) (b := 28) (by decide) (by decide) (by decide)) rfl (by decide) cm_174 (by decide) rfl (Nat.le_of_ble_eq_true rfl) dX7_give_153 (fun M153 h153 => ?_)
                subst h153
                rw [v5, y28]
                obtain ⟨U6, hU6⟩ : ∃ W, W = va_up U5 (29) (T (16 + 3 * p + d) * fQ + f) := ⟨_, rfl⟩
                rw [← hU6]
                have v6 : U6 (29) = T (16 + 3 * p + d) * fQ + f := by rw [hU6, ups]
                have f6 : ∀ k, 29 ≠ k → U6 k = U5 k := fun k hk => by rw [hU6, upn hk]
                have g6 : ∀ k, k < 28 → U6 k = U k := fun k hk => by rw [f6 k (by omega), f5 k (by omega) (by omega), f4 k (by omega), f3 k (by omega) (by omega), f2 k (by omega), f1 k (by omega)]
                have z31 : U6 31 = T (16 + 3 * p + d) + T a := by rw [f6 31 (by decide), f5 31 (by decide) (by decide), f4 31 (by decide), f3 31 (by decide) (by decide), f2 31 (by decide), v1]
                refine k_aload_n (pc := 156) C dX7_give_156 rfl 2 rfl ?_
                refine k_bipush (pc := 157) (v := nI 30) C dX7_give_157 (by decide) ?_
                refine k_iload (pc := 159) C dX7_give_159 0 rfl ?_
                refine k_bipush (pc := 161) (v := nI 28) C dX7_give_161 (by decide) ?_
                refine cv_X7_108 (pc := 163) C E (c7_product (t := 30) (a := 16 + 3 * p + (1 - d)) (b := 28) (by decide) (by omega) (by decide) (by omega) (by decide) (by rw [g6 _ (by omega), t1]; omega)) rfl (by decide) cm_174 (by decide) rfl (Nat.le_of_ble_eq_true rfl) dX7_give_163 (fun M163 h163 => ?_)
                subst h163
                rw [g6 _ (by omega), t1, f6 28 (by decide), y28]
                obtain ⟨U7, hU7⟩ : ∃ W, W = va_up (va_up U6 34 (T (16 + 3 * p + (1 - d)) * f)) (30) (T (16 + 3 * p + (1 - d)) * f) := ⟨_, rfl⟩
                rw [← hU7]
                have v7 : U7 (30) = T (16 + 3 * p + (1 - d)) * f := by rw [hU7, ups]
                have f7 : ∀ k, 34 ≠ k → 30 ≠ k → U7 k = U6 k := fun k h1 h2 => by rw [hU7, upn h2, upn h1]
                have y29 : U7 29 = T (16 + 3 * p + d) * fQ + f := by rw [f7 29 (by decide) (by decide), v6]
                refine k_aload_n (pc := 166) C dX7_give_166 rfl 2 rfl ?_
                refine k_bipush (pc := 167) (v := nI 30) C dX7_give_167 (by decide) ?_
                refine k_bipush (pc := 169) (v := nI 29) C dX7_give_169 (by decide) ?_
                refine cv_X7_111 (pc := 171) C E (c7_divides (a := 30) (b := 29) (by decide) (by decide) (by decide) (by decide) (by decide) (by decide) (by rw [y29]; omega) (by rw [y29]; omega) (by rw [v7]; omega)) rfl (by decide) cm_174 (by decide) rfl (Nat.le_of_ble_eq_true rfl) dX7_give_171 (fun M171 h171 => ?_)
                subst h171
                rw [v7, y29]
                obtain ⟨U8, hU8⟩ : ∃ W, W = dv2 U7 (T (16 + 3 * p + (1 - d)) * f / (T (16 + 3 * p + d) * fQ + f)) (T (16 + 3 * p + (1 - d)) * f % (T (16 + 3 * p + d) * fQ + f)) := ⟨_, rfl⟩
                rw [← hU8]
                have q8 : U8 32 = T (16 + 3 * p + (1 - d)) * f / (T (16 + 3 * p + d) * fQ + f) := by rw [hU8, dv_2]
                have r8 : U8 33 = T (16 + 3 * p + (1 - d)) * f % (T (16 + 3 * p + d) * fQ + f) := by rw [hU8, dv_3]
                have f8 : ∀ k, 32 ≠ k → 33 ≠ k → U8 k = U7 k := fun k h1 h2 => by rw [hU8, dv_o h1 h2]
                obtain ⟨g, hg⟩ : ∃ g, g = gN (T (16 + 3 * p + d)) (T (16 + 3 * p + (1 - d))) fP fQ (T a) := ⟨_, rfl⟩
                have q9 : U8 32 = g := by rw [q8, hg, hf]; rfl
                have hgy : g ≤ T (16 + 3 * p + (1 - d)) := by
                  rw [hg]; unfold gN; rw [← hf]
                  exact Nat.div_le_of_le_mul (by rw [Nat.mul_comm]; exact Nat.mul_le_mul_right _ (by omega))
                have g8 : ∀ k, k < 28 → U8 k = U k := fun k hk => by rw [f8 k (by omega) (by omega), f7 k (by omega) (by omega), g6 k hk]
                have g8' : ∀ k, 36 ≤ k → U8 k = U k := fun k hk => by rw [f8 k (by omega) (by omega), f7 k (by omega) (by omega), f6 k (by omega), f5 k (by omega) (by omega), f4 k (by omega), f3 k (by omega) (by omega), f2 k (by omega), f1 k (by omega)]
                have z38 : U8 31 = T (16 + 3 * p + d) + T a := by rw [f8 31 (by decide) (by decide), f7 31 (by decide) (by decide), z31]
                refine k_aload_n (pc := 174) C dX7_give_174 rfl 2 rfl ?_
                refine k_bipush (pc := 175) (v := nI 32) C dX7_give_175 (by decide) ?_
                refine cv_X7_99 (pc := 177) C E (c7_isZero (a := 32) (by decide) (by rw [q9]; omega)) rfl (by decide) cm_174 (by decide) rfl (Nat.le_of_ble_eq_true rfl) dX7_give_177 (fun r177 M177 h177 => ?_)
                obtain ⟨rfl, rfl⟩ := h177
                rw [q9]
                refine k_if_eq (pc := 180) (tgt := 186) C dX7_give_180 (by decide) (fun c180 => ?_) (fun c180 => ?_)
                · simp only [b01, Decidable.not_not] at c180
                  refine k_aload_n (pc := 186) C dX7_give_186 rfl 2 rfl ?_
                  refine k_iload (pc := 187) C dX7_give_187 0 rfl ?_
                  refine k_iload (pc := 189) C dX7_give_189 0 rfl ?_
                  refine k_bipush (pc := 191) (v := nI 32) C dX7_give_191 (by decide) ?_
                  refine cv_X7_80 (pc := 193) C E (c7_minus (t := 16 + 3 * p + (1 - d)) (a := 16 + 3 * p + (1 - d)) (b := 32) (by omega) (by omega) (by decide) (by rw [q9, g8 _ (by omega), t1]; exact hgy)) rfl (by decide) cm_174 (by decide) rfl (Nat.le_of_ble_eq_true rfl) dX7_give_193 (fun M193 h193 => ?_)
                  subst h193
                  rw [q9, g8 _ (by omega), t1]
                  obtain ⟨U9, hU9⟩ : ∃ W, W = va_up U8 (16 + 3 * p + (1 - d)) (T (16 + 3 * p + (1 - d)) - g) := ⟨_, rfl⟩
                  rw [← hU9]
                  have v9 : U9 (16 + 3 * p + (1 - d)) = T (16 + 3 * p + (1 - d)) - g := by rw [hU9, ups]
                  have f9 : ∀ k, 16 + 3 * p + (1 - d) ≠ k → U9 k = U8 k := fun k hk => by rw [hU9, upn hk]
                  refine k_aload_n (pc := 196) C dX7_give_196 rfl 2 rfl ?_
                  refine k_iload (pc := 197) C dX7_give_197 1 rfl ?_
                  refine k_bipush (pc := 199) (v := nI 31) C dX7_give_199 (by decide) ?_
                  refine cv_X7_72 (pc := 201) C E (c7_copy (t := 16 + 3 * p + d) (a := 31) (by omega) (by decide)) rfl (by decide) cm_174 (by decide) rfl (Nat.le_of_ble_eq_true rfl) dX7_give_201 (fun M201 h201 => ?_)
                  subst h201
                  rw [f9 31 (by omega), z38]
                  obtain ⟨U10, hU10⟩ : ∃ W, W = va_up U9 (16 + 3 * p + d) (T (16 + 3 * p + d) + T a) := ⟨_, rfl⟩
                  rw [← hU10]
                  have v10 : U10 (16 + 3 * p + d) = T (16 + 3 * p + d) + T a := by rw [hU10, ups]
                  have f10 : ∀ k, 16 + 3 * p + d ≠ k → U10 k = U9 k := fun k hk => by rw [hU10, upn hk]
                  refine k_aload_n (pc := 204) C dX7_give_204 rfl 2 rfl ?_
                  refine k_iload (pc := 205) C dX7_give_205 6 rfl ?_
                  refine k_bipush (pc := 207) (v := nI 32) C dX7_give_207 (by decide) ?_
                  refine cv_X7_72 (pc := 209) C E (c7_copy (t := x) (a := 32) (by omega) (by decide)) rfl (by decide) cm_174 (by decide) rfl (Nat.le_of_ble_eq_true rfl) dX7_give_209 (fun M209 h209 => ?_)
                  subst h209
                  rw [f10 32 (by omega), f9 32 (by omega), q9]
                  refine k_iconst (pc := 212) (v := nI 1) C dX7_give_212 (by decide) ?_
                  exact r_i (pc := 213) C E (by
  have j9 : gR (T (16 + 3 * p + d)) (T (16 + 3 * p + (1 - d))) (T (16 + 3 * p + 2)) fP fQ (T a) = 1 := by unfold gR; rw [if_pos c73, if_neg c88, ← hg, if_neg c180]
  have e9 : sGive T fp fq (nI p) (nI d) (nI a) (nI x) = (1, va_up (tup2 T p d (T (16 + 3 * p + d) + T a) (T (16 + 3 * p + (1 - d)) - g)) x g) := by
    unfold sGive
    rw [if_pos c6]
    simp only [rI_n (show p < 2147483648 by omega), rI_n (show d < 2147483648 by omega), rI_n (show a < 2147483648 by omega), rI_n (show x < 2147483648 by omega), ← hfP, ← hfQ]
    rw [if_pos j9, ← hg]
  have ec : va_up (va_up U8 (16 + 3 * p + (1 - d)) (T (16 + 3 * p + (1 - d)) - g)) (16 + 3 * p + d) (T (16 + 3 * p + d) + T a) = va_up (va_up U8 (16 + 3 * p + d) (T (16 + 3 * p + d) + T a)) (16 + 3 * p + (1 - d)) (T (16 + 3 * p + (1 - d)) - g) := by
    funext k
    by_cases h1 : k = 16 + 3 * p + d
    · subst h1; rw [ups, upn (by omega), ups]
    · by_cases h2 : k = 16 + 3 * p + (1 - d)
      · subst h2; rw [upn (by omega), ups, ups]
      · rw [upn (by omega), upn (by omega), upn (by omega), upn (by omega)]
  rw [e9, hU10, hU9, ec]
  exact ⟨_, rfl, rfl, (((hT.o g8).up).up).up, fun k hk => by rw [upn (by omega), upn (by omega), upn (by omega)]; exact g8' k hk⟩) dX7_give_213
                · simp only [b01, Decidable.not_not] at c180
                  refine k_bipush (pc := 183) (v := (-4)) C dX7_give_183 (by decide) ?_
                  exact r_i (pc := 185) C E (by
  have j9 : gR (T (16 + 3 * p + d)) (T (16 + 3 * p + (1 - d))) (T (16 + 3 * p + 2)) fP fQ (T a) = -4 := by unfold gR; rw [if_pos c73, if_neg c88, ← hg, if_pos c180]
  have e9 : sGive T fp fq (nI p) (nI d) (nI a) (nI x) = (-4, T) := by
    unfold sGive
    rw [if_pos c6]
    simp only [rI_n (show p < 2147483648 by omega), rI_n (show d < 2147483648 by omega), rI_n (show a < 2147483648 by omega), rI_n (show x < 2147483648 by omega), ← hfP, ← hfQ, j9]
    rw [if_neg (by decide)]
  rw [e9]
  exact ⟨U8, rfl, rfl, hT.o g8, g8'⟩) dX7_give_185
              · simp only [b01, Decidable.not_not] at c88
                refine k_bipush (pc := 91) (v := (-4)) C dX7_give_91 (by decide) ?_
                exact r_i (pc := 93) C E (by
  have j9 : gR (T (16 + 3 * p + d)) (T (16 + 3 * p + (1 - d))) (T (16 + 3 * p + 2)) fP fQ (T a) = -4 := by unfold gR; rw [if_pos c73, if_pos c88]
  have e9 : sGive T fp fq (nI p) (nI d) (nI a) (nI x) = (-4, T) := by
    unfold sGive
    rw [if_pos c6]
    simp only [rI_n (show p < 2147483648 by omega), rI_n (show d < 2147483648 by omega), rI_n (show a < 2147483648 by omega), rI_n (show x < 2147483648 by omega), ← hfP, ← hfQ, j9]
    rw [if_neg (by decide)]
  rw [e9]
  exact ⟨U1, rfl, rfl, hT.o (fun k hk => f1 k (by omega)), fun k hk => f1 k (by omega)⟩) dX7_give_93
            · simp only [b01, Decidable.not_not] at c73
              refine k_bipush (pc := 76) (v := (-2)) C dX7_give_76 (by decide) ?_
              exact r_i (pc := 78) C E (by
  have j9 : gR (T (16 + 3 * p + d)) (T (16 + 3 * p + (1 - d))) (T (16 + 3 * p + 2)) fP fQ (T a) = -2 := by unfold gR; rw [if_neg (by omega)]
  have e9 : sGive T fp fq (nI p) (nI d) (nI a) (nI x) = (-2, T) := by
    unfold sGive
    rw [if_pos c6]
    simp only [rI_n (show p < 2147483648 by omega), rI_n (show d < 2147483648 by omega), rI_n (show a < 2147483648 by omega), rI_n (show x < 2147483648 by omega), ← hfP, ← hfQ, j9]
    rw [if_neg (by decide)]
  rw [e9]
  exact ⟨U1, rfl, rfl, hT.o (fun k hk => f1 k (by omega)), fun k hk => f1 k (by omega)⟩) dX7_give_78
        · simp only [b01, Decidable.not_not] at c29
          refine k_iconst (pc := 32) (v := (-1)) C dX7_give_32 (by decide) ?_
          exact r_i (pc := 33) C E (⟨U, rfl, by unfold sGive; rw [if_neg (fun h => by first | exact c4 h.1 | exact c14 h.2.1 | exact c21 h.2.2.1 | exact c29 h.2.2.2)], by unfold sGive; rw [if_neg (fun h => by first | exact c4 h.1 | exact c14 h.2.1 | exact c21 h.2.2.1 | exact c29 h.2.2.2)]; exact hT, fun _ _ => rfl⟩) dX7_give_33
set_option maxHeartbeats 4000000 in
set_option maxRecDepth 100000 in
/-- ask -/
theorem c7_ask {T : Nat → Nat} (hT : RM U T) (hB : TB T) {fp fq : Nat → Nat} (hF : FM ia fp fq) (hFB : FB fp fq) {x0 d0 a0 r0 : Int32} : xI l D (xty ca) yX7_ask cX7_ask 7 (some .int) 3 120 [.ref (ad 174), .int x0, .int d0, .int a0, .int r0] ad (cm ad ca (V, U, sc, ia, la)) (fun r M' => ∃ U', M' = cm ad ca (V, U', sc, ia, la) ∧ r = (sAsk T fp fq x0 d0 a0 r0).1 ∧ RM U' (sAsk T fp fq x0 d0 a0 r0).2) := by
  refine xM.of (by decide) (Nat.le_of_ble_eq_true rfl) (fun z C E => ?_)
  refine k_iload_n (pc := 0) C dX7_ask_0 rfl 1 rfl ?_
  refine cs_X7_168 (pc := 1) C E (c7_isPool) rfl (by decide) rfl (Nat.le_of_ble_eq_true rfl) dX7_ask_1 (fun r1 M1 h1 => ?_)
  obtain ⟨rfl, rfl⟩ := h1
  refine k_if_eq (pc := 4) (tgt := 32) C dX7_ask_4 (by decide) (fun c4 => ?_) (fun c4 => ?_)
  · simp only [b01, Decidable.not_not] at c4
    refine k_iconst (pc := 32) (v := (-1)) C dX7_ask_32 (by decide) ?_
    exact r_i (pc := 33) C E (⟨U, rfl, by unfold sAsk; rw [if_neg (fun h => by first | exact c4 h.1 | exact c14 h.2.1 | exact c21 h.2.2.1 | exact c29 h.2.2.2)], by unfold sAsk; rw [if_neg (fun h => by first | exact c4 h.1 | exact c14 h.2.1 | exact c21 h.2.2.1 | exact c29 h.2.2.2)]; exact hT⟩) dX7_ask_33
  · simp only [b01, Decidable.not_not] at c4
    refine k_iload_n (pc := 7) C dX7_ask_7 rfl 2 rfl ?_
    refine k_i2l (pc := 8) C dX7_ask_8 rfl ?_
    refine k_lconst (pc := 9) (v := lN 0) C dX7_ask_9 (by decide) ?_
    refine k_lconst (pc := 10) (v := lN 1) C dX7_ask_10 (by decide) ?_
    refine cs_X7_56 (pc := 11) C E (c7_in) rfl (by decide) rfl (Nat.le_of_ble_eq_true rfl) dX7_ask_11 (fun r11 M11 h11 => ?_)
    obtain ⟨rfl, rfl⟩ := h11
    simp only [in_r (show 1 < 2147483648 by decide)]
    refine k_if_eq (pc := 14) (tgt := 32) C dX7_ask_14 (by decide) (fun c14 => ?_) (fun c14 => ?_)
    · simp only [b01, Decidable.not_not] at c14
      refine k_iconst (pc := 32) (v := (-1)) C dX7_ask_32 (by decide) ?_
      exact r_i (pc := 33) C E (⟨U, rfl, by unfold sAsk; rw [if_neg (fun h => by first | exact c4 h.1 | exact c14 h.2.1 | exact c21 h.2.2.1 | exact c29 h.2.2.2)], by unfold sAsk; rw [if_neg (fun h => by first | exact c4 h.1 | exact c14 h.2.1 | exact c21 h.2.2.1 | exact c29 h.2.2.2)]; exact hT⟩) dX7_ask_33
    · simp only [b01, Decidable.not_not] at c14
      refine k_iload_n (pc := 17) C dX7_ask_17 rfl 3 rfl ?_
      refine cs_X7_85 (pc := 18) C E (c7_isRegister) rfl (by decide) rfl (Nat.le_of_ble_eq_true rfl) dX7_ask_18 (fun r18 M18 h18 => ?_)
      obtain ⟨rfl, rfl⟩ := h18
      refine k_if_eq (pc := 21) (tgt := 32) C dX7_ask_21 (by decide) (fun c21 => ?_) (fun c21 => ?_)
      · simp only [b01, Decidable.not_not] at c21
        refine k_iconst (pc := 32) (v := (-1)) C dX7_ask_32 (by decide) ?_
        exact r_i (pc := 33) C E (⟨U, rfl, by unfold sAsk; rw [if_neg (fun h => by first | exact c4 h.1 | exact c14 h.2.1 | exact c21 h.2.2.1 | exact c29 h.2.2.2)], by unfold sAsk; rw [if_neg (fun h => by first | exact c4 h.1 | exact c14 h.2.1 | exact c21 h.2.2.1 | exact c29 h.2.2.2)]; exact hT⟩) dX7_ask_33
      · simp only [b01, Decidable.not_not] at c21
        refine k_iload (pc := 24) C dX7_ask_24 4 rfl ?_
        refine cs_X7_85 (pc := 26) C E (c7_isRegister) rfl (by decide) rfl (Nat.le_of_ble_eq_true rfl) dX7_ask_26 (fun r26 M26 h26 => ?_)
        obtain ⟨rfl, rfl⟩ := h26
        refine k_if_ne (pc := 29) (tgt := 34) C dX7_ask_29 (by decide) (fun c29 => ?_) (fun c29 => ?_)
        · simp only [b01, Decidable.not_not] at c29
          have c6 : okG x0 d0 a0 r0 := ⟨c4, c14, c21, c29⟩
          obtain ⟨p, hp, rfl⟩ := inR_k c6.1
          obtain ⟨d, hd, rfl⟩ := inR_k c6.2.1
          obtain ⟨a, ha, rfl⟩ := inR_k c6.2.2.1
          obtain ⟨x, hx, rfl⟩ := inR_k c6.2.2.2
          have hTa := hT a (by omega)
          have ba1 := hB.1 a ha
          have t0 := hT (16 + 3 * p + d) (by omega)
          have t1 := hT (16 + 3 * p + (1 - d)) (by omega)
          have t2 := hT (16 + 3 * p + 2) (by omega)
          have k0 := hB.2.1 (16 + 3 * p + d) (by omega) (by omega)
          have k1 := hB.2.1 (16 + 3 * p + (1 - d)) (by omega) (by omega)
          have k2 := hB.2.1 (16 + 3 * p + 2) (by omega) (by omega)
          obtain ⟨fe1, fe2⟩ := hF p hp
          obtain ⟨g1, g2⟩ := hFB p hp
          obtain ⟨fP, hfP⟩ : ∃ f, f = fp p := ⟨_, rfl⟩
          obtain ⟨fQ, hfQ⟩ : ∃ f, f = fq p := ⟨_, rfl⟩
          rw [← hfP] at fe1 g1
          rw [← hfQ] at fe2 g1 g2
          refine k_iload_n (pc := 34) C dX7_ask_34 rfl 1 rfl ?_
          refine k_iload_n (pc := 35) C dX7_ask_35 rfl 2 rfl ?_
          refine cs_X7_172 (pc := 36) C E (c7_side hp (s := d) (by omega)) rfl (by decide) rfl (Nat.le_of_ble_eq_true rfl) dX7_ask_36 (fun r36 M36 h36 => ?_)
          obtain ⟨rfl, rfl⟩ := h36
          refine k_istore (pc := 39) (lv' := [(5, .int (nI (16 + 3 * p + d))), (0, .ref (ad (174))), (1, .int (nI p)), (2, .int (nI d)), (3, .int (nI a)), (4, .int (nI x))]) C dX7_ask_39 (by decide) rfl ?_
          refine k_iload_n (pc := 41) C dX7_ask_41 rfl 2 rfl ?_
          refine k_iconst (pc := 42) (v := nI 1) C dX7_ask_42 (by decide) ?_
          refine k_iload_n (pc := 43) C dX7_ask_43 rfl 3 rfl ?_
          refine k_isub (pc := 44) C dX7_ask_44 ?_
          refine k_eqi (y := nI (1 - d)) (pk_sub (by omega)) ?_
          refine cs_X7_172 (pc := 45) C E (c7_side hp (s := 1 - d) (by omega)) rfl (by decide) rfl (Nat.le_of_ble_eq_true rfl) dX7_ask_45 (fun r45 M45 h45 => ?_)
          obtain ⟨rfl, rfl⟩ := h45
          refine k_istore (pc := 48) (lv' := [(6, .int (nI (16 + 3 * p + (1 - d)))), (5, .int (nI (16 + 3 * p + d))), (0, .ref (ad (174))), (1, .int (nI p)), (2, .int (nI d)), (3, .int (nI a)), (4, .int (nI x))]) C dX7_ask_48 (by decide) rfl ?_
          refine k_aload_n (pc := 50) C dX7_ask_50 rfl 2 rfl ?_
          refine k_iload_n (pc := 51) C dX7_ask_51 rfl 5 rfl ?_
          refine k_iload (pc := 52) C dX7_ask_52 0 rfl ?_
          refine cv_X7_76 (pc := 54) C E (c7_compare (a := a) (b := 16 + 3 * p + (1 - d)) (by omega) (by omega) (by rw [hTa]; omega) (by rw [t1]; omega)) rfl (by decide) cm_174 (by decide) rfl (Nat.le_of_ble_eq_true rfl) dX7_ask_54 (fun r54 M54 h54 => ?_)
          obtain ⟨rfl, rfl⟩ := h54
          refine k_if_lt (pc := 57) (tgt := 63) C dX7_ask_57 (by decide) (fun c57 => ?_) (fun c57 => ?_)
          · rw [cmp_l0, hTa, t1] at c57
            have e3 : T (16 + 3 * p + d) * T a ≤ 2 ^ 100 * 2 ^ 100 := Nat.mul_le_mul (by omega) (by omega)
            have e4 : T (16 + 3 * p + d) * T a * fQ ≤ 2 ^ 100 * 2 ^ 100 * 1000000 := Nat.mul_le_mul e3 g2
            have e5 : (T (16 + 3 * p + (1 - d)) - T a) * (fQ - fP) ≤ 2 ^ 100 * 1000000 := Nat.mul_le_mul (by omega) (by omega)
            have e6 : 0 < (T (16 + 3 * p + (1 - d)) - T a) * (fQ - fP) := Nat.mul_pos (by omega) (by omega)
            obtain ⟨N, hN⟩ : ∃ N, N = T (16 + 3 * p + d) * T a * fQ := ⟨_, rfl⟩
            obtain ⟨Dd, hDd⟩ : ∃ N, N = (T (16 + 3 * p + (1 - d)) - T a) * (fQ - fP) := ⟨_, rfl⟩
            rw [← hN] at e4
            rw [← hDd] at e5 e6
            have hN2 : T (16 + 3 * p + d) * fQ * T a = N := by rw [hN, Nat.mul_assoc, Nat.mul_comm fQ, ← Nat.mul_assoc]
            refine k_aload_n (pc := 63) C dX7_ask_63 rfl 2 rfl ?_
            refine k_bipush (pc := 64) (v := nI 31) C dX7_ask_64 (by decide) ?_
            refine k_iload (pc := 66) C dX7_ask_66 0 rfl ?_
            refine k_iload_n (pc := 68) C dX7_ask_68 rfl 5 rfl ?_
            refine cv_X7_80 (pc := 69) C E (c7_minus (t := 31) (a := 16 + 3 * p + (1 - d)) (b := a) (by decide) (by omega) (by omega) (by rw [hTa, t1]; omega)) rfl (by decide) cm_174 (by decide) rfl (Nat.le_of_ble_eq_true rfl) dX7_ask_69 (fun M69 h69 => ?_)
            subst h69
            rw [hTa, t1]
            obtain ⟨U1, hU1⟩ : ∃ W, W = va_up U (31) (T (16 + 3 * p + (1 - d)) - T a) := ⟨_, rfl⟩
            rw [← hU1]
            have v1 : U1 (31) = T (16 + 3 * p + (1 - d)) - T a := by rw [hU1, ups]
            have f1 : ∀ k, 31 ≠ k → U1 k = U k := fun k hk => by rw [hU1, upn hk]
            refine k_aload_n (pc := 72) C dX7_ask_72 rfl 2 rfl ?_
            refine k_bipush (pc := 73) (v := nI 29) C dX7_ask_73 (by decide) ?_
            refine k_aload_n (pc := 75) C dX7_ask_75 rfl 2 rfl ?_
            refine gf_X7_20 (pc := 76) C (174) (by decide) cm_174 rfl dX7_ask_76 ?_
            refine k_iload_n (pc := 79) C dX7_ask_79 rfl 3 rfl ?_
            refine k_iald (pc := 80) C E (178) (by decide) cm_178 (p) rfl (by omega) (by decide) dX7_ask_80 ?_
            refine k_eqi (y := nI fQ) (fe2) ?_
            refine k_aload_n (pc := 81) C dX7_ask_81 rfl 2 rfl ?_
            refine gf_X7_16 (pc := 82) C (174) (by decide) cm_174 rfl dX7_ask_82 ?_
            refine k_iload_n (pc := 85) C dX7_ask_85 rfl 3 rfl ?_
            refine k_iald (pc := 86) C E (177) (by decide) cm_177 (p) rfl (by omega) (by decide) dX7_ask_86 ?_
            refine k_eqi (y := nI fP) (fe1) ?_
            refine k_isub (pc := 87) C dX7_ask_87 ?_
            refine k_eqi (y := nI (fQ - fP)) (pk_sub (by omega)) ?_
            refine k_i2l (pc := 88) C dX7_ask_88 rfl ?_
            refine k_eql (y := lN (fQ - fP)) (nI_l (by omega)) ?_
            refine cv_X7_62 (pc := 89) C E (c7_set (t := 29) (a := fQ - fP) (by decide) (by omega)) rfl (by decide) cm_174 (by decide) rfl (Nat.le_of_ble_eq_true rfl) dX7_ask_89 (fun M89 h89 => ?_)
            subst h89
            obtain ⟨U2, hU2⟩ : ∃ W, W = va_up U1 (29) (fQ - fP) := ⟨_, rfl⟩
            rw [← hU2]
            have v2 : U2 (29) = fQ - fP := by rw [hU2, ups]
            have f2 : ∀ k, 29 ≠ k → U2 k = U1 k := fun k hk => by rw [hU2, upn hk]
            refine k_aload_n (pc := 92) C dX7_ask_92 rfl 2 rfl ?_
            refine k_bipush (pc := 93) (v := nI 29) C dX7_ask_93 (by decide) ?_
            refine k_bipush (pc := 95) (v := nI 31) C dX7_ask_95 (by decide) ?_
            refine k_bipush (pc := 97) (v := nI 29) C dX7_ask_97 (by decide) ?_
            refine cv_X7_108 (pc := 99) C E (c7_product (t := 29) (a := 31) (b := 29) (by decide) (by decide) (by decide) (by decide) (by decide) (by rw [f2 31 (by decide), v1]; omega)) rfl (by decide) cm_174 (by decide) rfl (Nat.le_of_ble_eq_true rfl) dX7_ask_99 (fun M99 h99 => ?_)
            subst h99
            rw [f2 31 (by decide), v1, v2, ← hDd]
            obtain ⟨U3, hU3⟩ : ∃ W, W = va_up (va_up U2 34 (Dd)) (29) (Dd) := ⟨_, rfl⟩
            rw [← hU3]
            have v3 : U3 (29) = Dd := by rw [hU3, ups]
            have f3 : ∀ k, 34 ≠ k → 29 ≠ k → U3 k = U2 k := fun k h1 h2 => by rw [hU3, upn h2, upn h1]
            refine k_aload_n (pc := 102) C dX7_ask_102 rfl 2 rfl ?_
            refine k_bipush (pc := 103) (v := nI 28) C dX7_ask_103 (by decide) ?_
            refine k_aload_n (pc := 105) C dX7_ask_105 rfl 2 rfl ?_
            refine gf_X7_20 (pc := 106) C (174) (by decide) cm_174 rfl dX7_ask_106 ?_
            refine k_iload_n (pc := 109) C dX7_ask_109 rfl 3 rfl ?_
            refine k_iald (pc := 110) C E (178) (by decide) cm_178 (p) rfl (by omega) (by decide) dX7_ask_110 ?_
            refine k_eqi (y := nI fQ) (fe2) ?_
            refine k_i2l (pc := 111) C dX7_ask_111 rfl ?_
            refine k_eql (y := lN fQ) (nI_l (by omega)) ?_
            refine cv_X7_62 (pc := 112) C E (c7_set (t := 28) (a := fQ) (by decide) (by omega)) rfl (by decide) cm_174 (by decide) rfl (Nat.le_of_ble_eq_true rfl) dX7_ask_112 (fun M112 h112 => ?_)
            subst h112
            obtain ⟨U4, hU4⟩ : ∃ W, W = va_up U3 (28) (fQ) := ⟨_, rfl⟩
            rw [← hU4]
            have v4 : U4 (28) = fQ := by rw [hU4, ups]
            have f4 : ∀ k, 28 ≠ k → U4 k = U3 k := fun k hk => by rw [hU4, upn hk]
            have g4 : ∀ k, k < 28 → U4 k = U k := fun k hk => by rw [f4 k (by omega), f3 k (by omega) (by omega), f2 k (by omega), f1 k (by omega)]
            refine k_aload_n (pc := 115) C dX7_ask_115 rfl 2 rfl ?_
            refine k_bipush (pc := 116) (v := nI 30) C dX7_ask_116 (by decide) ?_
            refine k_iload (pc := 118) C dX7_ask_118 1 rfl ?_
            refine k_iload_n (pc := 120) C dX7_ask_120 rfl 5 rfl ?_
            refine cv_X7_108 (pc := 121) C E (c7_product (t := 30) (a := 16 + 3 * p + d) (b := a) (by decide) (by omega) (by omega) (by omega) (by omega) (by rw [g4 _ (by omega), t0]; omega)) rfl (by decide) cm_174 (by decide) rfl (Nat.le_of_ble_eq_true rfl) dX7_ask_121 (fun M121 h121 => ?_)
            subst h121
            rw [g4 _ (by omega), t0, g4 a (by omega), hTa]
            obtain ⟨U5, hU5⟩ : ∃ W, W = va_up (va_up U4 34 (T (16 + 3 * p + d) * T a)) (30) (T (16 + 3 * p + d) * T a) := ⟨_, rfl⟩
            rw [← hU5]
            have v5 : U5 (30) = T (16 + 3 * p + d) * T a := by rw [hU5, ups]
            have f5 : ∀ k, 34 ≠ k → 30 ≠ k → U5 k = U4 k := fun k h1 h2 => by rw [hU5, upn h2, upn h1]
            refine k_aload_n (pc := 124) C dX7_ask_124 rfl 2 rfl ?_
            refine k_bipush (pc := 125) (v := nI 30) C dX7_ask_125 (by decide) ?_
            refine k_bipush (pc := 127) (v := nI 30) C dX7_ask_127 (by decide) ?_
            refine k_bipush (pc := 129) (v := nI 28) C dX7_ask_129 (by decide) ?_
            refine cv_X7_108 (pc := 131) C E (c7_product (t := 30) (a := 30) (b := 28) (by decide) (by decide) (by decide) (by decide) (by decide) (by rw [v5]; omega)) rfl (by decide) cm_174 (by decide) rfl (Nat.le_of_ble_eq_true rfl) dX7_ask_131 (fun M131 h131 => ?_)
            subst h131
            rw [v5, f5 28 (by decide) (by decide), v4, ← hN]
            obtain ⟨U6, hU6⟩ : ∃ W, W = va_up (va_up U5 34 (N)) (30) (N) := ⟨_, rfl⟩
            rw [← hU6]
            have v6 : U6 (30) = N := by rw [hU6, ups]
            have f6 : ∀ k, 34 ≠ k → 30 ≠ k → U6 k = U5 k := fun k h1 h2 => by rw [hU6, upn h2, upn h1]
            have y29 : U6 29 = Dd := by rw [f6 29 (by decide) (by decide), f5 29 (by decide) (by decide), f4 29 (by decide), v3]
            have z31 : U6 31 = T (16 + 3 * p + (1 - d)) - T a := by rw [f6 31 (by decide) (by decide), f5 31 (by decide) (by decide), f4 31 (by decide), f3 31 (by decide) (by decide), f2 31 (by decide), v1]
            have g6 : ∀ k, k < 28 → U6 k = U k := fun k hk => by rw [f6 k (by omega) (by omega), f5 k (by omega) (by omega), g4 k hk]
            refine k_aload_n (pc := 134) C dX7_ask_134 rfl 2 rfl ?_
            refine k_bipush (pc := 135) (v := nI 30) C dX7_ask_135 (by decide) ?_
            refine k_bipush (pc := 137) (v := nI 29) C dX7_ask_137 (by decide) ?_
            refine cv_X7_111 (pc := 139) C E (c7_divides (a := 30) (b := 29) (by decide) (by decide) (by decide) (by decide) (by decide) (by decide) (by rw [y29]; exact e6) (by rw [y29]; omega) (by rw [v6]; omega)) rfl (by decide) cm_174 (by decide) rfl (Nat.le_of_ble_eq_true rfl) dX7_ask_139 (fun M139 h139 => ?_)
            subst h139
            rw [v6, y29]
            obtain ⟨U7, hU7⟩ : ∃ W, W = dv2 U6 (N / Dd) (N % Dd) := ⟨_, rfl⟩
            rw [← hU7]
            have q7 : U7 32 = N / Dd := by rw [hU7, dv_2]
            have r7 : U7 33 = N % Dd := by rw [hU7, dv_3]
            have f7 : ∀ k, 32 ≠ k → 33 ≠ k → U7 k = U6 k := fun k h1 h2 => by rw [hU7, dv_o h1 h2]
            have l5 := Nat.div_le_self N Dd
            have l4 : N % Dd < Dd := Nat.mod_lt _ e6
            have g7 : ∀ k, k < 28 → U7 k = U k := fun k hk => by rw [f7 k (by omega) (by omega), g6 k hk]
            have z37 : U7 31 = T (16 + 3 * p + (1 - d)) - T a := by rw [f7 31 (by decide) (by decide), z31]
            obtain ⟨g, hg⟩ : ∃ g, g = aN (T (16 + 3 * p + d)) (T (16 + 3 * p + (1 - d))) fP fQ (T a) := ⟨_, rfl⟩
            have hg2 : g = N / Dd + if gU 1 (N / Dd) (N % Dd) Dd = true then 1 else 0 := by rw [hg]; unfold aN rnd; rw [hN2, ← hDd]
            have hgb : g < 2 ^ 230 := by
              rw [hg2]
              have := ite1 (P := gU 1 (N / Dd) (N % Dd) Dd = true)
              generalize N / Dd = t at *
              omega
            have tail : ∀ W : Nat → Nat, (∀ k, k < 28 → W k = U k) → W 31 = T (16 + 3 * p + (1 - d)) - T a → W 32 = g → xK z (xw ad (cm ad ca (V, W, sc, ia, la)) 187) 0 0 157 [(6, .int (nI (16 + 3 * p + (1 - d)))), (5, .int (nI (16 + 3 * p + d))), (0, .ref (ad 174)), (1, .int (nI p)), (2, .int (nI d)), (3, .int (nI a)), (4, .int (nI x))] [] := by
              intro W gw w31 w32
              refine k_aload_n (pc := 157) C dX7_ask_157 rfl 2 rfl ?_
              refine k_bipush (pc := 158) (v := nI 28) C dX7_ask_158 (by decide) ?_
              refine k_iload (pc := 160) C dX7_ask_160 1 rfl ?_
              refine k_bipush (pc := 162) (v := nI 32) C dX7_ask_162 (by decide) ?_
              refine cv_X7_66 (pc := 164) C E (c7_plus (t := 28) (a := 16 + 3 * p + d) (b := 32) (by decide) (by omega) (by decide)) rfl (by decide) cm_174 (by decide) rfl (Nat.le_of_ble_eq_true rfl) dX7_ask_164 (fun M164 h164 => ?_)
              subst h164
              rw [gw _ (by omega), t0, w32]
              obtain ⟨U8, hU8⟩ : ∃ W9, W9 = va_up W (28) (T (16 + 3 * p + d) + g) := ⟨_, rfl⟩
              rw [← hU8]
              have v8 : U8 (28) = T (16 + 3 * p + d) + g := by rw [hU8, ups]
              have f8 : ∀ k, 28 ≠ k → U8 k = W k := fun k hk => by rw [hU8, upn hk]
              have g8 : ∀ k, k < 28 → U8 k = U k := fun k hk => by rw [f8 k (by omega), gw k hk]
              refine k_aload_n (pc := 167) C dX7_ask_167 rfl 2 rfl ?_
              refine k_bipush (pc := 168) (v := nI 28) C dX7_ask_168 (by decide) ?_
              refine cv_X7_175 (pc := 170) C E (c7_isSide (a := 28) (by decide) (by rw [v8]; omega)) rfl (by decide) cm_174 (by decide) rfl (Nat.le_of_ble_eq_true rfl) dX7_ask_170 (fun r170 M170 h170 => ?_)
              obtain ⟨rfl, rfl⟩ := h170
              rw [v8]
              refine k_if_ne (pc := 173) (tgt := 179) C dX7_ask_173 (by decide) (fun c173 => ?_) (fun c173 => ?_)
              · simp only [b01, Decidable.not_not] at c173
                refine k_aload_n (pc := 179) C dX7_ask_179 rfl 2 rfl ?_
                refine k_iload_n (pc := 180) C dX7_ask_180 rfl 5 rfl ?_
                refine cv_X7_99 (pc := 181) C E (c7_isZero (a := a) (by omega) (by rw [g8 a (by omega), hTa]; omega)) rfl (by decide) cm_174 (by decide) rfl (Nat.le_of_ble_eq_true rfl) dX7_ask_181 (fun r181 M181 h181 => ?_)
                obtain ⟨rfl, rfl⟩ := h181
                rw [g8 a (by omega), hTa]
                refine k_if_eq (pc := 184) (tgt := 190) C dX7_ask_184 (by decide) (fun c184 => ?_) (fun c184 => ?_)
                · simp only [b01, Decidable.not_not] at c184
                  refine k_aload_n (pc := 190) C dX7_ask_190 rfl 2 rfl ?_
                  refine k_iload (pc := 191) C dX7_ask_191 1 rfl ?_
                  refine k_bipush (pc := 193) (v := nI 28) C dX7_ask_193 (by decide) ?_
                  refine cv_X7_72 (pc := 195) C E (c7_copy (t := 16 + 3 * p + d) (a := 28) (by omega) (by decide)) rfl (by decide) cm_174 (by decide) rfl (Nat.le_of_ble_eq_true rfl) dX7_ask_195 (fun M195 h195 => ?_)
                  subst h195
                  rw [v8]
                  obtain ⟨U9, hU9⟩ : ∃ W, W = va_up U8 (16 + 3 * p + d) (T (16 + 3 * p + d) + g) := ⟨_, rfl⟩
                  rw [← hU9]
                  have v9 : U9 (16 + 3 * p + d) = T (16 + 3 * p + d) + g := by rw [hU9, ups]
                  have f9 : ∀ k, 16 + 3 * p + d ≠ k → U9 k = U8 k := fun k hk => by rw [hU9, upn hk]
                  refine k_aload_n (pc := 198) C dX7_ask_198 rfl 2 rfl ?_
                  refine k_iload (pc := 199) C dX7_ask_199 0 rfl ?_
                  refine k_bipush (pc := 201) (v := nI 31) C dX7_ask_201 (by decide) ?_
                  refine cv_X7_72 (pc := 203) C E (c7_copy (t := 16 + 3 * p + (1 - d)) (a := 31) (by omega) (by decide)) rfl (by decide) cm_174 (by decide) rfl (Nat.le_of_ble_eq_true rfl) dX7_ask_203 (fun M203 h203 => ?_)
                  subst h203
                  rw [f9 31 (by omega), f8 31 (by decide), w31]
                  obtain ⟨U10, hU10⟩ : ∃ W, W = va_up U9 (16 + 3 * p + (1 - d)) (T (16 + 3 * p + (1 - d)) - T a) := ⟨_, rfl⟩
                  rw [← hU10]
                  have v10 : U10 (16 + 3 * p + (1 - d)) = T (16 + 3 * p + (1 - d)) - T a := by rw [hU10, ups]
                  have f10 : ∀ k, 16 + 3 * p + (1 - d) ≠ k → U10 k = U9 k := fun k hk => by rw [hU10, upn hk]
                  refine k_aload_n (pc := 206) C dX7_ask_206 rfl 2 rfl ?_
                  refine k_iload (pc := 207) C dX7_ask_207 6 rfl ?_
                  refine k_bipush (pc := 209) (v := nI 32) C dX7_ask_209 (by decide) ?_
                  refine cv_X7_72 (pc := 211) C E (c7_copy (t := x) (a := 32) (by omega) (by decide)) rfl (by decide) cm_174 (by decide) rfl (Nat.le_of_ble_eq_true rfl) dX7_ask_211 (fun M211 h211 => ?_)
                  subst h211
                  rw [f10 32 (by omega), f9 32 (by omega), f8 32 (by decide), w32]
                  refine k_iconst (pc := 214) (v := nI 1) C dX7_ask_214 (by decide) ?_
                  exact r_i (pc := 215) C E (by
              have j9 : aR (T (16 + 3 * p + d)) (T (16 + 3 * p + (1 - d))) fP fQ (T a) = 1 := by unfold aR; rw [if_neg (by omega), ← hg, if_pos c173, if_neg c184]
              have e9 : sAsk T fp fq (nI p) (nI d) (nI a) (nI x) = (1, va_up (tup2 T p d (T (16 + 3 * p + d) + g) (T (16 + 3 * p + (1 - d)) - T a)) x g) := by
                unfold sAsk
                rw [if_pos c6]
                simp only [rI_n (show p < 2147483648 by omega), rI_n (show d < 2147483648 by omega), rI_n (show a < 2147483648 by omega), rI_n (show x < 2147483648 by omega), ← hfP, ← hfQ]
                rw [if_pos j9, ← hg]
              rw [e9, hU10, hU9]
              exact ⟨_, rfl, rfl, (((hT.o g8).up).up).up⟩) dX7_ask_215
                · simp only [b01, Decidable.not_not] at c184
                  refine k_bipush (pc := 187) (v := (-4)) C dX7_ask_187 (by decide) ?_
                  exact r_i (pc := 189) C E (by
              have j9 : aR (T (16 + 3 * p + d)) (T (16 + 3 * p + (1 - d))) fP fQ (T a) = -4 := by unfold aR; rw [if_neg (by omega), ← hg, if_pos c173, if_pos c184]
              have e9 : sAsk T fp fq (nI p) (nI d) (nI a) (nI x) = (-4, T) := by
                unfold sAsk
                rw [if_pos c6]
                simp only [rI_n (show p < 2147483648 by omega), rI_n (show d < 2147483648 by omega), rI_n (show a < 2147483648 by omega), rI_n (show x < 2147483648 by omega), ← hfP, ← hfQ, j9]
                rw [if_neg (by decide)]
              rw [e9]
              exact ⟨U8, rfl, rfl, hT.o g8⟩) dX7_ask_189
              · simp only [b01, Decidable.not_not] at c173
                refine k_bipush (pc := 176) (v := (-2)) C dX7_ask_176 (by decide) ?_
                exact r_i (pc := 178) C E (by
              have j9 : aR (T (16 + 3 * p + d)) (T (16 + 3 * p + (1 - d))) fP fQ (T a) = -2 := by unfold aR; rw [if_neg (by omega), ← hg, if_neg c173]
              have e9 : sAsk T fp fq (nI p) (nI d) (nI a) (nI x) = (-2, T) := by
                unfold sAsk
                rw [if_pos c6]
                simp only [rI_n (show p < 2147483648 by omega), rI_n (show d < 2147483648 by omega), rI_n (show a < 2147483648 by omega), rI_n (show x < 2147483648 by omega), ← hfP, ← hfQ, j9]
                rw [if_neg (by decide)]
              rw [e9]
              exact ⟨U8, rfl, rfl, hT.o g8⟩) dX7_ask_178
            refine k_aload_n (pc := 142) C dX7_ask_142 rfl 2 rfl ?_
            refine k_bipush (pc := 143) (v := nI 33) C dX7_ask_143 (by decide) ?_
            refine cv_X7_99 (pc := 145) C E (c7_isZero (a := 33) (by decide) (by rw [r7]; omega)) rfl (by decide) cm_174 (by decide) rfl (Nat.le_of_ble_eq_true rfl) dX7_ask_145 (fun r145 M145 h145 => ?_)
            obtain ⟨rfl, rfl⟩ := h145
            rw [r7]
            refine k_if_ne (pc := 148) (tgt := 157) C dX7_ask_148 (by decide) (fun c148 => ?_) (fun c148 => ?_)
            · simp only [b01, Decidable.not_not] at c148
              refine k_sub [0, 1, 2, 3, 4, 5, 6] rfl ?_
              first
                | exact tail U7 g7 z37 (by rw [q7, hg2, if_neg (fun h => by have h8 := (gU_m l4 (by decide)).mp h; unfold gM at h8; omega), Nat.add_zero])
                | exact tail _ (fun k hk => by rw [upn (by omega), upn (by omega), g7 k hk]) (by rw [upn (by decide), upn (by decide), z37]) (by rw [ups, hg2, if_pos ((gU_m l4 (by decide)).mpr (by unfold gM; omega))])
            · simp only [b01, Decidable.not_not] at c148
              refine k_aload_n (pc := 151) C dX7_ask_151 rfl 2 rfl ?_
              refine k_bipush (pc := 152) (v := nI 32) C dX7_ask_152 (by decide) ?_
              refine cv_X7_102 (pc := 154) C E (c7_one (t := 32) (by decide) (by decide)) rfl (by decide) cm_174 (by decide) rfl (Nat.le_of_ble_eq_true rfl) dX7_ask_154 (fun M154 h154 => ?_)
              subst h154
              rw [q7]
              refine k_sub [0, 1, 2, 3, 4, 5, 6] rfl ?_
              first
                | exact tail U7 g7 z37 (by rw [q7, hg2, if_neg (fun h => by have h8 := (gU_m l4 (by decide)).mp h; unfold gM at h8; omega), Nat.add_zero])
                | exact tail _ (fun k hk => by rw [upn (by omega), upn (by omega), g7 k hk]) (by rw [upn (by decide), upn (by decide), z37]) (by rw [ups, hg2, if_pos ((gU_m l4 (by decide)).mpr (by unfold gM; omega))])
          · rw [cmp_l0, hTa, t1] at c57
            refine k_bipush (pc := 60) (v := (-3)) C dX7_ask_60 (by decide) ?_
            exact r_i (pc := 62) C E (by
  have j9 : aR (T (16 + 3 * p + d)) (T (16 + 3 * p + (1 - d))) fP fQ (T a) = -3 := by unfold aR; rw [if_pos (by omega)]
  have e9 : sAsk T fp fq (nI p) (nI d) (nI a) (nI x) = (-3, T) := by
    unfold sAsk
    rw [if_pos c6]
    simp only [rI_n (show p < 2147483648 by omega), rI_n (show d < 2147483648 by omega), rI_n (show a < 2147483648 by omega), rI_n (show x < 2147483648 by omega), ← hfP, ← hfQ, j9]
    rw [if_neg (by decide)]
  rw [e9]
  exact ⟨U, rfl, rfl, hT⟩) dX7_ask_62
        · simp only [b01, Decidable.not_not] at c29
          refine k_iconst (pc := 32) (v := (-1)) C dX7_ask_32 (by decide) ?_
          exact r_i (pc := 33) C E (⟨U, rfl, by unfold sAsk; rw [if_neg (fun h => by first | exact c4 h.1 | exact c14 h.2.1 | exact c21 h.2.2.1 | exact c29 h.2.2.2)], by unfold sAsk; rw [if_neg (fun h => by first | exact c4 h.1 | exact c14 h.2.1 | exact c21 h.2.2.1 | exact c29 h.2.2.2)]; exact hT⟩) dX7_ask_33
set_option maxHeartbeats 4000000 in
set_option maxRecDepth 100000 in
/-- see -/
theorem c7_see {T : Nat → Nat} (hT : RM U T) (hB : TB T) {x0 w0 r0 : Int32} : xI l D (xty ca) yX7_see cX7_see 4 (some .int) 3 120 [.ref (ad 174), .int x0, .int w0, .int r0] ad (cm ad ca (V, U, sc, ia, la)) (fun r M' => ∃ U', M' = cm ad ca (V, U', sc, ia, la) ∧ r = (sSee T x0 w0 r0).1 ∧ RM U' (sSee T x0 w0 r0).2) := by
  refine xM.of (by decide) (Nat.le_of_ble_eq_true rfl) (fun z C E => ?_)
  refine k_iload_n (pc := 0) C dX7_see_0 rfl 1 rfl ?_
  refine cs_X7_168 (pc := 1) C E (c7_isPool) rfl (by decide) rfl (Nat.le_of_ble_eq_true rfl) dX7_see_1 (fun r1 M1 h1 => ?_)
  obtain ⟨rfl, rfl⟩ := h1
  refine k_if_eq (pc := 4) (tgt := 26) C dX7_see_4 (by decide) (fun c4 => ?_) (fun c4 => ?_)
  · simp only [b01, Decidable.not_not] at c4
    refine k_iconst (pc := 26) (v := (-1)) C dX7_see_26 (by decide) ?_
    exact r_i (pc := 27) C E (⟨U, rfl, by unfold sSee; rw [if_neg (fun h => by first | exact c4 h.1 | exact c16 h.2.1 | exact c23 h.2.2)], by unfold sSee; rw [if_neg (fun h => by first | exact c4 h.1 | exact c16 h.2.1 | exact c23 h.2.2)]; exact hT⟩) dX7_see_27
  · simp only [b01, Decidable.not_not] at c4
    refine k_iload_n (pc := 7) C dX7_see_7 rfl 2 rfl ?_
    refine k_i2l (pc := 8) C dX7_see_8 rfl ?_
    refine k_lconst (pc := 9) (v := lN 0) C dX7_see_9 (by decide) ?_
    refine k_ldc2 (pc := 10) C kc_X7_181 dX7_see_10 ?_
    refine k_eql (y := lN 2) rfl ?_
    refine cs_X7_56 (pc := 13) C E (c7_in) rfl (by decide) rfl (Nat.le_of_ble_eq_true rfl) dX7_see_13 (fun r13 M13 h13 => ?_)
    obtain ⟨rfl, rfl⟩ := h13
    simp only [in_r (show 2 < 2147483648 by decide)]
    refine k_if_eq (pc := 16) (tgt := 26) C dX7_see_16 (by decide) (fun c16 => ?_) (fun c16 => ?_)
    · simp only [b01, Decidable.not_not] at c16
      refine k_iconst (pc := 26) (v := (-1)) C dX7_see_26 (by decide) ?_
      exact r_i (pc := 27) C E (⟨U, rfl, by unfold sSee; rw [if_neg (fun h => by first | exact c4 h.1 | exact c16 h.2.1 | exact c23 h.2.2)], by unfold sSee; rw [if_neg (fun h => by first | exact c4 h.1 | exact c16 h.2.1 | exact c23 h.2.2)]; exact hT⟩) dX7_see_27
    · simp only [b01, Decidable.not_not] at c16
      refine k_iload_n (pc := 19) C dX7_see_19 rfl 3 rfl ?_
      refine cs_X7_85 (pc := 20) C E (c7_isRegister) rfl (by decide) rfl (Nat.le_of_ble_eq_true rfl) dX7_see_20 (fun r20 M20 h20 => ?_)
      obtain ⟨rfl, rfl⟩ := h20
      refine k_if_ne (pc := 23) (tgt := 28) C dX7_see_23 (by decide) (fun c23 => ?_) (fun c23 => ?_)
      · simp only [b01, Decidable.not_not] at c23
        have c6 : inR x0 4 ∧ inR w0 3 ∧ inR r0 16 := ⟨c4, c16, c23⟩
        obtain ⟨p, hp, rfl⟩ := inR_k c6.1
        obtain ⟨wv, hw, rfl⟩ := inR_k c6.2.1
        obtain ⟨x, hx, rfl⟩ := inR_k c6.2.2
        have t0 := hT (16 + 3 * p + wv) (by omega)
        refine k_aload_n (pc := 28) C dX7_see_28 rfl 0 rfl ?_
        refine k_iload_n (pc := 29) C dX7_see_29 rfl 3 rfl ?_
        refine k_iload_n (pc := 30) C dX7_see_30 rfl 1 rfl ?_
        refine k_iload_n (pc := 31) C dX7_see_31 rfl 2 rfl ?_
        refine cs_X7_172 (pc := 32) C E (c7_side hp (s := wv) hw) rfl (by decide) rfl (Nat.le_of_ble_eq_true rfl) dX7_see_32 (fun r32 M32 h32 => ?_)
        obtain ⟨rfl, rfl⟩ := h32
        refine cv_X7_72 (pc := 35) C E (c7_copy (t := x) (a := 16 + 3 * p + wv) (by omega) (by omega)) rfl (by decide) cm_174 (by decide) rfl (Nat.le_of_ble_eq_true rfl) dX7_see_35 (fun M35 h35 => ?_)
        subst h35
        rw [t0]
        refine k_iconst (pc := 38) (v := nI 1) C dX7_see_38 (by decide) ?_
        exact r_i (pc := 39) C E (⟨_, rfl, by unfold sSee; rw [if_pos c6]; rfl, by unfold sSee; rw [if_pos c6]; simp only [rI_n (show p < 2147483648 by omega), rI_n (show wv < 2147483648 by omega), rI_n (show x < 2147483648 by omega)]; exact hT.up⟩) dX7_see_39
      · simp only [b01, Decidable.not_not] at c23
        refine k_iconst (pc := 26) (v := (-1)) C dX7_see_26 (by decide) ?_
        exact r_i (pc := 27) C E (⟨U, rfl, by unfold sSee; rw [if_neg (fun h => by first | exact c4 h.1 | exact c16 h.2.1 | exact c23 h.2.2)], by unfold sSee; rw [if_neg (fun h => by first | exact c4 h.1 | exact c16 h.2.1 | exact c23 h.2.2)]; exact hT⟩) dX7_see_27
end MJ
