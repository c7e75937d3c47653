section MG
variable {l : Launch} {D : va_G} {ca : Nat → ClassId} {ad : Nat → Nat} {V U : Nat → Nat} {sc : Nat → Int32} {ia : Nat → Nat → Int32} {la : Nat → Nat → Int64}
theorem sKeep_5 {T : Nat → Nat} {k v : Nat} : ¬ (sKeep T k v).1 = -5 := by
  unfold sKeep
  by_cases h : v < 2 ^ 256
  · rw [if_pos h]; exact (by decide : ¬ (1 : Int32) = -5)
  · rw [if_neg h]; exact (by decide : ¬ (-2 : Int32) = -5)
set_option maxHeartbeats 4000000 in
set_option maxRecDepth 100000 in
/-- times -/
theorem c7_times {T : Nat → Nat} (hT : RM U T) (hB : TB T) {x0 y0 w0 : Int32} {a0 b0 : Int64} : xI l D (xty ca) yX7_times cX7_times 8 (some .int) 3 120 [.ref (ad 174), .int x0, .int y0, .long a0, .long b0, .int w0] ad (cm ad ca (V, U, sc, ia, la)) (fun r M' => ∃ U', M' = cm ad ca (V, U', va_up sc 30 (if (sTimes T x0 y0 a0 b0 w0).1 = -5 then 1 else 0), ia, la) ∧ r = (if (sTimes T x0 y0 a0 b0 w0).1 = -5 then 0 else (sTimes T x0 y0 a0 b0 w0).1) ∧ RM U' (sTimes T x0 y0 a0 b0 w0).2 ∧ ∀ k, 36 ≤ k → U' k = U k) := by
  refine xM.of (by decide) (Nat.le_of_ble_eq_true rfl) (fun z C E => ?_)
  refine k_aload_n (pc := 0) C dX7_times_0 rfl 0 rfl ?_
  refine k_iconst (pc := 1) (v := nI 0) C dX7_times_1 (by decide) ?_
  refine pf_X7_51 (pc := 2) C (174) (by decide) cm_174 (Nat.le_of_ble_eq_true rfl) dX7_times_2 ?_
  rw [cm_s30]
  refine k_iload_n (pc := 5) C dX7_times_5 rfl 1 rfl ?_
  refine cs_X7_85 (pc := 6) C E (c7_isRegister) rfl (by decide) rfl (Nat.le_of_ble_eq_true rfl) dX7_times_6 (fun r6 M6 h6 => ?_)
  obtain ⟨rfl, rfl⟩ := h6
  refine k_if_eq (pc := 9) (tgt := 45) C dX7_times_9 (by decide) (fun c9 => ?_) (fun c9 => ?_)
  · simp only [b01, Decidable.not_not] at c9
    refine k_iconst (pc := 45) (v := (-1)) C dX7_times_45 (by decide) ?_
    exact r_i (pc := 46) C E (by
  have e9 : sTimes T x0 y0 a0 b0 w0 = (-1, T) := by unfold sTimes; rw [if_neg (fun h => by first | exact c9 h.1 | exact c16 h.2.1 | exact c42 h.2.2.1 | (have := h.2.2.2.1; omega) | (have := h.2.2.2.2; omega))]
  rw [e9]
  exact ⟨U, rfl, rfl, hT, fun _ _ => rfl⟩) dX7_times_46
  · simp only [b01, Decidable.not_not] at c9
    refine k_iload_n (pc := 12) C dX7_times_12 rfl 2 rfl ?_
    refine cs_X7_85 (pc := 13) C E (c7_isRegister) rfl (by decide) rfl (Nat.le_of_ble_eq_true rfl) dX7_times_13 (fun r13 M13 h13 => ?_)
    obtain ⟨rfl, rfl⟩ := h13
    refine k_if_eq (pc := 16) (tgt := 45) C dX7_times_16 (by decide) (fun c16 => ?_) (fun c16 => ?_)
    · simp only [b01, Decidable.not_not] at c16
      refine k_iconst (pc := 45) (v := (-1)) C dX7_times_45 (by decide) ?_
      exact r_i (pc := 46) C E (by
  have e9 : sTimes T x0 y0 a0 b0 w0 = (-1, T) := by unfold sTimes; rw [if_neg (fun h => by first | exact c9 h.1 | exact c16 h.2.1 | exact c42 h.2.2.1 | (have := h.2.2.2.1; omega) | (have := h.2.2.2.2; omega))]
  rw [e9]
  exact ⟨U, rfl, rfl, hT, fun _ _ => rfl⟩) dX7_times_46
    · simp only [b01, Decidable.not_not] at c16
      refine k_lload_n (pc := 19) C dX7_times_19 rfl 3 rfl ?_
      refine k_lconst (pc := 20) (v := lN 0) C dX7_times_20 (by decide) ?_
      refine k_lcmp (pc := 21) C dX7_times_21 ?_
      refine k_if_lt (pc := 22) (tgt := 45) C dX7_times_22 (by decide) (fun c22 => ?_) (fun c22 => ?_)
      · rw [lg_lt0] at c22
        refine k_iconst (pc := 45) (v := (-1)) C dX7_times_45 (by decide) ?_
        exact r_i (pc := 46) C E (by
  have e9 : sTimes T x0 y0 a0 b0 w0 = (-1, T) := by unfold sTimes; rw [if_neg (fun h => by first | exact c9 h.1 | exact c16 h.2.1 | exact c42 h.2.2.1 | (have := h.2.2.2.1; omega) | (have := h.2.2.2.2; omega))]
  rw [e9]
  exact ⟨U, rfl, rfl, hT, fun _ _ => rfl⟩) dX7_times_46
      · rw [lg_lt0] at c22
        refine k_lload (pc := 25) C dX7_times_25 4 rfl ?_
        refine k_lconst (pc := 27) (v := lN 0) C dX7_times_27 (by decide) ?_
        refine k_lcmp (pc := 28) C dX7_times_28 ?_
        refine k_if_lt (pc := 29) (tgt := 45) C dX7_times_29 (by decide) (fun c29 => ?_) (fun c29 => ?_)
        · rw [lg_lt0] at c29
          refine k_iconst (pc := 45) (v := (-1)) C dX7_times_45 (by decide) ?_
          exact r_i (pc := 46) C E (by
  have e9 : sTimes T x0 y0 a0 b0 w0 = (-1, T) := by unfold sTimes; rw [if_neg (fun h => by first | exact c9 h.1 | exact c16 h.2.1 | exact c42 h.2.2.1 | (have := h.2.2.2.1; omega) | (have := h.2.2.2.2; omega))]
  rw [e9]
  exact ⟨U, rfl, rfl, hT, fun _ _ => rfl⟩) dX7_times_46
        · rw [lg_lt0] at c29
          refine k_iload (pc := 32) C dX7_times_32 5 rfl ?_
          refine k_i2l (pc := 34) C dX7_times_34 rfl ?_
          refine k_lconst (pc := 35) (v := lN 0) C dX7_times_35 (by decide) ?_
          refine k_ldc2 (pc := 36) C kc_X7_106 dX7_times_36 ?_
          refine k_eql (y := lN 4) rfl ?_
          refine cs_X7_56 (pc := 39) C E (c7_in) rfl (by decide) rfl (Nat.le_of_ble_eq_true rfl) dX7_times_39 (fun r39 M39 h39 => ?_)
          obtain ⟨rfl, rfl⟩ := h39
          simp only [in_r (show 4 < 2147483648 by decide)]
          refine k_if_ne (pc := 42) (tgt := 47) C dX7_times_42 (by decide) (fun c42 => ?_) (fun c42 => ?_)
          · simp only [b01, Decidable.not_not] at c42
            have c6 : inR x0 16 ∧ inR y0 16 ∧ inR w0 5 ∧ 0 ≤ a0.toInt ∧ 0 ≤ b0.toInt := ⟨c9, c16, c42, by omega, by omega⟩
            obtain ⟨x, hx, rfl⟩ := inR_k c9
            obtain ⟨y, hy, rfl⟩ := inR_k c16
            obtain ⟨w, hw, rfl⟩ := inR_k c42
            obtain ⟨a, ha, rfl⟩ := lOf (show 0 ≤ a0.toInt by omega)
            obtain ⟨b, hb, rfl⟩ := lOf (show 0 ≤ b0.toInt by omega)
            have hTy := hT y (by omega)
            have by1 := hB.1 y hy
            have pa := pk_lT ha
            have pb := pk_lT hb
            refine k_aload_n (pc := 47) C dX7_times_47 rfl 0 rfl ?_
            refine k_lload (pc := 48) C dX7_times_48 4 rfl ?_
            refine k_lconst (pc := 50) (v := lN 0) C dX7_times_50 (by decide) ?_
            refine k_lcmp (pc := 51) C dX7_times_51 ?_
            refine k_if_ne (pc := 52) (tgt := 59) C dX7_times_52 (by decide) (fun c52 => ?_) (fun c52 => ?_)
            · rw [c_eq hb (by decide)] at c52
              refine k_iconst (pc := 59) (v := nI 0) C dX7_times_59 (by decide) ?_
              refine pf_X7_51 (pc := 60) C (174) (by decide) cm_174 (Nat.le_of_ble_eq_true rfl) dX7_times_60 ?_
              rw [cm_s30, bx_uu]
              refine k_aload_n (pc := 63) C dX7_times_63 rfl 0 rfl ?_
              refine gf_X7_51 (pc := 64) C (174) (by decide) cm_174 rfl dX7_times_64 ?_
              refine k_if_le (pc := 67) (tgt := 72) C dX7_times_67 (by decide) (fun c67 => ?_) (fun c67 => ?_)
              · rw [upIs] at c67
                refine k_aload_n (pc := 72) C dX7_times_72 rfl 0 rfl ?_
                refine k_bipush (pc := 73) (v := nI 29) C dX7_times_73 (by decide) ?_
                refine k_lload_n (pc := 75) C dX7_times_75 rfl 3 rfl ?_
                refine cv_X7_62 (pc := 76) C E (c7_set (t := 29) (a := a) (by decide) ha) rfl (by decide) cm_174 (by decide) rfl (Nat.le_of_ble_eq_true rfl) dX7_times_76 (fun M76 h76 => ?_)
                subst h76
                obtain ⟨U1, hU1⟩ : ∃ W, W = va_up U (29) (a) := ⟨_, rfl⟩
                rw [← hU1]
                have v1 : U1 (29) = a := by rw [hU1, ups]
                have f1 : ∀ k, 29 ≠ k → U1 k = U k := fun k hk => by rw [hU1, upn hk]
                refine k_aload_n (pc := 79) C dX7_times_79 rfl 0 rfl ?_
                refine k_bipush (pc := 80) (v := nI 30) C dX7_times_80 (by decide) ?_
                refine k_iload_n (pc := 82) C dX7_times_82 rfl 2 rfl ?_
                refine k_bipush (pc := 83) (v := nI 29) C dX7_times_83 (by decide) ?_
                refine cv_X7_108 (pc := 85) C E (c7_product (t := 30) (a := y) (b := 29) (by decide) (by omega) (by decide) (by omega) (by decide) (by rw [f1 y (by omega), hTy]; omega)) rfl (by decide) cm_174 (by decide) rfl (Nat.le_of_ble_eq_true rfl) dX7_times_85 (fun M85 h85 => ?_)
                subst h85
                rw [v1, f1 y (by omega), hTy]
                obtain ⟨U2, hU2⟩ : ∃ W, W = va_up (va_up U1 34 (T y * a)) (30) (T y * a) := ⟨_, rfl⟩
                rw [← hU2]
                have v2 : U2 (30) = T y * a := by rw [hU2, ups]
                have f2 : ∀ k, 34 ≠ k → 30 ≠ k → U2 k = U1 k := fun k h1 h2 => by rw [hU2, upn h2, upn h1]
                refine k_aload_n (pc := 88) C dX7_times_88 rfl 0 rfl ?_
                refine k_bipush (pc := 89) (v := nI 29) C dX7_times_89 (by decide) ?_
                refine k_lload (pc := 91) C dX7_times_91 4 rfl ?_
                refine cv_X7_62 (pc := 93) C E (c7_set (t := 29) (a := b) (by decide) hb) rfl (by decide) cm_174 (by decide) rfl (Nat.le_of_ble_eq_true rfl) dX7_times_93 (fun M93 h93 => ?_)
                subst h93
                obtain ⟨U3, hU3⟩ : ∃ W, W = va_up U2 (29) (b) := ⟨_, rfl⟩
                rw [← hU3]
                have v3 : U3 (29) = b := by rw [hU3, ups]
                have f3 : ∀ k, 29 ≠ k → U3 k = U2 k := fun k hk => by rw [hU3, upn hk]
                have n3 : U3 30 = T y * a := by rw [f3 30 (by decide), v2]
                have hN : T y * a < 2 ^ 319 := by
                  have h := Nat.mul_lt_mul_of_lt_of_le by1 (Nat.le_of_lt ha) (by decide)
                  omega
                refine k_aload_n (pc := 96) C dX7_times_96 rfl 0 rfl ?_
                refine k_bipush (pc := 97) (v := nI 30) C dX7_times_97 (by decide) ?_
                refine k_bipush (pc := 99) (v := nI 29) C dX7_times_99 (by decide) ?_
                refine cv_X7_111 (pc := 101) C E (c7_divides (a := 30) (b := 29) (by decide) (by decide) (by decide) (by decide) (by decide) (by decide) (by rw [v3]; omega) (by rw [v3]; omega) (by rw [n3]; omega)) rfl (by decide) cm_174 (by decide) rfl (Nat.le_of_ble_eq_true rfl) dX7_times_101 (fun M101 h101 => ?_)
                subst h101
                rw [n3, v3]
                obtain ⟨U4, hU4⟩ : ∃ W, W = dv2 U3 (T y * a / b) (T y * a % b) := ⟨_, rfl⟩
                rw [← hU4]
                have q4 : U4 32 = T y * a / b := by rw [hU4, dv_2]
                have r4 : U4 33 = T y * a % b := by rw [hU4, dv_3]
                have f4 : ∀ k, 32 ≠ k → 33 ≠ k → U4 k = U3 k := fun k h1 h2 => by rw [hU4, dv_o h1 h2]
                have b4 : U4 29 = b := by rw [f4 29 (by decide) (by decide), v3]
                have l4 : T y * a % b < b := Nat.mod_lt _ (by omega)
                have l5 := Nat.div_le_self (T y * a) b
                refine k_aload_n (pc := 104) C dX7_times_104 rfl 0 rfl ?_
                refine k_bipush (pc := 105) (v := nI 29) C dX7_times_105 (by decide) ?_
                refine k_iload (pc := 107) C dX7_times_107 5 rfl ?_
                refine cv_X7_114 (pc := 109) C E (c7_rounds (b := 29) (w := w) (by decide) (by omega) (by decide) (by rw [r4, b4]; exact l4) (by rw [b4]; omega) (by rw [q4]; omega)) rfl (by decide) cm_174 (by decide) rfl (Nat.le_of_ble_eq_true rfl) dX7_times_109 (fun M109 h109 => ?_)
                obtain ⟨U5, rfl, q5, f5⟩ := h109
                rw [q4, r4, b4] at q5
                have vv : U5 32 = rnd w (T y * a) b := q5
                have vb : U5 32 < 4294967296 ^ 12 := by
                  rw [q5]
                  have := ite1 (P := gU w (T y * a / b) (T y * a % b) b = true)
                  generalize T y * a / b = q at *
                  omega
                have fr : ∀ k, k < 28 ∨ 36 ≤ k → U5 k = U k := fun k hk => by rw [f5 k (by omega) (by omega) (by omega), f4 k (by omega) (by omega), f3 k (by omega), f2 k (by omega) (by omega), f1 k (by omega)]
                refine k_aload_n (pc := 112) C dX7_times_112 rfl 0 rfl ?_
                refine k_iload_n (pc := 113) C dX7_times_113 rfl 1 rfl ?_
                refine k_bipush (pc := 114) (v := nI 32) C dX7_times_114 (by decide) ?_
                refine cv_X7_96 (pc := 116) C E (c7_keep (j := 32) (k := x) (by decide) (by omega) vb) rfl (by decide) cm_174 (by decide) rfl (Nat.le_of_ble_eq_true rfl) dX7_times_116 (fun r116 M116 h116 => ?_)
                exact r_i (pc := 119) C E (by
  have e9 : sTimes T (nI x) (nI y) (lN a) (lN b) (nI w) = sKeep T x (rnd w (T y * a) b) := by
    unfold sTimes
    rw [if_pos c6, if_neg (by omega)]
    simp only [pa, pb, Int.toNat_natCast, rI_n (show x < 2147483648 by omega), rI_n (show y < 2147483648 by omega), rI_n (show w < 2147483648 by omega)]
  rw [e9, if_neg sKeep_5, if_neg sKeep_5]
  obtain ⟨W, rfl, h9⟩ := h116
  refine ⟨W, rfl, ?_⟩
  unfold sKeep
  rw [vv] at h9
  by_cases hs : rnd w (T y * a) b < 2 ^ 256
  · rw [if_pos hs] at h9 ⊢
    obtain ⟨rfl, rfl⟩ := h9
    exact ⟨rfl, (hT.o (fun k hk => fr k (Or.inl hk))).up, fun k h1 => by rw [upn (by omega)]; exact fr k (Or.inr h1)⟩
  · rw [if_neg hs] at h9 ⊢
    obtain ⟨rfl, rfl⟩ := h9
    exact ⟨rfl, hT.o (fun k hk => fr k (Or.inl hk)), fun k h1 => fr k (Or.inr h1)⟩) dX7_times_119
              · rw [upIs] at c67
                exact absurd (by decide) c67
            · rw [c_eq hb (by decide)] at c52
              refine k_iconst (pc := 55) (v := nI 1) C dX7_times_55 (by decide) ?_
              refine k_goto (pc := 56) (tgt := 60) C dX7_times_56 (by decide) ?_
              refine pf_X7_51 (pc := 60) C (174) (by decide) cm_174 (Nat.le_of_ble_eq_true rfl) dX7_times_60 ?_
              rw [cm_s30, bx_uu]
              refine k_aload_n (pc := 63) C dX7_times_63 rfl 0 rfl ?_
              refine gf_X7_51 (pc := 64) C (174) (by decide) cm_174 rfl dX7_times_64 ?_
              refine k_if_le (pc := 67) (tgt := 72) C dX7_times_67 (by decide) (fun c67 => ?_) (fun c67 => ?_)
              · rw [upIs] at c67
                exact absurd c67 (by decide)
              · skip
                refine k_iconst (pc := 70) (v := nI 0) C dX7_times_70 (by decide) ?_
                exact r_i (pc := 71) C E (by
  have e9 : sTimes T (nI x) (nI y) (lN a) (lN b) (nI w) = (-5, T) := by unfold sTimes; rw [if_pos c6, if_pos (by omega)]
  rw [e9]
  exact ⟨U, rfl, rfl, hT, fun _ _ => rfl⟩) dX7_times_71
          · simp only [b01, Decidable.not_not] at c42
            refine k_iconst (pc := 45) (v := (-1)) C dX7_times_45 (by decide) ?_
            exact r_i (pc := 46) C E (by
  have e9 : sTimes T x0 y0 a0 b0 w0 = (-1, T) := by unfold sTimes; rw [if_neg (fun h => by first | exact c9 h.1 | exact c16 h.2.1 | exact c42 h.2.2.1 | (have := h.2.2.2.1; omega) | (have := h.2.2.2.2; omega))]
  rw [e9]
  exact ⟨U, rfl, rfl, hT, fun _ _ => rfl⟩) dX7_times_46
set_option maxHeartbeats 4000000 in
set_option maxRecDepth 100000 in
/-- divide -/
theorem c7_divide {T : Nat → Nat} (hT : RM U T) (hB : TB T) {x0 y0 t0 : Int32} : xI l D (xty ca) yX7_divide cX7_divide 4 (some .int) 3 120 [.ref (ad 174), .int x0, .int y0, .int t0] ad (cm ad ca (V, U, sc, ia, la)) (fun r M' => ∃ U', M' = cm ad ca (V, U', va_up sc 30 (if (sDiv T x0 y0 t0).1 = -5 then 1 else 0), ia, la) ∧ r = (if (sDiv T x0 y0 t0).1 = -5 then 0 else (sDiv T x0 y0 t0).1) ∧ RM U' (sDiv T x0 y0 t0).2 ∧ ∀ k, 36 ≤ k → U' k = U k) := by
  refine xM.of (by decide) (Nat.le_of_ble_eq_true rfl) (fun z C E => ?_)
  refine k_aload_n (pc := 0) C dX7_divide_0 rfl 0 rfl ?_
  refine k_iconst (pc := 1) (v := nI 0) C dX7_divide_1 (by decide) ?_
  refine pf_X7_51 (pc := 2) C (174) (by decide) cm_174 (Nat.le_of_ble_eq_true rfl) dX7_divide_2 ?_
  rw [cm_s30]
  refine k_iload_n (pc := 5) C dX7_divide_5 rfl 1 rfl ?_
  refine cs_X7_85 (pc := 6) C E (c7_isRegister) rfl (by decide) rfl (Nat.le_of_ble_eq_true rfl) dX7_divide_6 (fun r6 M6 h6 => ?_)
  obtain ⟨rfl, rfl⟩ := h6
  refine k_if_eq (pc := 9) (tgt := 26) C dX7_divide_9 (by decide) (fun c9 => ?_) (fun c9 => ?_)
  · simp only [b01, Decidable.not_not] at c9
    refine k_iconst (pc := 26) (v := (-1)) C dX7_divide_26 (by decide) ?_
    exact r_i (pc := 27) C E (by
  have e9 : sDiv T x0 y0 t0 = (-1, T) := by unfold sDiv; rw [if_neg (fun h => by first | exact c9 h.1 | exact c16 h.2.1 | exact c23 h.2.2)]
  rw [e9]
  exact ⟨U, rfl, rfl, hT, fun _ _ => rfl⟩) dX7_divide_27
  · simp only [b01, Decidable.not_not] at c9
    refine k_iload_n (pc := 12) C dX7_divide_12 rfl 2 rfl ?_
    refine cs_X7_85 (pc := 13) C E (c7_isRegister) rfl (by decide) rfl (Nat.le_of_ble_eq_true rfl) dX7_divide_13 (fun r13 M13 h13 => ?_)
    obtain ⟨rfl, rfl⟩ := h13
    refine k_if_eq (pc := 16) (tgt := 26) C dX7_divide_16 (by decide) (fun c16 => ?_) (fun c16 => ?_)
    · simp only [b01, Decidable.not_not] at c16
      refine k_iconst (pc := 26) (v := (-1)) C dX7_divide_26 (by decide) ?_
      exact r_i (pc := 27) C E (by
  have e9 : sDiv T x0 y0 t0 = (-1, T) := by unfold sDiv; rw [if_neg (fun h => by first | exact c9 h.1 | exact c16 h.2.1 | exact c23 h.2.2)]
  rw [e9]
  exact ⟨U, rfl, rfl, hT, fun _ _ => rfl⟩) dX7_divide_27
    · simp only [b01, Decidable.not_not] at c16
      refine k_iload_n (pc := 19) C dX7_divide_19 rfl 3 rfl ?_
      refine cs_X7_85 (pc := 20) C E (c7_isRegister) rfl (by decide) rfl (Nat.le_of_ble_eq_true rfl) dX7_divide_20 (fun r20 M20 h20 => ?_)
      obtain ⟨rfl, rfl⟩ := h20
      refine k_if_ne (pc := 23) (tgt := 28) C dX7_divide_23 (by decide) (fun c23 => ?_) (fun c23 => ?_)
      · simp only [b01, Decidable.not_not] at c23
        have c6 : ok3 x0 y0 t0 := ⟨c9, c16, c23⟩
        obtain ⟨x, hx, rfl⟩ := inR_k c9
        obtain ⟨y, hy, rfl⟩ := inR_k c16
        obtain ⟨t, ht, rfl⟩ := inR_k c23
        have hTy := hT y (by omega)
        have hTt := hT t (by omega)
        have by1 := hB.1 y hy
        have bt1 := hB.1 t ht
        refine k_aload_n (pc := 28) C dX7_divide_28 rfl 0 rfl ?_
        refine k_aload_n (pc := 29) C dX7_divide_29 rfl 0 rfl ?_
        refine k_iload_n (pc := 30) C dX7_divide_30 rfl 3 rfl ?_
        refine cv_X7_99 (pc := 31) C E (c7_isZero (a := t) (by omega) (by rw [hTt]; omega)) rfl (by decide) cm_174 (by decide) rfl (Nat.le_of_ble_eq_true rfl) dX7_divide_31 (fun r31 M31 h31 => ?_)
        obtain ⟨rfl, rfl⟩ := h31
        refine k_if_eq (pc := 34) (tgt := 41) C dX7_divide_34 (by decide) (fun c34 => ?_) (fun c34 => ?_)
        · simp only [b01, Decidable.not_not, hTt] at c34
          refine k_iconst (pc := 41) (v := nI 0) C dX7_divide_41 (by decide) ?_
          refine pf_X7_51 (pc := 42) C (174) (by decide) cm_174 (Nat.le_of_ble_eq_true rfl) dX7_divide_42 ?_
          rw [cm_s30, bx_uu]
          refine k_aload_n (pc := 45) C dX7_divide_45 rfl 0 rfl ?_
          refine gf_X7_51 (pc := 46) C (174) (by decide) cm_174 rfl dX7_divide_46 ?_
          refine k_if_le (pc := 49) (tgt := 54) C dX7_divide_49 (by decide) (fun c49 => ?_) (fun c49 => ?_)
          · rw [upIs] at c49
            refine k_aload_n (pc := 54) C dX7_divide_54 rfl 0 rfl ?_
            refine k_iload_n (pc := 55) C dX7_divide_55 rfl 2 rfl ?_
            refine k_iload_n (pc := 56) C dX7_divide_56 rfl 3 rfl ?_
            refine cv_X7_111 (pc := 57) C E (c7_divides (a := y) (b := t) (by omega) (by omega) (by omega) (by omega) (by omega) (by omega) (by rw [hTt]; omega) (by rw [hTt]; omega) (by rw [hTy]; omega)) rfl (by decide) cm_174 (by decide) rfl (Nat.le_of_ble_eq_true rfl) dX7_divide_57 (fun M57 h57 => ?_)
            subst h57
            rw [hTy, hTt]
            obtain ⟨U1, hU1⟩ : ∃ W, W = dv2 U (T y / T t) (T y % T t) := ⟨_, rfl⟩
            rw [← hU1]
            have q1 : U1 32 = T y / T t := by rw [hU1, dv_2]
            have r1 : U1 33 = T y % T t := by rw [hU1, dv_3]
            have f1 : ∀ k, 32 ≠ k → 33 ≠ k → U1 k = U k := fun k h1 h2 => by rw [hU1, dv_o h1 h2]
            refine k_aload_n (pc := 60) C dX7_divide_60 rfl 0 rfl ?_
            refine k_iload_n (pc := 61) C dX7_divide_61 rfl 1 rfl ?_
            refine k_bipush (pc := 62) (v := nI 32) C dX7_divide_62 (by decide) ?_
            refine cv_X7_72 (pc := 64) C E (c7_copy (t := x) (a := 32) (by omega) (by decide)) rfl (by decide) cm_174 (by decide) rfl (Nat.le_of_ble_eq_true rfl) dX7_divide_64 (fun M64 h64 => ?_)
            subst h64
            rw [q1]
            refine k_iconst (pc := 67) (v := nI 1) C dX7_divide_67 (by decide) ?_
            exact r_i (pc := 68) C E (by
  have e9 : sDiv T (nI x) (nI y) (nI t) = (1, va_up T x (T y / T t)) := by unfold sDiv; rw [if_pos c6]; simp only [rI_n (show x < 2147483648 by omega), rI_n (show y < 2147483648 by omega), rI_n (show t < 2147483648 by omega)]; rw [if_neg c34]
  rw [e9]
  exact ⟨_, rfl, rfl, (hT.o (fun k hk => f1 k (by omega) (by omega))).up, fun k h1 => by rw [upn (by omega)]; exact f1 k (by omega) (by omega)⟩) dX7_divide_68
          · rw [upIs] at c49
            exact absurd (by decide) c49
        · simp only [b01, Decidable.not_not, hTt] at c34
          refine k_iconst (pc := 37) (v := nI 1) C dX7_divide_37 (by decide) ?_
          refine k_goto (pc := 38) (tgt := 42) C dX7_divide_38 (by decide) ?_
          refine pf_X7_51 (pc := 42) C (174) (by decide) cm_174 (Nat.le_of_ble_eq_true rfl) dX7_divide_42 ?_
          rw [cm_s30, bx_uu]
          refine k_aload_n (pc := 45) C dX7_divide_45 rfl 0 rfl ?_
          refine gf_X7_51 (pc := 46) C (174) (by decide) cm_174 rfl dX7_divide_46 ?_
          refine k_if_le (pc := 49) (tgt := 54) C dX7_divide_49 (by decide) (fun c49 => ?_) (fun c49 => ?_)
          · rw [upIs] at c49
            exact absurd c49 (by decide)
          · skip
            refine k_iconst (pc := 52) (v := nI 0) C dX7_divide_52 (by decide) ?_
            exact r_i (pc := 53) C E (by
  have e9 : sDiv T (nI x) (nI y) (nI t) = (-5, T) := by unfold sDiv; rw [if_pos c6]; simp only [rI_n (show x < 2147483648 by omega), rI_n (show y < 2147483648 by omega), rI_n (show t < 2147483648 by omega)]; rw [if_pos c34]
  rw [e9]
  exact ⟨U, rfl, rfl, hT, fun _ _ => rfl⟩) dX7_divide_53
      · simp only [b01, Decidable.not_not] at c23
        refine k_iconst (pc := 26) (v := (-1)) C dX7_divide_26 (by decide) ?_
        exact r_i (pc := 27) C E (by
  have e9 : sDiv T x0 y0 t0 = (-1, T) := by unfold sDiv; rw [if_neg (fun h => by first | exact c9 h.1 | exact c16 h.2.1 | exact c23 h.2.2)]
  rw [e9]
  exact ⟨U, rfl, rfl, hT, fun _ _ => rfl⟩) dX7_divide_27
set_option maxHeartbeats 4000000 in
set_option maxRecDepth 100000 in
/-- round -/
theorem c7_round {T : Nat → Nat} (hT : RM U T) (hB : TB T) {x0 y0 u0 w0 : Int32} : xI l D (xty ca) yX7_round cX7_round 5 (some .int) 3 120 [.ref (ad 174), .int x0, .int y0, .int u0, .int w0] ad (cm ad ca (V, U, sc, ia, la)) (fun r M' => ∃ U', M' = cm ad ca (V, U', sc, ia, la) ∧ r = (sRound T x0 y0 u0 w0).1 ∧ RM U' (sRound T x0 y0 u0 w0).2) := by
  refine xM.of (by decide) (Nat.le_of_ble_eq_true rfl) (fun z C E => ?_)
  refine k_iload_n (pc := 0) C dX7_round_0 rfl 1 rfl ?_
  refine cs_X7_85 (pc := 1) C E (c7_isRegister) rfl (by decide) rfl (Nat.le_of_ble_eq_true rfl) dX7_round_1 (fun r1 M1 h1 => ?_)
  obtain ⟨rfl, rfl⟩ := h1
  refine k_if_eq (pc := 4) (tgt := 39) C dX7_round_4 (by decide) (fun c4 => ?_) (fun c4 => ?_)
  · simp only [b01, Decidable.not_not] at c4
    refine k_iconst (pc := 39) (v := (-1)) C dX7_round_39 (by decide) ?_
    exact r_i (pc := 40) C E (⟨U, rfl, by unfold sRound; rw [if_neg (fun h => by first | exact c4 h.1 | exact c11 h.2.1 | exact c23 h.2.2.1 | exact c36 h.2.2.2)], by unfold sRound; rw [if_neg (fun h => by first | exact c4 h.1 | exact c11 h.2.1 | exact c23 h.2.2.1 | exact c36 h.2.2.2)]; exact hT⟩) dX7_round_40
  · simp only [b01, Decidable.not_not] at c4
    refine k_iload_n (pc := 7) C dX7_round_7 rfl 2 rfl ?_
    refine cs_X7_85 (pc := 8) C E (c7_isRegister) rfl (by decide) rfl (Nat.le_of_ble_eq_true rfl) dX7_round_8 (fun r8 M8 h8 => ?_)
    obtain ⟨rfl, rfl⟩ := h8
    refine k_if_eq (pc := 11) (tgt := 39) C dX7_round_11 (by decide) (fun c11 => ?_) (fun c11 => ?_)
    · simp only [b01, Decidable.not_not] at c11
      refine k_iconst (pc := 39) (v := (-1)) C dX7_round_39 (by decide) ?_
      exact r_i (pc := 40) C E (⟨U, rfl, by unfold sRound; rw [if_neg (fun h => by first | exact c4 h.1 | exact c11 h.2.1 | exact c23 h.2.2.1 | exact c36 h.2.2.2)], by unfold sRound; rw [if_neg (fun h => by first | exact c4 h.1 | exact c11 h.2.1 | exact c23 h.2.2.1 | exact c36 h.2.2.2)]; exact hT⟩) dX7_round_40
    · simp only [b01, Decidable.not_not] at c11
      refine k_iload_n (pc := 14) C dX7_round_14 rfl 3 rfl ?_
      refine k_i2l (pc := 15) C dX7_round_15 rfl ?_
      refine k_lconst (pc := 16) (v := lN 0) C dX7_round_16 (by decide) ?_
      refine k_ldc2 (pc := 17) C kc_X7_119 dX7_round_17 ?_
      refine k_eql (y := lN 18) rfl ?_
      refine cs_X7_56 (pc := 20) C E (c7_in) rfl (by decide) rfl (Nat.le_of_ble_eq_true rfl) dX7_round_20 (fun r20 M20 h20 => ?_)
      obtain ⟨rfl, rfl⟩ := h20
      simp only [in_r (show 18 < 2147483648 by decide)]
      refine k_if_eq (pc := 23) (tgt := 39) C dX7_round_23 (by decide) (fun c23 => ?_) (fun c23 => ?_)
      · simp only [b01, Decidable.not_not] at c23
        refine k_iconst (pc := 39) (v := (-1)) C dX7_round_39 (by decide) ?_
        exact r_i (pc := 40) C E (⟨U, rfl, by unfold sRound; rw [if_neg (fun h => by first | exact c4 h.1 | exact c11 h.2.1 | exact c23 h.2.2.1 | exact c36 h.2.2.2)], by unfold sRound; rw [if_neg (fun h => by first | exact c4 h.1 | exact c11 h.2.1 | exact c23 h.2.2.1 | exact c36 h.2.2.2)]; exact hT⟩) dX7_round_40
      · simp only [b01, Decidable.not_not] at c23
        refine k_iload (pc := 26) C dX7_round_26 4 rfl ?_
        refine k_i2l (pc := 28) C dX7_round_28 rfl ?_
        refine k_lconst (pc := 29) (v := lN 0) C dX7_round_29 (by decide) ?_
        refine k_ldc2 (pc := 30) C kc_X7_106 dX7_round_30 ?_
        refine k_eql (y := lN 4) rfl ?_
        refine cs_X7_56 (pc := 33) C E (c7_in) rfl (by decide) rfl (Nat.le_of_ble_eq_true rfl) dX7_round_33 (fun r33 M33 h33 => ?_)
        obtain ⟨rfl, rfl⟩ := h33
        simp only [in_r (show 4 < 2147483648 by decide)]
        refine k_if_ne (pc := 36) (tgt := 41) C dX7_round_36 (by decide) (fun c36 => ?_) (fun c36 => ?_)
        · simp only [b01, Decidable.not_not] at c36
          have c6 : inR x0 16 ∧ inR y0 16 ∧ inR u0 19 ∧ inR w0 5 := ⟨c4, c11, c23, c36⟩
          obtain ⟨x, hx, rfl⟩ := inR_k c4
          obtain ⟨y, hy, rfl⟩ := inR_k c11
          obtain ⟨u, hu, rfl⟩ := inR_k c23
          obtain ⟨w, hw, rfl⟩ := inR_k c36
          have hTy := hT y (by omega)
          have by1 := hB.1 y hy
          have hp0 : 0 < 10 ^ u := Nat.pow_pos (by decide)
          have hp1 : 10 ^ u ≤ 10 ^ 18 := Nat.pow_le_pow_right (by decide) (by omega)
          obtain ⟨p, hp⟩ : ∃ p, p = 10 ^ u := ⟨_, rfl⟩
          rw [← hp] at hp0 hp1
          refine k_aload_n (pc := 41) C dX7_round_41 rfl 0 rfl ?_
          refine k_bipush (pc := 42) (v := nI 29) C dX7_round_42 (by decide) ?_
          refine k_iload_n (pc := 44) C dX7_round_44 rfl 3 rfl ?_
          refine cs_X7_121 (pc := 45) C E (c7_ten hu) rfl (by decide) rfl (Nat.le_of_ble_eq_true rfl) dX7_round_45 (fun r45 M45 h45 => ?_)
          obtain ⟨rfl, rfl⟩ := h45
          rw [← hp]
          refine cv_X7_62 (pc := 48) C E (c7_set (t := 29) (a := p) (by decide) (by omega)) rfl (by decide) cm_174 (by decide) rfl (Nat.le_of_ble_eq_true rfl) dX7_round_48 (fun M48 h48 => ?_)
          subst h48
          obtain ⟨U1, hU1⟩ : ∃ W, W = va_up U (29) (p) := ⟨_, rfl⟩
          rw [← hU1]
          have v1 : U1 (29) = p := by rw [hU1, ups]
          have f1 : ∀ k, 29 ≠ k → U1 k = U k := fun k hk => by rw [hU1, upn hk]
          refine k_aload_n (pc := 51) C dX7_round_51 rfl 0 rfl ?_
          refine k_iload_n (pc := 52) C dX7_round_52 rfl 2 rfl ?_
          refine k_bipush (pc := 53) (v := nI 29) C dX7_round_53 (by decide) ?_
          refine cv_X7_111 (pc := 55) C E (c7_divides (a := y) (b := 29) (by omega) (by decide) (by omega) (by omega) (by decide) (by decide) (by rw [v1]; exact hp0) (by rw [v1]; omega) (by rw [f1 y (by omega), hTy]; omega)) rfl (by decide) cm_174 (by decide) rfl (Nat.le_of_ble_eq_true rfl) dX7_round_55 (fun M55 h55 => ?_)
          subst h55
          rw [f1 y (by omega), hTy, v1]
          obtain ⟨U2, hU2⟩ : ∃ W, W = dv2 U1 (T y / p) (T y % p) := ⟨_, rfl⟩
          rw [← hU2]
          have q2 : U2 32 = T y / p := by rw [hU2, dv_2]
          have r2 : U2 33 = T y % p := by rw [hU2, dv_3]
          have f2 : ∀ k, 32 ≠ k → 33 ≠ k → U2 k = U1 k := fun k h1 h2 => by rw [hU2, dv_o h1 h2]
          have b2 : U2 29 = p := by rw [f2 29 (by decide) (by decide), v1]
          have l4 : T y % p < p := Nat.mod_lt _ hp0
          have l5 := Nat.div_le_self (T y) p
          refine k_aload_n (pc := 58) C dX7_round_58 rfl 0 rfl ?_
          refine k_bipush (pc := 59) (v := nI 29) C dX7_round_59 (by decide) ?_
          refine k_iload (pc := 61) C dX7_round_61 4 rfl ?_
          refine cv_X7_114 (pc := 63) C E (c7_rounds (b := 29) (w := w) (by decide) (by omega) (by decide) (by rw [r2, b2]; exact l4) (by rw [b2]; omega) (by rw [q2]; omega)) rfl (by decide) cm_174 (by decide) rfl (Nat.le_of_ble_eq_true rfl) dX7_round_63 (fun M63 h63 => ?_)
          obtain ⟨U3, rfl, q3, f3⟩ := h63
          rw [q2, r2, b2] at q3
          have vv : U3 32 = rnd w (T y) p := q3
          have b3 : U3 29 = p := by rw [f3 29 (by decide) (by decide) (by decide), b2]
          have vb : rnd w (T y) p ≤ 2 ^ 256 := by
            rw [← vv, q3]
            have := ite1 (P := gU w (T y / p) (T y % p) p = true)
            generalize T y / p = q at *
            omega
          refine k_aload_n (pc := 66) C dX7_round_66 rfl 0 rfl ?_
          refine k_bipush (pc := 67) (v := nI 30) C dX7_round_67 (by decide) ?_
          refine k_bipush (pc := 69) (v := nI 32) C dX7_round_69 (by decide) ?_
          refine k_bipush (pc := 71) (v := nI 29) C dX7_round_71 (by decide) ?_
          refine cv_X7_108 (pc := 73) C E (c7_product (t := 30) (a := 32) (b := 29) (by decide) (by decide) (by decide) (by decide) (by decide) (by rw [vv]; omega)) rfl (by decide) cm_174 (by decide) rfl (Nat.le_of_ble_eq_true rfl) dX7_round_73 (fun M73 h73 => ?_)
          subst h73
          rw [vv, b3]
          obtain ⟨U4, hU4⟩ : ∃ W, W = va_up (va_up U3 34 (rnd w (T y) p * p)) (30) (rnd w (T y) p * p) := ⟨_, rfl⟩
          rw [← hU4]
          have v4 : U4 (30) = rnd w (T y) p * p := by rw [hU4, ups]
          have f4 : ∀ k, 34 ≠ k → 30 ≠ k → U4 k = U3 k := fun k h1 h2 => by rw [hU4, upn h2, upn h1]
          have fr : ∀ k, k < 28 → U4 k = U k := fun k hk => by rw [f4 k (by omega) (by omega), f3 k (by omega) (by omega) (by omega), f2 k (by omega) (by omega), f1 k (by omega)]
          have vx : rnd w (T y) p * p ≤ 2 ^ 256 * 10 ^ 18 := Nat.mul_le_mul vb hp1
          refine k_aload_n (pc := 76) C dX7_round_76 rfl 0 rfl ?_
          refine k_iload_n (pc := 77) C dX7_round_77 rfl 1 rfl ?_
          refine k_bipush (pc := 78) (v := nI 30) C dX7_round_78 (by decide) ?_
          refine cv_X7_96 (pc := 80) C E (c7_keep (j := 30) (k := x) (by decide) (by omega) (by rw [v4]; omega)) rfl (by decide) cm_174 (by decide) rfl (Nat.le_of_ble_eq_true rfl) dX7_round_80 (fun r80 M80 h80 => ?_)
          exact r_i (pc := 83) C E (by
  obtain ⟨W, rfl, h9⟩ := h80
  refine ⟨W, rfl, ?_⟩
  unfold sRound
  rw [if_pos (by exact c6)]
  simp only [rI_n (show x < 2147483648 by omega), rI_n (show y < 2147483648 by omega), rI_n (show u < 2147483648 by omega), rI_n (show w < 2147483648 by omega), ← hp]
  unfold sKeep
  by_cases hs : rnd w (T y) p * p < 2 ^ 256
  · rw [if_pos hs]
    rw [if_pos (by rw [v4]; exact hs)] at h9
    obtain ⟨rfl, rfl⟩ := h9
    rw [v4]
    exact ⟨rfl, (hT.o fr).up⟩
  · rw [if_neg hs]
    rw [if_neg (by rw [v4]; exact hs)] at h9
    obtain ⟨rfl, rfl⟩ := h9
    exact ⟨rfl, hT.o fr⟩) dX7_round_83
        · simp only [b01, Decidable.not_not] at c36
          refine k_iconst (pc := 39) (v := (-1)) C dX7_round_39 (by decide) ?_
          exact r_i (pc := 40) C E (⟨U, rfl, by unfold sRound; rw [if_neg (fun h => by first | exact c4 h.1 | exact c11 h.2.1 | exact c23 h.2.2.1 | exact c36 h.2.2.2)], by unfold sRound; rw [if_neg (fun h => by first | exact c4 h.1 | exact c11 h.2.1 | exact c23 h.2.2.1 | exact c36 h.2.2.2)]; exact hT⟩) dX7_round_40
end MG
