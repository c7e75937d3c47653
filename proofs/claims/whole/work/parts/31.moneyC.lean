section EC
variable {l : Launch} {D : va_G} {ca : Nat → ClassId} {ad : Nat → Nat} {V U : Nat → Nat} {sc : Nat → Int32} {ia : Nat → Nat → Int32} {la : Nat → Nat → Int64}
theorem ite1 {P : Prop} [Decidable P] : (if P then 1 else 0) ≤ 1 := by split <;> decide
set_option maxHeartbeats 4000000 in
set_option maxRecDepth 100000 in
/-- timesOrThrew -/
theorem c6_times {T : Nat → Nat} (hT : RC V T) (hB : TB T) {x0 y0 w0 : Int32} {a0 b0 : Int64} : xI l D (xty ca) yX6_timesOrThrew cX6_timesOrThrew 8 (some .int) 5 350 [.ref (ad 0), .int x0, .int y0, .long a0, .long b0, .int w0] ad (cm ad ca (V, U, sc, ia, la)) (fun r M' => ∃ V', M' = cm ad ca (V', U, sc, ia, la) ∧ r = (sTimes T x0 y0 a0 b0 w0).1 ∧ RC V' (sTimes T x0 y0 a0 b0 w0).2 ∧ ∀ k, 68 ≤ k → k < 135 → V' k = V k) := by
  refine xM.of (by decide) (Nat.le_of_ble_eq_true rfl) (fun z C E => ?_)
  refine k_iload_n (pc := 0) C dX6_timesOrThrew_0 rfl 1 rfl ?_
  refine cs_X6_68 (pc := 1) C E (c6_isRegister) rfl (by decide) rfl (Nat.le_of_ble_eq_true rfl) dX6_timesOrThrew_1 (fun r1 M1 h1 => ?_)
  obtain ⟨rfl, rfl⟩ := h1
  refine k_if_eq (pc := 4) (tgt := 35) C dX6_timesOrThrew_4 (by decide) (fun c4 => ?_) (fun c4 => ?_)
  · simp only [b01, Decidable.not_not] at c4
    refine k_iconst (pc := 35) (v := (-1)) C dX6_timesOrThrew_35 (by decide) ?_
    exact r_i (pc := 36) C E (⟨V, rfl, by unfold sTimes; rw [if_neg (fun h => by first | exact c4 h.1 | exact c11 h.2.1 | exact c19 h.2.2.1 | (have := h.2.2.2.1; omega) | (have := h.2.2.2.2; omega))], by unfold sTimes; rw [if_neg (fun h => by first | exact c4 h.1 | exact c11 h.2.1 | exact c19 h.2.2.1 | (have := h.2.2.2.1; omega) | (have := h.2.2.2.2; omega))]; exact hT, fun _ _ _ => rfl⟩) dX6_timesOrThrew_36
  · simp only [b01, Decidable.not_not] at c4
    refine k_iload_n (pc := 7) C dX6_timesOrThrew_7 rfl 2 rfl ?_
    refine cs_X6_68 (pc := 8) C E (c6_isRegister) rfl (by decide) rfl (Nat.le_of_ble_eq_true rfl) dX6_timesOrThrew_8 (fun r8 M8 h8 => ?_)
    obtain ⟨rfl, rfl⟩ := h8
    refine k_if_eq (pc := 11) (tgt := 35) C dX6_timesOrThrew_11 (by decide) (fun c11 => ?_) (fun c11 => ?_)
    · simp only [b01, Decidable.not_not] at c11
      refine k_iconst (pc := 35) (v := (-1)) C dX6_timesOrThrew_35 (by decide) ?_
      exact r_i (pc := 36) C E (⟨V, rfl, by unfold sTimes; rw [if_neg (fun h => by first | exact c4 h.1 | exact c11 h.2.1 | exact c19 h.2.2.1 | (have := h.2.2.2.1; omega) | (have := h.2.2.2.2; omega))], by unfold sTimes; rw [if_neg (fun h => by first | exact c4 h.1 | exact c11 h.2.1 | exact c19 h.2.2.1 | (have := h.2.2.2.1; omega) | (have := h.2.2.2.2; omega))]; exact hT, fun _ _ _ => rfl⟩) dX6_timesOrThrew_36
    · simp only [b01, Decidable.not_not] at c11
      refine k_iload (pc := 14) C dX6_timesOrThrew_14 5 rfl ?_
      refine cs_X6_131 (pc := 16) C E (c6_isWay) rfl (by decide) rfl (Nat.le_of_ble_eq_true rfl) dX6_timesOrThrew_16 (fun r16 M16 h16 => ?_)
      obtain ⟨rfl, rfl⟩ := h16
      refine k_if_eq (pc := 19) (tgt := 35) C dX6_timesOrThrew_19 (by decide) (fun c19 => ?_) (fun c19 => ?_)
      · simp only [b01, Decidable.not_not] at c19
        refine k_iconst (pc := 35) (v := (-1)) C dX6_timesOrThrew_35 (by decide) ?_
        exact r_i (pc := 36) C E (⟨V, rfl, by unfold sTimes; rw [if_neg (fun h => by first | exact c4 h.1 | exact c11 h.2.1 | exact c19 h.2.2.1 | (have := h.2.2.2.1; omega) | (have := h.2.2.2.2; omega))], by unfold sTimes; rw [if_neg (fun h => by first | exact c4 h.1 | exact c11 h.2.1 | exact c19 h.2.2.1 | (have := h.2.2.2.1; omega) | (have := h.2.2.2.2; omega))]; exact hT, fun _ _ _ => rfl⟩) dX6_timesOrThrew_36
      · simp only [b01, Decidable.not_not] at c19
        refine k_lload_n (pc := 22) C dX6_timesOrThrew_22 rfl 3 rfl ?_
        refine k_lconst (pc := 23) (v := lN 0) C dX6_timesOrThrew_23 (by decide) ?_
        refine k_lcmp (pc := 24) C dX6_timesOrThrew_24 ?_
        refine k_if_lt (pc := 25) (tgt := 35) C dX6_timesOrThrew_25 (by decide) (fun c25 => ?_) (fun c25 => ?_)
        · rw [lg_lt0] at c25
          refine k_iconst (pc := 35) (v := (-1)) C dX6_timesOrThrew_35 (by decide) ?_
          exact r_i (pc := 36) C E (⟨V, rfl, by unfold sTimes; rw [if_neg (fun h => by first | exact c4 h.1 | exact c11 h.2.1 | exact c19 h.2.2.1 | (have := h.2.2.2.1; omega) | (have := h.2.2.2.2; omega))], by unfold sTimes; rw [if_neg (fun h => by first | exact c4 h.1 | exact c11 h.2.1 | exact c19 h.2.2.1 | (have := h.2.2.2.1; omega) | (have := h.2.2.2.2; omega))]; exact hT, fun _ _ _ => rfl⟩) dX6_timesOrThrew_36
        · rw [lg_lt0] at c25
          refine k_lload (pc := 28) C dX6_timesOrThrew_28 4 rfl ?_
          refine k_lconst (pc := 30) (v := lN 0) C dX6_timesOrThrew_30 (by decide) ?_
          refine k_lcmp (pc := 31) C dX6_timesOrThrew_31 ?_
          refine k_if_ge (pc := 32) (tgt := 37) C dX6_timesOrThrew_32 (by decide) (fun c32 => ?_) (fun c32 => ?_)
          · rw [lg_ge0] at c32
            have c6 : inR x0 16 ∧ inR y0 16 ∧ inR w0 5 ∧ 0 ≤ a0.toInt ∧ 0 ≤ b0.toInt := ⟨c4, c11, c19, by omega, c32⟩
            obtain ⟨x, hx, rfl⟩ := inR_k c4
            obtain ⟨y, hy, rfl⟩ := inR_k c11
            obtain ⟨w, hw, rfl⟩ := inR_k c19
            obtain ⟨a, ha, rfl⟩ := lOf (show 0 ≤ a0.toInt by omega)
            obtain ⟨b, hb, rfl⟩ := lOf c32
            have hTy := hT.r hy
            have by1 := hB.1 y hy
            have pa := pk_lT ha
            have pb := pk_lT hb
            refine k_lload (pc := 37) C dX6_timesOrThrew_37 4 rfl ?_
            refine k_lconst (pc := 39) (v := lN 0) C dX6_timesOrThrew_39 (by decide) ?_
            refine k_lcmp (pc := 40) C dX6_timesOrThrew_40 ?_
            refine k_if_ne (pc := 41) (tgt := 47) C dX6_timesOrThrew_41 (by decide) (fun c41 => ?_) (fun c41 => ?_)
            · rw [c_eq hb (by decide)] at c41
              refine k_aload_n (pc := 47) C dX6_timesOrThrew_47 rfl 0 rfl ?_
              refine gf_X6_22 (pc := 48) C (0) (by decide) cm_0 rfl dX6_timesOrThrew_48 ?_
              refine gf_X6_82 (pc := 51) C (135) (by decide) cm_135 rfl dX6_timesOrThrew_51 ?_
              refine k_lload_n (pc := 54) C dX6_timesOrThrew_54 rfl 3 rfl ?_
              refine cv_X6_76 (pc := 55) C E (c_setLong w148 ha) rfl (by decide) (cm_w w148) (by decide) rfl (Nat.le_of_ble_eq_true rfl) dX6_timesOrThrew_55 (fun M55 h55 => ?_)
              subst h55
              obtain ⟨V1, hV1⟩ : ∃ W, W = va_up V (148) (a) := ⟨_, rfl⟩
              rw [← hV1]
              have v1 : V1 (148) = a := by rw [hV1, ups]
              have f1 : ∀ k, 148 ≠ k → V1 k = V k := fun k hk => by rw [hV1, upn hk]
              refine k_aload_n (pc := 58) C dX6_timesOrThrew_58 rfl 0 rfl ?_
              refine gf_X6_22 (pc := 59) C (0) (by decide) cm_0 rfl dX6_timesOrThrew_59 ?_
              refine gf_X6_134 (pc := 62) C (135) (by decide) cm_135 rfl dX6_timesOrThrew_62 ?_
              refine k_aload_n (pc := 65) C dX6_timesOrThrew_65 rfl 0 rfl ?_
              refine gf_X6_10 (pc := 66) C (0) (by decide) cm_0 rfl dX6_timesOrThrew_66 ?_
              refine gf_X6_72 (pc := 69) C (1) (by decide) cm_1 rfl dX6_timesOrThrew_69 ?_
              refine k_iload_n (pc := 72) C dX6_timesOrThrew_72 rfl 2 rfl ?_
              refine k_aald (pc := 73) C E (2) (by decide) 2 rfl rfl cm_2 (y) rfl (by omega) (by decide) (4 + 2 * y) rfl dX6_timesOrThrew_73 ?_
              refine k_aload_n (pc := 74) C dX6_timesOrThrew_74 rfl 0 rfl ?_
              refine gf_X6_22 (pc := 75) C (0) (by decide) cm_0 rfl dX6_timesOrThrew_75 ?_
              refine gf_X6_82 (pc := 78) C (135) (by decide) cm_135 rfl dX6_timesOrThrew_78 ?_
              refine cv_X6_153 (pc := 81) C E (c_product w136 (wR hy) w148 (by omega) (by decide) (by rw [f1 _ (by omega), hTy]; omega) (by rw [v1]; omega)) rfl (by decide) (cm_w w136) (by decide) rfl (Nat.le_of_ble_eq_true rfl) dX6_timesOrThrew_81 (fun M81 h81 => ?_)
              subst h81
              rw [v1, f1 (4 + 2 * y) (by omega), hTy]
              obtain ⟨V2, hV2⟩ : ∃ W, W = va_up V1 (136) (T y * a) := ⟨_, rfl⟩
              rw [← hV2]
              have v2 : V2 (136) = T y * a := by rw [hV2, ups]
              have f2 : ∀ k, 136 ≠ k → V2 k = V1 k := fun k hk => by rw [hV2, upn hk]
              refine k_aload_n (pc := 84) C dX6_timesOrThrew_84 rfl 0 rfl ?_
              refine gf_X6_22 (pc := 85) C (0) (by decide) cm_0 rfl dX6_timesOrThrew_85 ?_
              refine gf_X6_137 (pc := 88) C (135) (by decide) cm_135 rfl dX6_timesOrThrew_88 ?_
              refine k_lload (pc := 91) C dX6_timesOrThrew_91 4 rfl ?_
              refine cv_X6_76 (pc := 93) C E (c_setLong w138 hb) rfl (by decide) (cm_w w138) (by decide) rfl (Nat.le_of_ble_eq_true rfl) dX6_timesOrThrew_93 (fun M93 h93 => ?_)
              subst h93
              obtain ⟨V3, hV3⟩ : ∃ W, W = va_up V2 (138) (b) := ⟨_, rfl⟩
              rw [← hV3]
              have v3 : V3 (138) = b := by rw [hV3, ups]
              have f3 : ∀ k, 138 ≠ k → V3 k = V2 k := fun k hk => by rw [hV3, upn hk]
              have n3 : V3 136 = T y * a := by rw [f3 136 (by decide), v2]
              have hN : T y * a < 2 ^ 319 := by
                have h := Nat.mul_lt_mul_of_lt_of_le by1 (Nat.le_of_lt ha) (by decide)
                omega
              refine k_aload_n (pc := 96) C dX6_timesOrThrew_96 rfl 0 rfl ?_
              refine gf_X6_22 (pc := 97) C (0) (by decide) cm_0 rfl dX6_timesOrThrew_97 ?_
              refine cv_X6_143 (pc := 100) C E (c_split (by rw [n3]; omega) (by rw [v3]; omega)) rfl (by decide) cm_135 (by decide) rfl (Nat.le_of_ble_eq_true rfl) dX6_timesOrThrew_100 (fun M100 h100 => ?_)
              obtain ⟨d4, rfl⟩ := h100
              obtain ⟨V4, hV4⟩ : ∃ W, W = wq V3 (V3 136 / V3 138) (V3 136 % V3 138) d4 := ⟨_, rfl⟩
              rw [← hV4]
              have q4 : V4 140 = V3 136 / V3 138 := by rw [hV4, wq_0]
              have r4 : V4 142 = V3 136 % V3 138 := by rw [hV4, wq_2]
              have f4 : ∀ k, k < 140 ∨ 144 < k → V4 k = V3 k := fun k hk => by rw [hV4, wq_o hk]
              rw [n3, v3] at q4 r4
              have b4 : V4 138 = b := by rw [f4 138 (by decide), v3]
              have l4 : T y * a % b < b := Nat.mod_lt _ (by omega)
              have l5 := Nat.div_le_self (T y * a) b
              refine k_aload_n (pc := 103) C dX6_timesOrThrew_103 rfl 0 rfl ?_
              refine gf_X6_22 (pc := 104) C (0) (by decide) cm_0 rfl dX6_timesOrThrew_104 ?_
              refine k_iload (pc := 107) C dX6_timesOrThrew_107 5 rfl ?_
              refine cv_X6_146 (pc := 109) C E (c_settle (w := w) (by omega) (by rw [r4]; omega) (by rw [b4]; omega)) rfl (by decide) cm_135 (by decide) rfl (Nat.le_of_ble_eq_true rfl) dX6_timesOrThrew_109 (fun M109 h109 => ?_)
              obtain ⟨s5, rfl⟩ := h109
              obtain ⟨V5, hV5⟩ : ∃ W, W = va_up (va_up V4 146 s5) 140 (V4 140 + if gU w (V4 140) (V4 142) (V4 138) = true then 1 else 0) := ⟨_, rfl⟩
              rw [← hV5]
              have q5 : V5 140 = V4 140 + if gU w (V4 140) (V4 142) (V4 138) = true then 1 else 0 := by rw [hV5, ups]
              have f5 : ∀ k, 140 ≠ k → 146 ≠ k → V5 k = V4 k := fun k h1 h2 => by rw [hV5, upn h1, upn h2]
              rw [q4, r4, b4] at q5
              have fr : ∀ k, k < 135 → V5 k = V k := fun k hk => by rw [f5 k (by omega) (by omega), f4 k (by omega), f3 k (by omega), f2 k (by omega), f1 k (by omega)]
              have vv : V5 140 = rnd w (T y * a) b := q5
              have vb : V5 140 < 65536 ^ 24 := by
                rw [q5]
                have := ite1 (P := gU w (T y * a / b) (T y * a % b) b = true)
                generalize T y * a / b = q at *
                omega
              refine k_aload_n (pc := 112) C dX6_timesOrThrew_112 rfl 0 rfl ?_
              refine k_iload_n (pc := 113) C dX6_timesOrThrew_113 rfl 1 rfl ?_
              refine k_aload_n (pc := 114) C dX6_timesOrThrew_114 rfl 0 rfl ?_
              refine gf_X6_22 (pc := 115) C (0) (by decide) cm_0 rfl dX6_timesOrThrew_115 ?_
              refine gf_X6_150 (pc := 118) C (135) (by decide) cm_135 rfl dX6_timesOrThrew_118 ?_
              refine cv_X6_96 (pc := 121) C E (c6_keep w140 hx (by decide) vb) rfl (by decide) cm_0 (by decide) rfl (Nat.le_of_ble_eq_true rfl) dX6_timesOrThrew_121 (fun r121 M121 h121 => ?_)
              exact r_i (pc := 124) C E (by
  obtain ⟨W, rfl, h9⟩ := h121
  refine ⟨W, rfl, ?_⟩
  unfold sTimes
  rw [if_pos (by exact c6)]
  rw [if_neg (by omega)]
  simp only [pa, pb, Int.toNat_natCast, rI_n (show x < 2147483648 by omega), rI_n (show y < 2147483648 by omega), rI_n (show w < 2147483648 by omega)]
  unfold sKeep
  by_cases hs : rnd w (T y * a) b < 2 ^ 256
  · rw [if_pos hs]
    rw [if_pos (by rw [vv]; exact hs)] at h9
    obtain ⟨rfl, rfl⟩ := h9
    rw [vv]
    exact ⟨rfl, (hT.o (fun k hk => fr k (by omega))).upr hx, fun k h1 h2 => by rw [upn (by omega)]; exact fr k (by omega)⟩
  · rw [if_neg hs]
    rw [if_neg (by rw [vv]; exact hs)] at h9
    obtain ⟨rfl, rfl⟩ := h9
    exact ⟨rfl, hT.o (fun k hk => fr k (by omega)), fun k h1 h2 => fr k (by omega)⟩) dX6_timesOrThrew_124
            · rw [c_eq hb (by decide)] at c41
              refine k_bipush (pc := 44) (v := (-5)) C dX6_timesOrThrew_44 (by decide) ?_
              exact r_i (pc := 46) C E (⟨V, rfl, by unfold sTimes; rw [if_pos c6, if_pos (by omega)], by unfold sTimes; rw [if_pos c6, if_pos (by omega)]; exact hT, fun _ _ _ => rfl⟩) dX6_timesOrThrew_46
          · rw [lg_ge0] at c32
            refine k_iconst (pc := 35) (v := (-1)) C dX6_timesOrThrew_35 (by decide) ?_
            exact r_i (pc := 36) C E (⟨V, rfl, by unfold sTimes; rw [if_neg (fun h => by first | exact c4 h.1 | exact c11 h.2.1 | exact c19 h.2.2.1 | (have := h.2.2.2.1; omega) | (have := h.2.2.2.2; omega))], by unfold sTimes; rw [if_neg (fun h => by first | exact c4 h.1 | exact c11 h.2.1 | exact c19 h.2.2.1 | (have := h.2.2.2.1; omega) | (have := h.2.2.2.2; omega))]; exact hT, fun _ _ _ => rfl⟩) dX6_timesOrThrew_36
set_option maxHeartbeats 4000000 in
set_option maxRecDepth 100000 in
/-- divideOrThrew -/
theorem c6_divide {T : Nat → Nat} (hT : RC V T) (hB : TB T) {x0 y0 t0 : Int32} : xI l D (xty ca) yX6_divideOrThrew cX6_divideOrThrew 4 (some .int) 5 350 [.ref (ad 0), .int x0, .int y0, .int t0] ad (cm ad ca (V, U, sc, ia, la)) (fun r M' => ∃ V', M' = cm ad ca (V', U, sc, ia, la) ∧ r = (sDiv T x0 y0 t0).1 ∧ RC V' (sDiv T x0 y0 t0).2 ∧ ∀ k, 68 ≤ k → k < 135 → V' k = V k) := by
  refine xM.of (by decide) (Nat.le_of_ble_eq_true rfl) (fun z C E => ?_)
  refine k_iload_n (pc := 0) C dX6_divideOrThrew_0 rfl 1 rfl ?_
  refine k_iload_n (pc := 1) C dX6_divideOrThrew_1 rfl 2 rfl ?_
  refine k_iload_n (pc := 2) C dX6_divideOrThrew_2 rfl 3 rfl ?_
  refine cs_X6_106 (pc := 3) C E (c6_areRegisters) rfl (by decide) rfl (Nat.le_of_ble_eq_true rfl) dX6_divideOrThrew_3 (fun r3 M3 h3 => ?_)
  obtain ⟨rfl, rfl⟩ := h3
  refine k_if_ne (pc := 6) (tgt := 11) C dX6_divideOrThrew_6 (by decide) (fun c6 => ?_) (fun c6 => ?_)
  · simp only [b01, Decidable.not_not] at c6
    obtain ⟨x, hx, rfl⟩ := inR_k c6.1
    obtain ⟨y, hy, rfl⟩ := inR_k c6.2.1
    obtain ⟨t, ht, rfl⟩ := inR_k c6.2.2
    have hTy := hT.r hy
    have hTt := hT.r ht
    have by1 := hB.1 y hy
    have bt1 := hB.1 t ht
    refine k_aload_n (pc := 11) C dX6_divideOrThrew_11 rfl 0 rfl ?_
    refine gf_X6_10 (pc := 12) C (0) (by decide) cm_0 rfl dX6_divideOrThrew_12 ?_
    refine gf_X6_72 (pc := 15) C (1) (by decide) cm_1 rfl dX6_divideOrThrew_15 ?_
    refine k_iload_n (pc := 18) C dX6_divideOrThrew_18 rfl 3 rfl ?_
    refine k_aald (pc := 19) C E (2) (by decide) 2 rfl rfl cm_2 (t) rfl (by omega) (by decide) (4 + 2 * t) rfl dX6_divideOrThrew_19 ?_
    refine cv_X6_278 (pc := 20) C E (c_isZero (wR ht) (by rw [hTt]; omega)) rfl (Nat.lt_of_succ_lt (isW_lt (wR ht))) (cm_w (wR ht)) (by decide) rfl (Nat.le_of_ble_eq_true rfl) dX6_divideOrThrew_20 (fun r20 M20 h20 => ?_)
    obtain ⟨rfl, rfl⟩ := h20
    refine k_if_eq (pc := 23) (tgt := 29) C dX6_divideOrThrew_23 (by decide) (fun c23 => ?_) (fun c23 => ?_)
    · simp only [b01, Decidable.not_not, hTt] at c23
      refine k_aload_n (pc := 29) C dX6_divideOrThrew_29 rfl 0 rfl ?_
      refine gf_X6_22 (pc := 30) C (0) (by decide) cm_0 rfl dX6_divideOrThrew_30 ?_
      refine gf_X6_134 (pc := 33) C (135) (by decide) cm_135 rfl dX6_divideOrThrew_33 ?_
      refine k_aload_n (pc := 36) C dX6_divideOrThrew_36 rfl 0 rfl ?_
      refine gf_X6_10 (pc := 37) C (0) (by decide) cm_0 rfl dX6_divideOrThrew_37 ?_
      refine gf_X6_72 (pc := 40) C (1) (by decide) cm_1 rfl dX6_divideOrThrew_40 ?_
      refine k_iload_n (pc := 43) C dX6_divideOrThrew_43 rfl 2 rfl ?_
      refine k_aald (pc := 44) C E (2) (by decide) 2 rfl rfl cm_2 (y) rfl (by omega) (by decide) (4 + 2 * y) rfl dX6_divideOrThrew_44 ?_
      refine cv_X6_86 (pc := 45) C E (c_copy w136 (wR hy) (by omega)) rfl (by decide) (cm_w w136) (by decide) rfl (Nat.le_of_ble_eq_true rfl) dX6_divideOrThrew_45 (fun M45 h45 => ?_)
      subst h45
      rw [hTy]
      obtain ⟨V1, hV1⟩ : ∃ W, W = va_up V (136) (T y) := ⟨_, rfl⟩
      rw [← hV1]
      have v1 : V1 (136) = T y := by rw [hV1, ups]
      have f1 : ∀ k, 136 ≠ k → V1 k = V k := fun k hk => by rw [hV1, upn hk]
      refine k_aload_n (pc := 48) C dX6_divideOrThrew_48 rfl 0 rfl ?_
      refine gf_X6_22 (pc := 49) C (0) (by decide) cm_0 rfl dX6_divideOrThrew_49 ?_
      refine gf_X6_137 (pc := 52) C (135) (by decide) cm_135 rfl dX6_divideOrThrew_52 ?_
      refine k_aload_n (pc := 55) C dX6_divideOrThrew_55 rfl 0 rfl ?_
      refine gf_X6_10 (pc := 56) C (0) (by decide) cm_0 rfl dX6_divideOrThrew_56 ?_
      refine gf_X6_72 (pc := 59) C (1) (by decide) cm_1 rfl dX6_divideOrThrew_59 ?_
      refine k_iload_n (pc := 62) C dX6_divideOrThrew_62 rfl 3 rfl ?_
      refine k_aald (pc := 63) C E (2) (by decide) 2 rfl rfl cm_2 (t) rfl (by omega) (by decide) (4 + 2 * t) rfl dX6_divideOrThrew_63 ?_
      refine cv_X6_86 (pc := 64) C E (c_copy w138 (wR ht) (by omega)) rfl (by decide) (cm_w w138) (by decide) rfl (Nat.le_of_ble_eq_true rfl) dX6_divideOrThrew_64 (fun M64 h64 => ?_)
      subst h64
      rw [f1 (4 + 2 * t) (by omega), hTt]
      obtain ⟨V2, hV2⟩ : ∃ W, W = va_up V1 (138) (T t) := ⟨_, rfl⟩
      rw [← hV2]
      have v2 : V2 (138) = T t := by rw [hV2, ups]
      have f2 : ∀ k, 138 ≠ k → V2 k = V1 k := fun k hk => by rw [hV2, upn hk]
      have n2 : V2 136 = T y := by rw [f2 136 (by decide), v1]
      refine k_aload_n (pc := 67) C dX6_divideOrThrew_67 rfl 0 rfl ?_
      refine gf_X6_22 (pc := 68) C (0) (by decide) cm_0 rfl dX6_divideOrThrew_68 ?_
      refine cv_X6_143 (pc := 71) C E (c_split (by rw [n2]; omega) (by rw [v2]; omega)) rfl (by decide) cm_135 (by decide) rfl (Nat.le_of_ble_eq_true rfl) dX6_divideOrThrew_71 (fun M71 h71 => ?_)
      obtain ⟨d3, rfl⟩ := h71
      obtain ⟨V3, hV3⟩ : ∃ W, W = wq V2 (V2 136 / V2 138) (V2 136 % V2 138) d3 := ⟨_, rfl⟩
      rw [← hV3]
      have q3 : V3 140 = V2 136 / V2 138 := by rw [hV3, wq_0]
      have r3 : V3 142 = V2 136 % V2 138 := by rw [hV3, wq_2]
      have f3 : ∀ k, k < 140 ∨ 144 < k → V3 k = V2 k := fun k hk => by rw [hV3, wq_o hk]
      rw [n2, v2] at q3
      have l5 := Nat.div_le_self (T y) (T t)
      have fr : ∀ k, k < 135 → V3 k = V k := fun k hk => by rw [f3 k (by omega), f2 k (by omega), f1 k (by omega)]
      refine k_aload_n (pc := 74) C dX6_divideOrThrew_74 rfl 0 rfl ?_
      refine k_iload_n (pc := 75) C dX6_divideOrThrew_75 rfl 1 rfl ?_
      refine k_aload_n (pc := 76) C dX6_divideOrThrew_76 rfl 0 rfl ?_
      refine gf_X6_22 (pc := 77) C (0) (by decide) cm_0 rfl dX6_divideOrThrew_77 ?_
      refine gf_X6_150 (pc := 80) C (135) (by decide) cm_135 rfl dX6_divideOrThrew_80 ?_
      refine cv_X6_96 (pc := 83) C E (c6_keep w140 hx (by decide) (by rw [q3]; omega)) rfl (by decide) cm_0 (by decide) rfl (Nat.le_of_ble_eq_true rfl) dX6_divideOrThrew_83 (fun r83 M83 h83 => ?_)
      exact r_i (pc := 86) C E (by
  obtain ⟨W, rfl, h9⟩ := h83
  refine ⟨W, rfl, ?_⟩
  unfold sDiv
  rw [if_pos c6]
  simp only [rI_n (show x < 2147483648 by omega), rI_n (show y < 2147483648 by omega), rI_n (show t < 2147483648 by omega)]
  rw [if_neg c23]
  rw [if_pos (by rw [q3]; omega)] at h9
  obtain ⟨rfl, rfl⟩ := h9
  rw [q3]
  exact ⟨rfl, (hT.o (fun k hk => fr k (by omega))).upr hx, fun k h1 h2 => by rw [upn (by omega)]; exact fr k (by omega)⟩) dX6_divideOrThrew_86
    · simp only [b01, Decidable.not_not, hTt] at c23
      refine k_bipush (pc := 26) (v := (-5)) C dX6_divideOrThrew_26 (by decide) ?_
      exact r_i (pc := 28) C E (⟨V, rfl, by unfold sDiv; rw [if_pos c6]; simp only [rI_n (show x < 2147483648 by omega), rI_n (show y < 2147483648 by omega), rI_n (show t < 2147483648 by omega)]; rw [if_pos c23], by unfold sDiv; rw [if_pos c6]; simp only [rI_n (show x < 2147483648 by omega), rI_n (show y < 2147483648 by omega), rI_n (show t < 2147483648 by omega)]; rw [if_pos c23]; exact hT, fun _ _ _ => rfl⟩) dX6_divideOrThrew_28
  · simp only [b01, Decidable.not_not] at c6
    refine k_iconst (pc := 9) (v := (-1)) C dX6_divideOrThrew_9 (by decide) ?_
    exact r_i (pc := 10) C E (⟨V, rfl, by unfold sDiv; rw [if_neg c6], by unfold sDiv; rw [if_neg c6]; exact hT, fun _ _ _ => rfl⟩) dX6_divideOrThrew_10
set_option maxHeartbeats 4000000 in
set_option maxRecDepth 100000 in
/-- round -/
theorem c6_round {T : Nat → Nat} (hT : RC V T) (hB : TB T) {x0 y0 u0 w0 : Int32} : xI l D (xty ca) yX6_round cX6_round 5 (some .int) 5 350 [.ref (ad 0), .int x0, .int y0, .int u0, .int w0] ad (cm ad ca (V, U, sc, ia, la)) (fun r M' => ∃ V', M' = cm ad ca (V', U, sc, ia, la) ∧ r = (sRound T x0 y0 u0 w0).1 ∧ RC V' (sRound T x0 y0 u0 w0).2) := by
  refine xM.of (by decide) (Nat.le_of_ble_eq_true rfl) (fun z C E => ?_)
  refine k_iload_n (pc := 0) C dX6_round_0 rfl 1 rfl ?_
  refine cs_X6_68 (pc := 1) C E (c6_isRegister) rfl (by decide) rfl (Nat.le_of_ble_eq_true rfl) dX6_round_1 (fun r1 M1 h1 => ?_)
  obtain ⟨rfl, rfl⟩ := h1
  refine k_if_eq (pc := 4) (tgt := 32) C dX6_round_4 (by decide) (fun c4 => ?_) (fun c4 => ?_)
  · simp only [b01, Decidable.not_not] at c4
    refine k_iconst (pc := 32) (v := (-1)) C dX6_round_32 (by decide) ?_
    exact r_i (pc := 33) C E (⟨V, rfl, by unfold sRound; rw [if_neg (fun h => by first | exact c4 h.1 | exact c11 h.2.1 | exact c29 h.2.2.2 | (have := h.2.2.1.1; have := h.2.2.1.2; omega))], by unfold sRound; rw [if_neg (fun h => by first | exact c4 h.1 | exact c11 h.2.1 | exact c29 h.2.2.2 | (have := h.2.2.1.1; have := h.2.2.1.2; omega))]; exact hT⟩) dX6_round_33
  · simp only [b01, Decidable.not_not] at c4
    refine k_iload_n (pc := 7) C dX6_round_7 rfl 2 rfl ?_
    refine cs_X6_68 (pc := 8) C E (c6_isRegister) rfl (by decide) rfl (Nat.le_of_ble_eq_true rfl) dX6_round_8 (fun r8 M8 h8 => ?_)
    obtain ⟨rfl, rfl⟩ := h8
    refine k_if_eq (pc := 11) (tgt := 32) C dX6_round_11 (by decide) (fun c11 => ?_) (fun c11 => ?_)
    · simp only [b01, Decidable.not_not] at c11
      refine k_iconst (pc := 32) (v := (-1)) C dX6_round_32 (by decide) ?_
      exact r_i (pc := 33) C E (⟨V, rfl, by unfold sRound; rw [if_neg (fun h => by first | exact c4 h.1 | exact c11 h.2.1 | exact c29 h.2.2.2 | (have := h.2.2.1.1; have := h.2.2.1.2; omega))], by unfold sRound; rw [if_neg (fun h => by first | exact c4 h.1 | exact c11 h.2.1 | exact c29 h.2.2.2 | (have := h.2.2.1.1; have := h.2.2.1.2; omega))]; exact hT⟩) dX6_round_33
    · simp only [b01, Decidable.not_not] at c11
      refine k_iload_n (pc := 14) C dX6_round_14 rfl 3 rfl ?_
      refine k_if_lt (pc := 15) (tgt := 32) C dX6_round_15 (by decide) (fun c15 => ?_) (fun c15 => ?_)
      · rw [Int32.lt_iff_toInt_lt, show (0 : Int32).toInt = 0 from rfl] at c15
        refine k_iconst (pc := 32) (v := (-1)) C dX6_round_32 (by decide) ?_
        exact r_i (pc := 33) C E (⟨V, rfl, by unfold sRound; rw [if_neg (fun h => by first | exact c4 h.1 | exact c11 h.2.1 | exact c29 h.2.2.2 | (have := h.2.2.1.1; have := h.2.2.1.2; omega))], by unfold sRound; rw [if_neg (fun h => by first | exact c4 h.1 | exact c11 h.2.1 | exact c29 h.2.2.2 | (have := h.2.2.1.1; have := h.2.2.1.2; omega))]; exact hT⟩) dX6_round_33
      · rw [Int32.lt_iff_toInt_lt, show (0 : Int32).toInt = 0 from rfl] at c15
        refine k_iload_n (pc := 18) C dX6_round_18 rfl 3 rfl ?_
        refine k_bipush (pc := 19) (v := nI 18) C dX6_round_19 (by decide) ?_
        refine k_icmp_gt (pc := 21) (tgt := 32) C dX6_round_21 (by decide) (fun c21 => ?_) (fun c21 => ?_)
        · rw [Int32.lt_iff_toInt_lt, nI_toInt (by decide)] at c21
          refine k_iconst (pc := 32) (v := (-1)) C dX6_round_32 (by decide) ?_
          exact r_i (pc := 33) C E (⟨V, rfl, by unfold sRound; rw [if_neg (fun h => by first | exact c4 h.1 | exact c11 h.2.1 | exact c29 h.2.2.2 | (have := h.2.2.1.1; have := h.2.2.1.2; omega))], by unfold sRound; rw [if_neg (fun h => by first | exact c4 h.1 | exact c11 h.2.1 | exact c29 h.2.2.2 | (have := h.2.2.1.1; have := h.2.2.1.2; omega))]; exact hT⟩) dX6_round_33
        · rw [Int32.lt_iff_toInt_lt, nI_toInt (by decide)] at c21
          refine k_iload (pc := 24) C dX6_round_24 4 rfl ?_
          refine cs_X6_131 (pc := 26) C E (c6_isWay) rfl (by decide) rfl (Nat.le_of_ble_eq_true rfl) dX6_round_26 (fun r26 M26 h26 => ?_)
          obtain ⟨rfl, rfl⟩ := h26
          refine k_if_ne (pc := 29) (tgt := 34) C dX6_round_29 (by decide) (fun c29 => ?_) (fun c29 => ?_)
          · simp only [b01, Decidable.not_not] at c29
            have c6 : inR x0 16 ∧ inR y0 16 ∧ inR u0 19 ∧ inR w0 5 := ⟨c4, c11, by constructor <;> omega, c29⟩
            obtain ⟨x, hx, rfl⟩ := inR_k c4
            obtain ⟨y, hy, rfl⟩ := inR_k c11
            obtain ⟨u, hu, rfl⟩ := inR_k c6.2.2.1
            obtain ⟨w, hw, rfl⟩ := inR_k c29
            have hTy := hT.r hy
            have by1 := hB.1 y hy
            have hp0 : 0 < 10 ^ u := Nat.pow_pos (by decide)
            have hp1 : 10 ^ u ≤ 10 ^ 18 := Nat.pow_le_pow_right (by decide) (by omega)
            obtain ⟨p, hp⟩ : ∃ p, p = 10 ^ u := ⟨_, rfl⟩
            rw [← hp] at hp0 hp1
            refine k_aload_n (pc := 34) C dX6_round_34 rfl 0 rfl ?_
            refine gf_X6_22 (pc := 35) C (0) (by decide) cm_0 rfl dX6_round_35 ?_
            refine gf_X6_134 (pc := 38) C (135) (by decide) cm_135 rfl dX6_round_38 ?_
            refine k_aload_n (pc := 41) C dX6_round_41 rfl 0 rfl ?_
            refine gf_X6_10 (pc := 42) C (0) (by decide) cm_0 rfl dX6_round_42 ?_
            refine gf_X6_72 (pc := 45) C (1) (by decide) cm_1 rfl dX6_round_45 ?_
            refine k_iload_n (pc := 48) C dX6_round_48 rfl 2 rfl ?_
            refine k_aald (pc := 49) C E (2) (by decide) 2 rfl rfl cm_2 (y) rfl (by omega) (by decide) (4 + 2 * y) rfl dX6_round_49 ?_
            refine cv_X6_86 (pc := 50) C E (c_copy w136 (wR hy) (by omega)) rfl (by decide) (cm_w w136) (by decide) rfl (Nat.le_of_ble_eq_true rfl) dX6_round_50 (fun M50 h50 => ?_)
            subst h50
            rw [hTy]
            obtain ⟨V1, hV1⟩ : ∃ W, W = va_up V (136) (T y) := ⟨_, rfl⟩
            rw [← hV1]
            have v1 : V1 (136) = T y := by rw [hV1, ups]
            have f1 : ∀ k, 136 ≠ k → V1 k = V k := fun k hk => by rw [hV1, upn hk]
            refine k_aload_n (pc := 53) C dX6_round_53 rfl 0 rfl ?_
            refine gf_X6_22 (pc := 54) C (0) (by decide) cm_0 rfl dX6_round_54 ?_
            refine gf_X6_137 (pc := 57) C (135) (by decide) cm_135 rfl dX6_round_57 ?_
            refine k_iload_n (pc := 60) C dX6_round_60 rfl 3 rfl ?_
            refine cs_X6_140 (pc := 61) C E (c6_pow hu) rfl (by decide) rfl (Nat.le_of_ble_eq_true rfl) dX6_round_61 (fun r61 M61 h61 => ?_)
            obtain ⟨rfl, rfl⟩ := h61
            rw [← hp]
            refine cv_X6_76 (pc := 64) C E (c_setLong w138 (a := p) (by omega)) rfl (by decide) (cm_w w138) (by decide) rfl (Nat.le_of_ble_eq_true rfl) dX6_round_64 (fun M64 h64 => ?_)
            subst h64
            obtain ⟨V2, hV2⟩ : ∃ W, W = va_up V1 (138) (p) := ⟨_, rfl⟩
            rw [← hV2]
            have v2 : V2 (138) = p := by rw [hV2, ups]
            have f2 : ∀ k, 138 ≠ k → V2 k = V1 k := fun k hk => by rw [hV2, upn hk]
            have n2 : V2 136 = T y := by rw [f2 136 (by decide), v1]
            refine k_aload_n (pc := 67) C dX6_round_67 rfl 0 rfl ?_
            refine gf_X6_22 (pc := 68) C (0) (by decide) cm_0 rfl dX6_round_68 ?_
            refine cv_X6_143 (pc := 71) C E (c_split (by rw [n2]; omega) (by rw [v2]; omega)) rfl (by decide) cm_135 (by decide) rfl (Nat.le_of_ble_eq_true rfl) dX6_round_71 (fun M71 h71 => ?_)
            obtain ⟨d3, rfl⟩ := h71
            obtain ⟨V3, hV3⟩ : ∃ W, W = wq V2 (V2 136 / V2 138) (V2 136 % V2 138) d3 := ⟨_, rfl⟩
            rw [← hV3]
            have q3 : V3 140 = V2 136 / V2 138 := by rw [hV3, wq_0]
            have r3 : V3 142 = V2 136 % V2 138 := by rw [hV3, wq_2]
            have f3 : ∀ k, k < 140 ∨ 144 < k → V3 k = V2 k := fun k hk => by rw [hV3, wq_o hk]
            rw [n2, v2] at q3 r3
            have b3 : V3 138 = p := by rw [f3 138 (by decide), v2]
            have l4 : T y % p < p := Nat.mod_lt _ hp0
            have l5 := Nat.div_le_self (T y) p
            refine k_aload_n (pc := 74) C dX6_round_74 rfl 0 rfl ?_
            refine gf_X6_22 (pc := 75) C (0) (by decide) cm_0 rfl dX6_round_75 ?_
            refine k_iload (pc := 78) C dX6_round_78 4 rfl ?_
            refine cv_X6_146 (pc := 80) C E (c_settle (w := w) (by omega) (by rw [r3]; omega) (by rw [b3]; omega)) rfl (by decide) cm_135 (by decide) rfl (Nat.le_of_ble_eq_true rfl) dX6_round_80 (fun M80 h80 => ?_)
            obtain ⟨s4, rfl⟩ := h80
            obtain ⟨V4, hV4⟩ : ∃ W, W = va_up (va_up V3 146 s4) 140 (V3 140 + if gU w (V3 140) (V3 142) (V3 138) = true then 1 else 0) := ⟨_, rfl⟩
            rw [← hV4]
            have q4 : V4 140 = V3 140 + if gU w (V3 140) (V3 142) (V3 138) = true then 1 else 0 := by rw [hV4, ups]
            have f4 : ∀ k, 140 ≠ k → 146 ≠ k → V4 k = V3 k := fun k h1 h2 => by rw [hV4, upn h1, upn h2]
            rw [q3, r3, b3] at q4
            have vv : V4 140 = rnd w (T y) p := q4
            have b4 : V4 138 = p := by rw [f4 138 (by decide) (by decide), b3]
            have vb : rnd w (T y) p ≤ 2 ^ 256 := by
              rw [← vv, q4]
              have := ite1 (P := gU w (T y / p) (T y % p) p = true)
              generalize T y / p = q at *
              omega
            refine k_aload_n (pc := 83) C dX6_round_83 rfl 0 rfl ?_
            refine gf_X6_22 (pc := 84) C (0) (by decide) cm_0 rfl dX6_round_84 ?_
            refine gf_X6_82 (pc := 87) C (135) (by decide) cm_135 rfl dX6_round_87 ?_
            refine k_aload_n (pc := 90) C dX6_round_90 rfl 0 rfl ?_
            refine gf_X6_22 (pc := 91) C (0) (by decide) cm_0 rfl dX6_round_91 ?_
            refine gf_X6_150 (pc := 94) C (135) (by decide) cm_135 rfl dX6_round_94 ?_
            refine k_aload_n (pc := 97) C dX6_round_97 rfl 0 rfl ?_
            refine gf_X6_22 (pc := 98) C (0) (by decide) cm_0 rfl dX6_round_98 ?_
            refine gf_X6_137 (pc := 101) C (135) (by decide) cm_135 rfl dX6_round_101 ?_
            refine cv_X6_153 (pc := 104) C E (c_product w148 w140 w138 (by decide) (by decide) (by rw [vv]; omega) (by rw [b4]; omega)) rfl (by decide) (cm_w w148) (by decide) rfl (Nat.le_of_ble_eq_true rfl) dX6_round_104 (fun M104 h104 => ?_)
            subst h104
            rw [vv, b4]
            obtain ⟨V5, hV5⟩ : ∃ W, W = va_up V4 (148) (rnd w (T y) p * p) := ⟨_, rfl⟩
            rw [← hV5]
            have v5 : V5 (148) = rnd w (T y) p * p := by rw [hV5, ups]
            have f5 : ∀ k, 148 ≠ k → V5 k = V4 k := fun k hk => by rw [hV5, upn hk]
            have fr : ∀ k, k < 135 → V5 k = V k := fun k hk => by rw [f5 k (by omega), f4 k (by omega) (by omega), f3 k (by omega), f2 k (by omega), f1 k (by omega)]
            have vx : rnd w (T y) p * p ≤ 2 ^ 256 * 10 ^ 18 := Nat.mul_le_mul vb hp1
            refine k_aload_n (pc := 107) C dX6_round_107 rfl 0 rfl ?_
            refine k_iload_n (pc := 108) C dX6_round_108 rfl 1 rfl ?_
            refine k_aload_n (pc := 109) C dX6_round_109 rfl 0 rfl ?_
            refine gf_X6_22 (pc := 110) C (0) (by decide) cm_0 rfl dX6_round_110 ?_
            refine gf_X6_82 (pc := 113) C (135) (by decide) cm_135 rfl dX6_round_113 ?_
            refine cv_X6_96 (pc := 116) C E (c6_keep w148 hx (by decide) (by rw [v5]; omega)) rfl (by decide) cm_0 (by decide) rfl (Nat.le_of_ble_eq_true rfl) dX6_round_116 (fun r116 M116 h116 => ?_)
            exact r_i (pc := 119) C E (by
  obtain ⟨W, rfl, h9⟩ := h116
  refine ⟨W, rfl, ?_⟩
  unfold sRound
  rw [if_pos (by exact c6)]
  simp only [rI_n (show x < 2147483648 by omega), rI_n (show y < 2147483648 by omega), rI_n (show u < 2147483648 by omega), rI_n (show w < 2147483648 by omega), ← hp]
  unfold sKeep
  by_cases hs : rnd w (T y) p * p < 2 ^ 256
  · rw [if_pos hs]
    rw [if_pos (by rw [v5]; exact hs)] at h9
    obtain ⟨rfl, rfl⟩ := h9
    rw [v5]
    exact ⟨rfl, (hT.o (fun k hk => fr k (by omega))).upr hx⟩
  · rw [if_neg hs]
    rw [if_neg (by rw [v5]; exact hs)] at h9
    obtain ⟨rfl, rfl⟩ := h9
    exact ⟨rfl, hT.o (fun k hk => fr k (by omega))⟩) dX6_round_119
          · simp only [b01, Decidable.not_not] at c29
            refine k_iconst (pc := 32) (v := (-1)) C dX6_round_32 (by decide) ?_
            exact r_i (pc := 33) C E (⟨V, rfl, by unfold sRound; rw [if_neg (fun h => by first | exact c4 h.1 | exact c11 h.2.1 | exact c29 h.2.2.2 | (have := h.2.2.1.1; have := h.2.2.1.2; omega))], by unfold sRound; rw [if_neg (fun h => by first | exact c4 h.1 | exact c11 h.2.1 | exact c29 h.2.2.2 | (have := h.2.2.1.1; have := h.2.2.1.2; omega))]; exact hT⟩) dX6_round_33
end EC
