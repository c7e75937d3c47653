section PC
variable {l : Launch} {D : va_G} {ca : Nat → ClassId} {ad : Nat → Nat} {V U : Nat → Nat} {sc : Nat → Int32} {ia : Nat → Nat → Int32} {la : Nat → Nat → Int64}
set_option maxHeartbeats 4000000 in
set_option maxRecDepth 100000 in
/-- leaveWith -/
theorem c3_leave {i : Nat} (hp : isP i) (bx : V (i + 2) < 2 ^ 100) (by9 : V (i + 4) < 2 ^ 100) (bP : V (i + 6) < 2 ^ 100) {ja : Nat} (hja : isW ja) (na : ja < 36) (bd : V ja < 2 ^ 256) : xI l D (xty ca) yX3_leaveWith cX3_leaveWith 3 (some .int) 5 350 [.ref (ad i), .ref (ad ja), .ref (ad 135)] ad (cm ad ca (V, U, sc, ia, la)) (fun r M' => ∃ V', M' = cm ad ca (V', U, sc, ia, la) ∧ r = lR (V (i + 6)) (V ja) ∧ (¬ r = 1 → ∀ k, k < 135 → V' k = V k) ∧ (r = 1 → V' 148 = V (i + 2) * V ja / V (i + 6) ∧ V' 150 = V (i + 4) * V ja / V (i + 6) ∧ ∀ k, k < 135 → V' k = up3 V i (V (i + 2) - V (i + 2) * V ja / V (i + 6)) (V (i + 4) - V (i + 4) * V ja / V (i + 6)) (V (i + 6) - V ja) k)) := by
  refine xM.of (by decide) (Nat.le_of_ble_eq_true rfl) (fun z C E => ?_)
  have hil := isP_lt hp
  refine k_aload_n (pc := 0) C dX3_leaveWith_0 rfl 1 rfl ?_
  refine k_aload_n (pc := 1) C dX3_leaveWith_1 rfl 0 rfl ?_
  refine gf_X3_18 (pc := 2) C (i) (by have := isP_lt hp; omega) (cm_P hp) rfl dX3_leaveWith_2 ?_
  refine cv_X3_70 (pc := 5) C E (c_compare hja (wQ2 hp) (by omega) (by omega)) rfl (Nat.lt_of_succ_lt (isW_lt hja)) (cm_w hja) (by decide) rfl (Nat.le_of_ble_eq_true rfl) dX3_leaveWith_5 (fun r5 M5 h5 => ?_)
  obtain ⟨rfl, rfl⟩ := h5
  refine k_if_le (pc := 8) (tgt := 14) C dX3_leaveWith_8 (by decide) (fun c8 => ?_) (fun c8 => ?_)
  · rw [cmp_le0] at c8
    refine k_aload_n (pc := 14) C dX3_leaveWith_14 rfl 1 rfl ?_
    refine cv_X3_29 (pc := 15) C E (c_isZero hja (by omega)) rfl (Nat.lt_of_succ_lt (isW_lt hja)) (cm_w hja) (by decide) rfl (Nat.le_of_ble_eq_true rfl) dX3_leaveWith_15 (fun r15 M15 h15 => ?_)
    obtain ⟨rfl, rfl⟩ := h15
    refine k_if_eq (pc := 18) (tgt := 24) C dX3_leaveWith_18 (by decide) (fun c18 => ?_) (fun c18 => ?_)
    · simp only [b01, Decidable.not_not] at c18
      have m1 : V (i + 2) * V ja < 2 ^ 200 := by
        have h := Nat.mul_lt_mul_of_lt_of_le bx (show V ja ≤ 2 ^ 100 by omega) (by decide)
        omega
      have m2 : V (i + 4) * V ja < 2 ^ 200 := by
        have h := Nat.mul_lt_mul_of_lt_of_le by9 (show V ja ≤ 2 ^ 100 by omega) (by decide)
        omega
      have d1 : V (i + 2) * V ja / V (i + 6) ≤ V (i + 2) := Nat.div_le_of_le_mul (by rw [Nat.mul_comm]; exact Nat.mul_le_mul_right _ c8)
      have d2 : V (i + 4) * V ja / V (i + 6) ≤ V (i + 4) := Nat.div_le_of_le_mul (by rw [Nat.mul_comm]; exact Nat.mul_le_mul_right _ c8)
      refine k_aload_n (pc := 24) C dX3_leaveWith_24 rfl 2 rfl ?_
      refine k_aload_n (pc := 25) C dX3_leaveWith_25 rfl 0 rfl ?_
      refine gf_X3_12 (pc := 26) C (i) (by have := isP_lt hp; omega) (cm_P hp) rfl dX3_leaveWith_26 ?_
      refine k_iconst (pc := 29) (v := nI 0) C dX3_leaveWith_29 (by decide) ?_
      refine k_aald (pc := 30) C E (i + 1) (by have := isP_lt hp; omega) 2 rfl rfl (cm_Ps hp) (0) rfl (by omega) (by decide) (i + 2) rfl dX3_leaveWith_30 ?_
      refine k_aload_n (pc := 31) C dX3_leaveWith_31 rfl 1 rfl ?_
      refine k_aload_n (pc := 32) C dX3_leaveWith_32 rfl 0 rfl ?_
      refine gf_X3_18 (pc := 33) C (i) (by have := isP_lt hp; omega) (cm_P hp) rfl dX3_leaveWith_33 ?_
      refine cv_X3_63 (pc := 36) C E (c_proportion (wQ0 hp) hja (wQ2 hp) (by omega) (by omega) (by omega) (by omega) (by omega) (by omega) (by omega)) rfl (by decide) cm_135 (by decide) rfl (Nat.le_of_ble_eq_true rfl) dX3_leaveWith_36 (fun M36 h36 => ?_)
      obtain ⟨V1, rfl, q1, a1⟩ := h36
      refine k_aload_n (pc := 39) C dX3_leaveWith_39 rfl 2 rfl ?_
      refine gf_X3_57 (pc := 40) C (135) (by decide) cm_135 rfl dX3_leaveWith_40 ?_
      refine k_aload_n (pc := 43) C dX3_leaveWith_43 rfl 2 rfl ?_
      refine gf_X3_67 (pc := 44) C (135) (by decide) cm_135 rfl dX3_leaveWith_44 ?_
      refine cv_X3_33 (pc := 47) C E (c_copy w148 w140 (by decide)) rfl (by decide) (cm_w w148) (by decide) rfl (Nat.le_of_ble_eq_true rfl) dX3_leaveWith_47 (fun M47 h47 => ?_)
      subst h47
      rw [q1]
      obtain ⟨V2, hV2⟩ : ∃ W, W = va_up V1 (148) (V (i + 2) * V ja / V (i + 6)) := ⟨_, rfl⟩
      rw [← hV2]
      have v2 : V2 (148) = V (i + 2) * V ja / V (i + 6) := by rw [hV2, ups]
      have f2 : ∀ k, 148 ≠ k → V2 k = V1 k := fun k hk => by rw [hV2, upn hk]
      have g2 : ∀ k, k < 136 → V2 k = V k := fun k hk => by rw [f2 k (by omega), a1 k (by omega)]
      refine k_aload_n (pc := 50) C dX3_leaveWith_50 rfl 2 rfl ?_
      refine k_aload_n (pc := 51) C dX3_leaveWith_51 rfl 0 rfl ?_
      refine gf_X3_12 (pc := 52) C (i) (by have := isP_lt hp; omega) (cm_P hp) rfl dX3_leaveWith_52 ?_
      refine k_iconst (pc := 55) (v := nI 1) C dX3_leaveWith_55 (by decide) ?_
      refine k_aald (pc := 56) C E (i + 1) (by have := isP_lt hp; omega) 2 rfl rfl (cm_Ps hp) (1) rfl (by omega) (by decide) (i + 4) rfl dX3_leaveWith_56 ?_
      refine k_aload_n (pc := 57) C dX3_leaveWith_57 rfl 1 rfl ?_
      refine k_aload_n (pc := 58) C dX3_leaveWith_58 rfl 0 rfl ?_
      refine gf_X3_18 (pc := 59) C (i) (by have := isP_lt hp; omega) (cm_P hp) rfl dX3_leaveWith_59 ?_
      refine cv_X3_63 (pc := 62) C E (c_proportion (wQ1 hp) hja (wQ2 hp) (by omega) (by omega) (by omega) (by rw [g2 _ (by omega)]; omega) (by rw [g2 _ (by omega)]; omega) (by rw [g2 _ (by omega), g2 _ (by omega)]; omega) (by rw [g2 _ (by omega)]; omega)) rfl (by decide) cm_135 (by decide) rfl (Nat.le_of_ble_eq_true rfl) dX3_leaveWith_62 (fun M62 h62 => ?_)
      obtain ⟨V3, rfl, q3, a3⟩ := h62
      rw [g2 _ (by omega), g2 _ (by omega), g2 _ (by omega)] at q3
      refine k_aload_n (pc := 65) C dX3_leaveWith_65 rfl 2 rfl ?_
      refine gf_X3_74 (pc := 66) C (135) (by decide) cm_135 rfl dX3_leaveWith_66 ?_
      refine k_aload_n (pc := 69) C dX3_leaveWith_69 rfl 2 rfl ?_
      refine gf_X3_67 (pc := 70) C (135) (by decide) cm_135 rfl dX3_leaveWith_70 ?_
      refine cv_X3_33 (pc := 73) C E (c_copy w150 w140 (by decide)) rfl (by decide) (cm_w w150) (by decide) rfl (Nat.le_of_ble_eq_true rfl) dX3_leaveWith_73 (fun M73 h73 => ?_)
      subst h73
      rw [q3]
      obtain ⟨V4, hV4⟩ : ∃ W, W = va_up V3 (150) (V (i + 4) * V ja / V (i + 6)) := ⟨_, rfl⟩
      rw [← hV4]
      have v4 : V4 (150) = V (i + 4) * V ja / V (i + 6) := by rw [hV4, ups]
      have f4 : ∀ k, 150 ≠ k → V4 k = V3 k := fun k hk => by rw [hV4, upn hk]
      have g4 : ∀ k, k < 136 → V4 k = V k := fun k hk => by rw [f4 k (by omega), a3 k (by omega), g2 k hk]
      have z4 : V4 148 = V (i + 2) * V ja / V (i + 6) := by rw [f4 148 (by decide), a3 148 (by decide), v2]
      refine k_aload_n (pc := 76) C dX3_leaveWith_76 rfl 0 rfl ?_
      refine gf_X3_12 (pc := 77) C (i) (by have := isP_lt hp; omega) (cm_P hp) rfl dX3_leaveWith_77 ?_
      refine k_iconst (pc := 80) (v := nI 0) C dX3_leaveWith_80 (by decide) ?_
      refine k_aald (pc := 81) C E (i + 1) (by have := isP_lt hp; omega) 2 rfl rfl (cm_Ps hp) (0) rfl (by omega) (by decide) (i + 2) rfl dX3_leaveWith_81 ?_
      refine k_aload_n (pc := 82) C dX3_leaveWith_82 rfl 2 rfl ?_
      refine gf_X3_57 (pc := 83) C (135) (by decide) cm_135 rfl dX3_leaveWith_83 ?_
      refine cv_X3_77 (pc := 86) C E (c_minus (wQ0 hp) w148 (by omega) (by rw [z4, g4 _ (by omega)]; exact d1)) rfl (Nat.lt_of_succ_lt (isW_lt (wQ0 hp))) (cm_w (wQ0 hp)) (by decide) rfl (Nat.le_of_ble_eq_true rfl) dX3_leaveWith_86 (fun M86 h86 => ?_)
      subst h86
      rw [z4, g4 _ (by omega)]
      obtain ⟨V5, hV5⟩ : ∃ W, W = va_up V4 (i + 2) (V (i + 2) - V (i + 2) * V ja / V (i + 6)) := ⟨_, rfl⟩
      rw [← hV5]
      have v5 : V5 (i + 2) = V (i + 2) - V (i + 2) * V ja / V (i + 6) := by rw [hV5, ups]
      have f5 : ∀ k, i + 2 ≠ k → V5 k = V4 k := fun k hk => by rw [hV5, upn hk]
      refine k_aload_n (pc := 89) C dX3_leaveWith_89 rfl 0 rfl ?_
      refine gf_X3_12 (pc := 90) C (i) (by have := isP_lt hp; omega) (cm_P hp) rfl dX3_leaveWith_90 ?_
      refine k_iconst (pc := 93) (v := nI 1) C dX3_leaveWith_93 (by decide) ?_
      refine k_aald (pc := 94) C E (i + 1) (by have := isP_lt hp; omega) 2 rfl rfl (cm_Ps hp) (1) rfl (by omega) (by decide) (i + 4) rfl dX3_leaveWith_94 ?_
      refine k_aload_n (pc := 95) C dX3_leaveWith_95 rfl 2 rfl ?_
      refine gf_X3_74 (pc := 96) C (135) (by decide) cm_135 rfl dX3_leaveWith_96 ?_
      refine cv_X3_77 (pc := 99) C E (c_minus (wQ1 hp) w150 (by omega) (by rw [f5 150 (by omega), v4, f5 _ (by omega), g4 _ (by omega)]; exact d2)) rfl (Nat.lt_of_succ_lt (isW_lt (wQ1 hp))) (cm_w (wQ1 hp)) (by decide) rfl (Nat.le_of_ble_eq_true rfl) dX3_leaveWith_99 (fun M99 h99 => ?_)
      subst h99
      rw [f5 150 (by omega), v4, f5 (i + 4) (by omega), g4 _ (by omega)]
      obtain ⟨V6, hV6⟩ : ∃ W, W = va_up V5 (i + 4) (V (i + 4) - V (i + 4) * V ja / V (i + 6)) := ⟨_, rfl⟩
      rw [← hV6]
      have v6 : V6 (i + 4) = V (i + 4) - V (i + 4) * V ja / V (i + 6) := by rw [hV6, ups]
      have f6 : ∀ k, i + 4 ≠ k → V6 k = V5 k := fun k hk => by rw [hV6, upn hk]
      refine k_aload_n (pc := 102) C dX3_leaveWith_102 rfl 0 rfl ?_
      refine gf_X3_18 (pc := 103) C (i) (by have := isP_lt hp; omega) (cm_P hp) rfl dX3_leaveWith_103 ?_
      refine k_aload_n (pc := 106) C dX3_leaveWith_106 rfl 1 rfl ?_
      refine cv_X3_77 (pc := 107) C E (c_minus (wQ2 hp) hja (by omega) (by rw [f6 _ (by omega), f5 _ (by omega), g4 _ (by omega), f6 _ (by omega), f5 _ (by omega), g4 _ (by omega)]; exact c8)) rfl (Nat.lt_of_succ_lt (isW_lt (wQ2 hp))) (cm_w (wQ2 hp)) (by decide) rfl (Nat.le_of_ble_eq_true rfl) dX3_leaveWith_107 (fun M107 h107 => ?_)
      subst h107
      rw [f6 (i + 6) (by omega), f5 (i + 6) (by omega), g4 _ (by omega), f6 ja (by omega), f5 ja (by omega), g4 _ (by omega)]
      obtain ⟨V7, hV7⟩ : ∃ W, W = va_up V6 (i + 6) (V (i + 6) - V ja) := ⟨_, rfl⟩
      rw [← hV7]
      have v7 : V7 (i + 6) = V (i + 6) - V ja := by rw [hV7, ups]
      have f7 : ∀ k, i + 6 ≠ k → V7 k = V6 k := fun k hk => by rw [hV7, upn hk]
      refine k_iconst (pc := 110) (v := nI 1) C dX3_leaveWith_110 (by decide) ?_
      exact r_i (pc := 111) C E (⟨_, rfl, by unfold lR; rw [if_neg (by omega), if_neg c18]; rfl, fun h => absurd rfl h, fun _ => ⟨by rw [f7 148 (by omega), f6 148 (by omega), f5 148 (by omega), z4], by rw [f7 150 (by omega), f6 150 (by omega), f5 150 (by omega), v4], fun k hk => by
      unfold up3
      by_cases e6 : i + 6 = k
      · subst e6; rw [v7, ups]
      · rw [f7 k e6, upn e6]
        by_cases e4 : i + 4 = k
        · subst e4; rw [v6, ups]
        · rw [f6 k e4, upn e4]
          by_cases e2 : i + 2 = k
          · subst e2; rw [v5, ups]
          · rw [f5 k e2, upn e2, g4 k (by omega)]⟩⟩) dX3_leaveWith_111
    · simp only [b01, Decidable.not_not] at c18
      refine k_bipush (pc := 21) (v := (-4)) C dX3_leaveWith_21 (by decide) ?_
      exact r_i (pc := 23) C E (⟨V, rfl, by unfold lR; rw [if_neg (by omega), if_pos c18], fun _ k _ => rfl, fun h => absurd h (by decide)⟩) dX3_leaveWith_23
  · rw [cmp_le0] at c8
    refine k_bipush (pc := 11) (v := (-3)) C dX3_leaveWith_11 (by decide) ?_
    exact r_i (pc := 13) C E (⟨V, rfl, by unfold lR; rw [if_pos (by omega)], fun _ k _ => rfl, fun h => absurd h (by decide)⟩) dX3_leaveWith_13
end PC
