section PD
variable {l : Launch} {D : va_G} {ca : Nat → ClassId} {ad : Nat → Nat} {V U : Nat → Nat} {sc : Nat → Int32} {ia : Nat → Nat → Int32} {la : Nat → Nat → Int64}
set_option maxHeartbeats 4000000 in
set_option maxRecDepth 100000 in
/-- swapGiven -/
theorem c3_given {i sd p q : Nat} (hp : isP i) (hsd : sd < 2) (bx : V (i + 2 + 2 * sd) < 2 ^ 100) (by9 : V (i + 2 + 2 * (1 - sd)) < 2 ^ 100) (bP : V (i + 6) < 2 ^ 100) (hsp : sc (200 + i) = nI p) (hsq : sc (400 + i) = nI q) (hpq : p < q) (hq : q ≤ 1000000) {ja : Nat} (hja : isW ja) (na : ja < 36) (bd : V ja < 2 ^ 256) (hop : 0 < V (i + 6) → 0 < V (i + 2 + 2 * sd)) : xI l D (xty ca) yX3_swapGiven cX3_swapGiven 6 (some .int) 5 350 [.ref (ad i), .int (nI sd), .ref (ad ja), .ref (ad 135)] ad (cm ad ca (V, U, sc, ia, la)) (fun r M' => ∃ V', M' = cm ad ca (V', U, sc, ia, la) ∧ r = gR (V (i + 2 + 2 * sd)) (V (i + 2 + 2 * (1 - sd))) (V (i + 6)) p q (V ja) ∧ (¬ r = 1 → ∀ k, k < 135 → V' k = V k) ∧ (r = 1 → V' 148 = gN (V (i + 2 + 2 * sd)) (V (i + 2 + 2 * (1 - sd))) p q (V ja) ∧ ∀ k, k < 135 → V' k = va_up (va_up V (i + 2 + 2 * sd) (V (i + 2 + 2 * sd) + V ja)) (i + 2 + 2 * (1 - sd)) (V (i + 2 + 2 * (1 - sd)) - gN (V (i + 2 + 2 * sd)) (V (i + 2 + 2 * (1 - sd))) p q (V ja)) k)) := by
  refine xM.of (by decide) (Nat.le_of_ble_eq_true rfl) (fun z C E => ?_)
  have hil := isP_lt hp
  refine k_aload_n (pc := 0) C dX3_swapGiven_0 rfl 0 rfl ?_
  refine gf_X3_12 (pc := 1) C (i) (by have := isP_lt hp; omega) (cm_P hp) rfl dX3_swapGiven_1 ?_
  refine k_iload_n (pc := 4) C dX3_swapGiven_4 rfl 1 rfl ?_
  refine k_aald (pc := 5) C E (i + 1) (by have := isP_lt hp; omega) 2 rfl rfl (cm_Ps hp) (sd) rfl (by omega) (by decide) (i + 2 + 2 * sd) rfl dX3_swapGiven_5 ?_
  refine k_astore (pc := 6) (lv' := [(4, .ref (ad (i + 2 + 2 * sd))), (0, .ref (ad (i))), (1, .int (nI sd)), (2, .ref (ad (ja))), (3, .ref (ad (135)))]) C dX3_swapGiven_6 (by decide) rfl ?_
  refine k_aload_n (pc := 8) C dX3_swapGiven_8 rfl 1 rfl ?_
  refine gf_X3_12 (pc := 9) C (i) (by have := isP_lt hp; omega) (cm_P hp) rfl dX3_swapGiven_9 ?_
  refine k_iconst (pc := 12) (v := nI 1) C dX3_swapGiven_12 (by decide) ?_
  refine k_iload_n (pc := 13) C dX3_swapGiven_13 rfl 2 rfl ?_
  refine k_isub (pc := 14) C dX3_swapGiven_14 ?_
  refine k_eqi (y := nI (1 - sd)) (pk_sub (by omega)) ?_
  refine k_aald (pc := 15) C E (i + 1) (by have := isP_lt hp; omega) 2 rfl rfl (cm_Ps hp) (1 - sd) rfl (by omega) (by decide) (i + 2 + 2 * (1 - sd)) rfl dX3_swapGiven_15 ?_
  refine k_astore (pc := 16) (lv' := [(5, .ref (ad (i + 2 + 2 * (1 - sd)))), (4, .ref (ad (i + 2 + 2 * sd))), (0, .ref (ad (i))), (1, .int (nI sd)), (2, .ref (ad (ja))), (3, .ref (ad (135)))]) C dX3_swapGiven_16 (by decide) rfl ?_
  refine k_aload_n (pc := 18) C dX3_swapGiven_18 rfl 5 rfl ?_
  refine k_aload (pc := 19) C dX3_swapGiven_19 1 rfl ?_
  refine k_aload_n (pc := 21) C dX3_swapGiven_21 rfl 4 rfl ?_
  refine cv_X3_40 (pc := 22) C E (c_bothFit (wQs hp hsd) hja (by omega) (by omega) (by omega)) rfl (by decide) cm_135 (by decide) rfl (Nat.le_of_ble_eq_true rfl) dX3_swapGiven_22 (fun r22 M22 h22 => ?_)
  obtain ⟨⟨s22, rfl⟩, rfl⟩ := h22
  obtain ⟨V1, hV1⟩ : ∃ W, W = va_up V (146) (s22) := ⟨_, rfl⟩
  rw [← hV1]
  have v1 : V1 (146) = s22 := by rw [hV1, ups]
  have f1 : ∀ k, 146 ≠ k → V1 k = V k := fun k hk => by rw [hV1, upn hk]
  refine k_if_ne (pc := 25) (tgt := 31) C dX3_swapGiven_25 (by decide) (fun c25 => ?_) (fun c25 => ?_)
  · simp only [b01, Decidable.not_not] at c25
    refine k_aload_n (pc := 31) C dX3_swapGiven_31 rfl 2 rfl ?_
    refine cv_X3_46 (pc := 32) C E (c3_isOpen hp (by rw [f1 _ (by omega)]; exact bP)) rfl (by have := isP_lt hp; omega) (cm_P hp) (by decide) rfl (Nat.le_of_ble_eq_true rfl) dX3_swapGiven_32 (fun r32 M32 h32 => ?_)
    obtain ⟨rfl, rfl⟩ := h32
    rw [f1 _ (by omega)]
    refine k_if_ne (pc := 35) (tgt := 41) C dX3_swapGiven_35 (by decide) (fun c35 => ?_) (fun c35 => ?_)
    · simp only [b10] at c35
      have hx0 := hop (by omega)
      have e1 : V ja * (q - p) ≤ 2 ^ 100 * 1000000 := Nat.mul_le_mul (by omega) (by omega)
      obtain ⟨f, hf⟩ : ∃ f, f = V ja * (q - p) := ⟨_, rfl⟩
      rw [← hf] at e1
      have e2 : V (i + 2 + 2 * (1 - sd)) * f ≤ 2 ^ 100 * (2 ^ 100 * 1000000) := Nat.mul_le_mul (by omega) e1
      have e3 : V (i + 2 + 2 * sd) * q ≤ 2 ^ 100 * 1000000 := Nat.mul_le_mul (by omega) hq
      refine k_aload_n (pc := 41) C dX3_swapGiven_41 rfl 5 rfl ?_
      refine gf_X3_57 (pc := 42) C (135) (by decide) cm_135 rfl dX3_swapGiven_42 ?_
      refine k_aload_n (pc := 45) C dX3_swapGiven_45 rfl 4 rfl ?_
      refine cv_X3_33 (pc := 46) C E (c_copy w148 hja (by omega)) rfl (by decide) (cm_w w148) (by decide) rfl (Nat.le_of_ble_eq_true rfl) dX3_swapGiven_46 (fun M46 h46 => ?_)
      subst h46
      rw [f1 ja (by omega)]
      obtain ⟨V2, hV2⟩ : ∃ W, W = va_up V1 (148) (V ja) := ⟨_, rfl⟩
      rw [← hV2]
      have v2 : V2 (148) = V ja := by rw [hV2, ups]
      have f2 : ∀ k, 148 ≠ k → V2 k = V1 k := fun k hk => by rw [hV2, upn hk]
      refine k_aload_n (pc := 49) C dX3_swapGiven_49 rfl 5 rfl ?_
      refine gf_X3_57 (pc := 50) C (135) (by decide) cm_135 rfl dX3_swapGiven_50 ?_
      refine k_aload_n (pc := 53) C dX3_swapGiven_53 rfl 2 rfl ?_
      refine gf_X3_26 (pc := 54) C (i) (by have := isP_lt hp; omega) (cm_P hp) rfl dX3_swapGiven_54 ?_
      rw [hsq]
      refine k_aload_n (pc := 57) C dX3_swapGiven_57 rfl 2 rfl ?_
      refine gf_X3_22 (pc := 58) C (i) (by have := isP_lt hp; omega) (cm_P hp) rfl dX3_swapGiven_58 ?_
      rw [hsp]
      refine k_isub (pc := 61) C dX3_swapGiven_61 ?_
      refine k_eqi (y := nI (q - p)) (pk_sub (by omega)) ?_
      refine k_iconst (pc := 62) (v := nI 0) C dX3_swapGiven_62 (by decide) ?_
      refine cv_X3_80 (pc := 63) C E (c_scale w148 (p := q - p) (q := 0) (by omega) (by decide)) rfl (by decide) (cm_w w148) (by decide) rfl (Nat.le_of_ble_eq_true rfl) dX3_swapGiven_63 (fun M63 h63 => ?_)
      subst h63
      rw [v2, Nat.add_zero, ← hf]
      obtain ⟨V3, hV3⟩ : ∃ W, W = va_up V2 (148) (f) := ⟨_, rfl⟩
      rw [← hV3]
      have v3 : V3 (148) = f := by rw [hV3, ups]
      have f3 : ∀ k, 148 ≠ k → V3 k = V2 k := fun k hk => by rw [hV3, upn hk]
      refine k_aload_n (pc := 66) C dX3_swapGiven_66 rfl 5 rfl ?_
      refine gf_X3_84 (pc := 67) C (135) (by decide) cm_135 rfl dX3_swapGiven_67 ?_
      refine k_aload (pc := 70) C dX3_swapGiven_70 0 rfl ?_
      refine k_aload_n (pc := 72) C dX3_swapGiven_72 rfl 5 rfl ?_
      refine gf_X3_57 (pc := 73) C (135) (by decide) cm_135 rfl dX3_swapGiven_73 ?_
      refine cv_X3_87 (pc := 76) C E (c_product w136 (wQs hp (show 1 - sd < 2 by omega)) w148 (by omega) (by decide) (by rw [f3 _ (by omega), f2 _ (by omega), f1 _ (by omega)]; omega) (by rw [v3]; omega)) rfl (by decide) (cm_w w136) (by decide) rfl (Nat.le_of_ble_eq_true rfl) dX3_swapGiven_76 (fun M76 h76 => ?_)
      subst h76
      rw [v3, f3 (i + 2 + 2 * (1 - sd)) (by omega), f2 (i + 2 + 2 * (1 - sd)) (by omega), f1 (i + 2 + 2 * (1 - sd)) (by omega)]
      obtain ⟨V4, hV4⟩ : ∃ W, W = va_up V3 (136) (V (i + 2 + 2 * (1 - sd)) * f) := ⟨_, rfl⟩
      rw [← hV4]
      have v4 : V4 (136) = V (i + 2 + 2 * (1 - sd)) * f := by rw [hV4, ups]
      have f4 : ∀ k, 136 ≠ k → V4 k = V3 k := fun k hk => by rw [hV4, upn hk]
      refine k_aload_n (pc := 79) C dX3_swapGiven_79 rfl 5 rfl ?_
      refine gf_X3_90 (pc := 80) C (135) (by decide) cm_135 rfl dX3_swapGiven_80 ?_
      refine k_aload (pc := 83) C dX3_swapGiven_83 1 rfl ?_
      refine cv_X3_33 (pc := 85) C E (c_copy w138 (wQs hp hsd) (by omega)) rfl (by decide) (cm_w w138) (by decide) rfl (Nat.le_of_ble_eq_true rfl) dX3_swapGiven_85 (fun M85 h85 => ?_)
      subst h85
      rw [f4 (i + 2 + 2 * sd) (by omega), f3 (i + 2 + 2 * sd) (by omega), f2 (i + 2 + 2 * sd) (by omega), f1 (i + 2 + 2 * sd) (by omega)]
      obtain ⟨V5, hV5⟩ : ∃ W, W = va_up V4 (138) (V (i + 2 + 2 * sd)) := ⟨_, rfl⟩
      rw [← hV5]
      have v5 : V5 (138) = V (i + 2 + 2 * sd) := by rw [hV5, ups]
      have f5 : ∀ k, 138 ≠ k → V5 k = V4 k := fun k hk => by rw [hV5, upn hk]
      refine k_aload_n (pc := 88) C dX3_swapGiven_88 rfl 5 rfl ?_
      refine gf_X3_90 (pc := 89) C (135) (by decide) cm_135 rfl dX3_swapGiven_89 ?_
      refine k_aload_n (pc := 92) C dX3_swapGiven_92 rfl 2 rfl ?_
      refine gf_X3_26 (pc := 93) C (i) (by have := isP_lt hp; omega) (cm_P hp) rfl dX3_swapGiven_93 ?_
      rw [hsq]
      refine k_iconst (pc := 96) (v := nI 0) C dX3_swapGiven_96 (by decide) ?_
      refine cv_X3_80 (pc := 97) C E (c_scale w138 (p := q) (q := 0) (by omega) (by decide)) rfl (by decide) (cm_w w138) (by decide) rfl (Nat.le_of_ble_eq_true rfl) dX3_swapGiven_97 (fun M97 h97 => ?_)
      subst h97
      rw [v5, Nat.add_zero]
      obtain ⟨V6, hV6⟩ : ∃ W, W = va_up V5 (138) (V (i + 2 + 2 * sd) * q) := ⟨_, rfl⟩
      rw [← hV6]
      have v6 : V6 (138) = V (i + 2 + 2 * sd) * q := by rw [hV6, ups]
      have f6 : ∀ k, 138 ≠ k → V6 k = V5 k := fun k hk => by rw [hV6, upn hk]
      refine k_aload_n (pc := 100) C dX3_swapGiven_100 rfl 5 rfl ?_
      refine gf_X3_90 (pc := 101) C (135) (by decide) cm_135 rfl dX3_swapGiven_101 ?_
      refine k_aload_n (pc := 104) C dX3_swapGiven_104 rfl 5 rfl ?_
      refine gf_X3_57 (pc := 105) C (135) (by decide) cm_135 rfl dX3_swapGiven_105 ?_
      refine cv_X3_60 (pc := 108) C E (c_plus w138 w148 (by decide)) rfl (by decide) (cm_w w138) (by decide) rfl (Nat.le_of_ble_eq_true rfl) dX3_swapGiven_108 (fun M108 h108 => ?_)
      subst h108
      rw [v6, f6 148 (by decide), f5 148 (by decide), f4 148 (by decide), v3]
      obtain ⟨V7, hV7⟩ : ∃ W, W = va_up V6 (138) (V (i + 2 + 2 * sd) * q + f) := ⟨_, rfl⟩
      rw [← hV7]
      have v7 : V7 (138) = V (i + 2 + 2 * sd) * q + f := by rw [hV7, ups]
      have f7 : ∀ k, 138 ≠ k → V7 k = V6 k := fun k hk => by rw [hV7, upn hk]
      have n7 : V7 136 = V (i + 2 + 2 * (1 - sd)) * f := by rw [f7 136 (by decide), f6 136 (by decide), f5 136 (by decide), v4]
      have g7 : ∀ k, k < 135 → V7 k = V k := fun k hk => by rw [f7 k (by omega), f6 k (by omega), f5 k (by omega), f4 k (by omega), f3 k (by omega), f2 k (by omega), f1 k (by omega)]
      refine k_aload_n (pc := 111) C dX3_swapGiven_111 rfl 5 rfl ?_
      refine cv_X3_93 (pc := 112) C E (c_split (by rw [n7]; omega) (by rw [v7]; omega)) rfl (by decide) cm_135 (by decide) rfl (Nat.le_of_ble_eq_true rfl) dX3_swapGiven_112 (fun M112 h112 => ?_)
      obtain ⟨d8, rfl⟩ := h112
      obtain ⟨V8, hV8⟩ : ∃ W, W = wq V7 (V7 136 / V7 138) (V7 136 % V7 138) d8 := ⟨_, rfl⟩
      rw [← hV8]
      have q8 : V8 140 = V7 136 / V7 138 := by rw [hV8, wq_0]
      have r8 : V8 142 = V7 136 % V7 138 := by rw [hV8, wq_2]
      have f8 : ∀ k, k < 140 ∨ 144 < k → V8 k = V7 k := fun k hk => by rw [hV8, wq_o hk]
      rw [n7, v7] at q8
      obtain ⟨g, hg⟩ : ∃ g, g = gN (V (i + 2 + 2 * sd)) (V (i + 2 + 2 * (1 - sd))) p q (V ja) := ⟨_, rfl⟩
      have q8 : V8 140 = g := by rw [q8, hg, hf]; rfl
      have hgy : g ≤ V (i + 2 + 2 * (1 - sd)) := by
        rw [hg]; unfold gN; rw [← hf]
        exact Nat.div_le_of_le_mul (by rw [Nat.mul_comm]; exact Nat.mul_le_mul_right _ (by omega))
      refine k_aload_n (pc := 115) C dX3_swapGiven_115 rfl 5 rfl ?_
      refine gf_X3_57 (pc := 116) C (135) (by decide) cm_135 rfl dX3_swapGiven_116 ?_
      refine k_aload_n (pc := 119) C dX3_swapGiven_119 rfl 5 rfl ?_
      refine gf_X3_67 (pc := 120) C (135) (by decide) cm_135 rfl dX3_swapGiven_120 ?_
      refine cv_X3_33 (pc := 123) C E (c_copy w148 w140 (by decide)) rfl (by decide) (cm_w w148) (by decide) rfl (Nat.le_of_ble_eq_true rfl) dX3_swapGiven_123 (fun M123 h123 => ?_)
      subst h123
      rw [q8]
      obtain ⟨V9, hV9⟩ : ∃ W, W = va_up V8 (148) (g) := ⟨_, rfl⟩
      rw [← hV9]
      have v9 : V9 (148) = g := by rw [hV9, ups]
      have f9 : ∀ k, 148 ≠ k → V9 k = V8 k := fun k hk => by rw [hV9, upn hk]
      have g9 : ∀ k, k < 135 → V9 k = V k := fun k hk => by rw [f9 k (by omega), f8 k (by omega), g7 k hk]
      refine k_aload_n (pc := 126) C dX3_swapGiven_126 rfl 5 rfl ?_
      refine gf_X3_57 (pc := 127) C (135) (by decide) cm_135 rfl dX3_swapGiven_127 ?_
      refine cv_X3_29 (pc := 130) C E (c_isZero w148 (by rw [v9]; omega)) rfl (by decide) (cm_w w148) (by decide) rfl (Nat.le_of_ble_eq_true rfl) dX3_swapGiven_130 (fun r130 M130 h130 => ?_)
      obtain ⟨rfl, rfl⟩ := h130
      rw [v9]
      refine k_if_eq (pc := 133) (tgt := 139) C dX3_swapGiven_133 (by decide) (fun c133 => ?_) (fun c133 => ?_)
      · simp only [b01, Decidable.not_not] at c133
        refine k_aload (pc := 139) C dX3_swapGiven_139 1 rfl ?_
        refine k_aload_n (pc := 141) C dX3_swapGiven_141 rfl 4 rfl ?_
        refine cv_X3_60 (pc := 142) C E (c_plus (wQs hp hsd) hja (by omega)) rfl (Nat.lt_of_succ_lt (isW_lt (wQs hp hsd))) (cm_w (wQs hp hsd)) (by decide) rfl (Nat.le_of_ble_eq_true rfl) dX3_swapGiven_142 (fun M142 h142 => ?_)
        subst h142
        rw [g9 _ (by omega), g9 _ (by omega)]
        obtain ⟨V10, hV10⟩ : ∃ W, W = va_up V9 (i + 2 + 2 * sd) (V (i + 2 + 2 * sd) + V ja) := ⟨_, rfl⟩
        rw [← hV10]
        have v10 : V10 (i + 2 + 2 * sd) = V (i + 2 + 2 * sd) + V ja := by rw [hV10, ups]
        have f10 : ∀ k, i + 2 + 2 * sd ≠ k → V10 k = V9 k := fun k hk => by rw [hV10, upn hk]
        refine k_aload (pc := 145) C dX3_swapGiven_145 0 rfl ?_
        refine k_aload_n (pc := 147) C dX3_swapGiven_147 rfl 5 rfl ?_
        refine gf_X3_57 (pc := 148) C (135) (by decide) cm_135 rfl dX3_swapGiven_148 ?_
        refine cv_X3_77 (pc := 151) C E (c_minus (wQs hp (show 1 - sd < 2 by omega)) w148 (by omega) (by rw [f10 148 (by omega), v9, f10 _ (by omega), g9 _ (by omega)]; exact hgy)) rfl (Nat.lt_of_succ_lt (isW_lt (wQs hp (show 1 - sd < 2 by omega)))) (cm_w (wQs hp (show 1 - sd < 2 by omega))) (by decide) rfl (Nat.le_of_ble_eq_true rfl) dX3_swapGiven_151 (fun M151 h151 => ?_)
        subst h151
        rw [f10 148 (by omega), v9, f10 (i + 2 + 2 * (1 - sd)) (by omega), g9 _ (by omega)]
        obtain ⟨V11, hV11⟩ : ∃ W, W = va_up V10 (i + 2 + 2 * (1 - sd)) (V (i + 2 + 2 * (1 - sd)) - g) := ⟨_, rfl⟩
        rw [← hV11]
        have v11 : V11 (i + 2 + 2 * (1 - sd)) = V (i + 2 + 2 * (1 - sd)) - g := by rw [hV11, ups]
        have f11 : ∀ k, i + 2 + 2 * (1 - sd) ≠ k → V11 k = V10 k := fun k hk => by rw [hV11, upn hk]
        refine k_iconst (pc := 154) (v := nI 1) C dX3_swapGiven_154 (by decide) ?_
        exact r_i (pc := 155) C E (⟨_, rfl, by unfold gR; rw [if_pos c25, if_neg c35, ← hg, if_neg c133]; rfl, fun h => absurd rfl h, fun _ => ⟨by rw [f11 148 (by omega), f10 148 (by omega), v9, hg], fun k hk => by
      rw [← hg]
      by_cases e4 : i + 2 + 2 * (1 - sd) = k
      · subst e4; rw [v11, ups]
      · rw [f11 k e4, upn e4]
        by_cases e2 : i + 2 + 2 * sd = k
        · subst e2; rw [v10, ups]
        · rw [f10 k e2, upn e2, g9 k hk]⟩⟩) dX3_swapGiven_155
      · simp only [b01, Decidable.not_not] at c133
        refine k_bipush (pc := 136) (v := (-4)) C dX3_swapGiven_136 (by decide) ?_
        exact r_i (pc := 138) C E (⟨_, rfl, by unfold gR; rw [if_pos c25, if_neg c35, ← hg, if_pos c133], fun _ k hk => g9 k hk, fun h => absurd h (by decide)⟩) dX3_swapGiven_138
    · simp only [b10] at c35
      refine k_bipush (pc := 38) (v := (-4)) C dX3_swapGiven_38 (by decide) ?_
      exact r_i (pc := 40) C E (⟨_, rfl, by unfold gR; rw [if_pos c25, if_pos c35], fun _ k hk => f1 k (by omega), fun h => absurd h (by decide)⟩) dX3_swapGiven_40
  · simp only [b01, Decidable.not_not] at c25
    refine k_bipush (pc := 28) (v := (-2)) C dX3_swapGiven_28 (by decide) ?_
    exact r_i (pc := 30) C E (⟨_, rfl, by unfold gR; rw [if_neg c25], fun _ k hk => f1 k (by omega), fun h => absurd h (by decide)⟩) dX3_swapGiven_30
set_option maxHeartbeats 4000000 in
set_option maxRecDepth 100000 in
/-- swapAsked -/
theorem c3_asked {i sd p q : Nat} (hp : isP i) (hsd : sd < 2) (bx : V (i + 2 + 2 * sd) < 2 ^ 100) (by9 : V (i + 2 + 2 * (1 - sd)) < 2 ^ 100) (bP : V (i + 6) < 2 ^ 100) (hsp : sc (200 + i) = nI p) (hsq : sc (400 + i) = nI q) (hpq : p < q) (hq : q ≤ 1000000) {ja : Nat} (hja : isW ja) (na : ja < 36) (bd : V ja < 2 ^ 256)  : xI l D (xty ca) yX3_swapAsked cX3_swapAsked 6 (some .int) 5 350 [.ref (ad i), .int (nI sd), .ref (ad ja), .ref (ad 135)] ad (cm ad ca (V, U, sc, ia, la)) (fun r M' => ∃ V', M' = cm ad ca (V', U, sc, ia, la) ∧ r = aR (V (i + 2 + 2 * sd)) (V (i + 2 + 2 * (1 - sd))) p q (V ja) ∧ (¬ r = 1 → ∀ k, k < 135 → V' k = V k) ∧ (r = 1 → V' 148 = aN (V (i + 2 + 2 * sd)) (V (i + 2 + 2 * (1 - sd))) p q (V ja) ∧ ∀ k, k < 135 → V' k = va_up (va_up V (i + 2 + 2 * sd) (V (i + 2 + 2 * sd) + aN (V (i + 2 + 2 * sd)) (V (i + 2 + 2 * (1 - sd))) p q (V ja))) (i + 2 + 2 * (1 - sd)) (V (i + 2 + 2 * (1 - sd)) - V ja) k)) := by
  refine xM.of (by decide) (Nat.le_of_ble_eq_true rfl) (fun z C E => ?_)
  have hil := isP_lt hp
  refine k_aload_n (pc := 0) C dX3_swapAsked_0 rfl 0 rfl ?_
  refine gf_X3_12 (pc := 1) C (i) (by have := isP_lt hp; omega) (cm_P hp) rfl dX3_swapAsked_1 ?_
  refine k_iload_n (pc := 4) C dX3_swapAsked_4 rfl 1 rfl ?_
  refine k_aald (pc := 5) C E (i + 1) (by have := isP_lt hp; omega) 2 rfl rfl (cm_Ps hp) (sd) rfl (by omega) (by decide) (i + 2 + 2 * sd) rfl dX3_swapAsked_5 ?_
  refine k_astore (pc := 6) (lv' := [(4, .ref (ad (i + 2 + 2 * sd))), (0, .ref (ad (i))), (1, .int (nI sd)), (2, .ref (ad (ja))), (3, .ref (ad (135)))]) C dX3_swapAsked_6 (by decide) rfl ?_
  refine k_aload_n (pc := 8) C dX3_swapAsked_8 rfl 1 rfl ?_
  refine gf_X3_12 (pc := 9) C (i) (by have := isP_lt hp; omega) (cm_P hp) rfl dX3_swapAsked_9 ?_
  refine k_iconst (pc := 12) (v := nI 1) C dX3_swapAsked_12 (by decide) ?_
  refine k_iload_n (pc := 13) C dX3_swapAsked_13 rfl 2 rfl ?_
  refine k_isub (pc := 14) C dX3_swapAsked_14 ?_
  refine k_eqi (y := nI (1 - sd)) (pk_sub (by omega)) ?_
  refine k_aald (pc := 15) C E (i + 1) (by have := isP_lt hp; omega) 2 rfl rfl (cm_Ps hp) (1 - sd) rfl (by omega) (by decide) (i + 2 + 2 * (1 - sd)) rfl dX3_swapAsked_15 ?_
  refine k_astore (pc := 16) (lv' := [(5, .ref (ad (i + 2 + 2 * (1 - sd)))), (4, .ref (ad (i + 2 + 2 * sd))), (0, .ref (ad (i))), (1, .int (nI sd)), (2, .ref (ad (ja))), (3, .ref (ad (135)))]) C dX3_swapAsked_16 (by decide) rfl ?_
  refine k_aload_n (pc := 18) C dX3_swapAsked_18 rfl 4 rfl ?_
  refine k_aload (pc := 19) C dX3_swapAsked_19 0 rfl ?_
  refine cv_X3_70 (pc := 21) C E (c_compare hja (wQs hp (show 1 - sd < 2 by omega)) (by omega) (by omega)) rfl (Nat.lt_of_succ_lt (isW_lt hja)) (cm_w hja) (by decide) rfl (Nat.le_of_ble_eq_true rfl) dX3_swapAsked_21 (fun r21 M21 h21 => ?_)
  obtain ⟨rfl, rfl⟩ := h21
  refine k_if_lt (pc := 24) (tgt := 30) C dX3_swapAsked_24 (by decide) (fun c24 => ?_) (fun c24 => ?_)
  · rw [cmp_l0] at c24
    have e3 : V (i + 2 + 2 * sd) * q ≤ 2 ^ 100 * 1000000 := Nat.mul_le_mul (by omega) hq
    have e4 : V (i + 2 + 2 * sd) * q * V ja ≤ 2 ^ 100 * 1000000 * 2 ^ 100 := Nat.mul_le_mul e3 (by omega)
    have e5 : (V (i + 2 + 2 * (1 - sd)) - V ja) * (q - p) ≤ 2 ^ 100 * 1000000 := Nat.mul_le_mul (by omega) (by omega)
    have e6 : 0 < (V (i + 2 + 2 * (1 - sd)) - V ja) * (q - p) := Nat.mul_pos (by omega) (by omega)
    obtain ⟨N, hN⟩ : ∃ N, N = V (i + 2 + 2 * sd) * q * V ja := ⟨_, rfl⟩
    obtain ⟨Dd, hDd⟩ : ∃ N, N = (V (i + 2 + 2 * (1 - sd)) - V ja) * (q - p) := ⟨_, rfl⟩
    rw [← hN] at e4
    rw [← hDd] at e5 e6
    refine k_aload_n (pc := 30) C dX3_swapAsked_30 rfl 5 rfl ?_
    refine gf_X3_57 (pc := 31) C (135) (by decide) cm_135 rfl dX3_swapAsked_31 ?_
    refine k_aload (pc := 34) C dX3_swapAsked_34 1 rfl ?_
    refine cv_X3_33 (pc := 36) C E (c_copy w148 (wQs hp hsd) (by omega)) rfl (by decide) (cm_w w148) (by decide) rfl (Nat.le_of_ble_eq_true rfl) dX3_swapAsked_36 (fun M36 h36 => ?_)
    subst h36
    obtain ⟨V1, hV1⟩ : ∃ W, W = va_up V (148) (V (i + 2 + 2 * sd)) := ⟨_, rfl⟩
    rw [← hV1]
    have v1 : V1 (148) = V (i + 2 + 2 * sd) := by rw [hV1, ups]
    have f1 : ∀ k, 148 ≠ k → V1 k = V k := fun k hk => by rw [hV1, upn hk]
    refine k_aload_n (pc := 39) C dX3_swapAsked_39 rfl 5 rfl ?_
    refine gf_X3_57 (pc := 40) C (135) (by decide) cm_135 rfl dX3_swapAsked_40 ?_
    refine k_aload_n (pc := 43) C dX3_swapAsked_43 rfl 2 rfl ?_
    refine gf_X3_26 (pc := 44) C (i) (by have := isP_lt hp; omega) (cm_P hp) rfl dX3_swapAsked_44 ?_
    rw [hsq]
    refine k_iconst (pc := 47) (v := nI 0) C dX3_swapAsked_47 (by decide) ?_
    refine cv_X3_80 (pc := 48) C E (c_scale w148 (p := q) (q := 0) (by omega) (by decide)) rfl (by decide) (cm_w w148) (by decide) rfl (Nat.le_of_ble_eq_true rfl) dX3_swapAsked_48 (fun M48 h48 => ?_)
    subst h48
    rw [v1, Nat.add_zero]
    obtain ⟨V2, hV2⟩ : ∃ W, W = va_up V1 (148) (V (i + 2 + 2 * sd) * q) := ⟨_, rfl⟩
    rw [← hV2]
    have v2 : V2 (148) = V (i + 2 + 2 * sd) * q := by rw [hV2, ups]
    have f2 : ∀ k, 148 ≠ k → V2 k = V1 k := fun k hk => by rw [hV2, upn hk]
    refine k_aload_n (pc := 51) C dX3_swapAsked_51 rfl 5 rfl ?_
    refine gf_X3_84 (pc := 52) C (135) (by decide) cm_135 rfl dX3_swapAsked_52 ?_
    refine k_aload_n (pc := 55) C dX3_swapAsked_55 rfl 5 rfl ?_
    refine gf_X3_57 (pc := 56) C (135) (by decide) cm_135 rfl dX3_swapAsked_56 ?_
    refine k_aload_n (pc := 59) C dX3_swapAsked_59 rfl 4 rfl ?_
    refine cv_X3_87 (pc := 60) C E (c_product w136 w148 hja (by decide) (by omega) (by rw [v2]; omega) (by rw [f2 _ (by omega), f1 _ (by omega)]; omega)) rfl (by decide) (cm_w w136) (by decide) rfl (Nat.le_of_ble_eq_true rfl) dX3_swapAsked_60 (fun M60 h60 => ?_)
    subst h60
    rw [v2, f2 ja (by omega), f1 ja (by omega), ← hN]
    obtain ⟨V3, hV3⟩ : ∃ W, W = va_up V2 (136) (N) := ⟨_, rfl⟩
    rw [← hV3]
    have v3 : V3 (136) = N := by rw [hV3, ups]
    have f3 : ∀ k, 136 ≠ k → V3 k = V2 k := fun k hk => by rw [hV3, upn hk]
    refine k_aload_n (pc := 63) C dX3_swapAsked_63 rfl 5 rfl ?_
    refine gf_X3_90 (pc := 64) C (135) (by decide) cm_135 rfl dX3_swapAsked_64 ?_
    refine k_aload (pc := 67) C dX3_swapAsked_67 0 rfl ?_
    refine cv_X3_33 (pc := 69) C E (c_copy w138 (wQs hp (show 1 - sd < 2 by omega)) (by omega)) rfl (by decide) (cm_w w138) (by decide) rfl (Nat.le_of_ble_eq_true rfl) dX3_swapAsked_69 (fun M69 h69 => ?_)
    subst h69
    rw [f3 (i + 2 + 2 * (1 - sd)) (by omega), f2 (i + 2 + 2 * (1 - sd)) (by omega), f1 (i + 2 + 2 * (1 - sd)) (by omega)]
    obtain ⟨V4, hV4⟩ : ∃ W, W = va_up V3 (138) (V (i + 2 + 2 * (1 - sd))) := ⟨_, rfl⟩
    rw [← hV4]
    have v4 : V4 (138) = V (i + 2 + 2 * (1 - sd)) := by rw [hV4, ups]
    have f4 : ∀ k, 138 ≠ k → V4 k = V3 k := fun k hk => by rw [hV4, upn hk]
    refine k_aload_n (pc := 72) C dX3_swapAsked_72 rfl 5 rfl ?_
    refine gf_X3_90 (pc := 73) C (135) (by decide) cm_135 rfl dX3_swapAsked_73 ?_
    refine k_aload_n (pc := 76) C dX3_swapAsked_76 rfl 4 rfl ?_
    refine cv_X3_77 (pc := 77) C E (c_minus w138 hja (by omega) (by rw [v4, f4 _ (by omega), f3 _ (by omega), f2 _ (by omega), f1 _ (by omega)]; omega)) rfl (by decide) (cm_w w138) (by decide) rfl (Nat.le_of_ble_eq_true rfl) dX3_swapAsked_77 (fun M77 h77 => ?_)
    subst h77
    rw [v4, f4 ja (by omega), f3 ja (by omega), f2 ja (by omega), f1 ja (by omega)]
    obtain ⟨V5, hV5⟩ : ∃ W, W = va_up V4 (138) (V (i + 2 + 2 * (1 - sd)) - V ja) := ⟨_, rfl⟩
    rw [← hV5]
    have v5 : V5 (138) = V (i + 2 + 2 * (1 - sd)) - V ja := by rw [hV5, ups]
    have f5 : ∀ k, 138 ≠ k → V5 k = V4 k := fun k hk => by rw [hV5, upn hk]
    refine k_aload_n (pc := 80) C dX3_swapAsked_80 rfl 5 rfl ?_
    refine gf_X3_90 (pc := 81) C (135) (by decide) cm_135 rfl dX3_swapAsked_81 ?_
    refine k_aload_n (pc := 84) C dX3_swapAsked_84 rfl 2 rfl ?_
    refine gf_X3_26 (pc := 85) C (i) (by have := isP_lt hp; omega) (cm_P hp) rfl dX3_swapAsked_85 ?_
    rw [hsq]
    refine k_aload_n (pc := 88) C dX3_swapAsked_88 rfl 2 rfl ?_
    refine gf_X3_22 (pc := 89) C (i) (by have := isP_lt hp; omega) (cm_P hp) rfl dX3_swapAsked_89 ?_
    rw [hsp]
    refine k_isub (pc := 92) C dX3_swapAsked_92 ?_
    refine k_eqi (y := nI (q - p)) (pk_sub (by omega)) ?_
    refine k_iconst (pc := 93) (v := nI 0) C dX3_swapAsked_93 (by decide) ?_
    refine cv_X3_80 (pc := 94) C E (c_scale w138 (p := q - p) (q := 0) (by omega) (by decide)) rfl (by decide) (cm_w w138) (by decide) rfl (Nat.le_of_ble_eq_true rfl) dX3_swapAsked_94 (fun M94 h94 => ?_)
    subst h94
    rw [v5, Nat.add_zero, ← hDd]
    obtain ⟨V6, hV6⟩ : ∃ W, W = va_up V5 (138) (Dd) := ⟨_, rfl⟩
    rw [← hV6]
    have v6 : V6 (138) = Dd := by rw [hV6, ups]
    have f6 : ∀ k, 138 ≠ k → V6 k = V5 k := fun k hk => by rw [hV6, upn hk]
    have n6 : V6 136 = N := by rw [f6 136 (by decide), f5 136 (by decide), f4 136 (by decide), v3]
    have g6 : ∀ k, k < 135 → V6 k = V k := fun k hk => by rw [f6 k (by omega), f5 k (by omega), f4 k (by omega), f3 k (by omega), f2 k (by omega), f1 k (by omega)]
    refine k_aload_n (pc := 97) C dX3_swapAsked_97 rfl 5 rfl ?_
    refine cv_X3_93 (pc := 98) C E (c_split (by rw [n6]; omega) (by rw [v6]; omega)) rfl (by decide) cm_135 (by decide) rfl (Nat.le_of_ble_eq_true rfl) dX3_swapAsked_98 (fun M98 h98 => ?_)
    obtain ⟨d7, rfl⟩ := h98
    obtain ⟨V7, hV7⟩ : ∃ W, W = wq V6 (V6 136 / V6 138) (V6 136 % V6 138) d7 := ⟨_, rfl⟩
    rw [← hV7]
    have q7 : V7 140 = V6 136 / V6 138 := by rw [hV7, wq_0]
    have r7 : V7 142 = V6 136 % V6 138 := by rw [hV7, wq_2]
    have f7 : ∀ k, k < 140 ∨ 144 < k → V7 k = V6 k := fun k hk => by rw [hV7, wq_o hk]
    rw [n6, v6] at q7 r7
    have b7 : V7 138 = Dd := by rw [f7 138 (by decide), v6]
    have l4 : N % Dd < Dd := Nat.mod_lt _ e6
    have l5 := Nat.div_le_self N Dd
    refine k_aload_n (pc := 101) C dX3_swapAsked_101 rfl 5 rfl ?_
    refine k_iconst (pc := 102) (v := nI 1) C dX3_swapAsked_102 (by decide) ?_
    refine cv_X3_96 (pc := 103) C E (c_settle (w := 1) (by decide) (by rw [r7]; omega) (by rw [b7]; omega)) rfl (by decide) cm_135 (by decide) rfl (Nat.le_of_ble_eq_true rfl) dX3_swapAsked_103 (fun M103 h103 => ?_)
    obtain ⟨s8, rfl⟩ := h103
    obtain ⟨V8, hV8⟩ : ∃ W, W = va_up (va_up V7 146 s8) 140 (V7 140 + if gU 1 (V7 140) (V7 142) (V7 138) = true then 1 else 0) := ⟨_, rfl⟩
    rw [← hV8]
    have q8 : V8 140 = V7 140 + if gU 1 (V7 140) (V7 142) (V7 138) = true then 1 else 0 := by rw [hV8, ups]
    have f8 : ∀ k, 140 ≠ k → 146 ≠ k → V8 k = V7 k := fun k h1 h2 => by rw [hV8, upn h1, upn h2]
    rw [q7, r7, b7] at q8
    obtain ⟨g, hg⟩ : ∃ g, g = aN (V (i + 2 + 2 * sd)) (V (i + 2 + 2 * (1 - sd))) p q (V ja) := ⟨_, rfl⟩
    have hg2 : V8 140 = g := by rw [q8, hg, hN, hDd]; rfl
    have hgb : g < 2 ^ 230 := by
      rw [← hg2, q8]
      have := ite1 (P := gU 1 (N / Dd) (N % Dd) Dd = true)
      generalize N / Dd = t at *
      omega
    refine k_aload_n (pc := 106) C dX3_swapAsked_106 rfl 5 rfl ?_
    refine gf_X3_57 (pc := 107) C (135) (by decide) cm_135 rfl dX3_swapAsked_107 ?_
    refine k_aload_n (pc := 110) C dX3_swapAsked_110 rfl 5 rfl ?_
    refine gf_X3_67 (pc := 111) C (135) (by decide) cm_135 rfl dX3_swapAsked_111 ?_
    refine cv_X3_33 (pc := 114) C E (c_copy w148 w140 (by decide)) rfl (by decide) (cm_w w148) (by decide) rfl (Nat.le_of_ble_eq_true rfl) dX3_swapAsked_114 (fun M114 h114 => ?_)
    subst h114
    rw [hg2]
    obtain ⟨V9, hV9⟩ : ∃ W, W = va_up V8 (148) (g) := ⟨_, rfl⟩
    rw [← hV9]
    have v9 : V9 (148) = g := by rw [hV9, ups]
    have f9 : ∀ k, 148 ≠ k → V9 k = V8 k := fun k hk => by rw [hV9, upn hk]
    have g9 : ∀ k, k < 135 → V9 k = V k := fun k hk => by rw [f9 k (by omega), f8 k (by omega) (by omega), f7 k (by omega), g6 k hk]
    refine k_aload_n (pc := 117) C dX3_swapAsked_117 rfl 5 rfl ?_
    refine k_aload (pc := 118) C dX3_swapAsked_118 1 rfl ?_
    refine k_aload_n (pc := 120) C dX3_swapAsked_120 rfl 5 rfl ?_
    refine gf_X3_57 (pc := 121) C (135) (by decide) cm_135 rfl dX3_swapAsked_121 ?_
    refine cv_X3_40 (pc := 124) C E (c_bothFit (wQs hp hsd) w148 (by omega) (by decide) (by rw [v9, g9 _ (by omega)]; omega)) rfl (by decide) cm_135 (by decide) rfl (Nat.le_of_ble_eq_true rfl) dX3_swapAsked_124 (fun r124 M124 h124 => ?_)
    obtain ⟨⟨s124, rfl⟩, rfl⟩ := h124
    rw [v9, g9 _ (by omega)]
    obtain ⟨V10, hV10⟩ : ∃ W, W = va_up V9 (146) (s124) := ⟨_, rfl⟩
    rw [← hV10]
    have v10 : V10 (146) = s124 := by rw [hV10, ups]
    have f10 : ∀ k, 146 ≠ k → V10 k = V9 k := fun k hk => by rw [hV10, upn hk]
    have g10 : ∀ k, k < 135 → V10 k = V k := fun k hk => by rw [f10 k (by omega), g9 k hk]
    have z10 : V10 148 = g := by rw [f10 148 (by decide), v9]
    refine k_if_ne (pc := 127) (tgt := 133) C dX3_swapAsked_127 (by decide) (fun c127 => ?_) (fun c127 => ?_)
    · simp only [b01, Decidable.not_not] at c127
      refine k_aload_n (pc := 133) C dX3_swapAsked_133 rfl 4 rfl ?_
      refine cv_X3_29 (pc := 134) C E (c_isZero hja (by rw [g10 _ (by omega)]; omega)) rfl (Nat.lt_of_succ_lt (isW_lt hja)) (cm_w hja) (by decide) rfl (Nat.le_of_ble_eq_true rfl) dX3_swapAsked_134 (fun r134 M134 h134 => ?_)
      obtain ⟨rfl, rfl⟩ := h134
      rw [g10 _ (by omega)]
      refine k_if_eq (pc := 137) (tgt := 143) C dX3_swapAsked_137 (by decide) (fun c137 => ?_) (fun c137 => ?_)
      · simp only [b01, Decidable.not_not] at c137
        refine k_aload (pc := 143) C dX3_swapAsked_143 1 rfl ?_
        refine k_aload_n (pc := 145) C dX3_swapAsked_145 rfl 5 rfl ?_
        refine gf_X3_57 (pc := 146) C (135) (by decide) cm_135 rfl dX3_swapAsked_146 ?_
        refine cv_X3_60 (pc := 149) C E (c_plus (wQs hp hsd) w148 (by omega)) rfl (Nat.lt_of_succ_lt (isW_lt (wQs hp hsd))) (cm_w (wQs hp hsd)) (by decide) rfl (Nat.le_of_ble_eq_true rfl) dX3_swapAsked_149 (fun M149 h149 => ?_)
        subst h149
        rw [z10, g10 _ (by omega)]
        obtain ⟨V11, hV11⟩ : ∃ W, W = va_up V10 (i + 2 + 2 * sd) (V (i + 2 + 2 * sd) + g) := ⟨_, rfl⟩
        rw [← hV11]
        have v11 : V11 (i + 2 + 2 * sd) = V (i + 2 + 2 * sd) + g := by rw [hV11, ups]
        have f11 : ∀ k, i + 2 + 2 * sd ≠ k → V11 k = V10 k := fun k hk => by rw [hV11, upn hk]
        refine k_aload (pc := 152) C dX3_swapAsked_152 0 rfl ?_
        refine k_aload_n (pc := 154) C dX3_swapAsked_154 rfl 4 rfl ?_
        refine cv_X3_77 (pc := 155) C E (c_minus (wQs hp (show 1 - sd < 2 by omega)) hja (by omega) (by rw [f11 _ (by omega), g10 _ (by omega), f11 _ (by omega), g10 _ (by omega)]; omega)) rfl (Nat.lt_of_succ_lt (isW_lt (wQs hp (show 1 - sd < 2 by omega)))) (cm_w (wQs hp (show 1 - sd < 2 by omega))) (by decide) rfl (Nat.le_of_ble_eq_true rfl) dX3_swapAsked_155 (fun M155 h155 => ?_)
        subst h155
        rw [f11 (i + 2 + 2 * (1 - sd)) (by omega), g10 _ (by omega), f11 ja (by omega), g10 _ (by omega)]
        obtain ⟨V12, hV12⟩ : ∃ W, W = va_up V11 (i + 2 + 2 * (1 - sd)) (V (i + 2 + 2 * (1 - sd)) - V ja) := ⟨_, rfl⟩
        rw [← hV12]
        have v12 : V12 (i + 2 + 2 * (1 - sd)) = V (i + 2 + 2 * (1 - sd)) - V ja := by rw [hV12, ups]
        have f12 : ∀ k, i + 2 + 2 * (1 - sd) ≠ k → V12 k = V11 k := fun k hk => by rw [hV12, upn hk]
        refine k_iconst (pc := 158) (v := nI 1) C dX3_swapAsked_158 (by decide) ?_
        exact r_i (pc := 159) C E (⟨_, rfl, by unfold aR; rw [if_neg (by omega), ← hg, if_pos c127, if_neg c137]; rfl, fun h => absurd rfl h, fun _ => ⟨by rw [f12 148 (by omega), f11 148 (by omega), z10, hg], fun k hk => by
      rw [← hg]
      by_cases e4 : i + 2 + 2 * (1 - sd) = k
      · subst e4; rw [v12, ups]
      · rw [f12 k e4, upn e4]
        by_cases e2 : i + 2 + 2 * sd = k
        · subst e2; rw [v11, ups]
        · rw [f11 k e2, upn e2, g10 k hk]⟩⟩) dX3_swapAsked_159
      · simp only [b01, Decidable.not_not] at c137
        refine k_bipush (pc := 140) (v := (-4)) C dX3_swapAsked_140 (by decide) ?_
        exact r_i (pc := 142) C E (⟨_, rfl, by unfold aR; rw [if_neg (by omega), ← hg, if_pos c127, if_pos c137], fun _ k hk => g10 k hk, fun h => absurd h (by decide)⟩) dX3_swapAsked_142
    · simp only [b01, Decidable.not_not] at c127
      refine k_bipush (pc := 130) (v := (-2)) C dX3_swapAsked_130 (by decide) ?_
      exact r_i (pc := 132) C E (⟨_, rfl, by unfold aR; rw [if_neg (by omega), ← hg, if_neg c127], fun _ k hk => g10 k hk, fun h => absurd h (by decide)⟩) dX3_swapAsked_132
  · rw [cmp_l0] at c24
    refine k_bipush (pc := 27) (v := (-3)) C dX3_swapAsked_27 (by decide) ?_
    exact r_i (pc := 29) C E (⟨V, rfl, by unfold aR; rw [if_pos (by omega)], fun _ k hk => rfl, fun h => absurd h (by decide)⟩) dX3_swapAsked_29
end PD
