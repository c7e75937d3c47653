section PB
variable {l : Launch} {D : va_G} {ca : Nat → ClassId} {ad : Nat → Nat} {V U : Nat → Nat} {sc : Nat → Int32} {ia : Nat → Nat → Int32} {la : Nat → Nat → Int64}
set_option maxHeartbeats 4000000 in
set_option maxRecDepth 100000 in
/-- findNewParts -/
theorem c3_find {i : Nat} (hp : isP i) (bx : V (i + 2) < 2 ^ 100) (by9 : V (i + 4) < 2 ^ 100) (bP : V (i + 6) < 2 ^ 100) {ja jb : Nat} (hja : isW ja) (hjb : isW jb) (na : ja < 36) (nb : jb < 36) (bd : V ja < 2 ^ 100) (be : V jb < 2 ^ 100) : xV l D (xty ca) yX3_findNewParts cX3_findNewParts 4 none 5 350 [.ref (ad i), .ref (ad ja), .ref (ad jb), .ref (ad 135)] ad (cm ad ca (V, U, sc, ia, la)) (fun M' => ∃ V', M' = cm ad ca (V', U, sc, ia, la) ∧ V' 148 = min (V ja * V (i + 6) / V (i + 2)) (V jb * V (i + 6) / V (i + 4)) ∧ ∀ k, k < 136 → V' k = V k) := by
  refine xM.of (by decide) (Nat.le_of_ble_eq_true rfl) (fun z C E => ?_)
  have hil := isP_lt hp
  have m1 : V ja * V (i + 6) < 2 ^ 200 := by
    have h := Nat.mul_lt_mul_of_lt_of_le bd (Nat.le_of_lt bP) (by decide)
    omega
  have m2 : V jb * V (i + 6) < 2 ^ 200 := by
    have h := Nat.mul_lt_mul_of_lt_of_le be (Nat.le_of_lt bP) (by decide)
    omega
  refine k_aload_n (pc := 0) C dX3_findNewParts_0 rfl 3 rfl ?_
  refine k_aload_n (pc := 1) C dX3_findNewParts_1 rfl 1 rfl ?_
  refine k_aload_n (pc := 2) C dX3_findNewParts_2 rfl 0 rfl ?_
  refine gf_X3_18 (pc := 3) C (i) (by have := isP_lt hp; omega) (cm_P hp) rfl dX3_findNewParts_3 ?_
  refine k_aload_n (pc := 6) C dX3_findNewParts_6 rfl 0 rfl ?_
  refine gf_X3_12 (pc := 7) C (i) (by have := isP_lt hp; omega) (cm_P hp) rfl dX3_findNewParts_7 ?_
  refine k_iconst (pc := 10) (v := nI 0) C dX3_findNewParts_10 (by decide) ?_
  refine k_aald (pc := 11) C E (i + 1) (by have := isP_lt hp; omega) 2 rfl rfl (cm_Ps hp) (0) rfl (by omega) (by decide) (i + 2) rfl dX3_findNewParts_11 ?_
  refine cv_X3_63 (pc := 12) C E (c_proportion hja (wQ2 hp) (wQ0 hp) (by omega) (by omega) (by omega) (by omega) (by omega) (by omega) (by omega)) rfl (by decide) cm_135 (by decide) rfl (Nat.le_of_ble_eq_true rfl) dX3_findNewParts_12 (fun M12 h12 => ?_)
  obtain ⟨V1, rfl, q1, a1⟩ := h12
  refine k_aload_n (pc := 15) C dX3_findNewParts_15 rfl 3 rfl ?_
  refine gf_X3_57 (pc := 16) C (135) (by decide) cm_135 rfl dX3_findNewParts_16 ?_
  refine k_aload_n (pc := 19) C dX3_findNewParts_19 rfl 3 rfl ?_
  refine gf_X3_67 (pc := 20) C (135) (by decide) cm_135 rfl dX3_findNewParts_20 ?_
  refine cv_X3_33 (pc := 23) C E (c_copy w148 w140 (by decide)) rfl (by decide) (cm_w w148) (by decide) rfl (Nat.le_of_ble_eq_true rfl) dX3_findNewParts_23 (fun M23 h23 => ?_)
  subst h23
  rw [q1]
  obtain ⟨V2, hV2⟩ : ∃ W, W = va_up V1 (148) (V ja * V (i + 6) / V (i + 2)) := ⟨_, rfl⟩
  rw [← hV2]
  have v2 : V2 (148) = V ja * V (i + 6) / V (i + 2) := by rw [hV2, ups]
  have f2 : ∀ k, 148 ≠ k → V2 k = V1 k := fun k hk => by rw [hV2, upn hk]
  have g2 : ∀ k, k < 136 → V2 k = V k := fun k hk => by rw [f2 k (by omega), a1 k (by omega)]
  have d1 := Nat.div_le_self (V ja * V (i + 6)) (V (i + 2))
  have d2 := Nat.div_le_self (V jb * V (i + 6)) (V (i + 4))
  refine k_aload_n (pc := 26) C dX3_findNewParts_26 rfl 3 rfl ?_
  refine k_aload_n (pc := 27) C dX3_findNewParts_27 rfl 2 rfl ?_
  refine k_aload_n (pc := 28) C dX3_findNewParts_28 rfl 0 rfl ?_
  refine gf_X3_18 (pc := 29) C (i) (by have := isP_lt hp; omega) (cm_P hp) rfl dX3_findNewParts_29 ?_
  refine k_aload_n (pc := 32) C dX3_findNewParts_32 rfl 0 rfl ?_
  refine gf_X3_12 (pc := 33) C (i) (by have := isP_lt hp; omega) (cm_P hp) rfl dX3_findNewParts_33 ?_
  refine k_iconst (pc := 36) (v := nI 1) C dX3_findNewParts_36 (by decide) ?_
  refine k_aald (pc := 37) C E (i + 1) (by have := isP_lt hp; omega) 2 rfl rfl (cm_Ps hp) (1) rfl (by omega) (by decide) (i + 4) rfl dX3_findNewParts_37 ?_
  refine cv_X3_63 (pc := 38) C E (c_proportion hjb (wQ2 hp) (wQ1 hp) (by omega) (by omega) (by omega) (by rw [g2 _ (by omega)]; omega) (by rw [g2 _ (by omega)]; omega) (by rw [g2 _ (by omega), g2 _ (by omega)]; omega) (by rw [g2 _ (by omega)]; omega)) rfl (by decide) cm_135 (by decide) rfl (Nat.le_of_ble_eq_true rfl) dX3_findNewParts_38 (fun M38 h38 => ?_)
  obtain ⟨V3, rfl, q3, a3⟩ := h38
  rw [g2 _ (by omega), g2 _ (by omega), g2 _ (by omega)] at q3
  have e3 : V3 148 = V ja * V (i + 6) / V (i + 2) := by rw [a3 148 (by decide), v2]
  have g3 : ∀ k, k < 136 → V3 k = V k := fun k hk => by rw [a3 k (by omega), g2 k hk]
  obtain ⟨n1, hn1⟩ : ∃ n, n = V ja * V (i + 6) / V (i + 2) := ⟨_, rfl⟩
  obtain ⟨n2, hn2⟩ : ∃ n, n = V jb * V (i + 6) / V (i + 4) := ⟨_, rfl⟩
  rw [← hn1] at e3 d1
  rw [← hn2] at q3 d2
  refine k_aload_n (pc := 41) C dX3_findNewParts_41 rfl 3 rfl ?_
  refine gf_X3_67 (pc := 42) C (135) (by decide) cm_135 rfl dX3_findNewParts_42 ?_
  refine k_aload_n (pc := 45) C dX3_findNewParts_45 rfl 3 rfl ?_
  refine gf_X3_57 (pc := 46) C (135) (by decide) cm_135 rfl dX3_findNewParts_46 ?_
  refine cv_X3_70 (pc := 49) C E (c_compare w140 w148 (by rw [q3]; omega) (by rw [e3]; omega)) rfl (by decide) (cm_w w140) (by decide) rfl (Nat.le_of_ble_eq_true rfl) dX3_findNewParts_49 (fun r49 M49 h49 => ?_)
  obtain ⟨rfl, rfl⟩ := h49
  refine k_if_ge (pc := 52) (tgt := 66) C dX3_findNewParts_52 (by decide) (fun c52 => ?_) (fun c52 => ?_)
  · rw [cmp_ge0, q3, e3] at c52
    exact r_v (pc := 66) C E (by
  rw [← hn1, ← hn2]
  first
    | exact ⟨V3, rfl, by rw [e3]; exact (Nat.min_eq_left c52).symm, g3⟩
    | exact ⟨_, rfl, by rw [ups]; exact (Nat.min_eq_right (by omega)).symm, fun k hk => by rw [upn (by omega), g3 k hk]⟩) dX3_findNewParts_66
  · rw [cmp_ge0, q3, e3] at c52
    refine k_aload_n (pc := 55) C dX3_findNewParts_55 rfl 3 rfl ?_
    refine gf_X3_57 (pc := 56) C (135) (by decide) cm_135 rfl dX3_findNewParts_56 ?_
    refine k_aload_n (pc := 59) C dX3_findNewParts_59 rfl 3 rfl ?_
    refine gf_X3_67 (pc := 60) C (135) (by decide) cm_135 rfl dX3_findNewParts_60 ?_
    refine cv_X3_33 (pc := 63) C E (c_copy w148 w140 (by decide)) rfl (by decide) (cm_w w148) (by decide) rfl (Nat.le_of_ble_eq_true rfl) dX3_findNewParts_63 (fun M63 h63 => ?_)
    subst h63
    rw [q3]
    exact r_v (pc := 66) C E (by
  rw [← hn1, ← hn2]
  first
    | exact ⟨V3, rfl, by rw [e3]; exact (Nat.min_eq_left c52).symm, g3⟩
    | exact ⟨_, rfl, by rw [ups]; exact (Nat.min_eq_right (by omega)).symm, fun k hk => by rw [upn (by omega), g3 k hk]⟩) dX3_findNewParts_66
set_option maxHeartbeats 4000000 in
set_option maxRecDepth 100000 in
/-- joinWith -/
theorem c3_join {i : Nat} (hp : isP i) (bx : V (i + 2) < 2 ^ 100) (by9 : V (i + 4) < 2 ^ 100) (bP : V (i + 6) < 2 ^ 100) {ja jb : Nat} (hja : isW ja) (hjb : isW jb) (na : ja < 36) (nb : jb < 36) (bd : V ja < 2 ^ 256) (be : V jb < 2 ^ 256) : xI l D (xty ca) yX3_joinWith cX3_joinWith 4 (some .int) 6 450 [.ref (ad i), .ref (ad ja), .ref (ad jb), .ref (ad 135)] ad (cm ad ca (V, U, sc, ia, la)) (fun r M' => ∃ V', M' = cm ad ca (V', U, sc, ia, la) ∧ r = jR (V (i + 2)) (V (i + 4)) (V (i + 6)) (V ja) (V jb) ∧ (¬ r = 1 → ∀ k, k < 135 → V' k = V k) ∧ (r = 1 → V' 148 = jN (V (i + 2)) (V (i + 4)) (V (i + 6)) (V ja) (V jb) ∧ ∀ k, k < 135 → V' k = up3 V i (V (i + 2) + V ja) (V (i + 4) + V jb) (V (i + 6) + jN (V (i + 2)) (V (i + 4)) (V (i + 6)) (V ja) (V jb)) k)) := by
  refine xM.of (by decide) (Nat.le_of_ble_eq_true rfl) (fun z C E => ?_)
  have hil := isP_lt hp
  have tail : ∀ Vt : Nat → Nat, V (i + 2) + V ja < 2 ^ 100 → V (i + 4) + V jb < 2 ^ 100 → (∀ k, k < 135 → Vt k = V k) → Vt 148 = jN (V (i + 2)) (V (i + 4)) (V (i + 6)) (V ja) (V jb) → Vt 148 < 2 ^ 201 → xK z (xw ad (cm ad ca (Vt, U, sc, ia, la)) 187) 0 0 54 [(0, .ref (ad i)), (1, .ref (ad ja)), (2, .ref (ad jb)), (3, .ref (ad 135))] [] := by
    intro Vt hx1 hy1 g w1 w2
    refine k_aload_n (pc := 54) C dX3_joinWith_54 rfl 3 rfl ?_
    refine k_aload_n (pc := 55) C dX3_joinWith_55 rfl 0 rfl ?_
    refine gf_X3_18 (pc := 56) C (i) (by have := isP_lt hp; omega) (cm_P hp) rfl dX3_joinWith_56 ?_
    refine k_aload_n (pc := 59) C dX3_joinWith_59 rfl 3 rfl ?_
    refine gf_X3_57 (pc := 60) C (135) (by decide) cm_135 rfl dX3_joinWith_60 ?_
    refine cv_X3_40 (pc := 63) C E (c_bothFit (wQ2 hp) w148 (by omega) (by decide) (by rw [g _ (by omega)]; omega)) rfl (by decide) cm_135 (by decide) rfl (Nat.le_of_ble_eq_true rfl) dX3_joinWith_63 (fun r63 M63 h63 => ?_)
    obtain ⟨⟨s1, rfl⟩, rfl⟩ := h63
    rw [g _ (by omega), w1]
    obtain ⟨V1, hV1⟩ : ∃ W, W = va_up Vt (146) (s1) := ⟨_, rfl⟩
    rw [← hV1]
    have v1 : V1 (146) = s1 := by rw [hV1, ups]
    have f1 : ∀ k, 146 ≠ k → V1 k = Vt k := fun k hk => by rw [hV1, upn hk]
    have g1 : ∀ k, k < 135 → V1 k = V k := fun k hk => by rw [f1 k (by omega), g k hk]
    have z1 : V1 148 = jN (V (i + 2)) (V (i + 4)) (V (i + 6)) (V ja) (V jb) := by rw [f1 148 (by decide), w1]
    refine k_if_ne (pc := 66) (tgt := 72) C dX3_joinWith_66 (by decide) (fun c66 => ?_) (fun c66 => ?_)
    · simp only [b01, Decidable.not_not] at c66
      refine k_aload_n (pc := 72) C dX3_joinWith_72 rfl 3 rfl ?_
      refine gf_X3_57 (pc := 73) C (135) (by decide) cm_135 rfl dX3_joinWith_73 ?_
      refine cv_X3_29 (pc := 76) C E (c_isZero w148 (by rw [f1 148 (by decide)]; omega)) rfl (by decide) (cm_w w148) (by decide) rfl (Nat.le_of_ble_eq_true rfl) dX3_joinWith_76 (fun r76 M76 h76 => ?_)
      obtain ⟨rfl, rfl⟩ := h76
      rw [z1]
      refine k_if_eq (pc := 79) (tgt := 85) C dX3_joinWith_79 (by decide) (fun c79 => ?_) (fun c79 => ?_)
      · simp only [b01, Decidable.not_not] at c79
        refine k_aload_n (pc := 85) C dX3_joinWith_85 rfl 0 rfl ?_
        refine gf_X3_12 (pc := 86) C (i) (by have := isP_lt hp; omega) (cm_P hp) rfl dX3_joinWith_86 ?_
        refine k_iconst (pc := 89) (v := nI 0) C dX3_joinWith_89 (by decide) ?_
        refine k_aald (pc := 90) C E (i + 1) (by have := isP_lt hp; omega) 2 rfl rfl (cm_Ps hp) (0) rfl (by omega) (by decide) (i + 2) rfl dX3_joinWith_90 ?_
        refine k_aload_n (pc := 91) C dX3_joinWith_91 rfl 1 rfl ?_
        refine cv_X3_60 (pc := 92) C E (c_plus (wQ0 hp) hja (by omega)) rfl (Nat.lt_of_succ_lt (isW_lt (wQ0 hp))) (cm_w (wQ0 hp)) (by decide) rfl (Nat.le_of_ble_eq_true rfl) dX3_joinWith_92 (fun M92 h92 => ?_)
        subst h92
        rw [g1 _ (by omega), g1 _ (by omega)]
        obtain ⟨V2, hV2⟩ : ∃ W, W = va_up V1 (i + 2) (V (i + 2) + V ja) := ⟨_, rfl⟩
        rw [← hV2]
        have v2 : V2 (i + 2) = V (i + 2) + V ja := by rw [hV2, ups]
        have f2 : ∀ k, i + 2 ≠ k → V2 k = V1 k := fun k hk => by rw [hV2, upn hk]
        refine k_aload_n (pc := 95) C dX3_joinWith_95 rfl 0 rfl ?_
        refine gf_X3_12 (pc := 96) C (i) (by have := isP_lt hp; omega) (cm_P hp) rfl dX3_joinWith_96 ?_
        refine k_iconst (pc := 99) (v := nI 1) C dX3_joinWith_99 (by decide) ?_
        refine k_aald (pc := 100) C E (i + 1) (by have := isP_lt hp; omega) 2 rfl rfl (cm_Ps hp) (1) rfl (by omega) (by decide) (i + 4) rfl dX3_joinWith_100 ?_
        refine k_aload_n (pc := 101) C dX3_joinWith_101 rfl 2 rfl ?_
        refine cv_X3_60 (pc := 102) C E (c_plus (wQ1 hp) hjb (by omega)) rfl (Nat.lt_of_succ_lt (isW_lt (wQ1 hp))) (cm_w (wQ1 hp)) (by decide) rfl (Nat.le_of_ble_eq_true rfl) dX3_joinWith_102 (fun M102 h102 => ?_)
        subst h102
        rw [f2 (i + 4) (by omega), f2 jb (by omega), g1 _ (by omega), g1 _ (by omega)]
        obtain ⟨V3, hV3⟩ : ∃ W, W = va_up V2 (i + 4) (V (i + 4) + V jb) := ⟨_, rfl⟩
        rw [← hV3]
        have v3 : V3 (i + 4) = V (i + 4) + V jb := by rw [hV3, ups]
        have f3 : ∀ k, i + 4 ≠ k → V3 k = V2 k := fun k hk => by rw [hV3, upn hk]
        refine k_aload_n (pc := 105) C dX3_joinWith_105 rfl 0 rfl ?_
        refine gf_X3_18 (pc := 106) C (i) (by have := isP_lt hp; omega) (cm_P hp) rfl dX3_joinWith_106 ?_
        refine k_aload_n (pc := 109) C dX3_joinWith_109 rfl 3 rfl ?_
        refine gf_X3_57 (pc := 110) C (135) (by decide) cm_135 rfl dX3_joinWith_110 ?_
        refine cv_X3_60 (pc := 113) C E (c_plus (wQ2 hp) w148 (by omega)) rfl (Nat.lt_of_succ_lt (isW_lt (wQ2 hp))) (cm_w (wQ2 hp)) (by decide) rfl (Nat.le_of_ble_eq_true rfl) dX3_joinWith_113 (fun M113 h113 => ?_)
        subst h113
        rw [f3 (i + 6) (by omega), f2 (i + 6) (by omega), g1 _ (by omega), f3 148 (by omega), f2 148 (by omega), z1]
        obtain ⟨V4, hV4⟩ : ∃ W, W = va_up V3 (i + 6) (V (i + 6) + jN (V (i + 2)) (V (i + 4)) (V (i + 6)) (V ja) (V jb)) := ⟨_, rfl⟩
        rw [← hV4]
        have v4 : V4 (i + 6) = V (i + 6) + jN (V (i + 2)) (V (i + 4)) (V (i + 6)) (V ja) (V jb) := by rw [hV4, ups]
        have f4 : ∀ k, i + 6 ≠ k → V4 k = V3 k := fun k hk => by rw [hV4, upn hk]
        refine k_iconst (pc := 116) (v := nI 1) C dX3_joinWith_116 (by decide) ?_
        exact r_i (pc := 117) C E (⟨_, rfl, by unfold jR; rw [if_pos ⟨hx1, hy1⟩, if_pos c66, if_neg c79]; rfl, fun h => absurd rfl h, fun _ => ⟨by rw [f4 148 (by omega), f3 148 (by omega), f2 148 (by omega), z1], fun k hk => by
      unfold up3
      by_cases e6 : i + 6 = k
      · subst e6; rw [v4, ups]
      · rw [f4 k e6, upn e6]
        by_cases e4 : i + 4 = k
        · subst e4; rw [v3, ups]
        · rw [f3 k e4, upn e4]
          by_cases e2 : i + 2 = k
          · subst e2; rw [v2, ups]
          · rw [f2 k e2, upn e2, g1 k hk]⟩⟩) dX3_joinWith_117
      · simp only [b01, Decidable.not_not] at c79
        refine k_bipush (pc := 82) (v := (-4)) C dX3_joinWith_82 (by decide) ?_
        exact r_i (pc := 84) C E (⟨_, rfl, by unfold jR; rw [if_pos ⟨hx1, hy1⟩, if_pos c66, if_pos c79], fun _ k hk => by exact g1 k hk, fun h => absurd h (by decide)⟩) dX3_joinWith_84
    · simp only [b01, Decidable.not_not] at c66
      refine k_bipush (pc := 69) (v := (-2)) C dX3_joinWith_69 (by decide) ?_
      exact r_i (pc := 71) C E (⟨_, rfl, by unfold jR; rw [if_pos ⟨hx1, hy1⟩, if_neg c66], fun _ k hk => by exact g1 k hk, fun h => absurd h (by decide)⟩) dX3_joinWith_71
  refine k_aload_n (pc := 0) C dX3_joinWith_0 rfl 3 rfl ?_
  refine k_aload_n (pc := 1) C dX3_joinWith_1 rfl 0 rfl ?_
  refine gf_X3_12 (pc := 2) C (i) (by have := isP_lt hp; omega) (cm_P hp) rfl dX3_joinWith_2 ?_
  refine k_iconst (pc := 5) (v := nI 0) C dX3_joinWith_5 (by decide) ?_
  refine k_aald (pc := 6) C E (i + 1) (by have := isP_lt hp; omega) 2 rfl rfl (cm_Ps hp) (0) rfl (by omega) (by decide) (i + 2) rfl dX3_joinWith_6 ?_
  refine k_aload_n (pc := 7) C dX3_joinWith_7 rfl 1 rfl ?_
  refine cv_X3_40 (pc := 8) C E (c_bothFit (wQ0 hp) hja (by omega) (by omega) (by omega)) rfl (by decide) cm_135 (by decide) rfl (Nat.le_of_ble_eq_true rfl) dX3_joinWith_8 (fun r8 M8 h8 => ?_)
  obtain ⟨⟨s8, rfl⟩, rfl⟩ := h8
  obtain ⟨V1, hV1⟩ : ∃ W, W = va_up V (146) (s8) := ⟨_, rfl⟩
  rw [← hV1]
  have v1 : V1 (146) = s8 := by rw [hV1, ups]
  have f1 : ∀ k, 146 ≠ k → V1 k = V k := fun k hk => by rw [hV1, upn hk]
  refine k_if_eq (pc := 11) (tgt := 28) C dX3_joinWith_11 (by decide) (fun c11 => ?_) (fun c11 => ?_)
  · simp only [b01, Decidable.not_not] at c11
    refine k_bipush (pc := 28) (v := (-2)) C dX3_joinWith_28 (by decide) ?_
    exact r_i (pc := 30) C E (by first | exact ⟨_, rfl, by unfold jR; rw [if_neg (fun h => c11 h.1)], fun _ k hk => f1 k (by omega), fun h => absurd h (by decide)⟩ | exact ⟨_, rfl, by unfold jR; rw [if_neg (fun h => c25 h.2)], fun _ k hk => g2 k hk, fun h => absurd h (by decide)⟩) dX3_joinWith_30
  · simp only [b01, Decidable.not_not] at c11
    refine k_aload_n (pc := 14) C dX3_joinWith_14 rfl 3 rfl ?_
    refine k_aload_n (pc := 15) C dX3_joinWith_15 rfl 0 rfl ?_
    refine gf_X3_12 (pc := 16) C (i) (by have := isP_lt hp; omega) (cm_P hp) rfl dX3_joinWith_16 ?_
    refine k_iconst (pc := 19) (v := nI 1) C dX3_joinWith_19 (by decide) ?_
    refine k_aald (pc := 20) C E (i + 1) (by have := isP_lt hp; omega) 2 rfl rfl (cm_Ps hp) (1) rfl (by omega) (by decide) (i + 4) rfl dX3_joinWith_20 ?_
    refine k_aload_n (pc := 21) C dX3_joinWith_21 rfl 2 rfl ?_
    refine cv_X3_40 (pc := 22) C E (c_bothFit (wQ1 hp) hjb (by omega) (by omega) (by rw [f1 _ (by omega), f1 _ (by omega)]; omega)) rfl (by decide) cm_135 (by decide) rfl (Nat.le_of_ble_eq_true rfl) dX3_joinWith_22 (fun r22 M22 h22 => ?_)
    obtain ⟨⟨s22, rfl⟩, rfl⟩ := h22
    rw [f1 _ (by omega), f1 _ (by omega)]
    obtain ⟨V2, hV2⟩ : ∃ W, W = va_up V1 (146) (s22) := ⟨_, rfl⟩
    rw [← hV2]
    have v2 : V2 (146) = s22 := by rw [hV2, ups]
    have f2 : ∀ k, 146 ≠ k → V2 k = V1 k := fun k hk => by rw [hV2, upn hk]
    have g2 : ∀ k, k < 135 → V2 k = V k := fun k hk => by rw [f2 k (by omega), f1 k (by omega)]
    refine k_if_ne (pc := 25) (tgt := 31) C dX3_joinWith_25 (by decide) (fun c25 => ?_) (fun c25 => ?_)
    · simp only [b01, Decidable.not_not] at c25
      refine k_aload_n (pc := 31) C dX3_joinWith_31 rfl 0 rfl ?_
      refine cv_X3_46 (pc := 32) C E (c3_isOpen hp (by rw [g2 _ (by omega)]; exact bP)) rfl (by have := isP_lt hp; omega) (cm_P hp) (by decide) rfl (Nat.le_of_ble_eq_true rfl) dX3_joinWith_32 (fun r32 M32 h32 => ?_)
      obtain ⟨rfl, rfl⟩ := h32
      rw [g2 _ (by omega)]
      refine k_if_eq (pc := 35) (tgt := 48) C dX3_joinWith_35 (by decide) (fun c35 => ?_) (fun c35 => ?_)
      · simp only [b10] at c35
        refine k_aload_n (pc := 48) C dX3_joinWith_48 rfl 3 rfl ?_
        refine k_aload_n (pc := 49) C dX3_joinWith_49 rfl 1 rfl ?_
        refine k_aload_n (pc := 50) C dX3_joinWith_50 rfl 2 rfl ?_
        refine cv_X3_53 (pc := 51) C E (c_root hja hjb (by omega) (by omega) (by rw [g2 _ (by omega)]; omega) (by rw [g2 _ (by omega)]; omega)) rfl (by decide) cm_135 (by decide) rfl (Nat.le_of_ble_eq_true rfl) dX3_joinWith_51 (fun M51 h51 => ?_)
        obtain ⟨V3, rfl, q3, p3, a3⟩ := h51
        rw [g2 _ (by omega), g2 _ (by omega)] at q3 p3
        refine k_sub [0, 1, 2, 3] rfl ?_
        first
          | exact tail V3 c11 c25 (fun k hk => by rw [a3 k (by omega), g2 k hk]) (by rw [q3]; unfold jN; rw [if_neg c35]) (by
              rw [q3]
              have h := Nat.mul_lt_mul_of_lt_of_le (show V ja < 2 ^ 100 by omega) (Nat.le_of_lt bP) (by decide)
              have h2 := Nat.div_le_self (V ja * V (i + 6)) (V (i + 2))
              exact Nat.lt_of_le_of_lt (Nat.min_le_left _ _) (by generalize V ja * V (i + 6) / V (i + 2) = t at *; omega))
          | exact tail V3 c11 c25 (fun k hk => by rw [a3 k (by omega), g2 k hk]) (by rw [isq_u q3 p3]; unfold jN; rw [if_pos c35]) (by
              have h := Nat.mul_lt_mul_of_lt_of_le (show V ja < 2 ^ 100 by omega) (Nat.le_of_lt (show V jb < 2 ^ 100 by omega)) (by decide)
              have h2 := isq_lt (N := V ja * V jb) (by omega)
              rw [← isq_u q3 p3] at h2
              omega)
      · simp only [b10] at c35
        refine k_aload_n (pc := 38) C dX3_joinWith_38 rfl 0 rfl ?_
        refine k_aload_n (pc := 39) C dX3_joinWith_39 rfl 1 rfl ?_
        refine k_aload_n (pc := 40) C dX3_joinWith_40 rfl 2 rfl ?_
        refine k_aload_n (pc := 41) C dX3_joinWith_41 rfl 3 rfl ?_
        refine cv_X3_49 (pc := 42) C E (c3_find hp (by rw [g2 _ (by omega)]; exact bx) (by rw [g2 _ (by omega)]; exact by9) (by rw [g2 _ (by omega)]; exact bP) hja hjb na nb (by rw [g2 _ (by omega)]; omega) (by rw [g2 _ (by omega)]; omega)) rfl (by have := isP_lt hp; omega) (cm_P hp) (by decide) rfl (Nat.le_of_ble_eq_true rfl) dX3_joinWith_42 (fun M42 h42 => ?_)
        obtain ⟨V3, rfl, q3, a3⟩ := h42
        rw [g2 _ (by omega), g2 _ (by omega), g2 _ (by omega), g2 _ (by omega), g2 _ (by omega)] at q3
        refine k_goto (pc := 45) (tgt := 54) C dX3_joinWith_45 (by decide) ?_
        refine k_sub [0, 1, 2, 3] rfl ?_
        first
          | exact tail V3 c11 c25 (fun k hk => by rw [a3 k (by omega), g2 k hk]) (by rw [q3]; unfold jN; rw [if_neg c35]) (by
              rw [q3]
              have h := Nat.mul_lt_mul_of_lt_of_le (show V ja < 2 ^ 100 by omega) (Nat.le_of_lt bP) (by decide)
              have h2 := Nat.div_le_self (V ja * V (i + 6)) (V (i + 2))
              exact Nat.lt_of_le_of_lt (Nat.min_le_left _ _) (by generalize V ja * V (i + 6) / V (i + 2) = t at *; omega))
          | exact tail V3 c11 c25 (fun k hk => by rw [a3 k (by omega), g2 k hk]) (by rw [isq_u q3 p3]; unfold jN; rw [if_pos c35]) (by
              have h := Nat.mul_lt_mul_of_lt_of_le (show V ja < 2 ^ 100 by omega) (Nat.le_of_lt (show V jb < 2 ^ 100 by omega)) (by decide)
              have h2 := isq_lt (N := V ja * V jb) (by omega)
              rw [← isq_u q3 p3] at h2
              omega)
    · simp only [b01, Decidable.not_not] at c25
      refine k_bipush (pc := 28) (v := (-2)) C dX3_joinWith_28 (by decide) ?_
      exact r_i (pc := 30) C E (by first | exact ⟨_, rfl, by unfold jR; rw [if_neg (fun h => c11 h.1)], fun _ k hk => f1 k (by omega), fun h => absurd h (by decide)⟩ | exact ⟨_, rfl, by unfold jR; rw [if_neg (fun h => c25 h.2)], fun _ k hk => g2 k hk, fun h => absurd h (by decide)⟩) dX3_joinWith_30
end PB
