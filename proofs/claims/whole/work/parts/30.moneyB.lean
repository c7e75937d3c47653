section EB
variable {l : Launch} {D : va_G} {ca : Nat → ClassId} {ad : Nat → Nat} {V U : Nat → Nat} {sc : Nat → Int32} {ia : Nat → Nat → Int32} {la : Nat → Nat → Int64}
theorem lOf {v : Int64} (h : 0 ≤ v.toInt) : ∃ a, a < 9223372036854775808 ∧ v = lN a := by
  obtain ⟨a, h1, h2⟩ := pk_lOf (x := v) (fun q => by rw [Int64.lt_iff_toInt_lt, show (0 : Int64).toInt = 0 from rfl] at q; omega)
  exact ⟨a, h1, h2⟩
theorem lg_lt0 {v : Int64} : (lg_cmp v (lN 0) < 0) = (v.toInt < 0) := by
  apply propext
  rw [lg_cmp_lt, Int64.lt_iff_toInt_lt]
  rfl
theorem lg_ge0 {v : Int64} : (0 ≤ lg_cmp v (lN 0)) = (0 ≤ v.toInt) := by
  apply propext
  rw [lg_cmp_ge, Int64.le_iff_toInt_le]
  rfl
set_option maxHeartbeats 4000000 in
set_option maxRecDepth 100000 in
/-- add -/
theorem c6_add {T : Nat → Nat} (hT : RC V T) (hB : TB T) {x0 y0 t0 : Int32} : xI l D (xty ca) yX6_add cX6_add 4 (some .int) 4 250 [.ref (ad 0), .int x0, .int y0, .int t0] ad (cm ad ca (V, U, sc, ia, la)) (fun r M' => ∃ V', M' = cm ad ca (V', U, sc, ia, la) ∧ r = (sAdd T x0 y0 t0).1 ∧ RC V' (sAdd T x0 y0 t0).2 ∧ ∀ k, 68 ≤ k → k < 135 → V' k = V k) := by
  refine xM.of (by decide) (Nat.le_of_ble_eq_true rfl) (fun z C E => ?_)
  refine k_iload_n (pc := 0) C dX6_add_0 rfl 1 rfl ?_
  refine k_iload_n (pc := 1) C dX6_add_1 rfl 2 rfl ?_
  refine k_iload_n (pc := 2) C dX6_add_2 rfl 3 rfl ?_
  refine cs_X6_106 (pc := 3) C E (c6_areRegisters) rfl (by decide) rfl (Nat.le_of_ble_eq_true rfl) dX6_add_3 (fun r3 M3 h3 => ?_)
  obtain ⟨rfl, rfl⟩ := h3
  refine k_if_ne (pc := 6) (tgt := 11) C dX6_add_6 (by decide) (fun c6 => ?_) (fun c6 => ?_)
  · simp only [b01, Decidable.not_not] at c6
    obtain ⟨x, hx, rfl⟩ := inR_k c6.1
    obtain ⟨y, hy, rfl⟩ := inR_k c6.2.1
    obtain ⟨t, ht, rfl⟩ := inR_k c6.2.2
    have hTy := hT.r hy
    have hTt := hT.r ht
    have by1 := hB.1 y hy
    have bt1 := hB.1 t ht
    refine k_aload_n (pc := 11) C dX6_add_11 rfl 0 rfl ?_
    refine gf_X6_22 (pc := 12) C (0) (by decide) cm_0 rfl dX6_add_12 ?_
    refine gf_X6_82 (pc := 15) C (135) (by decide) cm_135 rfl dX6_add_15 ?_
    refine k_aload_n (pc := 18) C dX6_add_18 rfl 0 rfl ?_
    refine gf_X6_10 (pc := 19) C (0) (by decide) cm_0 rfl dX6_add_19 ?_
    refine gf_X6_72 (pc := 22) C (1) (by decide) cm_1 rfl dX6_add_22 ?_
    refine k_iload_n (pc := 25) C dX6_add_25 rfl 2 rfl ?_
    refine k_aald (pc := 26) C E (2) (by decide) 2 rfl rfl cm_2 (y) rfl (by omega) (by decide) (4 + 2 * y) rfl dX6_add_26 ?_
    refine cv_X6_86 (pc := 27) C E (c_copy w148 (wR hy) (by omega)) rfl (by decide) (cm_w w148) (by decide) rfl (Nat.le_of_ble_eq_true rfl) dX6_add_27 (fun M27 h27 => ?_)
    subst h27
    obtain ⟨V1, hV1⟩ : ∃ W, W = va_up V (148) (V (4 + 2 * y)) := ⟨_, rfl⟩
    rw [← hV1]
    have v1 : V1 (148) = V (4 + 2 * y) := by rw [hV1, ups]
    have f1 : ∀ k, 148 ≠ k → V1 k = V k := fun k hk => by rw [hV1, upn hk]
    refine k_aload_n (pc := 30) C dX6_add_30 rfl 0 rfl ?_
    refine gf_X6_22 (pc := 31) C (0) (by decide) cm_0 rfl dX6_add_31 ?_
    refine gf_X6_82 (pc := 34) C (135) (by decide) cm_135 rfl dX6_add_34 ?_
    refine k_aload_n (pc := 37) C dX6_add_37 rfl 0 rfl ?_
    refine gf_X6_10 (pc := 38) C (0) (by decide) cm_0 rfl dX6_add_38 ?_
    refine gf_X6_72 (pc := 41) C (1) (by decide) cm_1 rfl dX6_add_41 ?_
    refine k_iload_n (pc := 44) C dX6_add_44 rfl 3 rfl ?_
    refine k_aald (pc := 45) C E (2) (by decide) 2 rfl rfl cm_2 (t) rfl (by omega) (by decide) (4 + 2 * t) rfl dX6_add_45 ?_
    refine cv_X6_110 (pc := 46) C E (c_plus w148 (wR ht) (by omega)) rfl (by decide) (cm_w w148) (by decide) rfl (Nat.le_of_ble_eq_true rfl) dX6_add_46 (fun M46 h46 => ?_)
    subst h46
    rw [v1, f1 (4 + 2 * t) (by omega)]
    obtain ⟨V2, hV2⟩ : ∃ W, W = va_up V1 (148) (V (4 + 2 * y) + V (4 + 2 * t)) := ⟨_, rfl⟩
    rw [← hV2]
    have v2 : V2 (148) = V (4 + 2 * y) + V (4 + 2 * t) := by rw [hV2, ups]
    have f2 : ∀ k, 148 ≠ k → V2 k = V1 k := fun k hk => by rw [hV2, upn hk]
    have fr : ∀ k, k < 135 → V2 k = V k := fun k hk => by rw [f2 k (by omega), f1 k (by omega)]
    refine k_aload_n (pc := 49) C dX6_add_49 rfl 0 rfl ?_
    refine k_iload_n (pc := 50) C dX6_add_50 rfl 1 rfl ?_
    refine k_aload_n (pc := 51) C dX6_add_51 rfl 0 rfl ?_
    refine gf_X6_22 (pc := 52) C (0) (by decide) cm_0 rfl dX6_add_52 ?_
    refine gf_X6_82 (pc := 55) C (135) (by decide) cm_135 rfl dX6_add_55 ?_
    refine cv_X6_96 (pc := 58) C E (c6_keep w148 hx (by decide) (by rw [v2, hTy, hTt]; omega)) rfl (by decide) cm_0 (by decide) rfl (Nat.le_of_ble_eq_true rfl) dX6_add_58 (fun r58 M58 h58 => ?_)
    exact r_i (pc := 61) C E (by
  obtain ⟨W, rfl, h9⟩ := h58
  refine ⟨W, rfl, ?_⟩
  unfold sAdd
  rw [if_pos (by exact c6)]
  simp only [rI_n (show x < 2147483648 by omega), rI_n (show y < 2147483648 by omega), rI_n (show t < 2147483648 by omega)]
  unfold sKeep
  by_cases hs : T y + T t < 2 ^ 256
  · rw [if_pos hs]
    rw [if_pos (by rw [v2, hTy, hTt]; exact hs)] at h9
    obtain ⟨rfl, rfl⟩ := h9
    rw [v2, hTy, hTt]
    exact ⟨rfl, (hT.o (fun k hk => fr k (by omega))).upr hx, fun k h1 h2 => by rw [upn (by omega)]; exact fr k (by omega)⟩
  · rw [if_neg hs]
    rw [if_neg (by rw [v2, hTy, hTt]; exact hs)] at h9
    obtain ⟨rfl, rfl⟩ := h9
    exact ⟨rfl, hT.o (fun k hk => fr k (by omega)), fun k h1 h2 => fr k (by omega)⟩) dX6_add_61
  · simp only [b01, Decidable.not_not] at c6
    refine k_iconst (pc := 9) (v := (-1)) C dX6_add_9 (by decide) ?_
    exact r_i (pc := 10) C E (⟨V, rfl, by unfold sAdd; rw [if_neg c6], by unfold sAdd; rw [if_neg c6]; exact hT, fun _ _ _ => rfl⟩) dX6_add_10
set_option maxHeartbeats 4000000 in
set_option maxRecDepth 100000 in
/-- take -/
theorem c6_take {T : Nat → Nat} (hT : RC V T) (hB : TB T) {x0 y0 t0 : Int32} : xI l D (xty ca) yX6_take cX6_take 4 (some .int) 4 250 [.ref (ad 0), .int x0, .int y0, .int t0] ad (cm ad ca (V, U, sc, ia, la)) (fun r M' => ∃ V', M' = cm ad ca (V', U, sc, ia, la) ∧ r = (sTake T x0 y0 t0).1 ∧ RC V' (sTake T x0 y0 t0).2 ∧ ∀ k, 68 ≤ k → k < 135 → V' k = V k) := by
  refine xM.of (by decide) (Nat.le_of_ble_eq_true rfl) (fun z C E => ?_)
  refine k_iload_n (pc := 0) C dX6_take_0 rfl 1 rfl ?_
  refine k_iload_n (pc := 1) C dX6_take_1 rfl 2 rfl ?_
  refine k_iload_n (pc := 2) C dX6_take_2 rfl 3 rfl ?_
  refine cs_X6_106 (pc := 3) C E (c6_areRegisters) rfl (by decide) rfl (Nat.le_of_ble_eq_true rfl) dX6_take_3 (fun r3 M3 h3 => ?_)
  obtain ⟨rfl, rfl⟩ := h3
  refine k_if_ne (pc := 6) (tgt := 11) C dX6_take_6 (by decide) (fun c6 => ?_) (fun c6 => ?_)
  · simp only [b01, Decidable.not_not] at c6
    obtain ⟨x, hx, rfl⟩ := inR_k c6.1
    obtain ⟨y, hy, rfl⟩ := inR_k c6.2.1
    obtain ⟨t, ht, rfl⟩ := inR_k c6.2.2
    have hTy := hT.r hy
    have hTt := hT.r ht
    have by1 := hB.1 y hy
    have bt1 := hB.1 t ht
    refine k_aload_n (pc := 11) C dX6_take_11 rfl 0 rfl ?_
    refine gf_X6_10 (pc := 12) C (0) (by decide) cm_0 rfl dX6_take_12 ?_
    refine gf_X6_72 (pc := 15) C (1) (by decide) cm_1 rfl dX6_take_15 ?_
    refine k_iload_n (pc := 18) C dX6_take_18 rfl 2 rfl ?_
    refine k_aald (pc := 19) C E (2) (by decide) 2 rfl rfl cm_2 (y) rfl (by omega) (by decide) (4 + 2 * y) rfl dX6_take_19 ?_
    refine k_aload_n (pc := 20) C dX6_take_20 rfl 0 rfl ?_
    refine gf_X6_10 (pc := 21) C (0) (by decide) cm_0 rfl dX6_take_21 ?_
    refine gf_X6_72 (pc := 24) C (1) (by decide) cm_1 rfl dX6_take_24 ?_
    refine k_iload_n (pc := 27) C dX6_take_27 rfl 3 rfl ?_
    refine k_aald (pc := 28) C E (2) (by decide) 2 rfl rfl cm_2 (t) rfl (by omega) (by decide) (4 + 2 * t) rfl dX6_take_28 ?_
    refine cv_X6_113 (pc := 29) C E (c_compare (wR hy) (wR ht) (by rw [hTy]; omega) (by rw [hTt]; omega)) rfl (Nat.lt_of_succ_lt (isW_lt (wR hy))) (cm_w (wR hy)) (by decide) rfl (Nat.le_of_ble_eq_true rfl) dX6_take_29 (fun r29 M29 h29 => ?_)
    obtain ⟨rfl, rfl⟩ := h29
    refine k_if_ge (pc := 32) (tgt := 38) C dX6_take_32 (by decide) (fun c32 => ?_) (fun c32 => ?_)
    · rw [cmp_ge0, hTy, hTt] at c32
      refine k_aload_n (pc := 38) C dX6_take_38 rfl 0 rfl ?_
      refine gf_X6_22 (pc := 39) C (0) (by decide) cm_0 rfl dX6_take_39 ?_
      refine gf_X6_82 (pc := 42) C (135) (by decide) cm_135 rfl dX6_take_42 ?_
      refine k_aload_n (pc := 45) C dX6_take_45 rfl 0 rfl ?_
      refine gf_X6_10 (pc := 46) C (0) (by decide) cm_0 rfl dX6_take_46 ?_
      refine gf_X6_72 (pc := 49) C (1) (by decide) cm_1 rfl dX6_take_49 ?_
      refine k_iload_n (pc := 52) C dX6_take_52 rfl 2 rfl ?_
      refine k_aald (pc := 53) C E (2) (by decide) 2 rfl rfl cm_2 (y) rfl (by omega) (by decide) (4 + 2 * y) rfl dX6_take_53 ?_
      refine cv_X6_86 (pc := 54) C E (c_copy w148 (wR hy) (by omega)) rfl (by decide) (cm_w w148) (by decide) rfl (Nat.le_of_ble_eq_true rfl) dX6_take_54 (fun M54 h54 => ?_)
      subst h54
      obtain ⟨V1, hV1⟩ : ∃ W, W = va_up V (148) (V (4 + 2 * y)) := ⟨_, rfl⟩
      rw [← hV1]
      have v1 : V1 (148) = V (4 + 2 * y) := by rw [hV1, ups]
      have f1 : ∀ k, 148 ≠ k → V1 k = V k := fun k hk => by rw [hV1, upn hk]
      refine k_aload_n (pc := 57) C dX6_take_57 rfl 0 rfl ?_
      refine gf_X6_22 (pc := 58) C (0) (by decide) cm_0 rfl dX6_take_58 ?_
      refine gf_X6_82 (pc := 61) C (135) (by decide) cm_135 rfl dX6_take_61 ?_
      refine k_aload_n (pc := 64) C dX6_take_64 rfl 0 rfl ?_
      refine gf_X6_10 (pc := 65) C (0) (by decide) cm_0 rfl dX6_take_65 ?_
      refine gf_X6_72 (pc := 68) C (1) (by decide) cm_1 rfl dX6_take_68 ?_
      refine k_iload_n (pc := 71) C dX6_take_71 rfl 3 rfl ?_
      refine k_aald (pc := 72) C E (2) (by decide) 2 rfl rfl cm_2 (t) rfl (by omega) (by decide) (4 + 2 * t) rfl dX6_take_72 ?_
      refine cv_X6_117 (pc := 73) C E (c_minus w148 (wR ht) (by omega) (by rw [v1, f1 (4 + 2 * t) (by omega), hTy, hTt]; exact c32)) rfl (by decide) (cm_w w148) (by decide) rfl (Nat.le_of_ble_eq_true rfl) dX6_take_73 (fun M73 h73 => ?_)
      subst h73
      rw [v1, f1 (4 + 2 * t) (by omega)]
      obtain ⟨V2, hV2⟩ : ∃ W, W = va_up V1 (148) (V (4 + 2 * y) - V (4 + 2 * t)) := ⟨_, rfl⟩
      rw [← hV2]
      have v2 : V2 (148) = V (4 + 2 * y) - V (4 + 2 * t) := by rw [hV2, ups]
      have f2 : ∀ k, 148 ≠ k → V2 k = V1 k := fun k hk => by rw [hV2, upn hk]
      have fr : ∀ k, k < 135 → V2 k = V k := fun k hk => by rw [f2 k (by omega), f1 k (by omega)]
      refine k_aload_n (pc := 76) C dX6_take_76 rfl 0 rfl ?_
      refine k_iload_n (pc := 77) C dX6_take_77 rfl 1 rfl ?_
      refine k_aload_n (pc := 78) C dX6_take_78 rfl 0 rfl ?_
      refine gf_X6_22 (pc := 79) C (0) (by decide) cm_0 rfl dX6_take_79 ?_
      refine gf_X6_82 (pc := 82) C (135) (by decide) cm_135 rfl dX6_take_82 ?_
      refine cv_X6_96 (pc := 85) C E (c6_keep w148 hx (by decide) (by rw [v2, hTy, hTt]; omega)) rfl (by decide) cm_0 (by decide) rfl (Nat.le_of_ble_eq_true rfl) dX6_take_85 (fun r85 M85 h85 => ?_)
      exact r_i (pc := 88) C E (by
  obtain ⟨W, rfl, h9⟩ := h85
  refine ⟨W, rfl, ?_⟩
  unfold sTake
  rw [if_pos c6]
  simp only [rI_n (show x < 2147483648 by omega), rI_n (show y < 2147483648 by omega), rI_n (show t < 2147483648 by omega)]
  rw [if_neg (by omega)]
  rw [if_pos (by rw [v2, hTy, hTt]; omega)] at h9
  obtain ⟨rfl, rfl⟩ := h9
  rw [v2, hTy, hTt]
  exact ⟨rfl, (hT.o (fun k hk => fr k (by omega))).upr hx, fun k h1 h2 => by rw [upn (by omega)]; exact fr k (by omega)⟩) dX6_take_88
    · rw [cmp_ge0, hTy, hTt] at c32
      refine k_bipush (pc := 35) (v := (-3)) C dX6_take_35 (by decide) ?_
      exact r_i (pc := 37) C E (⟨V, rfl, by unfold sTake; rw [if_pos c6]; simp only [rI_n (show x < 2147483648 by omega), rI_n (show y < 2147483648 by omega), rI_n (show t < 2147483648 by omega)]; rw [if_pos (by omega)], by unfold sTake; rw [if_pos c6]; simp only [rI_n (show x < 2147483648 by omega), rI_n (show y < 2147483648 by omega), rI_n (show t < 2147483648 by omega)]; rw [if_pos (by omega)]; exact hT, fun _ _ _ => rfl⟩) dX6_take_37
  · simp only [b01, Decidable.not_not] at c6
    refine k_iconst (pc := 9) (v := (-1)) C dX6_take_9 (by decide) ?_
    exact r_i (pc := 10) C E (⟨V, rfl, by unfold sTake; rw [if_neg c6], by unfold sTake; rw [if_neg c6]; exact hT, fun _ _ _ => rfl⟩) dX6_take_10
set_option maxHeartbeats 4000000 in
set_option maxRecDepth 100000 in
/-- put -/
theorem c6_put {T : Nat → Nat} (hT : RC V T) (hB : TB T) {x0 : Int32} {a0 : Int64} : xI l D (xty ca) yX6_put cX6_put 4 (some .int) 3 150 [.ref (ad 0), .int x0, .long a0] ad (cm ad ca (V, U, sc, ia, la)) (fun r M' => ∃ V', M' = cm ad ca (V', U, sc, ia, la) ∧ r = (sPut T x0 a0).1 ∧ RC V' (sPut T x0 a0).2) := by
  refine xM.of (by decide) (Nat.le_of_ble_eq_true rfl) (fun z C E => ?_)
  refine k_iload_n (pc := 0) C dX6_put_0 rfl 1 rfl ?_
  refine cs_X6_68 (pc := 1) C E (c6_isRegister) rfl (by decide) rfl (Nat.le_of_ble_eq_true rfl) dX6_put_1 (fun r1 M1 h1 => ?_)
  obtain ⟨rfl, rfl⟩ := h1
  refine k_if_eq (pc := 4) (tgt := 13) C dX6_put_4 (by decide) (fun c4 => ?_) (fun c4 => ?_)
  · simp only [b01, Decidable.not_not] at c4
    refine k_iconst (pc := 13) (v := (-1)) C dX6_put_13 (by decide) ?_
    exact r_i (pc := 14) C E (⟨V, rfl, by unfold sPut; rw [if_neg (fun h => by first | exact c4 h.1 | exact c10 h.2)], by unfold sPut; rw [if_neg (fun h => by first | exact c4 h.1 | exact c10 h.2)]; exact hT⟩) dX6_put_14
  · simp only [b01, Decidable.not_not] at c4
    refine k_lload_n (pc := 7) C dX6_put_7 rfl 2 rfl ?_
    refine k_lconst (pc := 8) (v := lN 0) C dX6_put_8 (by decide) ?_
    refine k_lcmp (pc := 9) C dX6_put_9 ?_
    refine k_if_ge (pc := 10) (tgt := 15) C dX6_put_10 (by decide) (fun c10 => ?_) (fun c10 => ?_)
    · rw [lg_ge0] at c10
      have c6 : inR x0 16 ∧ 0 ≤ a0.toInt := ⟨c4, c10⟩
      obtain ⟨x, hx, rfl⟩ := inR_k c4
      obtain ⟨a, ha, rfl⟩ := lOf c10
      refine k_aload_n (pc := 15) C dX6_put_15 rfl 0 rfl ?_
      refine gf_X6_10 (pc := 16) C (0) (by decide) cm_0 rfl dX6_put_16 ?_
      refine gf_X6_72 (pc := 19) C (1) (by decide) cm_1 rfl dX6_put_19 ?_
      refine k_iload_n (pc := 22) C dX6_put_22 rfl 1 rfl ?_
      refine k_aald (pc := 23) C E (2) (by decide) 2 rfl rfl cm_2 (x) rfl (by omega) (by decide) (4 + 2 * x) rfl dX6_put_23 ?_
      refine k_lload_n (pc := 24) C dX6_put_24 rfl 2 rfl ?_
      refine cv_X6_76 (pc := 25) C E (c_setLong (wR hx) ha) rfl (Nat.lt_of_succ_lt (isW_lt (wR hx))) (cm_w (wR hx)) (by decide) rfl (Nat.le_of_ble_eq_true rfl) dX6_put_25 (fun M25 h25 => ?_)
      subst h25
      refine k_iconst (pc := 28) (v := nI 1) C dX6_put_28 (by decide) ?_
      exact r_i (pc := 29) C E (⟨_, rfl, by unfold sPut; rw [if_pos c6]; rfl, by unfold sPut; rw [if_pos c6]; simp only [rI_n (show x < 2147483648 by omega)]; rw [pk_lT ha]; exact hT.upr hx⟩) dX6_put_29
    · rw [lg_ge0] at c10
      refine k_iconst (pc := 13) (v := (-1)) C dX6_put_13 (by decide) ?_
      exact r_i (pc := 14) C E (⟨V, rfl, by unfold sPut; rw [if_neg (fun h => by first | exact c4 h.1 | exact c10 h.2)], by unfold sPut; rw [if_neg (fun h => by first | exact c4 h.1 | exact c10 h.2)]; exact hT⟩) dX6_put_14
theorem split32 (v : Int32) : ∃ n, n < 4294967296 ∧ v = nI n ∧ v.toBitVec.toNat = n := by
  obtain ⟨n, h1, h2⟩ := wb_of32 v
  exact ⟨n, h1, h2, by rw [h2]; exact pk_tn h1⟩
set_option maxHeartbeats 4000000 in
set_option maxRecDepth 100000 in
/-- more -/
theorem c6_more {T : Nat → Nat} (hT : RC V T) (hB : TB T) {x0 v0 : Int32} : xI l D (xty ca) yX6_more cX6_more 3 (some .int) 4 250 [.ref (ad 0), .int x0, .int v0] ad (cm ad ca (V, U, sc, ia, la)) (fun r M' => ∃ V', M' = cm ad ca (V', U, sc, ia, la) ∧ r = (sMore T x0 v0).1 ∧ RC V' (sMore T x0 v0).2) := by
  refine xM.of (by decide) (Nat.le_of_ble_eq_true rfl) (fun z C E => ?_)
  refine k_iload_n (pc := 0) C dX6_more_0 rfl 1 rfl ?_
  refine cs_X6_68 (pc := 1) C E (c6_isRegister) rfl (by decide) rfl (Nat.le_of_ble_eq_true rfl) dX6_more_1 (fun r1 M1 h1 => ?_)
  obtain ⟨rfl, rfl⟩ := h1
  refine k_if_ne (pc := 4) (tgt := 9) C dX6_more_4 (by decide) (fun c4 => ?_) (fun c4 => ?_)
  · simp only [b01, Decidable.not_not] at c4
    obtain ⟨x, hx, rfl⟩ := inR_k c4
    obtain ⟨v, hv, rfl, hv2⟩ := split32 v0
    have hTx := hT.r hx
    have bx1 := hB.1 x hx
    refine k_aload_n (pc := 9) C dX6_more_9 rfl 0 rfl ?_
    refine gf_X6_22 (pc := 10) C (0) (by decide) cm_0 rfl dX6_more_10 ?_
    refine gf_X6_82 (pc := 13) C (135) (by decide) cm_135 rfl dX6_more_13 ?_
    refine k_aload_n (pc := 16) C dX6_more_16 rfl 0 rfl ?_
    refine gf_X6_10 (pc := 17) C (0) (by decide) cm_0 rfl dX6_more_17 ?_
    refine gf_X6_72 (pc := 20) C (1) (by decide) cm_1 rfl dX6_more_20 ?_
    refine k_iload_n (pc := 23) C dX6_more_23 rfl 1 rfl ?_
    refine k_aald (pc := 24) C E (2) (by decide) 2 rfl rfl cm_2 (x) rfl (by omega) (by decide) (4 + 2 * x) rfl dX6_more_24 ?_
    refine cv_X6_86 (pc := 25) C E (c_copy w148 (wR hx) (by omega)) rfl (by decide) (cm_w w148) (by decide) rfl (Nat.le_of_ble_eq_true rfl) dX6_more_25 (fun M25 h25 => ?_)
    subst h25
    obtain ⟨V1, hV1⟩ : ∃ W, W = va_up V (148) (V (4 + 2 * x)) := ⟨_, rfl⟩
    rw [← hV1]
    have v1 : V1 (148) = V (4 + 2 * x) := by rw [hV1, ups]
    have f1 : ∀ k, 148 ≠ k → V1 k = V k := fun k hk => by rw [hV1, upn hk]
    refine k_aload_n (pc := 28) C dX6_more_28 rfl 0 rfl ?_
    refine gf_X6_22 (pc := 29) C (0) (by decide) cm_0 rfl dX6_more_29 ?_
    refine gf_X6_82 (pc := 32) C (135) (by decide) cm_135 rfl dX6_more_32 ?_
    refine k_ldc (pc := 35) C kc_X6_90 dX6_more_35 ?_
    refine k_eqi (y := nI 65536) rfl ?_
    refine k_iload_n (pc := 37) C dX6_more_37 rfl 2 rfl ?_
    refine k_bipush (pc := 38) (v := nI 16) C dX6_more_38 (by decide) ?_
    refine k_iushr (pc := 40) C dX6_more_40 rfl ?_
    refine k_eqi (y := nI (v / 65536)) (ush16 hv) ?_
    refine cv_X6_91 (pc := 41) C E (c_scale w148 (p := 65536) (q := v / 65536) (by decide) (by omega)) rfl (by decide) (cm_w w148) (by decide) rfl (Nat.le_of_ble_eq_true rfl) dX6_more_41 (fun M41 h41 => ?_)
    subst h41
    rw [v1]
    obtain ⟨V2, hV2⟩ : ∃ W, W = va_up V1 (148) (V (4 + 2 * x) * 65536 + v / 65536) := ⟨_, rfl⟩
    rw [← hV2]
    have v2 : V2 (148) = V (4 + 2 * x) * 65536 + v / 65536 := by rw [hV2, ups]
    have f2 : ∀ k, 148 ≠ k → V2 k = V1 k := fun k hk => by rw [hV2, upn hk]
    refine k_aload_n (pc := 44) C dX6_more_44 rfl 0 rfl ?_
    refine gf_X6_22 (pc := 45) C (0) (by decide) cm_0 rfl dX6_more_45 ?_
    refine gf_X6_82 (pc := 48) C (135) (by decide) cm_135 rfl dX6_more_48 ?_
    refine k_ldc (pc := 51) C kc_X6_90 dX6_more_51 ?_
    refine k_eqi (y := nI 65536) rfl ?_
    refine k_iload_n (pc := 53) C dX6_more_53 rfl 2 rfl ?_
    refine k_ldc (pc := 54) C kc_X6_95 dX6_more_54 ?_
    refine k_eqi (y := nI 65535) rfl ?_
    refine k_iand (pc := 56) C dX6_more_56 ?_
    refine k_eqi (y := nI (v % 65536)) (and16' _) ?_
    refine cv_X6_91 (pc := 57) C E (c_scale w148 (p := 65536) (q := v % 65536) (by decide) (by omega)) rfl (by decide) (cm_w w148) (by decide) rfl (Nat.le_of_ble_eq_true rfl) dX6_more_57 (fun M57 h57 => ?_)
    subst h57
    rw [v2]
    obtain ⟨V3, hV3⟩ : ∃ W, W = va_up V2 (148) ((V (4 + 2 * x) * 65536 + v / 65536) * 65536 + v % 65536) := ⟨_, rfl⟩
    rw [← hV3]
    have v3 : V3 (148) = (V (4 + 2 * x) * 65536 + v / 65536) * 65536 + v % 65536 := by rw [hV3, ups]
    have f3 : ∀ k, 148 ≠ k → V3 k = V2 k := fun k hk => by rw [hV3, upn hk]
    have fr : ∀ k, k < 135 → V3 k = V k := fun k hk => by rw [f3 k (by omega), f2 k (by omega), f1 k (by omega)]
    have vv : V3 148 = T x * 4294967296 + v := by rw [v3, hTx]; omega
    refine k_aload_n (pc := 60) C dX6_more_60 rfl 0 rfl ?_
    refine k_iload_n (pc := 61) C dX6_more_61 rfl 1 rfl ?_
    refine k_aload_n (pc := 62) C dX6_more_62 rfl 0 rfl ?_
    refine gf_X6_22 (pc := 63) C (0) (by decide) cm_0 rfl dX6_more_63 ?_
    refine gf_X6_82 (pc := 66) C (135) (by decide) cm_135 rfl dX6_more_66 ?_
    refine cv_X6_96 (pc := 69) C E (c6_keep w148 hx (by decide) (by rw [vv]; omega)) rfl (by decide) cm_0 (by decide) rfl (Nat.le_of_ble_eq_true rfl) dX6_more_69 (fun r69 M69 h69 => ?_)
    exact r_i (pc := 72) C E (by
  obtain ⟨W, rfl, h9⟩ := h69
  refine ⟨W, rfl, ?_⟩
  unfold sMore
  rw [if_pos (by exact c4)]
  simp only [rI_n (show x < 2147483648 by omega), hv2]
  unfold sKeep
  by_cases hs : T x * 4294967296 + v < 2 ^ 256
  · rw [if_pos hs]
    rw [if_pos (by rw [vv]; exact hs)] at h9
    obtain ⟨rfl, rfl⟩ := h9
    rw [vv]
    exact ⟨rfl, (hT.o (fun k hk => fr k (by omega))).upr hx⟩
  · rw [if_neg hs]
    rw [if_neg (by rw [vv]; exact hs)] at h9
    obtain ⟨rfl, rfl⟩ := h9
    exact ⟨rfl, hT.o (fun k hk => fr k (by omega))⟩) dX6_more_72
  · simp only [b01, Decidable.not_not] at c4
    refine k_iconst (pc := 7) (v := (-1)) C dX6_more_7 (by decide) ?_
    exact r_i (pc := 8) C E (⟨V, rfl, by unfold sMore; rw [if_neg c4], by unfold sMore; rw [if_neg c4]; exact hT⟩) dX6_more_8
set_option maxHeartbeats 4000000 in
set_option maxRecDepth 100000 in
/-- limb -/
theorem c6_limb {T : Nat → Nat} (hT : RC V T) (hB : TB T) {x0 i0 : Int32} : xL l D (xty ca) yX6_limb cX6_limb 3 (some .long) 3 150 [.ref (ad 0), .int x0, .int i0] ad (cm ad ca (V, U, sc, ia, la)) (fun r M' => M' = cm ad ca (V, U, sc, ia, la) ∧ r = sLimb T x0 i0) := by
  refine xM.of (by decide) (Nat.le_of_ble_eq_true rfl) (fun z C E => ?_)
  refine k_iload_n (pc := 0) C dX6_limb_0 rfl 1 rfl ?_
  refine cs_X6_68 (pc := 1) C E (c6_isRegister) rfl (by decide) rfl (Nat.le_of_ble_eq_true rfl) dX6_limb_1 (fun r1 M1 h1 => ?_)
  obtain ⟨rfl, rfl⟩ := h1
  refine k_if_eq (pc := 4) (tgt := 17) C dX6_limb_4 (by decide) (fun c4 => ?_) (fun c4 => ?_)
  · simp only [b01, Decidable.not_not] at c4
    refine k_ldc2 (pc := 17) C kc_X6_100 dX6_limb_17 ?_
    exact r_l (pc := 20) C E (⟨rfl, by unfold sLimb; rw [if_neg (fun h => by first | exact c4 h.1 | (have := h.2.1; have := h.2.2; omega))]⟩) dX6_limb_20
  · simp only [b01, Decidable.not_not] at c4
    refine k_iload_n (pc := 7) C dX6_limb_7 rfl 2 rfl ?_
    refine k_if_lt (pc := 8) (tgt := 17) C dX6_limb_8 (by decide) (fun c8 => ?_) (fun c8 => ?_)
    · rw [Int32.lt_iff_toInt_lt, show (0 : Int32).toInt = 0 from rfl] at c8
      refine k_ldc2 (pc := 17) C kc_X6_100 dX6_limb_17 ?_
      exact r_l (pc := 20) C E (⟨rfl, by unfold sLimb; rw [if_neg (fun h => by first | exact c4 h.1 | (have := h.2.1; have := h.2.2; omega))]⟩) dX6_limb_20
    · rw [Int32.lt_iff_toInt_lt, show (0 : Int32).toInt = 0 from rfl] at c8
      refine k_iload_n (pc := 11) C dX6_limb_11 rfl 2 rfl ?_
      refine k_bipush (pc := 12) (v := nI 7) C dX6_limb_12 (by decide) ?_
      refine k_icmp_le (pc := 14) (tgt := 21) C dX6_limb_14 (by decide) (fun c14 => ?_) (fun c14 => ?_)
      · rw [Int32.le_iff_toInt_le, nI_toInt (by decide)] at c14
        have c6 : inR x0 16 ∧ inR i0 8 := ⟨c4, by constructor <;> omega⟩
        obtain ⟨x, hx, rfl⟩ := inR_k c6.1
        obtain ⟨k, hk, rfl⟩ := inR_k c6.2
        have hTx := hT.r hx
        have bx1 := hB.1 x hx
        refine k_aload_n (pc := 21) C dX6_limb_21 rfl 0 rfl ?_
        refine gf_X6_10 (pc := 22) C (0) (by decide) cm_0 rfl dX6_limb_22 ?_
        refine gf_X6_72 (pc := 25) C (1) (by decide) cm_1 rfl dX6_limb_25 ?_
        refine k_iload_n (pc := 28) C dX6_limb_28 rfl 1 rfl ?_
        refine k_aald (pc := 29) C E (2) (by decide) 2 rfl rfl cm_2 (x) rfl (by omega) (by decide) (4 + 2 * x) rfl dX6_limb_29 ?_
        refine k_iload_n (pc := 30) C dX6_limb_30 rfl 2 rfl ?_
        refine cv_X6_102 (pc := 31) C E (c_bits32 (wR hx) (k := k) (by rw [hTx]; omega) hk) rfl (Nat.lt_of_succ_lt (isW_lt (wR hx))) (cm_w (wR hx)) (by decide) rfl (Nat.le_of_ble_eq_true rfl) dX6_limb_31 (fun r31 M31 h31 => ?_)
        obtain ⟨rfl, rfl⟩ := h31
        exact r_l (pc := 34) C E (⟨rfl, by unfold sLimb; rw [if_pos c6, hTx, rI_n (show x < 2147483648 by omega), rI_n (show k < 2147483648 by omega)]⟩) dX6_limb_34
      · rw [Int32.le_iff_toInt_le, nI_toInt (by decide)] at c14
        refine k_ldc2 (pc := 17) C kc_X6_100 dX6_limb_17 ?_
        exact r_l (pc := 20) C E (⟨rfl, by unfold sLimb; rw [if_neg (fun h => by first | exact c4 h.1 | (have := h.2.1; have := h.2.2; omega))]⟩) dX6_limb_20
set_option maxHeartbeats 4000000 in
set_option maxRecDepth 100000 in
/-- order -/
theorem c6_order {T : Nat → Nat} (hT : RC V T) (hB : TB T) {x0 y0 : Int32} : xI l D (xty ca) yX6_order cX6_order 3 (some .int) 3 150 [.ref (ad 0), .int x0, .int y0] ad (cm ad ca (V, U, sc, ia, la)) (fun r M' => M' = cm ad ca (V, U, sc, ia, la) ∧ r = sOrder T x0 y0) := by
  refine xM.of (by decide) (Nat.le_of_ble_eq_true rfl) (fun z C E => ?_)
  refine k_iload_n (pc := 0) C dX6_order_0 rfl 1 rfl ?_
  refine cs_X6_68 (pc := 1) C E (c6_isRegister) rfl (by decide) rfl (Nat.le_of_ble_eq_true rfl) dX6_order_1 (fun r1 M1 h1 => ?_)
  obtain ⟨rfl, rfl⟩ := h1
  refine k_if_eq (pc := 4) (tgt := 14) C dX6_order_4 (by decide) (fun c4 => ?_) (fun c4 => ?_)
  · simp only [b01, Decidable.not_not] at c4
    refine k_iconst (pc := 14) (v := (-1)) C dX6_order_14 (by decide) ?_
    exact r_i (pc := 15) C E (⟨rfl, by unfold sOrder; rw [if_neg (fun h => by first | exact c4 h.1 | exact c11 h.2)]⟩) dX6_order_15
  · simp only [b01, Decidable.not_not] at c4
    refine k_iload_n (pc := 7) C dX6_order_7 rfl 2 rfl ?_
    refine cs_X6_68 (pc := 8) C E (c6_isRegister) rfl (by decide) rfl (Nat.le_of_ble_eq_true rfl) dX6_order_8 (fun r8 M8 h8 => ?_)
    obtain ⟨rfl, rfl⟩ := h8
    refine k_if_ne (pc := 11) (tgt := 16) C dX6_order_11 (by decide) (fun c11 => ?_) (fun c11 => ?_)
    · simp only [b01, Decidable.not_not] at c11
      have c6 : inR x0 16 ∧ inR y0 16 := ⟨c4, c11⟩
      obtain ⟨x, hx, rfl⟩ := inR_k c4
      obtain ⟨y, hy, rfl⟩ := inR_k c11
      have hTx := hT.r hx
      have hTy := hT.r hy
      have bx1 := hB.1 x hx
      have by1 := hB.1 y hy
      refine k_iconst (pc := 16) (v := nI 1) C dX6_order_16 (by decide) ?_
      refine k_aload_n (pc := 17) C dX6_order_17 rfl 0 rfl ?_
      refine gf_X6_10 (pc := 18) C (0) (by decide) cm_0 rfl dX6_order_18 ?_
      refine gf_X6_72 (pc := 21) C (1) (by decide) cm_1 rfl dX6_order_21 ?_
      refine k_iload_n (pc := 24) C dX6_order_24 rfl 1 rfl ?_
      refine k_aald (pc := 25) C E (2) (by decide) 2 rfl rfl cm_2 (x) rfl (by omega) (by decide) (4 + 2 * x) rfl dX6_order_25 ?_
      refine k_aload_n (pc := 26) C dX6_order_26 rfl 0 rfl ?_
      refine gf_X6_10 (pc := 27) C (0) (by decide) cm_0 rfl dX6_order_27 ?_
      refine gf_X6_72 (pc := 30) C (1) (by decide) cm_1 rfl dX6_order_30 ?_
      refine k_iload_n (pc := 33) C dX6_order_33 rfl 2 rfl ?_
      refine k_aald (pc := 34) C E (2) (by decide) 2 rfl rfl cm_2 (y) rfl (by omega) (by decide) (4 + 2 * y) rfl dX6_order_34 ?_
      refine cv_X6_113 (pc := 35) C E (c_compare (wR hx) (wR hy) (by rw [hTx]; omega) (by rw [hTy]; omega)) rfl (Nat.lt_of_succ_lt (isW_lt (wR hx))) (cm_w (wR hx)) (by decide) rfl (Nat.le_of_ble_eq_true rfl) dX6_order_35 (fun r35 M35 h35 => ?_)
      obtain ⟨rfl, rfl⟩ := h35
      refine k_iadd (pc := 38) C dX6_order_38 ?_
      exact r_i (pc := 39) C E (⟨rfl, by unfold sOrder; rw [if_pos c6, hTx, hTy, rI_n (show x < 2147483648 by omega), rI_n (show y < 2147483648 by omega)]; rfl⟩) dX6_order_39
    · simp only [b01, Decidable.not_not] at c11
      refine k_iconst (pc := 14) (v := (-1)) C dX6_order_14 (by decide) ?_
      exact r_i (pc := 15) C E (⟨rfl, by unfold sOrder; rw [if_neg (fun h => by first | exact c4 h.1 | exact c11 h.2)]⟩) dX6_order_15
end EB
