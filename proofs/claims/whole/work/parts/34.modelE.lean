section ME
variable {l : Launch} {D : va_G} {ca : Nat → ClassId} {ad : Nat → Nat} {V U : Nat → Nat} {sc : Nat → Int32} {ia : Nat → Nat → Int32} {la : Nat → Nat → Int64}
set_option maxHeartbeats 4000000 in
set_option maxRecDepth 100000 in
/-- add -/
theorem c7_add {T : Nat → Nat} (hT : RM U T) (hB : TB T) {x0 y0 t0 : Int32} : xI l D (xty ca) yX7_add cX7_add 4 (some .int) 2 80 [.ref (ad 174), .int x0, .int y0, .int t0] ad (cm ad ca (V, U, sc, ia, la)) (fun r M' => ∃ U', M' = cm ad ca (V, U', sc, ia, la) ∧ r = (sAdd T x0 y0 t0).1 ∧ RM U' (sAdd T x0 y0 t0).2 ∧ ∀ k, 36 ≤ k → U' k = U k) := by
  refine xM.of (by decide) (Nat.le_of_ble_eq_true rfl) (fun z C E => ?_)
  refine k_iload_n (pc := 0) C dX7_add_0 rfl 1 rfl ?_
  refine cs_X7_85 (pc := 1) C E (c7_isRegister) rfl (by decide) rfl (Nat.le_of_ble_eq_true rfl) dX7_add_1 (fun r1 M1 h1 => ?_)
  obtain ⟨rfl, rfl⟩ := h1
  refine k_if_eq (pc := 4) (tgt := 21) C dX7_add_4 (by decide) (fun c4 => ?_) (fun c4 => ?_)
  · simp only [b01, Decidable.not_not] at c4
    refine k_iconst (pc := 21) (v := (-1)) C dX7_add_21 (by decide) ?_
    exact r_i (pc := 22) C E (⟨U, rfl, by unfold sAdd; rw [if_neg (fun h => by first | exact c4 h.1 | exact c11 h.2.1 | exact c18 h.2.2)], by unfold sAdd; rw [if_neg (fun h => by first | exact c4 h.1 | exact c11 h.2.1 | exact c18 h.2.2)]; exact hT, fun _ _ => rfl⟩) dX7_add_22
  · simp only [b01, Decidable.not_not] at c4
    refine k_iload_n (pc := 7) C dX7_add_7 rfl 2 rfl ?_
    refine cs_X7_85 (pc := 8) C E (c7_isRegister) rfl (by decide) rfl (Nat.le_of_ble_eq_true rfl) dX7_add_8 (fun r8 M8 h8 => ?_)
    obtain ⟨rfl, rfl⟩ := h8
    refine k_if_eq (pc := 11) (tgt := 21) C dX7_add_11 (by decide) (fun c11 => ?_) (fun c11 => ?_)
    · simp only [b01, Decidable.not_not] at c11
      refine k_iconst (pc := 21) (v := (-1)) C dX7_add_21 (by decide) ?_
      exact r_i (pc := 22) C E (⟨U, rfl, by unfold sAdd; rw [if_neg (fun h => by first | exact c4 h.1 | exact c11 h.2.1 | exact c18 h.2.2)], by unfold sAdd; rw [if_neg (fun h => by first | exact c4 h.1 | exact c11 h.2.1 | exact c18 h.2.2)]; exact hT, fun _ _ => rfl⟩) dX7_add_22
    · simp only [b01, Decidable.not_not] at c11
      refine k_iload_n (pc := 14) C dX7_add_14 rfl 3 rfl ?_
      refine cs_X7_85 (pc := 15) C E (c7_isRegister) rfl (by decide) rfl (Nat.le_of_ble_eq_true rfl) dX7_add_15 (fun r15 M15 h15 => ?_)
      obtain ⟨rfl, rfl⟩ := h15
      refine k_if_ne (pc := 18) (tgt := 23) C dX7_add_18 (by decide) (fun c18 => ?_) (fun c18 => ?_)
      · simp only [b01, Decidable.not_not] at c18
        have c6 : ok3 x0 y0 t0 := ⟨c4, c11, c18⟩
        obtain ⟨x, hx, rfl⟩ := inR_k c4
        obtain ⟨y, hy, rfl⟩ := inR_k c11
        obtain ⟨t, ht, rfl⟩ := inR_k c18
        have hTy := hT y (by omega)
        have hTt := hT t (by omega)
        have by1 := hB.1 y hy
        have bt1 := hB.1 t ht
        refine k_aload_n (pc := 23) C dX7_add_23 rfl 0 rfl ?_
        refine k_bipush (pc := 24) (v := nI 28) C dX7_add_24 (by decide) ?_
        refine k_iload_n (pc := 26) C dX7_add_26 rfl 2 rfl ?_
        refine k_iload_n (pc := 27) C dX7_add_27 rfl 3 rfl ?_
        refine cv_X7_66 (pc := 28) C E (c7_plus (t := 28) (a := y) (b := t) (by decide) (by omega) (by omega)) rfl (by decide) cm_174 (by decide) rfl (Nat.le_of_ble_eq_true rfl) dX7_add_28 (fun M28 h28 => ?_)
        subst h28
        rw [hTy, hTt]
        obtain ⟨U1, hU1⟩ : ∃ W, W = va_up U (28) (T y + T t) := ⟨_, rfl⟩
        rw [← hU1]
        have v1 : U1 (28) = T y + T t := by rw [hU1, ups]
        have f1 : ∀ k, 28 ≠ k → U1 k = U k := fun k hk => by rw [hU1, upn hk]
        have fr : ∀ k, k < 28 ∨ 36 ≤ k → U1 k = U k := fun k hk => f1 k (by omega)
        refine k_aload_n (pc := 31) C dX7_add_31 rfl 0 rfl ?_
        refine k_iload_n (pc := 32) C dX7_add_32 rfl 1 rfl ?_
        refine k_bipush (pc := 33) (v := nI 28) C dX7_add_33 (by decide) ?_
        refine cv_X7_96 (pc := 35) C E (c7_keep (j := 28) (k := x) (by decide) (by omega) (by rw [v1]; omega)) rfl (by decide) cm_174 (by decide) rfl (Nat.le_of_ble_eq_true rfl) dX7_add_35 (fun r35 M35 h35 => ?_)
        exact r_i (pc := 38) C E (by
  obtain ⟨W, rfl, h9⟩ := h35
  refine ⟨W, rfl, ?_⟩
  unfold sAdd
  rw [if_pos (by exact c6)]
  simp only [rI_n (show x < 2147483648 by omega), rI_n (show y < 2147483648 by omega), rI_n (show t < 2147483648 by omega)]
  unfold sKeep
  by_cases hs : T y + T t < 2 ^ 256
  · rw [if_pos hs]
    rw [if_pos (by rw [v1]; exact hs)] at h9
    obtain ⟨rfl, rfl⟩ := h9
    rw [v1]
    exact ⟨rfl, (hT.o (fun k hk => fr k (Or.inl hk))).up, fun k h1 => by rw [upn (by omega)]; exact fr k (Or.inr h1)⟩
  · rw [if_neg hs]
    rw [if_neg (by rw [v1]; exact hs)] at h9
    obtain ⟨rfl, rfl⟩ := h9
    exact ⟨rfl, hT.o (fun k hk => fr k (Or.inl hk)), fun k h1 => fr k (Or.inr h1)⟩) dX7_add_38
      · simp only [b01, Decidable.not_not] at c18
        refine k_iconst (pc := 21) (v := (-1)) C dX7_add_21 (by decide) ?_
        exact r_i (pc := 22) C E (⟨U, rfl, by unfold sAdd; rw [if_neg (fun h => by first | exact c4 h.1 | exact c11 h.2.1 | exact c18 h.2.2)], by unfold sAdd; rw [if_neg (fun h => by first | exact c4 h.1 | exact c11 h.2.1 | exact c18 h.2.2)]; exact hT, fun _ _ => rfl⟩) dX7_add_22
set_option maxHeartbeats 4000000 in
set_option maxRecDepth 100000 in
/-- take -/
theorem c7_take {T : Nat → Nat} (hT : RM U T) (hB : TB T) {x0 y0 t0 : Int32} : xI l D (xty ca) yX7_take cX7_take 4 (some .int) 2 80 [.ref (ad 174), .int x0, .int y0, .int t0] ad (cm ad ca (V, U, sc, ia, la)) (fun r M' => ∃ U', M' = cm ad ca (V, U', sc, ia, la) ∧ r = (sTake T x0 y0 t0).1 ∧ RM U' (sTake T x0 y0 t0).2 ∧ ∀ k, 36 ≤ k → U' k = U k) := by
  refine xM.of (by decide) (Nat.le_of_ble_eq_true rfl) (fun z C E => ?_)
  refine k_iload_n (pc := 0) C dX7_take_0 rfl 1 rfl ?_
  refine cs_X7_85 (pc := 1) C E (c7_isRegister) rfl (by decide) rfl (Nat.le_of_ble_eq_true rfl) dX7_take_1 (fun r1 M1 h1 => ?_)
  obtain ⟨rfl, rfl⟩ := h1
  refine k_if_eq (pc := 4) (tgt := 21) C dX7_take_4 (by decide) (fun c4 => ?_) (fun c4 => ?_)
  · simp only [b01, Decidable.not_not] at c4
    refine k_iconst (pc := 21) (v := (-1)) C dX7_take_21 (by decide) ?_
    exact r_i (pc := 22) C E (⟨U, rfl, by unfold sTake; rw [if_neg (fun h => by first | exact c4 h.1 | exact c11 h.2.1 | exact c18 h.2.2)], by unfold sTake; rw [if_neg (fun h => by first | exact c4 h.1 | exact c11 h.2.1 | exact c18 h.2.2)]; exact hT, fun _ _ => rfl⟩) dX7_take_22
  · simp only [b01, Decidable.not_not] at c4
    refine k_iload_n (pc := 7) C dX7_take_7 rfl 2 rfl ?_
    refine cs_X7_85 (pc := 8) C E (c7_isRegister) rfl (by decide) rfl (Nat.le_of_ble_eq_true rfl) dX7_take_8 (fun r8 M8 h8 => ?_)
    obtain ⟨rfl, rfl⟩ := h8
    refine k_if_eq (pc := 11) (tgt := 21) C dX7_take_11 (by decide) (fun c11 => ?_) (fun c11 => ?_)
    · simp only [b01, Decidable.not_not] at c11
      refine k_iconst (pc := 21) (v := (-1)) C dX7_take_21 (by decide) ?_
      exact r_i (pc := 22) C E (⟨U, rfl, by unfold sTake; rw [if_neg (fun h => by first | exact c4 h.1 | exact c11 h.2.1 | exact c18 h.2.2)], by unfold sTake; rw [if_neg (fun h => by first | exact c4 h.1 | exact c11 h.2.1 | exact c18 h.2.2)]; exact hT, fun _ _ => rfl⟩) dX7_take_22
    · simp only [b01, Decidable.not_not] at c11
      refine k_iload_n (pc := 14) C dX7_take_14 rfl 3 rfl ?_
      refine cs_X7_85 (pc := 15) C E (c7_isRegister) rfl (by decide) rfl (Nat.le_of_ble_eq_true rfl) dX7_take_15 (fun r15 M15 h15 => ?_)
      obtain ⟨rfl, rfl⟩ := h15
      refine k_if_ne (pc := 18) (tgt := 23) C dX7_take_18 (by decide) (fun c18 => ?_) (fun c18 => ?_)
      · simp only [b01, Decidable.not_not] at c18
        have c6 : ok3 x0 y0 t0 := ⟨c4, c11, c18⟩
        obtain ⟨x, hx, rfl⟩ := inR_k c4
        obtain ⟨y, hy, rfl⟩ := inR_k c11
        obtain ⟨t, ht, rfl⟩ := inR_k c18
        have hTy := hT y (by omega)
        have hTt := hT t (by omega)
        have by1 := hB.1 y hy
        have bt1 := hB.1 t ht
        refine k_aload_n (pc := 23) C dX7_take_23 rfl 0 rfl ?_
        refine k_iload_n (pc := 24) C dX7_take_24 rfl 2 rfl ?_
        refine k_iload_n (pc := 25) C dX7_take_25 rfl 3 rfl ?_
        refine cv_X7_76 (pc := 26) C E (c7_compare (a := y) (b := t) (by omega) (by omega) (by rw [hTy]; omega) (by rw [hTt]; omega)) rfl (by decide) cm_174 (by decide) rfl (Nat.le_of_ble_eq_true rfl) dX7_take_26 (fun r26 M26 h26 => ?_)
        obtain ⟨rfl, rfl⟩ := h26
        refine k_if_ge (pc := 29) (tgt := 35) C dX7_take_29 (by decide) (fun c29 => ?_) (fun c29 => ?_)
        · rw [cmp_ge0, hTy, hTt] at c29
          refine k_aload_n (pc := 35) C dX7_take_35 rfl 0 rfl ?_
          refine k_iload_n (pc := 36) C dX7_take_36 rfl 1 rfl ?_
          refine k_iload_n (pc := 37) C dX7_take_37 rfl 2 rfl ?_
          refine k_iload_n (pc := 38) C dX7_take_38 rfl 3 rfl ?_
          refine cv_X7_80 (pc := 39) C E (c7_minus (t := x) (a := y) (b := t) (by omega) (by omega) (by omega) (by rw [hTy, hTt]; exact c29)) rfl (by decide) cm_174 (by decide) rfl (Nat.le_of_ble_eq_true rfl) dX7_take_39 (fun M39 h39 => ?_)
          subst h39
          refine k_iconst (pc := 42) (v := nI 1) C dX7_take_42 (by decide) ?_
          exact r_i (pc := 43) C E (⟨_, rfl, by unfold sTake; rw [if_pos c6]; simp only [rI_n (show x < 2147483648 by omega), rI_n (show y < 2147483648 by omega), rI_n (show t < 2147483648 by omega)]; rw [if_neg (by omega)]; rfl, by unfold sTake; rw [if_pos c6]; simp only [rI_n (show x < 2147483648 by omega), rI_n (show y < 2147483648 by omega), rI_n (show t < 2147483648 by omega)]; rw [if_neg (by omega), hTy, hTt]; exact hT.up, fun k h1 => upn (by omega)⟩) dX7_take_43
        · rw [cmp_ge0, hTy, hTt] at c29
          refine k_bipush (pc := 32) (v := (-3)) C dX7_take_32 (by decide) ?_
          exact r_i (pc := 34) C E (⟨U, rfl, by unfold sTake; rw [if_pos c6]; simp only [rI_n (show x < 2147483648 by omega), rI_n (show y < 2147483648 by omega), rI_n (show t < 2147483648 by omega)]; rw [if_pos (by omega)], by unfold sTake; rw [if_pos c6]; simp only [rI_n (show x < 2147483648 by omega), rI_n (show y < 2147483648 by omega), rI_n (show t < 2147483648 by omega)]; rw [if_pos (by omega)]; exact hT, fun _ _ => rfl⟩) dX7_take_34
      · simp only [b01, Decidable.not_not] at c18
        refine k_iconst (pc := 21) (v := (-1)) C dX7_take_21 (by decide) ?_
        exact r_i (pc := 22) C E (⟨U, rfl, by unfold sTake; rw [if_neg (fun h => by first | exact c4 h.1 | exact c11 h.2.1 | exact c18 h.2.2)], by unfold sTake; rw [if_neg (fun h => by first | exact c4 h.1 | exact c11 h.2.1 | exact c18 h.2.2)]; exact hT, fun _ _ => rfl⟩) dX7_take_22
set_option maxHeartbeats 4000000 in
set_option maxRecDepth 100000 in
/-- put -/
theorem c7_put {T : Nat → Nat} (hT : RM U T) (hB : TB T) {x0 : Int32} {a0 : Int64} : xI l D (xty ca) yX7_put cX7_put 4 (some .int) 2 80 [.ref (ad 174), .int x0, .long a0] ad (cm ad ca (V, U, sc, ia, la)) (fun r M' => ∃ U', M' = cm ad ca (V, U', sc, ia, la) ∧ r = (sPut T x0 a0).1 ∧ RM U' (sPut T x0 a0).2) := by
  refine xM.of (by decide) (Nat.le_of_ble_eq_true rfl) (fun z C E => ?_)
  refine k_iload_n (pc := 0) C dX7_put_0 rfl 1 rfl ?_
  refine cs_X7_85 (pc := 1) C E (c7_isRegister) rfl (by decide) rfl (Nat.le_of_ble_eq_true rfl) dX7_put_1 (fun r1 M1 h1 => ?_)
  obtain ⟨rfl, rfl⟩ := h1
  refine k_if_eq (pc := 4) (tgt := 13) C dX7_put_4 (by decide) (fun c4 => ?_) (fun c4 => ?_)
  · simp only [b01, Decidable.not_not] at c4
    refine k_iconst (pc := 13) (v := (-1)) C dX7_put_13 (by decide) ?_
    exact r_i (pc := 14) C E (⟨U, rfl, by unfold sPut; rw [if_neg (fun h => by first | exact c4 h.1 | exact c10 h.2)], by unfold sPut; rw [if_neg (fun h => by first | exact c4 h.1 | exact c10 h.2)]; exact hT⟩) dX7_put_14
  · simp only [b01, Decidable.not_not] at c4
    refine k_lload_n (pc := 7) C dX7_put_7 rfl 2 rfl ?_
    refine k_lconst (pc := 8) (v := lN 0) C dX7_put_8 (by decide) ?_
    refine k_lcmp (pc := 9) C dX7_put_9 ?_
    refine k_if_ge (pc := 10) (tgt := 15) C dX7_put_10 (by decide) (fun c10 => ?_) (fun c10 => ?_)
    · rw [lg_ge0] at c10
      have c6 : inR x0 16 ∧ 0 ≤ a0.toInt := ⟨c4, c10⟩
      obtain ⟨x, hx, rfl⟩ := inR_k c4
      obtain ⟨a, ha, rfl⟩ := lOf c10
      refine k_aload_n (pc := 15) C dX7_put_15 rfl 0 rfl ?_
      refine k_iload_n (pc := 16) C dX7_put_16 rfl 1 rfl ?_
      refine k_lload_n (pc := 17) C dX7_put_17 rfl 2 rfl ?_
      refine cv_X7_62 (pc := 18) C E (c7_set (t := x) (a := a) (by omega) ha) rfl (by decide) cm_174 (by decide) rfl (Nat.le_of_ble_eq_true rfl) dX7_put_18 (fun M18 h18 => ?_)
      subst h18
      refine k_iconst (pc := 21) (v := nI 1) C dX7_put_21 (by decide) ?_
      exact r_i (pc := 22) C E (⟨_, rfl, by unfold sPut; rw [if_pos c6]; rfl, by unfold sPut; rw [if_pos c6]; simp only [rI_n (show x < 2147483648 by omega)]; rw [pk_lT ha]; exact hT.up⟩) dX7_put_22
    · rw [lg_ge0] at c10
      refine k_iconst (pc := 13) (v := (-1)) C dX7_put_13 (by decide) ?_
      exact r_i (pc := 14) C E (⟨U, rfl, by unfold sPut; rw [if_neg (fun h => by first | exact c4 h.1 | exact c10 h.2)], by unfold sPut; rw [if_neg (fun h => by first | exact c4 h.1 | exact c10 h.2)]; exact hT⟩) dX7_put_14
set_option maxHeartbeats 4000000 in
set_option maxRecDepth 100000 in
/-- limb -/
theorem c7_limb {T : Nat → Nat} (hT : RM U T) (hB : TB T) {x0 i0 : Int32} : xL l D (xty ca) yX7_limb cX7_limb 3 (some .long) 2 80 [.ref (ad 174), .int x0, .int i0] ad (cm ad ca (V, U, sc, ia, la)) (fun r M' => M' = cm ad ca (V, U, sc, ia, la) ∧ r = sLimb T x0 i0) := by
  refine xM.of (by decide) (Nat.le_of_ble_eq_true rfl) (fun z C E => ?_)
  refine k_iload_n (pc := 0) C dX7_limb_0 rfl 1 rfl ?_
  refine cs_X7_85 (pc := 1) C E (c7_isRegister) rfl (by decide) rfl (Nat.le_of_ble_eq_true rfl) dX7_limb_1 (fun r1 M1 h1 => ?_)
  obtain ⟨rfl, rfl⟩ := h1
  refine k_if_eq (pc := 4) (tgt := 33) C dX7_limb_4 (by decide) (fun c4 => ?_) (fun c4 => ?_)
  · simp only [b01, Decidable.not_not] at c4
    refine k_ldc2 (pc := 33) C kc_X7_91 dX7_limb_33 ?_
    exact r_l (pc := 36) C E (⟨rfl, by unfold sLimb; first | (rw [if_pos c6, rI_n (show x < 2147483648 by omega), rI_n (show k < 2147483648 by omega)]; done) | (rw [if_neg (fun h => by first | exact c4 h.1 | exact c16 h.2)])⟩) dX7_limb_36
  · simp only [b01, Decidable.not_not] at c4
    refine k_iload_n (pc := 7) C dX7_limb_7 rfl 2 rfl ?_
    refine k_i2l (pc := 8) C dX7_limb_8 rfl ?_
    refine k_lconst (pc := 9) (v := lN 0) C dX7_limb_9 (by decide) ?_
    refine k_ldc2 (pc := 10) C kc_X7_89 dX7_limb_10 ?_
    refine k_eql (y := lN 7) rfl ?_
    refine cs_X7_56 (pc := 13) C E (c7_in) rfl (by decide) rfl (Nat.le_of_ble_eq_true rfl) dX7_limb_13 (fun r13 M13 h13 => ?_)
    obtain ⟨rfl, rfl⟩ := h13
    simp only [in_r (show 7 < 2147483648 by decide)]
    refine k_if_eq (pc := 16) (tgt := 33) C dX7_limb_16 (by decide) (fun c16 => ?_) (fun c16 => ?_)
    · simp only [b01, Decidable.not_not] at c16
      refine k_ldc2 (pc := 33) C kc_X7_91 dX7_limb_33 ?_
      exact r_l (pc := 36) C E (⟨rfl, by unfold sLimb; first | (rw [if_pos c6, rI_n (show x < 2147483648 by omega), rI_n (show k < 2147483648 by omega)]; done) | (rw [if_neg (fun h => by first | exact c4 h.1 | exact c16 h.2)])⟩) dX7_limb_36
    · simp only [b01, Decidable.not_not] at c16
      have c6 : inR x0 16 ∧ inR i0 8 := ⟨c4, c16⟩
      obtain ⟨x, hx, rfl⟩ := inR_k c6.1
      obtain ⟨k, hk, rfl⟩ := inR_k c6.2
      have hTx := hT x (by omega)
      have bx1 := hB.1 x hx
      refine k_aload_n (pc := 19) C dX7_limb_19 rfl 0 rfl ?_
      refine gf_X7_7 (pc := 20) C (174) (by decide) cm_174 rfl dX7_limb_20 ?_
      refine k_bipush (pc := 23) (v := nI 12) C dX7_limb_23 (by decide) ?_
      refine k_iload_n (pc := 25) C dX7_limb_25 rfl 1 rfl ?_
      refine k_imul (pc := 26) C dX7_limb_26 ?_
      refine k_eqi (y := nI (12 * x)) (pk_mul _ _) ?_
      refine k_iload_n (pc := 27) C dX7_limb_27 rfl 2 rfl ?_
      refine k_iadd (pc := 28) C dX7_limb_28 ?_
      refine k_eqi (y := nI (12 * x + k)) (nI_add _ _) ?_
      refine k_lald (pc := 29) C E (175) (by decide) cm_175 (12 * x + k) rfl (by omega) (by decide) dX7_limb_29 ?_
      refine k_eql (y := lN (T x / 4294967296 ^ k % 4294967296)) (by rw [mw_at _ (by omega) (by omega), hTx]) ?_
      refine k_goto (pc := 30) (tgt := 36) C dX7_limb_30 (by decide) ?_
      exact r_l (pc := 36) C E (⟨rfl, by unfold sLimb; first | (rw [if_pos c6, rI_n (show x < 2147483648 by omega), rI_n (show k < 2147483648 by omega)]; done) | (rw [if_neg (fun h => by first | exact c4 h.1 | exact c16 h.2)])⟩) dX7_limb_36
set_option maxHeartbeats 4000000 in
set_option maxRecDepth 100000 in
/-- order -/
theorem c7_order {T : Nat → Nat} (hT : RM U T) (hB : TB T) {x0 y0 : Int32} : xI l D (xty ca) yX7_order cX7_order 3 (some .int) 2 80 [.ref (ad 174), .int x0, .int y0] ad (cm ad ca (V, U, sc, ia, la)) (fun r M' => M' = cm ad ca (V, U, sc, ia, la) ∧ r = sOrder T x0 y0) := by
  refine xM.of (by decide) (Nat.le_of_ble_eq_true rfl) (fun z C E => ?_)
  refine k_iload_n (pc := 0) C dX7_order_0 rfl 1 rfl ?_
  refine cs_X7_85 (pc := 1) C E (c7_isRegister) rfl (by decide) rfl (Nat.le_of_ble_eq_true rfl) dX7_order_1 (fun r1 M1 h1 => ?_)
  obtain ⟨rfl, rfl⟩ := h1
  refine k_if_eq (pc := 4) (tgt := 25) C dX7_order_4 (by decide) (fun c4 => ?_) (fun c4 => ?_)
  · simp only [b01, Decidable.not_not] at c4
    refine k_iconst (pc := 25) (v := (-1)) C dX7_order_25 (by decide) ?_
    exact r_i (pc := 26) C E (⟨rfl, by unfold sOrder; first | (rw [if_pos c6, hTx, hTy, rI_n (show x < 2147483648 by omega), rI_n (show y < 2147483648 by omega)]; rfl) | (rw [if_neg (fun h => by first | exact c4 h.1 | exact c11 h.2)])⟩) dX7_order_26
  · simp only [b01, Decidable.not_not] at c4
    refine k_iload_n (pc := 7) C dX7_order_7 rfl 2 rfl ?_
    refine cs_X7_85 (pc := 8) C E (c7_isRegister) rfl (by decide) rfl (Nat.le_of_ble_eq_true rfl) dX7_order_8 (fun r8 M8 h8 => ?_)
    obtain ⟨rfl, rfl⟩ := h8
    refine k_if_eq (pc := 11) (tgt := 25) C dX7_order_11 (by decide) (fun c11 => ?_) (fun c11 => ?_)
    · simp only [b01, Decidable.not_not] at c11
      refine k_iconst (pc := 25) (v := (-1)) C dX7_order_25 (by decide) ?_
      exact r_i (pc := 26) C E (⟨rfl, by unfold sOrder; first | (rw [if_pos c6, hTx, hTy, rI_n (show x < 2147483648 by omega), rI_n (show y < 2147483648 by omega)]; rfl) | (rw [if_neg (fun h => by first | exact c4 h.1 | exact c11 h.2)])⟩) dX7_order_26
    · simp only [b01, Decidable.not_not] at c11
      have c6 : inR x0 16 ∧ inR y0 16 := ⟨c4, c11⟩
      obtain ⟨x, hx, rfl⟩ := inR_k c4
      obtain ⟨y, hy, rfl⟩ := inR_k c11
      have hTx := hT x (by omega)
      have hTy := hT y (by omega)
      have bx1 := hB.1 x hx
      have by1 := hB.1 y hy
      refine k_iconst (pc := 14) (v := nI 1) C dX7_order_14 (by decide) ?_
      refine k_aload_n (pc := 15) C dX7_order_15 rfl 0 rfl ?_
      refine k_iload_n (pc := 16) C dX7_order_16 rfl 1 rfl ?_
      refine k_iload_n (pc := 17) C dX7_order_17 rfl 2 rfl ?_
      refine cv_X7_76 (pc := 18) C E (c7_compare (a := x) (b := y) (by omega) (by omega) (by rw [hTx]; omega) (by rw [hTy]; omega)) rfl (by decide) cm_174 (by decide) rfl (Nat.le_of_ble_eq_true rfl) dX7_order_18 (fun r18 M18 h18 => ?_)
      obtain ⟨rfl, rfl⟩ := h18
      refine k_iadd (pc := 21) C dX7_order_21 ?_
      refine k_goto (pc := 22) (tgt := 26) C dX7_order_22 (by decide) ?_
      exact r_i (pc := 26) C E (⟨rfl, by unfold sOrder; first | (rw [if_pos c6, hTx, hTy, rI_n (show x < 2147483648 by omega), rI_n (show y < 2147483648 by omega)]; rfl) | (rw [if_neg (fun h => by first | exact c4 h.1 | exact c11 h.2)])⟩) dX7_order_26
set_option maxHeartbeats 4000000 in
set_option maxRecDepth 100000 in
/-- more -/
theorem c7_more {T : Nat → Nat} (hT : RM U T) (hB : TB T) {x0 v0 : Int32} : xI l D (xty ca) yX7_more cX7_more 4 (some .int) 2 80 [.ref (ad 174), .int x0, .int v0] ad (cm ad ca (V, U, sc, ia, la)) (fun r M' => ∃ U', M' = cm ad ca (V, U', sc, ia, la) ∧ r = (sMore T x0 v0).1 ∧ RM U' (sMore T x0 v0).2) := by
  refine xM.of (by decide) (Nat.le_of_ble_eq_true rfl) (fun z C E => ?_)
  refine k_iload_n (pc := 0) C dX7_more_0 rfl 1 rfl ?_
  refine cs_X7_85 (pc := 1) C E (c7_isRegister) rfl (by decide) rfl (Nat.le_of_ble_eq_true rfl) dX7_more_1 (fun r1 M1 h1 => ?_)
  obtain ⟨rfl, rfl⟩ := h1
  refine k_if_ne (pc := 4) (tgt := 9) C dX7_more_4 (by decide) (fun c4 => ?_) (fun c4 => ?_)
  · simp only [b01, Decidable.not_not] at c4
    obtain ⟨x, hx, rfl⟩ := inR_k c4
    obtain ⟨v, hv, rfl, hv2⟩ := split32 v0
    have hTx := hT x (by omega)
    have bx1 := hB.1 x hx
    refine k_aload_n (pc := 9) C dX7_more_9 rfl 0 rfl ?_
    refine gf_X7_7 (pc := 10) C (174) (by decide) cm_174 rfl dX7_more_10 ?_
    refine k_bipush (pc := 13) (v := nI 12) C dX7_more_13 (by decide) ?_
    refine k_iload_n (pc := 15) C dX7_more_15 rfl 1 rfl ?_
    refine k_imul (pc := 16) C dX7_more_16 ?_
    refine k_eqi (y := nI (12 * x)) (pk_mul _ _) ?_
    refine k_bipush (pc := 17) (v := nI 7) C dX7_more_17 (by decide) ?_
    refine k_iadd (pc := 19) C dX7_more_19 ?_
    refine k_eqi (y := nI (12 * x + 7)) (nI_add _ _) ?_
    refine k_lald (pc := 20) C E (175) (by decide) cm_175 (12 * x + 7) rfl (by omega) (by decide) dX7_more_20 ?_
    refine k_eql (y := lN (T x / 4294967296 ^ 7 % 4294967296)) (by rw [mw_at _ (by omega) (by decide), hTx]) ?_
    refine k_lconst (pc := 21) (v := lN 0) C dX7_more_21 (by decide) ?_
    refine k_lcmp (pc := 22) C dX7_more_22 ?_
    refine k_if_eq (pc := 23) (tgt := 29) C dX7_more_23 (by decide) (fun c23 => ?_) (fun c23 => ?_)
    · rw [c_eq (md_lt _) (by decide)] at c23
      refine k_bipush (pc := 29) (v := nI 7) C dX7_more_29 (by decide) ?_
      refine k_istore_n (pc := 31) (lv' := [(3, .int (nI 7)), (0, .ref (ad (174))), (1, .int (nI x)), (2, .int (nI v))]) C dX7_more_31 rfl (by decide) rfl ?_
      have hSd : ∀ i, (T x * 4294967296 + v) / 4294967296 ^ (i + 1) = T x / 4294967296 ^ i := fun i => by
        rw [Nat.pow_succ, Nat.mul_comm (4294967296 ^ i), ← Nat.div_div_eq_div_mul, show (T x * 4294967296 + v) / 4294967296 = T x by omega]
      have loop : ∀ i : Nat, i ≤ 7 → xK z (xw ad (cm ad ca (V, va_up U x (bq (i + 1) (T x) (T x * 4294967296 + v)), sc, ia, la)) 187) 0 0 32 [(3, .int (nI i)), (0, .ref (ad 174)), (1, .int (nI x)), (2, .int (nI v))] [] := by
        intro i
        induction i with
        | zero =>
          intro hi
          refine k_iload_n (pc := 32) C dX7_more_32 rfl 0 rfl ?_
          refine k_if_le (pc := 33) (tgt := 66) C dX7_more_33 (by decide) (fun c33 => ?_) (fun c33 => ?_)
          · rw [q_le0 (by decide)] at c33
            refine k_aload_n (pc := 66) C dX7_more_66 rfl 1 rfl ?_
            refine gf_X7_7 (pc := 67) C (174) (by decide) cm_174 rfl dX7_more_67 ?_
            refine k_bipush (pc := 70) (v := nI 12) C dX7_more_70 (by decide) ?_
            refine k_iload_n (pc := 72) C dX7_more_72 rfl 2 rfl ?_
            refine k_imul (pc := 73) C dX7_more_73 ?_
            refine k_eqi (y := nI (12 * x + 0)) (pk_mul _ _) ?_
            refine k_iload_n (pc := 74) C dX7_more_74 rfl 3 rfl ?_
            refine k_i2l (pc := 75) C dX7_more_75 rfl ?_
            refine k_eql (y := lz ((nI v).toInt)) (by apply Int64.toInt_inj.mp; rw [Int32.toInt_toInt64, lz_toInt (by have := (nI v).le_toInt; omega) (by have := (nI v).toInt_lt; omega)]) ?_
            refine k_ldc2 (pc := 76) C kc_X7_60 dX7_more_76 ?_
            refine k_eql (y := lN 4294967295) rfl ?_
            refine k_land (pc := 79) C dX7_more_79 ?_
            refine k_eql (y := lN v) (by
              rw [lz_and32]
              congr 1
              have e1 : (nI v).toInt = if 2 * v < 4294967296 then (v : Int) else (v : Int) - 4294967296 := by
                have e2 := BitVec.toInt_eq_toNat_cond (nI v).toBitVec
                rw [show (nI v).toBitVec.toNat = v from pk_tn hv] at e2
                exact e2
              rw [e1]
              split <;> omega) ?_
            refine k_last (pc := 80) C E (175) (by decide) cm_175 (12 * x + 0) rfl (by omega) (by decide) dX7_more_80 ?_
            refine k_w (w' := xw ad (cm ad ca (V, va_up U x (T x * 4294967296 + v), sc, ia, la)) 187) (by rw [mw_bd (k := 0) (by omega) (by decide) (by rw [Nat.pow_zero, Nat.div_one]; omega), cm_upU, bq_0]) ?_
            refine k_iconst (pc := 81) (v := nI 1) C dX7_more_81 (by decide) ?_
            exact r_i (pc := 82) C E (⟨_, rfl, by unfold sMore sKeep; rw [if_pos c4]; simp only [rI_n (show x < 2147483648 by omega), hv2]; rw [if_pos (by omega)]; rfl, by unfold sMore sKeep; rw [if_pos c4]; simp only [rI_n (show x < 2147483648 by omega), hv2]; rw [if_pos (by omega)]; exact hT.up⟩) dX7_more_82
          · rw [q_le0 (by decide)] at c33
            exact absurd rfl c33
        | succ i ih =>
          intro hi
          refine k_iload_n (pc := 32) C dX7_more_32 rfl 0 rfl ?_
          refine k_if_le (pc := 33) (tgt := 66) C dX7_more_33 (by decide) (fun c33 => ?_) (fun c33 => ?_)
          · rw [q_le0 (by omega)] at c33
            exact absurd c33 (by omega)
          · rw [q_le0 (by omega)] at c33
            refine k_aload_n (pc := 36) C dX7_more_36 rfl 1 rfl ?_
            refine gf_X7_7 (pc := 37) C (174) (by decide) cm_174 rfl dX7_more_37 ?_
            refine k_bipush (pc := 40) (v := nI 12) C dX7_more_40 (by decide) ?_
            refine k_iload_n (pc := 42) C dX7_more_42 rfl 2 rfl ?_
            refine k_imul (pc := 43) C dX7_more_43 ?_
            refine k_eqi (y := nI (12 * x)) (pk_mul _ _) ?_
            refine k_iload_n (pc := 44) C dX7_more_44 rfl 0 rfl ?_
            refine k_iadd (pc := 45) C dX7_more_45 ?_
            refine k_eqi (y := nI (12 * x + (i + 1))) (nI_add _ _) ?_
            refine k_aload_n (pc := 46) C dX7_more_46 rfl 1 rfl ?_
            refine gf_X7_7 (pc := 47) C (174) (by decide) cm_174 rfl dX7_more_47 ?_
            refine k_bipush (pc := 50) (v := nI 12) C dX7_more_50 (by decide) ?_
            refine k_iload_n (pc := 52) C dX7_more_52 rfl 2 rfl ?_
            refine k_imul (pc := 53) C dX7_more_53 ?_
            refine k_eqi (y := nI (12 * x)) (pk_mul _ _) ?_
            refine k_iload_n (pc := 54) C dX7_more_54 rfl 0 rfl ?_
            refine k_iadd (pc := 55) C dX7_more_55 ?_
            refine k_eqi (y := nI (12 * x + (i + 1))) (nI_add _ _) ?_
            refine k_iconst (pc := 56) (v := nI 1) C dX7_more_56 (by decide) ?_
            refine k_isub (pc := 57) C dX7_more_57 ?_
            refine k_eqi (y := nI (12 * x + i)) (by rw [pk_sub (by omega)]; congr 1) ?_
            refine k_lald (pc := 58) C E (175) (by decide) cm_175 (12 * x + i) rfl (by omega) (by decide) dX7_more_58 ?_
            refine k_eql (y := lN (T x / 4294967296 ^ i % 4294967296)) (by rw [mw_at _ (by omega) (by omega), ups, bq_lo (by omega)]) ?_
            refine k_last (pc := 59) C E (175) (by decide) cm_175 (12 * x + (i + 1)) rfl (by omega) (by decide) dX7_more_59 ?_
            refine k_w (w' := xw ad (cm ad ca (V, va_up U x (bq (i + 1) (T x) (T x * 4294967296 + v)), sc, ia, la)) 187) (by rw [mw_bd (k := i + 1) (by omega) (by omega) (by rw [hSd]), cm_upU]) ?_
            refine k_iinc (pc := 60) (v := nI i) (lv' := [(3, .int (nI i)), (0, .ref (ad (174))), (1, .int (nI x)), (2, .int (nI v))]) C dX7_more_60 (k := 0) rfl (dec1 (by omega)) (by decide) rfl ?_
            refine k_goto (pc := 63) (tgt := 32) C dX7_more_63 (by decide) ?_
            refine k_sub [0, 1, 2, 3] rfl ?_
            exact ih (by omega)
      refine k_sub [0, 1, 2, 3] rfl ?_
      have h0 := loop 7 (by decide)
      have e9 : bq (7 + 1) (T x) (T x * 4294967296 + v) = U x := by
        rw [hTx]
        unfold bq
        rw [Nat.mod_eq_of_lt (by omega), Nat.div_eq_of_lt (by omega), Nat.zero_mul, Nat.add_zero]
      rw [e9, up_self] at h0
      exact h0
    · rw [c_eq (md_lt _) (by decide)] at c23
      refine k_bipush (pc := 26) (v := (-2)) C dX7_more_26 (by decide) ?_
      exact r_i (pc := 28) C E (⟨U, rfl, by unfold sMore sKeep; rw [if_pos c4]; simp only [rI_n (show x < 2147483648 by omega), hv2]; rw [if_neg (by omega)], by unfold sMore sKeep; rw [if_pos c4]; simp only [rI_n (show x < 2147483648 by omega), hv2]; rw [if_neg (by omega)]; exact hT⟩) dX7_more_28
  · simp only [b01, Decidable.not_not] at c4
    refine k_iconst (pc := 7) (v := (-1)) C dX7_more_7 (by decide) ?_
    exact r_i (pc := 8) C E (⟨U, rfl, by unfold sMore; rw [if_neg c4], by unfold sMore; rw [if_neg c4]; exact hT⟩) dX7_more_8
end ME
