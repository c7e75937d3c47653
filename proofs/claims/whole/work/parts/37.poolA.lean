section PA
variable {l : Launch} {D : va_G} {ca : Nat → ClassId} {ad : Nat → Nat} {V U : Nat → Nat} {sc : Nat → Int32} {ia : Nat → Nat → Int32} {la : Nat → Nat → Int64}
theorem wQs {i s : Nat} (h : isP i) (hs : s < 2) : isW (i + 2 + 2 * s) := by unfold isP at h; unfold isW; omega
set_option maxHeartbeats 4000000 in
set_option maxRecDepth 100000 in
/-- isOpen -/
theorem c3_isOpen {i : Nat} (hp : isP i) (bP : V (i + 6) < 2 ^ 100) : xI l D (xty ca) yX3_isOpen cX3_isOpen 1 (some .boolean) 2 60 [.ref (ad i)] ad (cm ad ca (V, U, sc, ia, la)) (fun r M' => M' = cm ad ca (V, U, sc, ia, la) ∧ r = if V (i + 6) = 0 then 0 else 1) := by
  refine xM.of (by decide) (Nat.le_of_ble_eq_true rfl) (fun z C E => ?_)
  refine k_aload_n (pc := 0) C dX3_isOpen_0 rfl 0 rfl ?_
  refine gf_X3_18 (pc := 1) C (i) (by have := isP_lt hp; omega) (cm_P hp) rfl dX3_isOpen_1 ?_
  refine cv_X3_29 (pc := 4) C E (c_isZero (wQ2 hp) (by omega)) rfl (Nat.lt_of_succ_lt (isW_lt (wQ2 hp))) (cm_w (wQ2 hp)) (by decide) rfl (Nat.le_of_ble_eq_true rfl) dX3_isOpen_4 (fun r4 M4 h4 => ?_)
  obtain ⟨rfl, rfl⟩ := h4
  refine k_if_ne (pc := 7) (tgt := 14) C dX3_isOpen_7 (by decide) (fun c7 => ?_) (fun c7 => ?_)
  · simp only [b01, Decidable.not_not] at c7
    refine k_iconst (pc := 14) (v := nI 0) C dX3_isOpen_14 (by decide) ?_
    exact r_z (pc := 15) C E (⟨rfl, by first | (rw [if_pos c7]; rfl) | (rw [if_neg c7]; rfl)⟩) (by decide) dX3_isOpen_15
  · simp only [b01, Decidable.not_not] at c7
    refine k_iconst (pc := 10) (v := nI 1) C dX3_isOpen_10 (by decide) ?_
    refine k_goto (pc := 11) (tgt := 15) C dX3_isOpen_11 (by decide) ?_
    exact r_z (pc := 15) C E (⟨rfl, by first | (rw [if_pos c7]; rfl) | (rw [if_neg c7]; rfl)⟩) (by decide) dX3_isOpen_15
set_option maxHeartbeats 4000000 in
set_option maxRecDepth 100000 in
/-- startAnew -/
theorem c3_start {i : Nat} (hp : isP i) {p0 q0 : Int32} : xV l D (xty ca) yX3_startAnew cX3_startAnew 3 none 1 40 [.ref (ad i), .int p0, .int q0] ad (cm ad ca (V, U, sc, ia, la)) (fun M' => M' = cm ad ca (up3 V i 0 0 0, U, va_up (va_up sc (200 + i) p0) (400 + i) q0, ia, la)) := by
  refine xM.of (by decide) (Nat.le_of_ble_eq_true rfl) (fun z C E => ?_)
  refine k_aload_n (pc := 0) C dX3_startAnew_0 rfl 0 rfl ?_
  refine gf_X3_12 (pc := 1) C (i) (by have := isP_lt hp; omega) (cm_P hp) rfl dX3_startAnew_1 ?_
  refine k_iconst (pc := 4) (v := nI 0) C dX3_startAnew_4 (by decide) ?_
  refine k_aald (pc := 5) C E (i + 1) (by have := isP_lt hp; omega) 2 rfl rfl (cm_Ps hp) (0) rfl (by omega) (by decide) (i + 2) rfl dX3_startAnew_5 ?_
  refine cv_X3_37 (pc := 6) C E (c_clear (wQ0 hp)) rfl (Nat.lt_of_succ_lt (isW_lt (wQ0 hp))) (cm_w (wQ0 hp)) (by decide) rfl (Nat.le_of_ble_eq_true rfl) dX3_startAnew_6 (fun M6 h6 => ?_)
  subst h6
  refine k_aload_n (pc := 9) C dX3_startAnew_9 rfl 0 rfl ?_
  refine gf_X3_12 (pc := 10) C (i) (by have := isP_lt hp; omega) (cm_P hp) rfl dX3_startAnew_10 ?_
  refine k_iconst (pc := 13) (v := nI 1) C dX3_startAnew_13 (by decide) ?_
  refine k_aald (pc := 14) C E (i + 1) (by have := isP_lt hp; omega) 2 rfl rfl (cm_Ps hp) (1) rfl (by omega) (by decide) (i + 4) rfl dX3_startAnew_14 ?_
  refine cv_X3_37 (pc := 15) C E (c_clear (wQ1 hp)) rfl (Nat.lt_of_succ_lt (isW_lt (wQ1 hp))) (cm_w (wQ1 hp)) (by decide) rfl (Nat.le_of_ble_eq_true rfl) dX3_startAnew_15 (fun M15 h15 => ?_)
  subst h15
  refine k_aload_n (pc := 18) C dX3_startAnew_18 rfl 0 rfl ?_
  refine gf_X3_18 (pc := 19) C (i) (by have := isP_lt hp; omega) (cm_P hp) rfl dX3_startAnew_19 ?_
  refine cv_X3_37 (pc := 22) C E (c_clear (wQ2 hp)) rfl (Nat.lt_of_succ_lt (isW_lt (wQ2 hp))) (cm_w (wQ2 hp)) (by decide) rfl (Nat.le_of_ble_eq_true rfl) dX3_startAnew_22 (fun M22 h22 => ?_)
  subst h22
  refine k_aload_n (pc := 25) C dX3_startAnew_25 rfl 0 rfl ?_
  refine k_iload_n (pc := 26) C dX3_startAnew_26 rfl 1 rfl ?_
  refine pf_X3_22 (pc := 27) C (i) (by have := isP_lt hp; omega) (cm_P hp) (Nat.le_of_ble_eq_true rfl) dX3_startAnew_27 ?_
  rw [cm_sp hp]
  refine k_aload_n (pc := 30) C dX3_startAnew_30 rfl 0 rfl ?_
  refine k_iload_n (pc := 31) C dX3_startAnew_31 rfl 2 rfl ?_
  refine pf_X3_26 (pc := 32) C (i) (by have := isP_lt hp; omega) (cm_P hp) (Nat.le_of_ble_eq_true rfl) dX3_startAnew_32 ?_
  rw [cm_sq hp]
  exact r_v (pc := 35) C E (rfl) dX3_startAnew_35
set_option maxHeartbeats 4000000 in
set_option maxRecDepth 100000 in
/-- Pool.copy -/
theorem c3_copy {i j : Nat} (hp : isP i) (hj : isP j) (hij : i ≠ j) : xV l D (xty ca) yX3_copy cX3_copy 2 none 2 90 [.ref (ad i), .ref (ad j)] ad (cm ad ca (V, U, sc, ia, la)) (fun M' => M' = cm ad ca (up3 V i (V (j + 2)) (V (j + 4)) (V (j + 6)), U, va_up (va_up sc (200 + i) (sc (200 + j))) (400 + i) (sc (400 + j)), ia, la)) := by
  refine xM.of (by decide) (Nat.le_of_ble_eq_true rfl) (fun z C E => ?_)
  have hne : i + 6 < j ∨ j + 6 < i := by unfold isP at hp hj; omega
  have hlj := isP_lt hj
  have hli := isP_lt hp
  refine k_aload_n (pc := 0) C dX3_copy_0 rfl 0 rfl ?_
  refine gf_X3_12 (pc := 1) C (i) (by have := isP_lt hp; omega) (cm_P hp) rfl dX3_copy_1 ?_
  refine k_iconst (pc := 4) (v := nI 0) C dX3_copy_4 (by decide) ?_
  refine k_aald (pc := 5) C E (i + 1) (by have := isP_lt hp; omega) 2 rfl rfl (cm_Ps hp) (0) rfl (by omega) (by decide) (i + 2) rfl dX3_copy_5 ?_
  refine k_aload_n (pc := 6) C dX3_copy_6 rfl 1 rfl ?_
  refine gf_X3_12 (pc := 7) C (j) (by have := isP_lt hj; omega) (cm_P hj) rfl dX3_copy_7 ?_
  refine k_iconst (pc := 10) (v := nI 0) C dX3_copy_10 (by decide) ?_
  refine k_aald (pc := 11) C E (j + 1) (by have := isP_lt hj; omega) 2 rfl rfl (cm_Ps hj) (0) rfl (by omega) (by decide) (j + 2) rfl dX3_copy_11 ?_
  refine cv_X3_33 (pc := 12) C E (c_copy (wQ0 hp) (wQ0 hj) (by omega)) rfl (Nat.lt_of_succ_lt (isW_lt (wQ0 hp))) (cm_w (wQ0 hp)) (by decide) rfl (Nat.le_of_ble_eq_true rfl) dX3_copy_12 (fun M12 h12 => ?_)
  subst h12
  refine k_aload_n (pc := 15) C dX3_copy_15 rfl 0 rfl ?_
  refine gf_X3_12 (pc := 16) C (i) (by have := isP_lt hp; omega) (cm_P hp) rfl dX3_copy_16 ?_
  refine k_iconst (pc := 19) (v := nI 1) C dX3_copy_19 (by decide) ?_
  refine k_aald (pc := 20) C E (i + 1) (by have := isP_lt hp; omega) 2 rfl rfl (cm_Ps hp) (1) rfl (by omega) (by decide) (i + 4) rfl dX3_copy_20 ?_
  refine k_aload_n (pc := 21) C dX3_copy_21 rfl 1 rfl ?_
  refine gf_X3_12 (pc := 22) C (j) (by have := isP_lt hj; omega) (cm_P hj) rfl dX3_copy_22 ?_
  refine k_iconst (pc := 25) (v := nI 1) C dX3_copy_25 (by decide) ?_
  refine k_aald (pc := 26) C E (j + 1) (by have := isP_lt hj; omega) 2 rfl rfl (cm_Ps hj) (1) rfl (by omega) (by decide) (j + 4) rfl dX3_copy_26 ?_
  refine cv_X3_33 (pc := 27) C E (c_copy (wQ1 hp) (wQ1 hj) (by omega)) rfl (Nat.lt_of_succ_lt (isW_lt (wQ1 hp))) (cm_w (wQ1 hp)) (by decide) rfl (Nat.le_of_ble_eq_true rfl) dX3_copy_27 (fun M27 h27 => ?_)
  subst h27
  rw [upn (i := i + 2) (j := j + 4) (by omega)]
  refine k_aload_n (pc := 30) C dX3_copy_30 rfl 0 rfl ?_
  refine gf_X3_18 (pc := 31) C (i) (by have := isP_lt hp; omega) (cm_P hp) rfl dX3_copy_31 ?_
  refine k_aload_n (pc := 34) C dX3_copy_34 rfl 1 rfl ?_
  refine gf_X3_18 (pc := 35) C (j) (by have := isP_lt hj; omega) (cm_P hj) rfl dX3_copy_35 ?_
  refine cv_X3_33 (pc := 38) C E (c_copy (wQ2 hp) (wQ2 hj) (by omega)) rfl (Nat.lt_of_succ_lt (isW_lt (wQ2 hp))) (cm_w (wQ2 hp)) (by decide) rfl (Nat.le_of_ble_eq_true rfl) dX3_copy_38 (fun M38 h38 => ?_)
  subst h38
  rw [upn (i := i + 4) (j := j + 6) (by omega), upn (i := i + 2) (j := j + 6) (by omega)]
  refine k_aload_n (pc := 41) C dX3_copy_41 rfl 0 rfl ?_
  refine k_aload_n (pc := 42) C dX3_copy_42 rfl 1 rfl ?_
  refine gf_X3_22 (pc := 43) C (j) (by have := isP_lt hj; omega) (cm_P hj) rfl dX3_copy_43 ?_
  refine pf_X3_22 (pc := 46) C (i) (by have := isP_lt hp; omega) (cm_P hp) (Nat.le_of_ble_eq_true rfl) dX3_copy_46 ?_
  rw [cm_sp hp]
  refine k_aload_n (pc := 49) C dX3_copy_49 rfl 0 rfl ?_
  refine k_aload_n (pc := 50) C dX3_copy_50 rfl 1 rfl ?_
  refine gf_X3_26 (pc := 51) C (j) (by have := isP_lt hj; omega) (cm_P hj) rfl dX3_copy_51 ?_
  refine pf_X3_26 (pc := 54) C (i) (by have := isP_lt hp; omega) (cm_P hp) (Nat.le_of_ble_eq_true rfl) dX3_copy_54 ?_
  rw [cm_sq hp]
  exact r_v (pc := 57) C E (by
  have e1 : va_up sc (200 + i) (sc (200 + j)) (400 + j) = sc (400 + j) := by simp [va_up, show ¬ 400 + j = 200 + i by omega]
  rw [e1]; rfl) dX3_copy_57
end PA
