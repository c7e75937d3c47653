section MD
variable {l : Launch} {D : va_G} {ca : Nat → ClassId} {ad : Nat → Nat} {V U : Nat → Nat} {sc : Nat → Int32} {ia : Nat → Nat → Int32} {la : Nat → Nat → Int64}
set_option maxHeartbeats 4000000 in
set_option maxRecDepth 100000 in
/-- isSum -/
theorem c7_isSum {a : Nat} (ha : a < 80) (hb : U a < 4294967296 ^ 12) : xI l D (xty ca) yX7_isSum cX7_isSum 2 (some .boolean) 0 0 [.ref (ad 174), .int (nI a)] ad (cm ad ca (V, U, sc, ia, la)) (fun r M' => M' = cm ad ca (V, U, sc, ia, la) ∧ r = if U a < 2 ^ 256 then 1 else 0) := by
  refine xM.of (by decide) (Nat.le_of_ble_eq_true rfl) (fun z C E => ?_)
  obtain ⟨x, hx⟩ : ∃ x, x = U a / 4294967296 ^ 8 := ⟨_, rfl⟩
  have hx4 : x < 4294967296 ^ 4 := by rw [hx]; exact Nat.div_lt_of_lt_mul (by rw [← Nat.pow_add]; exact hb)
  have e8 : U a < 2 ^ 256 ↔ x = 0 := by rw [hx]; omega
  have e9 : U a / 4294967296 ^ 9 = x / 4294967296 := by rw [show 9 = 8 + 1 from rfl, dq_s, hx]
  have e10 : U a / 4294967296 ^ 10 = x / 4294967296 / 4294967296 := by rw [show 10 = 9 + 1 from rfl, dq_s, e9]
  have e11 : U a / 4294967296 ^ 11 = x / 4294967296 / 4294967296 / 4294967296 := by rw [show 11 = 10 + 1 from rfl, dq_s, e10]
  refine k_aload_n (pc := 0) C dX7_isSum_0 rfl 0 rfl ?_
  refine gf_X7_7 (pc := 1) C (174) (by decide) cm_174 rfl dX7_isSum_1 ?_
  refine k_bipush (pc := 4) (v := nI 12) C dX7_isSum_4 (by decide) ?_
  refine k_iload_n (pc := 6) C dX7_isSum_6 rfl 1 rfl ?_
  refine k_imul (pc := 7) C dX7_isSum_7 ?_
  refine k_eqi (y := nI (12 * a)) (pk_mul _ _) ?_
  refine k_bipush (pc := 8) (v := nI 8) C dX7_isSum_8 (by decide) ?_
  refine k_iadd (pc := 10) C dX7_isSum_10 ?_
  refine k_eqi (y := nI (12 * a + 8)) (nI_add _ _) ?_
  refine k_lald (pc := 11) C E (175) (by decide) cm_175 (12 * a + 8) rfl (by omega) (by decide) dX7_isSum_11 ?_
  refine k_eql (y := lN (x % 4294967296)) (by rw [mw_at _ ha (by decide), ← hx]) ?_
  refine k_lconst (pc := 12) (v := lN 0) C dX7_isSum_12 (by decide) ?_
  refine k_lcmp (pc := 13) C dX7_isSum_13 ?_
  refine k_if_ne (pc := 14) (tgt := 72) C dX7_isSum_14 (by decide) (fun c14 => ?_) (fun c14 => ?_)
  · rw [c_eq (md_lt _) (by decide)] at c14
    refine k_iconst (pc := 72) (v := nI 0) C dX7_isSum_72 (by decide) ?_
    exact r_z (pc := 73) C E (⟨rfl, by first | (rw [if_neg (by rw [e8]; omega)]; rfl) | (rw [if_pos (by rw [e8]; omega)]; rfl)⟩) (by decide) dX7_isSum_73
  · rw [c_eq (md_lt _) (by decide)] at c14
    refine k_aload_n (pc := 17) C dX7_isSum_17 rfl 0 rfl ?_
    refine gf_X7_7 (pc := 18) C (174) (by decide) cm_174 rfl dX7_isSum_18 ?_
    refine k_bipush (pc := 21) (v := nI 12) C dX7_isSum_21 (by decide) ?_
    refine k_iload_n (pc := 23) C dX7_isSum_23 rfl 1 rfl ?_
    refine k_imul (pc := 24) C dX7_isSum_24 ?_
    refine k_eqi (y := nI (12 * a)) (pk_mul _ _) ?_
    refine k_bipush (pc := 25) (v := nI 9) C dX7_isSum_25 (by decide) ?_
    refine k_iadd (pc := 27) C dX7_isSum_27 ?_
    refine k_eqi (y := nI (12 * a + 9)) (nI_add _ _) ?_
    refine k_lald (pc := 28) C E (175) (by decide) cm_175 (12 * a + 9) rfl (by omega) (by decide) dX7_isSum_28 ?_
    refine k_eql (y := lN (x / 4294967296 % 4294967296)) (by rw [mw_at _ ha (by decide), e9]) ?_
    refine k_lconst (pc := 29) (v := lN 0) C dX7_isSum_29 (by decide) ?_
    refine k_lcmp (pc := 30) C dX7_isSum_30 ?_
    refine k_if_ne (pc := 31) (tgt := 72) C dX7_isSum_31 (by decide) (fun c31 => ?_) (fun c31 => ?_)
    · rw [c_eq (md_lt _) (by decide)] at c31
      refine k_iconst (pc := 72) (v := nI 0) C dX7_isSum_72 (by decide) ?_
      exact r_z (pc := 73) C E (⟨rfl, by first | (rw [if_neg (by rw [e8]; omega)]; rfl) | (rw [if_pos (by rw [e8]; omega)]; rfl)⟩) (by decide) dX7_isSum_73
    · rw [c_eq (md_lt _) (by decide)] at c31
      refine k_aload_n (pc := 34) C dX7_isSum_34 rfl 0 rfl ?_
      refine gf_X7_7 (pc := 35) C (174) (by decide) cm_174 rfl dX7_isSum_35 ?_
      refine k_bipush (pc := 38) (v := nI 12) C dX7_isSum_38 (by decide) ?_
      refine k_iload_n (pc := 40) C dX7_isSum_40 rfl 1 rfl ?_
      refine k_imul (pc := 41) C dX7_isSum_41 ?_
      refine k_eqi (y := nI (12 * a)) (pk_mul _ _) ?_
      refine k_bipush (pc := 42) (v := nI 10) C dX7_isSum_42 (by decide) ?_
      refine k_iadd (pc := 44) C dX7_isSum_44 ?_
      refine k_eqi (y := nI (12 * a + 10)) (nI_add _ _) ?_
      refine k_lald (pc := 45) C E (175) (by decide) cm_175 (12 * a + 10) rfl (by omega) (by decide) dX7_isSum_45 ?_
      refine k_eql (y := lN (x / 4294967296 / 4294967296 % 4294967296)) (by rw [mw_at _ ha (by decide), e10]) ?_
      refine k_lconst (pc := 46) (v := lN 0) C dX7_isSum_46 (by decide) ?_
      refine k_lcmp (pc := 47) C dX7_isSum_47 ?_
      refine k_if_ne (pc := 48) (tgt := 72) C dX7_isSum_48 (by decide) (fun c48 => ?_) (fun c48 => ?_)
      · rw [c_eq (md_lt _) (by decide)] at c48
        refine k_iconst (pc := 72) (v := nI 0) C dX7_isSum_72 (by decide) ?_
        exact r_z (pc := 73) C E (⟨rfl, by first | (rw [if_neg (by rw [e8]; omega)]; rfl) | (rw [if_pos (by rw [e8]; omega)]; rfl)⟩) (by decide) dX7_isSum_73
      · rw [c_eq (md_lt _) (by decide)] at c48
        refine k_aload_n (pc := 51) C dX7_isSum_51 rfl 0 rfl ?_
        refine gf_X7_7 (pc := 52) C (174) (by decide) cm_174 rfl dX7_isSum_52 ?_
        refine k_bipush (pc := 55) (v := nI 12) C dX7_isSum_55 (by decide) ?_
        refine k_iload_n (pc := 57) C dX7_isSum_57 rfl 1 rfl ?_
        refine k_imul (pc := 58) C dX7_isSum_58 ?_
        refine k_eqi (y := nI (12 * a)) (pk_mul _ _) ?_
        refine k_bipush (pc := 59) (v := nI 11) C dX7_isSum_59 (by decide) ?_
        refine k_iadd (pc := 61) C dX7_isSum_61 ?_
        refine k_eqi (y := nI (12 * a + 11)) (nI_add _ _) ?_
        refine k_lald (pc := 62) C E (175) (by decide) cm_175 (12 * a + 11) rfl (by omega) (by decide) dX7_isSum_62 ?_
        refine k_eql (y := lN (x / 4294967296 / 4294967296 / 4294967296 % 4294967296)) (by rw [mw_at _ ha (by decide), e11]) ?_
        refine k_lconst (pc := 63) (v := lN 0) C dX7_isSum_63 (by decide) ?_
        refine k_lcmp (pc := 64) C dX7_isSum_64 ?_
        refine k_if_ne (pc := 65) (tgt := 72) C dX7_isSum_65 (by decide) (fun c65 => ?_) (fun c65 => ?_)
        · rw [c_eq (md_lt _) (by decide)] at c65
          refine k_iconst (pc := 72) (v := nI 0) C dX7_isSum_72 (by decide) ?_
          exact r_z (pc := 73) C E (⟨rfl, by first | (rw [if_neg (by rw [e8]; omega)]; rfl) | (rw [if_pos (by rw [e8]; omega)]; rfl)⟩) (by decide) dX7_isSum_73
        · rw [c_eq (md_lt _) (by decide)] at c65
          refine k_iconst (pc := 68) (v := nI 1) C dX7_isSum_68 (by decide) ?_
          refine k_goto (pc := 69) (tgt := 73) C dX7_isSum_69 (by decide) ?_
          exact r_z (pc := 73) C E (⟨rfl, by first | (rw [if_neg (by rw [e8]; omega)]; rfl) | (rw [if_pos (by rw [e8]; omega)]; rfl)⟩) (by decide) dX7_isSum_73
set_option maxHeartbeats 4000000 in
set_option maxRecDepth 100000 in
/-- isSide -/
theorem c7_isSide {a : Nat} (ha : a < 80) (hb : U a < 4294967296 ^ 12) : xI l D (xty ca) yX7_isSide cX7_isSide 4 (some .boolean) 0 0 [.ref (ad 174), .int (nI a)] ad (cm ad ca (V, U, sc, ia, la)) (fun r M' => M' = cm ad ca (V, U, sc, ia, la) ∧ r = if U a < 2 ^ 100 then 1 else 0) := by
  refine xM.of (by decide) (Nat.le_of_ble_eq_true rfl) (fun z C E => ?_)
  have loop : ∀ (n k : Nat), 8 - k < n → k ≤ 8 → xK z (xw ad (cm ad ca (V, U, sc, ia, la)) 187) 0 0 26 [(3, .int (nI (4 + k))), (2, .int (if U a / 4294967296 ^ 3 % 4294967296 < 16 ∧ U a / 4294967296 ^ 4 % 4294967296 ^ k = 0 then 1 else 0)), (0, .ref (ad 174)), (1, .int (nI a))] [] := by
    intro n
    induction n with
    | zero => intro k h; exact absurd h (Nat.not_lt_zero _)
    | succ n ih =>
      intro k hn hk
      have hms := Nat.mod_pow_succ (x := U a / 4294967296 ^ 4) (b := 4294967296) (k := k)
      have hqp := qw_pos k
      have hdd : U a / 4294967296 ^ (4 + k) = U a / 4294967296 ^ 4 / 4294967296 ^ k := by rw [Nat.pow_add, Nat.div_div_eq_div_mul]
      refine k_iload_n (pc := 26) C dX7_isSide_26 rfl 0 rfl ?_
      refine k_bipush (pc := 27) (v := nI 12) C dX7_isSide_27 (by decide) ?_
      refine k_icmp_ge (pc := 29) (tgt := 64) C dX7_isSide_29 (by decide) (fun c29 => ?_) (fun c29 => ?_)
      · rw [q_le (by omega) (by omega)] at c29
        refine k_iload_n (pc := 64) C dX7_isSide_64 rfl 1 rfl ?_
        exact r_z (pc := 65) C E (⟨rfl, by
          have e1 : U a / 4294967296 ^ 4 < 4294967296 ^ 8 := Nat.div_lt_of_lt_mul (by rw [← Nat.pow_add]; exact hb)
          rw [show k = 8 by omega, Nat.mod_eq_of_lt e1]
          have e2 : (U a / 4294967296 ^ 3 % 4294967296 < 16 ∧ U a / 4294967296 ^ 4 = 0) ↔ U a < 2 ^ 100 := by omega
          simp only [e2]⟩) (b01') dX7_isSide_65
      · rw [q_le (by omega) (by omega)] at c29
        refine k_iload_n (pc := 32) C dX7_isSide_32 rfl 1 rfl ?_
        refine k_if_eq (pc := 33) (tgt := 56) C dX7_isSide_33 (by decide) (fun c33 => ?_) (fun c33 => ?_)
        · simp only [b01, Decidable.not_not] at c33
          refine k_iconst (pc := 56) (v := nI 0) C dX7_isSide_56 (by decide) ?_
          refine k_eqi (y := if U a / 4294967296 ^ 3 % 4294967296 < 16 ∧ U a / 4294967296 ^ 4 % 4294967296 ^ (k + 1) = 0 then 1 else 0) (by first | (rw [if_neg (fun h => by obtain ⟨h6, h7⟩ := h; rw [hms] at h7; have h8 := Nat.eq_zero_of_add_eq_zero h7; first | exact absurd ⟨h6, h8.1⟩ c33 | (rcases Nat.mul_eq_zero.mp h8.2 with h9 | h9 <;> omega))]; rfl) | (rw [if_pos ⟨c33.1, by rw [hms, c33.2, c49, Nat.mul_zero]⟩]; rfl)) ?_
          refine k_istore_n (pc := 57) (lv' := [(2, .int (if U a / 4294967296 ^ 3 % 4294967296 < 16 ∧ U a / 4294967296 ^ 4 % 4294967296 ^ (k + 1) = 0 then 1 else 0)), (3, .int (nI (4 + k))), (0, .ref (ad (174))), (1, .int (nI a))]) C dX7_isSide_57 rfl (by decide) rfl ?_
          refine k_iinc (pc := 58) (v := nI (4 + k + 1)) (lv' := [(3, .int (nI (4 + k + 1))), (2, .int (if U a / 4294967296 ^ 3 % 4294967296 < 16 ∧ U a / 4294967296 ^ 4 % 4294967296 ^ (k + 1) = 0 then 1 else 0)), (0, .ref (ad (174))), (1, .int (nI a))]) C dX7_isSide_58 (k := 1) rfl (nI_1 _) (by decide) rfl ?_
          refine k_goto (pc := 61) (tgt := 26) C dX7_isSide_61 (by decide) ?_
          refine k_sub [0, 1, 2, 3] rfl ?_
          exact ih (k + 1) (by omega) (by omega)
        · simp only [b01, Decidable.not_not] at c33
          refine k_aload_n (pc := 36) C dX7_isSide_36 rfl 2 rfl ?_
          refine gf_X7_7 (pc := 37) C (174) (by decide) cm_174 rfl dX7_isSide_37 ?_
          refine k_bipush (pc := 40) (v := nI 12) C dX7_isSide_40 (by decide) ?_
          refine k_iload_n (pc := 42) C dX7_isSide_42 rfl 3 rfl ?_
          refine k_imul (pc := 43) C dX7_isSide_43 ?_
          refine k_eqi (y := nI (12 * a)) (pk_mul _ _) ?_
          refine k_iload_n (pc := 44) C dX7_isSide_44 rfl 0 rfl ?_
          refine k_iadd (pc := 45) C dX7_isSide_45 ?_
          refine k_eqi (y := nI (12 * a + (4 + k))) (nI_add _ _) ?_
          refine k_lald (pc := 46) C E (175) (by decide) cm_175 (12 * a + (4 + k)) rfl (by omega) (by decide) dX7_isSide_46 ?_
          refine k_eql (y := lN (U a / 4294967296 ^ 4 / 4294967296 ^ k % 4294967296)) (by rw [mw_at _ ha (by omega), hdd]) ?_
          refine k_lconst (pc := 47) (v := lN 0) C dX7_isSide_47 (by decide) ?_
          refine k_lcmp (pc := 48) C dX7_isSide_48 ?_
          refine k_if_ne (pc := 49) (tgt := 56) C dX7_isSide_49 (by decide) (fun c49 => ?_) (fun c49 => ?_)
          · rw [c_eq (md_lt _) (by decide)] at c49
            refine k_iconst (pc := 56) (v := nI 0) C dX7_isSide_56 (by decide) ?_
            refine k_eqi (y := if U a / 4294967296 ^ 3 % 4294967296 < 16 ∧ U a / 4294967296 ^ 4 % 4294967296 ^ (k + 1) = 0 then 1 else 0) (by first | (rw [if_neg (fun h => by obtain ⟨h6, h7⟩ := h; rw [hms] at h7; have h8 := Nat.eq_zero_of_add_eq_zero h7; first | exact absurd ⟨h6, h8.1⟩ c33 | (rcases Nat.mul_eq_zero.mp h8.2 with h9 | h9 <;> omega))]; rfl) | (rw [if_pos ⟨c33.1, by rw [hms, c33.2, c49, Nat.mul_zero]⟩]; rfl)) ?_
            refine k_istore_n (pc := 57) (lv' := [(2, .int (if U a / 4294967296 ^ 3 % 4294967296 < 16 ∧ U a / 4294967296 ^ 4 % 4294967296 ^ (k + 1) = 0 then 1 else 0)), (3, .int (nI (4 + k))), (0, .ref (ad (174))), (1, .int (nI a))]) C dX7_isSide_57 rfl (by decide) rfl ?_
            refine k_iinc (pc := 58) (v := nI (4 + k + 1)) (lv' := [(3, .int (nI (4 + k + 1))), (2, .int (if U a / 4294967296 ^ 3 % 4294967296 < 16 ∧ U a / 4294967296 ^ 4 % 4294967296 ^ (k + 1) = 0 then 1 else 0)), (0, .ref (ad (174))), (1, .int (nI a))]) C dX7_isSide_58 (k := 1) rfl (nI_1 _) (by decide) rfl ?_
            refine k_goto (pc := 61) (tgt := 26) C dX7_isSide_61 (by decide) ?_
            refine k_sub [0, 1, 2, 3] rfl ?_
            exact ih (k + 1) (by omega) (by omega)
          · rw [c_eq (md_lt _) (by decide)] at c49
            refine k_iconst (pc := 52) (v := nI 1) C dX7_isSide_52 (by decide) ?_
            refine k_goto (pc := 53) (tgt := 57) C dX7_isSide_53 (by decide) ?_
            refine k_eqi (y := if U a / 4294967296 ^ 3 % 4294967296 < 16 ∧ U a / 4294967296 ^ 4 % 4294967296 ^ (k + 1) = 0 then 1 else 0) (by first | (rw [if_neg (fun h => by obtain ⟨h6, h7⟩ := h; rw [hms] at h7; have h8 := Nat.eq_zero_of_add_eq_zero h7; first | exact absurd ⟨h6, h8.1⟩ c33 | (rcases Nat.mul_eq_zero.mp h8.2 with h9 | h9 <;> omega))]; rfl) | (rw [if_pos ⟨c33.1, by rw [hms, c33.2, c49, Nat.mul_zero]⟩]; rfl)) ?_
            refine k_istore_n (pc := 57) (lv' := [(2, .int (if U a / 4294967296 ^ 3 % 4294967296 < 16 ∧ U a / 4294967296 ^ 4 % 4294967296 ^ (k + 1) = 0 then 1 else 0)), (3, .int (nI (4 + k))), (0, .ref (ad (174))), (1, .int (nI a))]) C dX7_isSide_57 rfl (by decide) rfl ?_
            refine k_iinc (pc := 58) (v := nI (4 + k + 1)) (lv' := [(3, .int (nI (4 + k + 1))), (2, .int (if U a / 4294967296 ^ 3 % 4294967296 < 16 ∧ U a / 4294967296 ^ 4 % 4294967296 ^ (k + 1) = 0 then 1 else 0)), (0, .ref (ad (174))), (1, .int (nI a))]) C dX7_isSide_58 (k := 1) rfl (nI_1 _) (by decide) rfl ?_
            refine k_goto (pc := 61) (tgt := 26) C dX7_isSide_61 (by decide) ?_
            refine k_sub [0, 1, 2, 3] rfl ?_
            exact ih (k + 1) (by omega) (by omega)
  refine k_aload_n (pc := 0) C dX7_isSide_0 rfl 0 rfl ?_
  refine gf_X7_7 (pc := 1) C (174) (by decide) cm_174 rfl dX7_isSide_1 ?_
  refine k_bipush (pc := 4) (v := nI 12) C dX7_isSide_4 (by decide) ?_
  refine k_iload_n (pc := 6) C dX7_isSide_6 rfl 1 rfl ?_
  refine k_imul (pc := 7) C dX7_isSide_7 ?_
  refine k_eqi (y := nI (12 * a)) (pk_mul _ _) ?_
  refine k_iconst (pc := 8) (v := nI 3) C dX7_isSide_8 (by decide) ?_
  refine k_iadd (pc := 9) C dX7_isSide_9 ?_
  refine k_eqi (y := nI (12 * a + 3)) (nI_add _ _) ?_
  refine k_lald (pc := 10) C E (175) (by decide) cm_175 (12 * a + 3) rfl (by omega) (by decide) dX7_isSide_10 ?_
  refine k_eql (y := lN (U a / 4294967296 ^ 3 % 4294967296)) (mw_at _ ha (by decide)) ?_
  refine k_ldc2 (pc := 11) C kc_X7_83 dX7_isSide_11 ?_
  refine k_eql (y := lN 16) rfl ?_
  refine k_lcmp (pc := 14) C dX7_isSide_14 ?_
  refine k_if_ge (pc := 15) (tgt := 22) C dX7_isSide_15 (by decide) (fun c15 => ?_) (fun c15 => ?_)
  · rw [c_ge (md_lt _) (by decide)] at c15
    refine k_iconst (pc := 22) (v := nI 0) C dX7_isSide_22 (by decide) ?_
    refine k_eqi (y := if U a / 4294967296 ^ 3 % 4294967296 < 16 ∧ U a / 4294967296 ^ 4 % 4294967296 ^ 0 = 0 then 1 else 0) (by rw [Nat.pow_zero, Nat.mod_one]; first | (rw [if_pos ⟨by omega, rfl⟩]; rfl) | (rw [if_neg (fun h => by omega)]; rfl)) ?_
    refine k_istore_n (pc := 23) (lv' := [(2, .int (if U a / 4294967296 ^ 3 % 4294967296 < 16 ∧ U a / 4294967296 ^ 4 % 4294967296 ^ 0 = 0 then 1 else 0)), (0, .ref (ad (174))), (1, .int (nI a))]) C dX7_isSide_23 rfl (by decide) rfl ?_
    refine k_iconst (pc := 24) (v := nI 4) C dX7_isSide_24 (by decide) ?_
    refine k_istore_n (pc := 25) (lv' := [(3, .int (nI 4)), (2, .int (if U a / 4294967296 ^ 3 % 4294967296 < 16 ∧ U a / 4294967296 ^ 4 % 4294967296 ^ 0 = 0 then 1 else 0)), (0, .ref (ad (174))), (1, .int (nI a))]) C dX7_isSide_25 rfl (by decide) rfl ?_
    exact loop 9 0 (by decide) (by decide)
  · rw [c_ge (md_lt _) (by decide)] at c15
    refine k_iconst (pc := 18) (v := nI 1) C dX7_isSide_18 (by decide) ?_
    refine k_goto (pc := 19) (tgt := 23) C dX7_isSide_19 (by decide) ?_
    refine k_eqi (y := if U a / 4294967296 ^ 3 % 4294967296 < 16 ∧ U a / 4294967296 ^ 4 % 4294967296 ^ 0 = 0 then 1 else 0) (by rw [Nat.pow_zero, Nat.mod_one]; first | (rw [if_pos ⟨by omega, rfl⟩]; rfl) | (rw [if_neg (fun h => by omega)]; rfl)) ?_
    refine k_istore_n (pc := 23) (lv' := [(2, .int (if U a / 4294967296 ^ 3 % 4294967296 < 16 ∧ U a / 4294967296 ^ 4 % 4294967296 ^ 0 = 0 then 1 else 0)), (0, .ref (ad (174))), (1, .int (nI a))]) C dX7_isSide_23 rfl (by decide) rfl ?_
    refine k_iconst (pc := 24) (v := nI 4) C dX7_isSide_24 (by decide) ?_
    refine k_istore_n (pc := 25) (lv' := [(3, .int (nI 4)), (2, .int (if U a / 4294967296 ^ 3 % 4294967296 < 16 ∧ U a / 4294967296 ^ 4 % 4294967296 ^ 0 = 0 then 1 else 0)), (0, .ref (ad (174))), (1, .int (nI a))]) C dX7_isSide_25 rfl (by decide) rfl ?_
    exact loop 9 0 (by decide) (by decide)
set_option maxHeartbeats 4000000 in
set_option maxRecDepth 100000 in
/-- keep -/
theorem c7_keep {j k : Nat} (hj : j < 80) (hk : k < 80) (hb : U j < 4294967296 ^ 12) : xI l D (xty ca) yX7_keep cX7_keep 3 (some .int) 1 40 [.ref (ad 174), .int (nI k), .int (nI j)] ad (cm ad ca (V, U, sc, ia, la)) (fun r M' => ∃ U', M' = cm ad ca (V, U', sc, ia, la) ∧ if U j < 2 ^ 256 then r = 1 ∧ U' = va_up U k (U j) else r = -2 ∧ U' = U) := by
  refine xM.of (by decide) (Nat.le_of_ble_eq_true rfl) (fun z C E => ?_)
  refine k_aload_n (pc := 0) C dX7_keep_0 rfl 0 rfl ?_
  refine k_iload_n (pc := 1) C dX7_keep_1 rfl 2 rfl ?_
  refine cv_X7_93 (pc := 2) C E (c7_isSum hj hb) rfl (by decide) cm_174 (by decide) rfl (Nat.le_of_ble_eq_true rfl) dX7_keep_2 (fun r2 M2 h2 => ?_)
  obtain ⟨rfl, rfl⟩ := h2
  refine k_if_ne (pc := 5) (tgt := 11) C dX7_keep_5 (by decide) (fun c5 => ?_) (fun c5 => ?_)
  · simp only [b01, Decidable.not_not] at c5
    refine k_aload_n (pc := 11) C dX7_keep_11 rfl 0 rfl ?_
    refine k_iload_n (pc := 12) C dX7_keep_12 rfl 1 rfl ?_
    refine k_iload_n (pc := 13) C dX7_keep_13 rfl 2 rfl ?_
    refine cv_X7_72 (pc := 14) C E (c7_copy hk hj) rfl (by decide) cm_174 (by decide) rfl (Nat.le_of_ble_eq_true rfl) dX7_keep_14 (fun M14 h14 => ?_)
    subst h14
    refine k_iconst (pc := 17) (v := nI 1) C dX7_keep_17 (by decide) ?_
    exact r_i (pc := 18) C E (⟨_, rfl, by rw [if_pos c5]; exact ⟨rfl, rfl⟩⟩) dX7_keep_18
  · simp only [b01, Decidable.not_not] at c5
    refine k_bipush (pc := 8) (v := (-2)) C dX7_keep_8 (by decide) ?_
    exact r_i (pc := 10) C E (⟨U, rfl, by rw [if_neg c5]; exact ⟨rfl, rfl⟩⟩) dX7_keep_10
end MD
