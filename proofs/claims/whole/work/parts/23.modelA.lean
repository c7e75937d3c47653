section MA
variable {l : Launch} {D : va_G} {ca : Nat → ClassId} {ad : Nat → Nat} {V U : Nat → Nat} {sc : Nat → Int32} {ia : Nat → Nat → Int32} {la : Nat → Nat → Int64}
abbrev inR (x : Int32) (n : Nat) : Prop := 0 ≤ x.toInt ∧ x.toInt < n
theorem inR_k {x : Int32} {n : Nat} (h : inR x n) : ∃ k, k < n ∧ x = nI k := by
  obtain ⟨h1, h2⟩ := h
  refine ⟨x.toInt.toNat, by omega, ?_⟩
  apply Int32.toInt_inj.mp
  have h3 : x.toInt < 2147483648 := x.toInt_lt
  rw [nI_toInt (by omega)]
  omega
theorem inR_nI {k n : Nat} (hk : k < 2147483648) : inR (nI k) n = (k < n) := by
  unfold inR
  rw [nI_toInt hk]
  apply propext
  omega
set_option maxHeartbeats 4000000 in
set_option maxRecDepth 100000 in
/-- in -/
theorem c7_in {x a b : Int64} : xI l D (xty ca) yX7_in cX7_in 6 (some .boolean) 0 0 [.long x, .long a, .long b] ad (cm ad ca (V, U, sc, ia, la)) (fun r M' => M' = cm ad ca (V, U, sc, ia, la) ∧ r = if a ≤ x ∧ x ≤ b then 1 else 0) := by
  refine xM.of (by decide) (Nat.le_of_ble_eq_true rfl) (fun z C E => ?_)
  refine k_lload_n (pc := 0) C dX7_in_0 rfl 0 rfl ?_
  refine k_lload_n (pc := 1) C dX7_in_1 rfl 1 rfl ?_
  refine k_lcmp (pc := 2) C dX7_in_2 ?_
  refine k_if_lt (pc := 3) (tgt := 17) C dX7_in_3 (by decide) (fun c3 => ?_) (fun c3 => ?_)
  · rw [lg_cmp_lt] at c3
    refine k_iconst (pc := 17) (v := nI 0) C dX7_in_17 (by decide) ?_
    exact r_z (pc := 18) C E (⟨rfl, by first | (rw [if_neg (fun h => absurd h.1 (Int64.not_le.mpr c3))]; rfl) | (rw [if_neg (fun h => absurd h.2 (Int64.not_le.mpr c10))]; rfl) | (rw [if_pos ⟨Int64.not_lt.mp c3, Int64.not_lt.mp c10⟩]; rfl)⟩) (by decide) dX7_in_18
  · rw [lg_cmp_lt] at c3
    refine k_lload_n (pc := 6) C dX7_in_6 rfl 0 rfl ?_
    refine k_lload (pc := 7) C dX7_in_7 2 rfl ?_
    refine k_lcmp (pc := 9) C dX7_in_9 ?_
    refine k_if_gt (pc := 10) (tgt := 17) C dX7_in_10 (by decide) (fun c10 => ?_) (fun c10 => ?_)
    · rw [lg_cmp_gt] at c10
      refine k_iconst (pc := 17) (v := nI 0) C dX7_in_17 (by decide) ?_
      exact r_z (pc := 18) C E (⟨rfl, by first | (rw [if_neg (fun h => absurd h.1 (Int64.not_le.mpr c3))]; rfl) | (rw [if_neg (fun h => absurd h.2 (Int64.not_le.mpr c10))]; rfl) | (rw [if_pos ⟨Int64.not_lt.mp c3, Int64.not_lt.mp c10⟩]; rfl)⟩) (by decide) dX7_in_18
    · rw [lg_cmp_gt] at c10
      refine k_iconst (pc := 13) (v := nI 1) C dX7_in_13 (by decide) ?_
      refine k_goto (pc := 14) (tgt := 18) C dX7_in_14 (by decide) ?_
      exact r_z (pc := 18) C E (⟨rfl, by first | (rw [if_neg (fun h => absurd h.1 (Int64.not_le.mpr c3))]; rfl) | (rw [if_neg (fun h => absurd h.2 (Int64.not_le.mpr c10))]; rfl) | (rw [if_pos ⟨Int64.not_lt.mp c3, Int64.not_lt.mp c10⟩]; rfl)⟩) (by decide) dX7_in_18
theorem in_r {x : Int32} {n : Nat} (hn : n < 2147483648) : (lN 0 ≤ x.toInt64 ∧ x.toInt64 ≤ lN n) = inR x (n + 1) := by
  apply propext
  unfold inR
  rw [Int64.le_iff_toInt_le, Int64.le_iff_toInt_le, Int32.toInt_toInt64, pk_lT (by omega), pk_lT (by omega)]
  omega
set_option maxHeartbeats 4000000 in
set_option maxRecDepth 100000 in
/-- isRegister -/
theorem c7_isRegister {x : Int32} : xI l D (xty ca) yX7_isRegister cX7_isRegister 1 (some .boolean) 1 30 [.int x] ad (cm ad ca (V, U, sc, ia, la)) (fun r M' => M' = cm ad ca (V, U, sc, ia, la) ∧ r = if inR x 16 then 1 else 0) := by
  refine xM.of (by decide) (Nat.le_of_ble_eq_true rfl) (fun z C E => ?_)
  refine k_iload_n (pc := 0) C dX7_isRegister_0 rfl 0 rfl ?_
  refine k_i2l (pc := 1) C dX7_isRegister_1 rfl ?_
  refine k_lconst (pc := 2) (v := lN 0) C dX7_isRegister_2 (by decide) ?_
  refine k_ldc2 (pc := 3) C kc_X7_54 dX7_isRegister_3 ?_
  refine k_eql (y := lN 15) rfl ?_
  refine cs_X7_56 (pc := 6) C E (c7_in) rfl (by decide) rfl (Nat.le_of_ble_eq_true rfl) dX7_isRegister_6 (fun r6 M6 h6 => ?_)
  obtain ⟨rfl, rfl⟩ := h6
  simp only [in_r (show 15 < 2147483648 by decide)]
  exact r_z (pc := 9) C E (⟨rfl, rfl⟩) (b01') dX7_isRegister_9
set_option maxHeartbeats 4000000 in
set_option maxRecDepth 100000 in
/-- isPool -/
theorem c7_isPool {x : Int32} : xI l D (xty ca) yX7_isPool cX7_isPool 1 (some .boolean) 1 30 [.int x] ad (cm ad ca (V, U, sc, ia, la)) (fun r M' => M' = cm ad ca (V, U, sc, ia, la) ∧ r = if inR x 4 then 1 else 0) := by
  refine xM.of (by decide) (Nat.le_of_ble_eq_true rfl) (fun z C E => ?_)
  refine k_iload_n (pc := 0) C dX7_isPool_0 rfl 0 rfl ?_
  refine k_i2l (pc := 1) C dX7_isPool_1 rfl ?_
  refine k_lconst (pc := 2) (v := lN 0) C dX7_isPool_2 (by decide) ?_
  refine k_ldc2 (pc := 3) C kc_X7_166 dX7_isPool_3 ?_
  refine k_eql (y := lN 3) rfl ?_
  refine cs_X7_56 (pc := 6) C E (c7_in) rfl (by decide) rfl (Nat.le_of_ble_eq_true rfl) dX7_isPool_6 (fun r6 M6 h6 => ?_)
  obtain ⟨rfl, rfl⟩ := h6
  simp only [in_r (show 3 < 2147483648 by decide)]
  exact r_z (pc := 9) C E (⟨rfl, rfl⟩) (b01') dX7_isPool_9
set_option maxHeartbeats 4000000 in
set_option maxRecDepth 100000 in
/-- copy -/
theorem c7_copy {t a : Nat} (ht : t < 80) (ha : a < 80) : xV l D (xty ca) yX7_copy cX7_copy 4 none 0 0 [.ref (ad 174), .int (nI t), .int (nI a)] ad (cm ad ca (V, U, sc, ia, la)) (fun M' => M' = cm ad ca (V, va_up U t (U a), sc, ia, la)) := by
  refine xM.of (by decide) (Nat.le_of_ble_eq_true rfl) (fun z C E => ?_)
  have loop : ∀ (n k : Nat), 12 - k < n → k ≤ 12 → xK z (xw ad (cm ad ca (V, va_up U t (bq k (U a) (U t)), sc, ia, la)) 187) 0 0 2 [(3, .int (nI k)), (0, .ref (ad 174)), (1, .int (nI t)), (2, .int (nI a))] [] := by
    intro n
    induction n with
    | zero => intro k h; exact absurd h (Nat.not_lt_zero _)
    | succ n ih =>
      intro k hn hk
      refine k_iload_n (pc := 2) C dX7_copy_2 rfl 0 rfl ?_
      refine k_bipush (pc := 3) (v := nI 12) C dX7_copy_3 (by decide) ?_
      refine k_icmp_ge (pc := 5) (tgt := 36) C dX7_copy_5 (by decide) (fun c5 => ?_) (fun c5 => ?_)
      · rw [q_le (by omega) (by omega)] at c5
        exact r_v (pc := 36) C E (by rw [show k = 12 by omega]; exact cm_extU (mw_ext (bq_12 _ _))) dX7_copy_36
      · rw [q_le (by omega) (by omega)] at c5
        refine k_aload_n (pc := 8) C dX7_copy_8 rfl 1 rfl ?_
        refine gf_X7_7 (pc := 9) C (174) (by decide) cm_174 rfl dX7_copy_9 ?_
        refine k_bipush (pc := 12) (v := nI 12) C dX7_copy_12 (by decide) ?_
        refine k_iload_n (pc := 14) C dX7_copy_14 rfl 2 rfl ?_
        refine k_imul (pc := 15) C dX7_copy_15 ?_
        refine k_eqi (y := nI (12 * t)) (pk_mul _ _) ?_
        refine k_iload_n (pc := 16) C dX7_copy_16 rfl 0 rfl ?_
        refine k_iadd (pc := 17) C dX7_copy_17 ?_
        refine k_eqi (y := nI (12 * t + k)) (nI_add _ _) ?_
        refine k_aload_n (pc := 18) C dX7_copy_18 rfl 1 rfl ?_
        refine gf_X7_7 (pc := 19) C (174) (by decide) cm_174 rfl dX7_copy_19 ?_
        refine k_bipush (pc := 22) (v := nI 12) C dX7_copy_22 (by decide) ?_
        refine k_iload_n (pc := 24) C dX7_copy_24 rfl 3 rfl ?_
        refine k_imul (pc := 25) C dX7_copy_25 ?_
        refine k_eqi (y := nI (12 * a)) (pk_mul _ _) ?_
        refine k_iload_n (pc := 26) C dX7_copy_26 rfl 0 rfl ?_
        refine k_iadd (pc := 27) C dX7_copy_27 ?_
        refine k_eqi (y := nI (12 * a + k)) (nI_add _ _) ?_
        refine k_lald (pc := 28) C E (175) (by decide) cm_175 (12 * a + k) rfl (by omega) (by decide) dX7_copy_28 ?_
        refine k_eql (y := lN (U a / 4294967296 ^ k % 4294967296)) (by rw [mw_at _ ha (by omega), bq_rd]) ?_
        refine k_last (pc := 29) C E (175) (by decide) cm_175 (12 * t + k) rfl (by omega) (by decide) dX7_copy_29 ?_
        refine k_w (w' := xw ad (cm ad ca (V, va_up U t (bq (k + 1) (U a) (U t)), sc, ia, la)) 187) (by rw [mw_bq ht (by omega) rfl, cm_upU]) ?_
        refine k_iinc (pc := 30) (v := nI (k + 1)) (lv' := [(3, .int (nI (k + 1))), (0, .ref (ad (174))), (1, .int (nI t)), (2, .int (nI a))]) C dX7_copy_30 (k := 0) rfl (nI_1 _) (by decide) rfl ?_
        refine k_goto (pc := 33) (tgt := 2) C dX7_copy_33 (by decide) ?_
        refine k_sub [0, 1, 2, 3] rfl ?_
        exact ih (k + 1) (by omega) (by omega)
  refine k_iconst (pc := 0) (v := nI 0) C dX7_copy_0 (by decide) ?_
  refine k_istore_n (pc := 1) (lv' := [(3, .int (nI 0)), (0, .ref (ad (174))), (1, .int (nI t)), (2, .int (nI a))]) C dX7_copy_1 rfl (by decide) rfl ?_
  have h0 := loop 13 0 (by decide) (by decide)
  rw [bq_0, up_self] at h0
  exact h0
set_option maxHeartbeats 4000000 in
set_option maxRecDepth 100000 in
/-- set -/
theorem c7_set {t a : Nat} (ht : t < 80) (ha : a < 9223372036854775808) : xV l D (xty ca) yX7_set cX7_set 5 none 0 0 [.ref (ad 174), .int (nI t), .long (lN a)] ad (cm ad ca (V, U, sc, ia, la)) (fun M' => M' = cm ad ca (V, va_up U t a, sc, ia, la)) := by
  refine xM.of (by decide) (Nat.le_of_ble_eq_true rfl) (fun z C E => ?_)
  have loop : ∀ (n k : Nat), 12 - k < n → k ≤ 12 → xK z (xw ad (cm ad ca (V, va_up U t (bq k a (U t)), sc, ia, la)) 187) 0 0 3 [(4, .int (nI k)), (0, .ref (ad 174)), (1, .int (nI t)), (2, .long (lN a))] [] := by
    intro n
    induction n with
    | zero => intro k h; exact absurd h (Nat.not_lt_zero _)
    | succ n ih =>
      intro k hn hk
      refine k_iload (pc := 3) C dX7_set_3 0 rfl ?_
      refine k_bipush (pc := 5) (v := nI 12) C dX7_set_5 (by decide) ?_
      refine k_icmp_ge (pc := 7) (tgt := 55) C dX7_set_7 (by decide) (fun c7 => ?_) (fun c7 => ?_)
      · rw [q_le (by omega) (by omega)] at c7
        exact r_v (pc := 55) C E (by rw [show k = 12 by omega]; exact cm_extU (mw_ext (bq_12 _ _))) dX7_set_55
      · rw [q_le (by omega) (by omega)] at c7
        refine k_aload_n (pc := 10) C dX7_set_10 rfl 1 rfl ?_
        refine gf_X7_7 (pc := 11) C (174) (by decide) cm_174 rfl dX7_set_11 ?_
        refine k_bipush (pc := 14) (v := nI 12) C dX7_set_14 (by decide) ?_
        refine k_iload_n (pc := 16) C dX7_set_16 rfl 2 rfl ?_
        refine k_imul (pc := 17) C dX7_set_17 ?_
        refine k_eqi (y := nI (12 * t)) (pk_mul _ _) ?_
        refine k_iload (pc := 18) C dX7_set_18 0 rfl ?_
        refine k_iadd (pc := 20) C dX7_set_20 ?_
        refine k_eqi (y := nI (12 * t + k)) (nI_add _ _) ?_
        refine k_iload (pc := 21) C dX7_set_21 0 rfl ?_
        refine k_if_ne (pc := 23) (tgt := 34) C dX7_set_23 (by decide) (fun c23 => ?_) (fun c23 => ?_)
        · rw [q_eq0 (by omega)] at c23
          refine k_iload (pc := 34) C dX7_set_34 0 rfl ?_
          refine k_iconst (pc := 36) (v := nI 1) C dX7_set_36 (by decide) ?_
          refine k_icmp_ne (pc := 37) (tgt := 47) C dX7_set_37 (by decide) (fun c37 => ?_) (fun c37 => ?_)
          · rw [q_eq (by omega) (by omega)] at c37
            refine k_lconst (pc := 47) (v := lN 0) C dX7_set_47 (by decide) ?_
            refine k_eql (y := lN (a / 4294967296 ^ k % 4294967296)) (by rw [Nat.div_eq_of_lt (Nat.lt_of_lt_of_le (show a < 4294967296 ^ 2 by omega) (qw_le (by omega)))]) ?_
            refine k_last (pc := 48) C E (175) (by decide) cm_175 (12 * t + k) rfl (by omega) (by decide) dX7_set_48 ?_
            refine k_w (w' := xw ad (cm ad ca (V, va_up U t (bq (k + 1) a (U t)), sc, ia, la)) 187) (by rw [mw_bq ht (by omega) rfl, cm_upU]) ?_
            refine k_iinc (pc := 49) (v := nI (k + 1)) (lv' := [(4, .int (nI (k + 1))), (0, .ref (ad (174))), (1, .int (nI t)), (2, .long (lN a))]) C dX7_set_49 (k := 0) rfl (nI_1 _) (by decide) rfl ?_
            refine k_goto (pc := 52) (tgt := 3) C dX7_set_52 (by decide) ?_
            refine k_sub [0, 1, 2, 3] rfl ?_
            exact ih (k + 1) (by omega) (by omega)
          · rw [q_eq (by omega) (by omega)] at c37
            refine k_lload_n (pc := 40) C dX7_set_40 rfl 3 rfl ?_
            refine k_bipush (pc := 41) (v := nI 32) C dX7_set_41 (by decide) ?_
            refine k_lushr (pc := 43) C dX7_set_43 rfl ?_
            refine k_eql (y := lN (a / 4294967296 ^ k % 4294967296)) (by rw [lsh32 (by omega), c37, Nat.pow_one, Nat.mod_eq_of_lt (by omega)]) ?_
            refine k_goto (pc := 44) (tgt := 48) C dX7_set_44 (by decide) ?_
            refine k_last (pc := 48) C E (175) (by decide) cm_175 (12 * t + k) rfl (by omega) (by decide) dX7_set_48 ?_
            refine k_w (w' := xw ad (cm ad ca (V, va_up U t (bq (k + 1) a (U t)), sc, ia, la)) 187) (by rw [mw_bq ht (by omega) rfl, cm_upU]) ?_
            refine k_iinc (pc := 49) (v := nI (k + 1)) (lv' := [(4, .int (nI (k + 1))), (0, .ref (ad (174))), (1, .int (nI t)), (2, .long (lN a))]) C dX7_set_49 (k := 0) rfl (nI_1 _) (by decide) rfl ?_
            refine k_goto (pc := 52) (tgt := 3) C dX7_set_52 (by decide) ?_
            refine k_sub [0, 1, 2, 3] rfl ?_
            exact ih (k + 1) (by omega) (by omega)
        · rw [q_eq0 (by omega)] at c23
          refine k_lload_n (pc := 26) C dX7_set_26 rfl 3 rfl ?_
          refine k_ldc2 (pc := 27) C kc_X7_60 dX7_set_27 ?_
          refine k_eql (y := lN 4294967295) rfl ?_
          refine k_land (pc := 30) C dX7_set_30 ?_
          refine k_eql (y := lN (a / 4294967296 ^ k % 4294967296)) (by rw [lmaskN (by omega), c23, Nat.pow_zero, Nat.div_one]) ?_
          refine k_goto (pc := 31) (tgt := 48) C dX7_set_31 (by decide) ?_
          refine k_last (pc := 48) C E (175) (by decide) cm_175 (12 * t + k) rfl (by omega) (by decide) dX7_set_48 ?_
          refine k_w (w' := xw ad (cm ad ca (V, va_up U t (bq (k + 1) a (U t)), sc, ia, la)) 187) (by rw [mw_bq ht (by omega) rfl, cm_upU]) ?_
          refine k_iinc (pc := 49) (v := nI (k + 1)) (lv' := [(4, .int (nI (k + 1))), (0, .ref (ad (174))), (1, .int (nI t)), (2, .long (lN a))]) C dX7_set_49 (k := 0) rfl (nI_1 _) (by decide) rfl ?_
          refine k_goto (pc := 52) (tgt := 3) C dX7_set_52 (by decide) ?_
          refine k_sub [0, 1, 2, 3] rfl ?_
          exact ih (k + 1) (by omega) (by omega)
  refine k_iconst (pc := 0) (v := nI 0) C dX7_set_0 (by decide) ?_
  refine k_istore (pc := 1) (lv' := [(4, .int (nI 0)), (0, .ref (ad (174))), (1, .int (nI t)), (2, .long (lN a))]) C dX7_set_1 (by decide) rfl ?_
  have h0 := loop 13 0 (by decide) (by decide)
  rw [bq_0, up_self] at h0
  exact h0
set_option maxHeartbeats 4000000 in
set_option maxRecDepth 100000 in
/-- isZero -/
theorem c7_isZero {a : Nat} (ha : a < 80) (hb : U a < 4294967296 ^ 12) : xI l D (xty ca) yX7_isZero cX7_isZero 4 (some .boolean) 0 0 [.ref (ad 174), .int (nI a)] ad (cm ad ca (V, U, sc, ia, la)) (fun r M' => M' = cm ad ca (V, U, sc, ia, la) ∧ r = if U a = 0 then 1 else 0) := by
  refine xM.of (by decide) (Nat.le_of_ble_eq_true rfl) (fun z C E => ?_)
  have loop : ∀ (n k : Nat), 12 - k < n → k ≤ 12 → xK z (xw ad (cm ad ca (V, U, sc, ia, la)) 187) 0 0 4 [(3, .int (nI k)), (2, .int (if U a % 4294967296 ^ k = 0 then 1 else 0)), (0, .ref (ad 174)), (1, .int (nI a))] [] := by
    intro n
    induction n with
    | zero => intro k h; exact absurd h (Nat.not_lt_zero _)
    | succ n ih =>
      intro k hn hk
      have hms := Nat.mod_pow_succ (x := U a) (b := 4294967296) (k := k)
      have hqp := qw_pos k
      refine k_iload_n (pc := 4) C dX7_isZero_4 rfl 0 rfl ?_
      refine k_bipush (pc := 5) (v := nI 12) C dX7_isZero_5 (by decide) ?_
      refine k_icmp_ge (pc := 7) (tgt := 42) C dX7_isZero_7 (by decide) (fun c7 => ?_) (fun c7 => ?_)
      · rw [q_le (by omega) (by omega)] at c7
        refine k_iload_n (pc := 42) C dX7_isZero_42 rfl 1 rfl ?_
        exact r_z (pc := 43) C E (⟨rfl, by rw [show k = 12 by omega, Nat.mod_eq_of_lt hb]⟩) (b01') dX7_isZero_43
      · rw [q_le (by omega) (by omega)] at c7
        refine k_iload_n (pc := 10) C dX7_isZero_10 rfl 1 rfl ?_
        refine k_if_eq (pc := 11) (tgt := 34) C dX7_isZero_11 (by decide) (fun c11 => ?_) (fun c11 => ?_)
        · simp only [b01, Decidable.not_not] at c11
          refine k_iconst (pc := 34) (v := nI 0) C dX7_isZero_34 (by decide) ?_
          refine k_eqi (y := if U a % 4294967296 ^ (k + 1) = 0 then 1 else 0) (by first | (rw [if_neg (fun h => by rw [hms] at h; have h8 := Nat.eq_zero_of_add_eq_zero h; first | exact absurd h8.1 c11 | (rcases Nat.mul_eq_zero.mp h8.2 with h7 | h7 <;> omega))]; rfl) | (rw [if_pos (by rw [hms, c11, c27, Nat.mul_zero])]; rfl)) ?_
          refine k_istore_n (pc := 35) (lv' := [(2, .int (if U a % 4294967296 ^ (k + 1) = 0 then 1 else 0)), (3, .int (nI k)), (0, .ref (ad (174))), (1, .int (nI a))]) C dX7_isZero_35 rfl (by decide) rfl ?_
          refine k_iinc (pc := 36) (v := nI (k + 1)) (lv' := [(3, .int (nI (k + 1))), (2, .int (if U a % 4294967296 ^ (k + 1) = 0 then 1 else 0)), (0, .ref (ad (174))), (1, .int (nI a))]) C dX7_isZero_36 (k := 1) rfl (nI_1 _) (by decide) rfl ?_
          refine k_goto (pc := 39) (tgt := 4) C dX7_isZero_39 (by decide) ?_
          refine k_sub [0, 1, 2, 3] rfl ?_
          exact ih (k + 1) (by omega) (by omega)
        · simp only [b01, Decidable.not_not] at c11
          refine k_aload_n (pc := 14) C dX7_isZero_14 rfl 2 rfl ?_
          refine gf_X7_7 (pc := 15) C (174) (by decide) cm_174 rfl dX7_isZero_15 ?_
          refine k_bipush (pc := 18) (v := nI 12) C dX7_isZero_18 (by decide) ?_
          refine k_iload_n (pc := 20) C dX7_isZero_20 rfl 3 rfl ?_
          refine k_imul (pc := 21) C dX7_isZero_21 ?_
          refine k_eqi (y := nI (12 * a)) (pk_mul _ _) ?_
          refine k_iload_n (pc := 22) C dX7_isZero_22 rfl 0 rfl ?_
          refine k_iadd (pc := 23) C dX7_isZero_23 ?_
          refine k_eqi (y := nI (12 * a + k)) (nI_add _ _) ?_
          refine k_lald (pc := 24) C E (175) (by decide) cm_175 (12 * a + k) rfl (by omega) (by decide) dX7_isZero_24 ?_
          refine k_eql (y := lN (U a / 4294967296 ^ k % 4294967296)) (mw_at _ ha (by omega)) ?_
          refine k_lconst (pc := 25) (v := lN 0) C dX7_isZero_25 (by decide) ?_
          refine k_lcmp (pc := 26) C dX7_isZero_26 ?_
          refine k_if_ne (pc := 27) (tgt := 34) C dX7_isZero_27 (by decide) (fun c27 => ?_) (fun c27 => ?_)
          · rw [c_eq (md_lt _) (by decide)] at c27
            refine k_iconst (pc := 34) (v := nI 0) C dX7_isZero_34 (by decide) ?_
            refine k_eqi (y := if U a % 4294967296 ^ (k + 1) = 0 then 1 else 0) (by first | (rw [if_neg (fun h => by rw [hms] at h; have h8 := Nat.eq_zero_of_add_eq_zero h; first | exact absurd h8.1 c11 | (rcases Nat.mul_eq_zero.mp h8.2 with h7 | h7 <;> omega))]; rfl) | (rw [if_pos (by rw [hms, c11, c27, Nat.mul_zero])]; rfl)) ?_
            refine k_istore_n (pc := 35) (lv' := [(2, .int (if U a % 4294967296 ^ (k + 1) = 0 then 1 else 0)), (3, .int (nI k)), (0, .ref (ad (174))), (1, .int (nI a))]) C dX7_isZero_35 rfl (by decide) rfl ?_
            refine k_iinc (pc := 36) (v := nI (k + 1)) (lv' := [(3, .int (nI (k + 1))), (2, .int (if U a % 4294967296 ^ (k + 1) = 0 then 1 else 0)), (0, .ref (ad (174))), (1, .int (nI a))]) C dX7_isZero_36 (k := 1) rfl (nI_1 _) (by decide) rfl ?_
            refine k_goto (pc := 39) (tgt := 4) C dX7_isZero_39 (by decide) ?_
            refine k_sub [0, 1, 2, 3] rfl ?_
            exact ih (k + 1) (by omega) (by omega)
          · rw [c_eq (md_lt _) (by decide)] at c27
            refine k_iconst (pc := 30) (v := nI 1) C dX7_isZero_30 (by decide) ?_
            refine k_goto (pc := 31) (tgt := 35) C dX7_isZero_31 (by decide) ?_
            refine k_eqi (y := if U a % 4294967296 ^ (k + 1) = 0 then 1 else 0) (by first | (rw [if_neg (fun h => by rw [hms] at h; have h8 := Nat.eq_zero_of_add_eq_zero h; first | exact absurd h8.1 c11 | (rcases Nat.mul_eq_zero.mp h8.2 with h7 | h7 <;> omega))]; rfl) | (rw [if_pos (by rw [hms, c11, c27, Nat.mul_zero])]; rfl)) ?_
            refine k_istore_n (pc := 35) (lv' := [(2, .int (if U a % 4294967296 ^ (k + 1) = 0 then 1 else 0)), (3, .int (nI k)), (0, .ref (ad (174))), (1, .int (nI a))]) C dX7_isZero_35 rfl (by decide) rfl ?_
            refine k_iinc (pc := 36) (v := nI (k + 1)) (lv' := [(3, .int (nI (k + 1))), (2, .int (if U a % 4294967296 ^ (k + 1) = 0 then 1 else 0)), (0, .ref (ad (174))), (1, .int (nI a))]) C dX7_isZero_36 (k := 1) rfl (nI_1 _) (by decide) rfl ?_
            refine k_goto (pc := 39) (tgt := 4) C dX7_isZero_39 (by decide) ?_
            refine k_sub [0, 1, 2, 3] rfl ?_
            exact ih (k + 1) (by omega) (by omega)
  refine k_iconst (pc := 0) (v := nI 1) C dX7_isZero_0 (by decide) ?_
  refine k_istore_n (pc := 1) (lv' := [(2, .int (nI 1)), (0, .ref (ad (174))), (1, .int (nI a))]) C dX7_isZero_1 rfl (by decide) rfl ?_
  refine k_iconst (pc := 2) (v := nI 0) C dX7_isZero_2 (by decide) ?_
  refine k_istore_n (pc := 3) (lv' := [(3, .int (nI 0)), (2, .int (nI 1)), (0, .ref (ad (174))), (1, .int (nI a))]) C dX7_isZero_3 rfl (by decide) rfl ?_
  have h0 := loop 13 0 (by decide) (by decide)
  rw [Nat.pow_zero, Nat.mod_one] at h0
  exact h0
set_option maxHeartbeats 4000000 in
set_option maxRecDepth 100000 in
/-- compare -/
theorem c7_compare {a b : Nat} (ha : a < 80) (hb : b < 80) (hba : U a < 4294967296 ^ 12) (hbb : U b < 4294967296 ^ 12) : xI l D (xty ca) yX7_compare cX7_compare 8 (some .int) 0 0 [.ref (ad 174), .int (nI a), .int (nI b)] ad (cm ad ca (V, U, sc, ia, la)) (fun r M' => M' = cm ad ca (V, U, sc, ia, la) ∧ r = cmpN (U a) (U b)) := by
  refine xM.of (by decide) (Nat.le_of_ble_eq_true rfl) (fun z C E => ?_)
  have loop : ∀ c : Nat, c ≤ 12 → U a / 4294967296 ^ c = U b / 4294967296 ^ c → xK z (xw ad (cm ad ca (V, U, sc, ia, la)) 187) 0 0 3 [(3, .int (iz ((c : Int) - 1))), (0, .ref (ad 174)), (1, .int (nI a)), (2, .int (nI b))] [] := by
    intro c
    induction c with
    | zero =>
      intro hc hq
      refine k_iload_n (pc := 3) C dX7_compare_3 rfl 0 rfl ?_
      refine k_if_lt (pc := 4) (tgt := 61) C dX7_compare_4 (by decide) (fun c4 => ?_) (fun c4 => ?_)
      · rw [iz_lt0 (by omega) (by omega)] at c4
        refine k_iconst (pc := 61) (v := nI 0) C dX7_compare_61 (by decide) ?_
        exact r_i (pc := 62) C E (⟨rfl, by simp only [Nat.pow_zero, Nat.div_one] at hq; unfold cmpN; rw [if_neg (by omega), if_pos hq]; rfl⟩) dX7_compare_62
      · rw [iz_lt0 (by omega) (by omega)] at c4
        exact absurd (by decide) c4
    | succ c ih =>
      intro hc hq
      obtain ⟨x, hx⟩ : ∃ x, x = U a / 4294967296 ^ c := ⟨_, rfl⟩
      obtain ⟨y, hy⟩ : ∃ y, y = U b / 4294967296 ^ c := ⟨_, rfl⟩
      rw [dq_s, dq_s, ← hx, ← hy] at hq
      refine k_iload_n (pc := 3) C dX7_compare_3 rfl 0 rfl ?_
      refine k_if_lt (pc := 4) (tgt := 61) C dX7_compare_4 (by decide) (fun c4 => ?_) (fun c4 => ?_)
      · rw [iz_lt0 (by omega) (by omega)] at c4
        exact absurd c4 (by omega)
      · rw [iz_lt0 (by omega) (by omega)] at c4
        refine k_aload_n (pc := 7) C dX7_compare_7 rfl 1 rfl ?_
        refine gf_X7_7 (pc := 8) C (174) (by decide) cm_174 rfl dX7_compare_8 ?_
        refine k_bipush (pc := 11) (v := nI 12) C dX7_compare_11 (by decide) ?_
        refine k_iload_n (pc := 13) C dX7_compare_13 rfl 2 rfl ?_
        refine k_imul (pc := 14) C dX7_compare_14 ?_
        refine k_eqi (y := nI (12 * a)) (pk_mul _ _) ?_
        refine k_iload_n (pc := 15) C dX7_compare_15 rfl 0 rfl ?_
        refine k_iadd (pc := 16) C dX7_compare_16 ?_
        refine k_eqi (y := nI (12 * a + c)) (by rw [show iz (((c + 1 : Nat) : Int) - 1) = nI c from (iz_pos (t := ((c + 1 : Nat) : Int) - 1) (by omega) |>.trans (congrArg nI (by omega)))]; exact nI_add _ _) ?_
        refine k_lald (pc := 17) C E (175) (by decide) cm_175 (12 * a + c) rfl (by omega) (by decide) dX7_compare_17 ?_
        refine k_eql (y := lN (x % 4294967296)) (by rw [mw_at _ ha (by omega), hx]) ?_
        refine k_lstore (pc := 18) (lv' := [(4, .long (lN (x % 4294967296))), (3, .int (iz (((c + 1 : Nat) : Int) - 1))), (0, .ref (ad (174))), (1, .int (nI a)), (2, .int (nI b))]) C dX7_compare_18 (by decide) rfl ?_
        refine k_aload_n (pc := 20) C dX7_compare_20 rfl 2 rfl ?_
        refine gf_X7_7 (pc := 21) C (174) (by decide) cm_174 rfl dX7_compare_21 ?_
        refine k_bipush (pc := 24) (v := nI 12) C dX7_compare_24 (by decide) ?_
        refine k_iload_n (pc := 26) C dX7_compare_26 rfl 4 rfl ?_
        refine k_imul (pc := 27) C dX7_compare_27 ?_
        refine k_eqi (y := nI (12 * b)) (pk_mul _ _) ?_
        refine k_iload_n (pc := 28) C dX7_compare_28 rfl 1 rfl ?_
        refine k_iadd (pc := 29) C dX7_compare_29 ?_
        refine k_eqi (y := nI (12 * b + c)) (by rw [show iz (((c + 1 : Nat) : Int) - 1) = nI c from (iz_pos (t := ((c + 1 : Nat) : Int) - 1) (by omega) |>.trans (congrArg nI (by omega)))]; exact nI_add _ _) ?_
        refine k_lald (pc := 30) C E (175) (by decide) cm_175 (12 * b + c) rfl (by omega) (by decide) dX7_compare_30 ?_
        refine k_eql (y := lN (y % 4294967296)) (by rw [mw_at _ hb (by omega), hy]) ?_
        refine k_lstore (pc := 31) (lv' := [(6, .long (lN (y % 4294967296))), (4, .long (lN (x % 4294967296))), (3, .int (iz (((c + 1 : Nat) : Int) - 1))), (0, .ref (ad (174))), (1, .int (nI a)), (2, .int (nI b))]) C dX7_compare_31 (by decide) rfl ?_
        refine k_lload (pc := 33) C dX7_compare_33 1 rfl ?_
        refine k_lload (pc := 35) C dX7_compare_35 0 rfl ?_
        refine k_lcmp (pc := 37) C dX7_compare_37 ?_
        refine k_if_eq (pc := 38) (tgt := 55) C dX7_compare_38 (by decide) (fun c38 => ?_) (fun c38 => ?_)
        · rw [c_eq (md_lt _) (md_lt _)] at c38
          refine k_iinc (pc := 55) (v := iz ((c : Int) - 1)) (lv' := [(3, .int (iz ((c : Int) - 1))), (6, .long (lN (y % 4294967296))), (4, .long (lN (x % 4294967296))), (0, .ref (ad (174))), (1, .int (nI a)), (2, .int (nI b))]) C dX7_compare_55 (k := 2) rfl (show iz (((c + 1 : Nat) : Int) - 1) + iz (-1) = _ by rw [iz_add]; congr 1; omega) (by decide) rfl ?_
          refine k_goto (pc := 58) (tgt := 3) C dX7_compare_58 (by decide) ?_
          refine k_sub [0, 3, 4, 5] rfl ?_
          exact ih (by omega) (by rw [← hx, ← hy]; omega)
        · rw [c_eq (md_lt _) (md_lt _)] at c38
          refine k_lload (pc := 41) C dX7_compare_41 1 rfl ?_
          refine k_lload (pc := 43) C dX7_compare_43 0 rfl ?_
          refine k_lcmp (pc := 45) C dX7_compare_45 ?_
          refine k_if_ge (pc := 46) (tgt := 53) C dX7_compare_46 (by decide) (fun c46 => ?_) (fun c46 => ?_)
          · rw [c_ge (md_lt _) (md_lt _)] at c46
            refine k_iconst (pc := 53) (v := nI 1) C dX7_compare_53 (by decide) ?_
            exact r_i (pc := 54) C E (⟨rfl, by
            unfold cmpN
            first
              | (have h3 : ¬ U a < U b := fun e => by have := Nat.div_le_div_right (c := 4294967296 ^ c) (Nat.le_of_lt e); omega
                 have h4 : ¬ U a = U b := fun e => by rw [e] at hx; omega
                 rw [if_neg h3, if_neg h4]; rfl)
              | (have h3 : U a < U b := by
                   rcases Nat.lt_or_ge (U a) (U b) with q | q
                   · exact q
                   · have := Nat.div_le_div_right (c := 4294967296 ^ c) q
                     omega
                 rw [if_pos h3])⟩) dX7_compare_54
          · rw [c_ge (md_lt _) (md_lt _)] at c46
            refine k_iconst (pc := 49) (v := (-1)) C dX7_compare_49 (by decide) ?_
            refine k_goto (pc := 50) (tgt := 54) C dX7_compare_50 (by decide) ?_
            exact r_i (pc := 54) C E (⟨rfl, by
            unfold cmpN
            first
              | (have h3 : ¬ U a < U b := fun e => by have := Nat.div_le_div_right (c := 4294967296 ^ c) (Nat.le_of_lt e); omega
                 have h4 : ¬ U a = U b := fun e => by rw [e] at hx; omega
                 rw [if_neg h3, if_neg h4]; rfl)
              | (have h3 : U a < U b := by
                   rcases Nat.lt_or_ge (U a) (U b) with q | q
                   · exact q
                   · have := Nat.div_le_div_right (c := 4294967296 ^ c) q
                     omega
                 rw [if_pos h3])⟩) dX7_compare_54
  refine k_bipush (pc := 0) (v := nI 11) C dX7_compare_0 (by decide) ?_
  refine k_istore_n (pc := 2) (lv' := [(3, .int (nI 11)), (0, .ref (ad (174))), (1, .int (nI a)), (2, .int (nI b))]) C dX7_compare_2 rfl (by decide) rfl ?_
  exact loop 12 (by decide) (by rw [Nat.div_eq_of_lt hba, Nat.div_eq_of_lt hbb])
set_option maxHeartbeats 4000000 in
set_option maxRecDepth 100000 in
/-- plus -/
theorem c7_plus {t a b : Nat} (ht : t < 80) (ha : a < 80) (hb : b < 80) : xV l D (xty ca) yX7_plus cX7_plus 7 none 0 0 [.ref (ad 174), .int (nI t), .int (nI a), .int (nI b)] ad (cm ad ca (V, U, sc, ia, la)) (fun M' => M' = cm ad ca (V, va_up U t (U a + U b), sc, ia, la)) := by
  refine xM.of (by decide) (Nat.le_of_ble_eq_true rfl) (fun z C E => ?_)
  have loop : ∀ (n k c : Nat), 12 - k < n → k ≤ 12 → c ≤ 1 → (U a + U b) / 4294967296 ^ k = U a / 4294967296 ^ k + U b / 4294967296 ^ k + c → xK z (xw ad (cm ad ca (V, va_up U t (bq k (U a + U b) (U t)), sc, ia, la)) 187) 0 0 6 [(6, .int (nI k)), (4, .long (lN c)), (0, .ref (ad 174)), (1, .int (nI t)), (2, .int (nI a)), (3, .int (nI b))] [] := by
    intro n
    induction n with
    | zero => intro k c h; exact absurd h (Nat.not_lt_zero _)
    | succ n ih =>
      intro k c hn hk hc hq
      obtain ⟨x, hx⟩ : ∃ x, x = U a / 4294967296 ^ k := ⟨_, rfl⟩
      obtain ⟨y, hy⟩ : ∃ y, y = U b / 4294967296 ^ k := ⟨_, rfl⟩
      rw [← hx, ← hy] at hq
      refine k_iload (pc := 6) C dX7_plus_6 0 rfl ?_
      refine k_bipush (pc := 8) (v := nI 12) C dX7_plus_8 (by decide) ?_
      refine k_icmp_ge (pc := 10) (tgt := 74) C dX7_plus_10 (by decide) (fun c10 => ?_) (fun c10 => ?_)
      · rw [q_le (by omega) (by omega)] at c10
        exact r_v (pc := 74) C E (by rw [show k = 12 by omega]; exact cm_extU (mw_ext (bq_12 _ _))) dX7_plus_74
      · rw [q_le (by omega) (by omega)] at c10
        refine k_lload (pc := 13) C dX7_plus_13 1 rfl ?_
        refine k_aload_n (pc := 15) C dX7_plus_15 rfl 2 rfl ?_
        refine gf_X7_7 (pc := 16) C (174) (by decide) cm_174 rfl dX7_plus_16 ?_
        refine k_bipush (pc := 19) (v := nI 12) C dX7_plus_19 (by decide) ?_
        refine k_iload_n (pc := 21) C dX7_plus_21 rfl 4 rfl ?_
        refine k_imul (pc := 22) C dX7_plus_22 ?_
        refine k_eqi (y := nI (12 * a)) (pk_mul _ _) ?_
        refine k_iload (pc := 23) C dX7_plus_23 0 rfl ?_
        refine k_iadd (pc := 25) C dX7_plus_25 ?_
        refine k_eqi (y := nI (12 * a + k)) (nI_add _ _) ?_
        refine k_lald (pc := 26) C E (175) (by decide) cm_175 (12 * a + k) rfl (by omega) (by decide) dX7_plus_26 ?_
        refine k_eql (y := lN (x % 4294967296)) (by rw [mw_at _ ha (by omega), bq_rd, hx]) ?_
        refine k_aload_n (pc := 27) C dX7_plus_27 rfl 2 rfl ?_
        refine gf_X7_7 (pc := 28) C (174) (by decide) cm_174 rfl dX7_plus_28 ?_
        refine k_bipush (pc := 31) (v := nI 12) C dX7_plus_31 (by decide) ?_
        refine k_iload_n (pc := 33) C dX7_plus_33 rfl 5 rfl ?_
        refine k_imul (pc := 34) C dX7_plus_34 ?_
        refine k_eqi (y := nI (12 * b)) (pk_mul _ _) ?_
        refine k_iload (pc := 35) C dX7_plus_35 0 rfl ?_
        refine k_iadd (pc := 37) C dX7_plus_37 ?_
        refine k_eqi (y := nI (12 * b + k)) (nI_add _ _) ?_
        refine k_lald (pc := 38) C E (175) (by decide) cm_175 (12 * b + k) rfl (by omega) (by decide) dX7_plus_38 ?_
        refine k_eql (y := lN (y % 4294967296)) (by rw [mw_at _ hb (by omega), bq_rd, hy]) ?_
        refine k_ladd (pc := 39) C dX7_plus_39 ?_
        refine k_eql (y := lN (x % 4294967296 + y % 4294967296)) (lN_add _ _) ?_
        refine k_ladd (pc := 40) C dX7_plus_40 ?_
        refine k_eql (y := lN (c + (x % 4294967296 + y % 4294967296))) (lN_add _ _) ?_
        refine k_lstore (pc := 41) (lv' := [(4, .long (lN (c + (x % 4294967296 + y % 4294967296)))), (6, .int (nI k)), (0, .ref (ad (174))), (1, .int (nI t)), (2, .int (nI a)), (3, .int (nI b))]) C dX7_plus_41 (by decide) rfl ?_
        refine k_aload_n (pc := 43) C dX7_plus_43 rfl 2 rfl ?_
        refine gf_X7_7 (pc := 44) C (174) (by decide) cm_174 rfl dX7_plus_44 ?_
        refine k_bipush (pc := 47) (v := nI 12) C dX7_plus_47 (by decide) ?_
        refine k_iload_n (pc := 49) C dX7_plus_49 rfl 3 rfl ?_
        refine k_imul (pc := 50) C dX7_plus_50 ?_
        refine k_eqi (y := nI (12 * t)) (pk_mul _ _) ?_
        refine k_iload (pc := 51) C dX7_plus_51 1 rfl ?_
        refine k_iadd (pc := 53) C dX7_plus_53 ?_
        refine k_eqi (y := nI (12 * t + k)) (nI_add _ _) ?_
        refine k_lload (pc := 54) C dX7_plus_54 0 rfl ?_
        refine k_ldc2 (pc := 56) C kc_X7_60 dX7_plus_56 ?_
        refine k_eql (y := lN 4294967295) rfl ?_
        refine k_land (pc := 59) C dX7_plus_59 ?_
        refine k_eql (y := lN ((c + (x % 4294967296 + y % 4294967296)) % 4294967296)) (lmaskN (by omega)) ?_
        refine k_last (pc := 60) C E (175) (by decide) cm_175 (12 * t + k) rfl (by omega) (by decide) dX7_plus_60 ?_
        refine k_w (w' := xw ad (cm ad ca (V, va_up U t (bq (k + 1) (U a + U b) (U t)), sc, ia, la)) 187) (by rw [mw_bq ht (by omega) (by rw [hq]; omega), cm_upU]) ?_
        refine k_lload (pc := 61) C dX7_plus_61 0 rfl ?_
        refine k_bipush (pc := 63) (v := nI 32) C dX7_plus_63 (by decide) ?_
        refine k_lushr (pc := 65) C dX7_plus_65 rfl ?_
        refine k_eql (y := lN ((c + (x % 4294967296 + y % 4294967296)) / 4294967296)) (lsh32 (by omega)) ?_
        refine k_lstore (pc := 66) (lv' := [(4, .long (lN ((c + (x % 4294967296 + y % 4294967296)) / 4294967296))), (6, .int (nI k)), (0, .ref (ad (174))), (1, .int (nI t)), (2, .int (nI a)), (3, .int (nI b))]) C dX7_plus_66 (by decide) rfl ?_
        refine k_iinc (pc := 68) (v := nI (k + 1)) (lv' := [(6, .int (nI (k + 1))), (4, .long (lN ((c + (x % 4294967296 + y % 4294967296)) / 4294967296))), (0, .ref (ad (174))), (1, .int (nI t)), (2, .int (nI a)), (3, .int (nI b))]) C dX7_plus_68 (k := 1) rfl (nI_1 _) (by decide) rfl ?_
        refine k_goto (pc := 71) (tgt := 6) C dX7_plus_71 (by decide) ?_
        refine k_sub [0, 1, 2, 3, 4, 5] rfl ?_
        exact ih (k + 1) ((c + (x % 4294967296 + y % 4294967296)) / 4294967296) (by omega) (by omega) (by omega) (by rw [dq_s, dq_s, dq_s, ← hx, ← hy, hq]; omega)
  refine k_lconst (pc := 0) (v := lN 0) C dX7_plus_0 (by decide) ?_
  refine k_lstore (pc := 1) (lv' := [(4, .long (lN 0)), (0, .ref (ad (174))), (1, .int (nI t)), (2, .int (nI a)), (3, .int (nI b))]) C dX7_plus_1 (by decide) rfl ?_
  refine k_iconst (pc := 3) (v := nI 0) C dX7_plus_3 (by decide) ?_
  refine k_istore (pc := 4) (lv' := [(6, .int (nI 0)), (4, .long (lN 0)), (0, .ref (ad (174))), (1, .int (nI t)), (2, .int (nI a)), (3, .int (nI b))]) C dX7_plus_4 (by decide) rfl ?_
  have h0 := loop 13 0 0 (by decide) (by decide) (by decide) (by simp)
  rw [bq_0, up_self] at h0
  exact h0
set_option maxHeartbeats 4000000 in
set_option maxRecDepth 100000 in
/-- minus -/
theorem c7_minus {t a b : Nat} (ht : t < 80) (ha : a < 80) (hb : b < 80) (hle : U b ≤ U a) : xV l D (xty ca) yX7_minus cX7_minus 7 none 0 0 [.ref (ad 174), .int (nI t), .int (nI a), .int (nI b)] ad (cm ad ca (V, U, sc, ia, la)) (fun M' => M' = cm ad ca (V, va_up U t (U a - U b), sc, ia, la)) := by
  refine xM.of (by decide) (Nat.le_of_ble_eq_true rfl) (fun z C E => ?_)
  have loop : ∀ (n k c : Nat), 12 - k < n → k ≤ 12 → c ≤ 1 → U a / 4294967296 ^ k = U b / 4294967296 ^ k + (U a - U b) / 4294967296 ^ k + c → xK z (xw ad (cm ad ca (V, va_up U t (bq k (U a - U b) (U t)), sc, ia, la)) 187) 0 0 6 [(6, .int (nI k)), (4, .long (lz (-(c : Int)))), (0, .ref (ad 174)), (1, .int (nI t)), (2, .int (nI a)), (3, .int (nI b))] [] := by
    intro n
    induction n with
    | zero => intro k c h; exact absurd h (Nat.not_lt_zero _)
    | succ n ih =>
      intro k c hn hk hc hq
      obtain ⟨x, hx⟩ : ∃ x, x = U a / 4294967296 ^ k := ⟨_, rfl⟩
      obtain ⟨y, hy⟩ : ∃ y, y = U b / 4294967296 ^ k := ⟨_, rfl⟩
      obtain ⟨d, hd⟩ : ∃ d, d = (U a - U b) / 4294967296 ^ k := ⟨_, rfl⟩
      rw [← hx, ← hy, ← hd] at hq
      refine k_iload (pc := 6) C dX7_minus_6 0 rfl ?_
      refine k_bipush (pc := 8) (v := nI 12) C dX7_minus_8 (by decide) ?_
      refine k_icmp_ge (pc := 10) (tgt := 74) C dX7_minus_10 (by decide) (fun c10 => ?_) (fun c10 => ?_)
      · rw [q_le (by omega) (by omega)] at c10
        exact r_v (pc := 74) C E (by rw [show k = 12 by omega]; exact cm_extU (mw_ext (bq_12 _ _))) dX7_minus_74
      · rw [q_le (by omega) (by omega)] at c10
        refine k_lload (pc := 13) C dX7_minus_13 1 rfl ?_
        refine k_aload_n (pc := 15) C dX7_minus_15 rfl 2 rfl ?_
        refine gf_X7_7 (pc := 16) C (174) (by decide) cm_174 rfl dX7_minus_16 ?_
        refine k_bipush (pc := 19) (v := nI 12) C dX7_minus_19 (by decide) ?_
        refine k_iload_n (pc := 21) C dX7_minus_21 rfl 4 rfl ?_
        refine k_imul (pc := 22) C dX7_minus_22 ?_
        refine k_eqi (y := nI (12 * a)) (pk_mul _ _) ?_
        refine k_iload (pc := 23) C dX7_minus_23 0 rfl ?_
        refine k_iadd (pc := 25) C dX7_minus_25 ?_
        refine k_eqi (y := nI (12 * a + k)) (nI_add _ _) ?_
        refine k_lald (pc := 26) C E (175) (by decide) cm_175 (12 * a + k) rfl (by omega) (by decide) dX7_minus_26 ?_
        refine k_eql (y := lz ((x % 4294967296 : Nat) : Int)) (by rw [mw_at _ ha (by omega), bq_rd, hx]; rfl) ?_
        refine k_aload_n (pc := 27) C dX7_minus_27 rfl 2 rfl ?_
        refine gf_X7_7 (pc := 28) C (174) (by decide) cm_174 rfl dX7_minus_28 ?_
        refine k_bipush (pc := 31) (v := nI 12) C dX7_minus_31 (by decide) ?_
        refine k_iload_n (pc := 33) C dX7_minus_33 rfl 5 rfl ?_
        refine k_imul (pc := 34) C dX7_minus_34 ?_
        refine k_eqi (y := nI (12 * b)) (pk_mul _ _) ?_
        refine k_iload (pc := 35) C dX7_minus_35 0 rfl ?_
        refine k_iadd (pc := 37) C dX7_minus_37 ?_
        refine k_eqi (y := nI (12 * b + k)) (nI_add _ _) ?_
        refine k_lald (pc := 38) C E (175) (by decide) cm_175 (12 * b + k) rfl (by omega) (by decide) dX7_minus_38 ?_
        refine k_eql (y := lz ((y % 4294967296 : Nat) : Int)) (by rw [mw_at _ hb (by omega), bq_rd, hy]; rfl) ?_
        refine k_lsub (pc := 39) C dX7_minus_39 ?_
        refine k_eql (y := lz (((x % 4294967296 : Nat) : Int) - ((y % 4294967296 : Nat) : Int))) (lz_sub _ _) ?_
        refine k_ladd (pc := 40) C dX7_minus_40 ?_
        refine k_eql (y := lz (-(c : Int) + (((x % 4294967296 : Nat) : Int) - ((y % 4294967296 : Nat) : Int)))) (lz_add _ _) ?_
        refine k_lstore (pc := 41) (lv' := [(4, .long (lz (-(c : Int) + (((x % 4294967296 : Nat) : Int) - ((y % 4294967296 : Nat) : Int))))), (6, .int (nI k)), (0, .ref (ad (174))), (1, .int (nI t)), (2, .int (nI a)), (3, .int (nI b))]) C dX7_minus_41 (by decide) rfl ?_
        refine k_aload_n (pc := 43) C dX7_minus_43 rfl 2 rfl ?_
        refine gf_X7_7 (pc := 44) C (174) (by decide) cm_174 rfl dX7_minus_44 ?_
        refine k_bipush (pc := 47) (v := nI 12) C dX7_minus_47 (by decide) ?_
        refine k_iload_n (pc := 49) C dX7_minus_49 rfl 3 rfl ?_
        refine k_imul (pc := 50) C dX7_minus_50 ?_
        refine k_eqi (y := nI (12 * t)) (pk_mul _ _) ?_
        refine k_iload (pc := 51) C dX7_minus_51 1 rfl ?_
        refine k_iadd (pc := 53) C dX7_minus_53 ?_
        refine k_eqi (y := nI (12 * t + k)) (nI_add _ _) ?_
        refine k_lload (pc := 54) C dX7_minus_54 0 rfl ?_
        refine k_ldc2 (pc := 56) C kc_X7_60 dX7_minus_56 ?_
        refine k_eql (y := lN 4294967295) rfl ?_
        refine k_land (pc := 59) C dX7_minus_59 ?_
        refine k_eql (y := lN (d % 4294967296)) (by rw [lz_and32]; congr 1; omega) ?_
        refine k_last (pc := 60) C E (175) (by decide) cm_175 (12 * t + k) rfl (by omega) (by decide) dX7_minus_60 ?_
        refine k_w (w' := xw ad (cm ad ca (V, va_up U t (bq (k + 1) (U a - U b) (U t)), sc, ia, la)) 187) (by rw [mw_bq ht (by omega) (by rw [← hd]), cm_upU]) ?_
        refine k_lload (pc := 61) C dX7_minus_61 0 rfl ?_
        refine k_bipush (pc := 63) (v := nI 32) C dX7_minus_63 (by decide) ?_
        refine k_lshr (pc := 65) C dX7_minus_65 rfl ?_
        refine k_eql (y := lz (-((x / 4294967296 - y / 4294967296 - d / 4294967296 : Nat) : Int))) (by rw [lz_shr32 (by omega) (by omega)]; congr 1; omega) ?_
        refine k_lstore (pc := 66) (lv' := [(4, .long (lz (-((x / 4294967296 - y / 4294967296 - d / 4294967296 : Nat) : Int)))), (6, .int (nI k)), (0, .ref (ad (174))), (1, .int (nI t)), (2, .int (nI a)), (3, .int (nI b))]) C dX7_minus_66 (by decide) rfl ?_
        refine k_iinc (pc := 68) (v := nI (k + 1)) (lv' := [(6, .int (nI (k + 1))), (4, .long (lz (-((x / 4294967296 - y / 4294967296 - d / 4294967296 : Nat) : Int)))), (0, .ref (ad (174))), (1, .int (nI t)), (2, .int (nI a)), (3, .int (nI b))]) C dX7_minus_68 (k := 1) rfl (nI_1 _) (by decide) rfl ?_
        refine k_goto (pc := 71) (tgt := 6) C dX7_minus_71 (by decide) ?_
        refine k_sub [0, 1, 2, 3, 4, 5] rfl ?_
        exact ih (k + 1) (x / 4294967296 - y / 4294967296 - d / 4294967296) (by omega) (by omega) (by omega) (by rw [dq_s, dq_s, dq_s, ← hx, ← hy, ← hd]; omega)
  refine k_lconst (pc := 0) (v := lN 0) C dX7_minus_0 (by decide) ?_
  refine k_lstore (pc := 1) (lv' := [(4, .long (lN 0)), (0, .ref (ad (174))), (1, .int (nI t)), (2, .int (nI a)), (3, .int (nI b))]) C dX7_minus_1 (by decide) rfl ?_
  refine k_iconst (pc := 3) (v := nI 0) C dX7_minus_3 (by decide) ?_
  refine k_istore (pc := 4) (lv' := [(6, .int (nI 0)), (4, .long (lN 0)), (0, .ref (ad (174))), (1, .int (nI t)), (2, .int (nI a)), (3, .int (nI b))]) C dX7_minus_4 (by decide) rfl ?_
  have h0 := loop 13 0 0 (by decide) (by decide) (by decide) (by simp; omega)
  rw [bq_0, up_self] at h0
  exact h0
set_option maxHeartbeats 4000000 in
set_option maxRecDepth 100000 in
/-- one -/
theorem c7_one {t : Nat} (ht : t < 80) (h35 : t ≠ 35) : xV l D (xty ca) yX7_one cX7_one 2 none 1 40 [.ref (ad 174), .int (nI t)] ad (cm ad ca (V, U, sc, ia, la)) (fun M' => M' = cm ad ca (V, va_up (va_up U 35 1) t (U t + 1), sc, ia, la)) := by
  refine xM.of (by decide) (Nat.le_of_ble_eq_true rfl) (fun z C E => ?_)
  refine k_aload_n (pc := 0) C dX7_one_0 rfl 0 rfl ?_
  refine k_bipush (pc := 1) (v := nI 35) C dX7_one_1 (by decide) ?_
  refine k_lconst (pc := 3) (v := lN 1) C dX7_one_3 (by decide) ?_
  refine cv_X7_62 (pc := 4) C E (c7_set (t := 35) (a := 1) (by decide) (by decide)) rfl (by decide) cm_174 (by decide) rfl (Nat.le_of_ble_eq_true rfl) dX7_one_4 (fun M4 h4 => ?_)
  subst h4
  refine k_aload_n (pc := 7) C dX7_one_7 rfl 0 rfl ?_
  refine k_iload_n (pc := 8) C dX7_one_8 rfl 1 rfl ?_
  refine k_iload_n (pc := 9) C dX7_one_9 rfl 1 rfl ?_
  refine k_bipush (pc := 10) (v := nI 35) C dX7_one_10 (by decide) ?_
  refine cv_X7_66 (pc := 12) C E (c7_plus ht ht (b := 35) (by decide)) rfl (by decide) cm_174 (by decide) rfl (Nat.le_of_ble_eq_true rfl) dX7_one_12 (fun M12 h12 => ?_)
  subst h12
  exact r_v (pc := 15) C E (by rw [ups, upn (Ne.symm h35)]) dX7_one_15
end MA
