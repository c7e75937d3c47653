section WA
variable {l : Launch} {D : va_G} {ca : Nat → ClassId} {ad : Nat → Nat} {V U : Nat → Nat} {sc : Nat → Int32} {ia : Nat → Nat → Int32} {la : Nat → Nat → Int64}
set_option maxHeartbeats 4000000 in
set_option maxRecDepth 100000 in
/-- Wide.clear: the value is 0 -/
theorem c_clear {i : Nat} (hi : isW i) : xV l D (xty ca) yX5_clear cX5_clear 2 none 0 0 [.ref (ad i)] ad (cm ad ca (V, U, sc, ia, la)) (fun M' => M' = cm ad ca (va_up V i 0, U, sc, ia, la)) := by
  refine xM.of (by decide) (Nat.le_of_ble_eq_true rfl) (fun z C E => ?_)
  have loop : ∀ (n k : Nat), 24 - k < n → k ≤ 24 → xK z (xw ad (va_up (cm ad ca (V, U, sc, ia, la)) (i + 1) (.inl (ca 0, 24, .inl (mx k 0 (V i))))) 187) 0 0 2 [(1, .int (nI k)), (0, .ref (ad i))] [] := by
    intro n
    induction n with
    | zero => intro k h; exact absurd h (Nat.not_lt_zero _)
    | succ n ih =>
      intro k hn hk
      refine k_iload_n (pc := 2) C dX5_clear_2 rfl 0 rfl ?_
      refine k_bipush (pc := 3) (v := nI 24) C dX5_clear_3 (by decide) ?_
      refine k_icmp_ge (pc := 5) (tgt := 21) C dX5_clear_5 (by decide) (fun c5 => ?_) (fun c5 => ?_)
      · rw [q_le (by omega) (by omega)] at c5
        exact r_v (pc := 21) C E (by rw [show k = 24 by omega, mx_24, cm_upV hi]) dX5_clear_21
      · rw [q_le (by omega) (by omega)] at c5
        refine k_aload_n (pc := 8) C dX5_clear_8 rfl 1 rfl ?_
        refine gf_X5_9 (pc := 9) C (i) (Nat.lt_of_succ_lt (isW_lt hi)) (cm_w2 hi hi _) rfl dX5_clear_9 ?_
        refine k_iload_n (pc := 12) C dX5_clear_12 rfl 0 rfl ?_
        refine k_iconst (pc := 13) (v := nI 0) C dX5_clear_13 (by decide) ?_
        refine k_iast (pc := 14) C E (i + 1) (isW_lt hi) (up_s _ _) (k) rfl (by omega) (by decide) dX5_clear_14 ?_
        refine k_w (w' := xw ad (va_up (cm ad ca (V, U, sc, ia, la)) (i + 1) (.inl (ca 0, 24, .inl (mx (k + 1) 0 (V i))))) 187) (by rw [bx_uu, mx_up (y := 0) (by omega) (by simp)]) ?_
        refine k_iinc (pc := 15) (v := nI (k + 1)) (lv' := [(1, .int (nI (k + 1))), (0, .ref (ad (i)))]) C dX5_clear_15 (k := 0) rfl (nI_1 _) (by decide) rfl ?_
        refine k_goto (pc := 18) (tgt := 2) C dX5_clear_18 (by decide) ?_
        refine k_sub [0, 1] rfl ?_
        exact ih (k + 1) (by omega) (by omega)
  refine k_iconst (pc := 0) (v := nI 0) C dX5_clear_0 (by decide) ?_
  refine k_istore_n (pc := 1) (lv' := [(1, .int (nI 0)), (0, .ref (ad (i)))]) C dX5_clear_1 rfl (by decide) rfl ?_
  have h0 := loop 25 0 (by decide) (by decide)
  rw [mx_0, cm_self hi] at h0
  exact h0
set_option maxHeartbeats 4000000 in
set_option maxRecDepth 100000 in
/-- Wide.plus: the values together -/
theorem c_plus {i j : Nat} (hi : isW i) (hj : isW j) (hij : i ≠ j) : xV l D (xty ca) yX5_plus cX5_plus 5 none 0 0 [.ref (ad i), .ref (ad j)] ad (cm ad ca (V, U, sc, ia, la)) (fun M' => M' = cm ad ca (va_up V i (V i + V j), U, sc, ia, la)) := by
  refine xM.of (by decide) (Nat.le_of_ble_eq_true rfl) (fun z C E => ?_)
  have loop : ∀ (n k c : Nat), 24 - k < n → k ≤ 24 → c ≤ 1 → (V i + V j) / 65536 ^ k = V i / 65536 ^ k + V j / 65536 ^ k + c → xK z (xw ad (va_up (cm ad ca (V, U, sc, ia, la)) (i + 1) (.inl (ca 0, 24, .inl (mx k (V i + V j) (V i))))) 187) 0 0 4 [(3, .int (nI k)), (2, .int (nI c)), (0, .ref (ad i)), (1, .ref (ad j))] [] := by
    intro n
    induction n with
    | zero => intro k c h; exact absurd h (Nat.not_lt_zero _)
    | succ n ih =>
      intro k c hn hk hc hq
      obtain ⟨x, hx⟩ : ∃ x, x = V i / 65536 ^ k := ⟨_, rfl⟩
      obtain ⟨y, hy⟩ : ∃ y, y = V j / 65536 ^ k := ⟨_, rfl⟩
      rw [← hx, ← hy] at hq
      refine k_iload_n (pc := 4) C dX5_plus_4 rfl 0 rfl ?_
      refine k_bipush (pc := 5) (v := nI 24) C dX5_plus_5 (by decide) ?_
      refine k_icmp_ge (pc := 7) (tgt := 50) C dX5_plus_7 (by decide) (fun c7 => ?_) (fun c7 => ?_)
      · rw [q_le (by omega) (by omega)] at c7
        exact r_v (pc := 50) C E (by rw [show k = 24 by omega, mx_24, cm_upV hi]) dX5_plus_50
      · rw [q_le (by omega) (by omega)] at c7
        refine k_aload_n (pc := 10) C dX5_plus_10 rfl 2 rfl ?_
        refine gf_X5_9 (pc := 11) C (i) (Nat.lt_of_succ_lt (isW_lt hi)) (cm_w2 hi hi _) rfl dX5_plus_11 ?_
        refine k_iload_n (pc := 14) C dX5_plus_14 rfl 0 rfl ?_
        refine k_iald (pc := 15) C E (i + 1) (isW_lt hi) (up_s _ _) (k) rfl (by omega) (by decide) dX5_plus_15 ?_
        refine k_eqi (y := nI (x % 65536)) (by rw [mx_at (by omega), hx]) ?_
        refine k_aload_n (pc := 16) C dX5_plus_16 rfl 3 rfl ?_
        refine gf_X5_9 (pc := 17) C (j) (Nat.lt_of_succ_lt (isW_lt hj)) (cm_w2 hi hj _) rfl dX5_plus_17 ?_
        refine k_iload_n (pc := 20) C dX5_plus_20 rfl 0 rfl ?_
        refine k_iald (pc := 21) C E (j + 1) (isW_lt hj) (cm_l2 hj hij _) (k) rfl (by omega) (by decide) dX5_plus_21 ?_
        refine k_eqi (y := nI (y % 65536)) (by rw [dg_lt (by omega), hy]) ?_
        refine k_iadd (pc := 22) C dX5_plus_22 ?_
        refine k_eqi (y := nI (x % 65536 + y % 65536)) (nI_add _ _) ?_
        refine k_iload_n (pc := 23) C dX5_plus_23 rfl 1 rfl ?_
        refine k_iadd (pc := 24) C dX5_plus_24 ?_
        refine k_eqi (y := nI (x % 65536 + y % 65536 + c)) (nI_add _ _) ?_
        refine k_istore (pc := 25) (lv' := [(4, .int (nI (x % 65536 + y % 65536 + c))), (3, .int (nI k)), (2, .int (nI c)), (0, .ref (ad (i))), (1, .ref (ad (j)))]) C dX5_plus_25 (by decide) rfl ?_
        refine k_aload_n (pc := 27) C dX5_plus_27 rfl 3 rfl ?_
        refine gf_X5_9 (pc := 28) C (i) (Nat.lt_of_succ_lt (isW_lt hi)) (cm_w2 hi hi _) rfl dX5_plus_28 ?_
        refine k_iload_n (pc := 31) C dX5_plus_31 rfl 1 rfl ?_
        refine k_iload (pc := 32) C dX5_plus_32 0 rfl ?_
        refine k_ldc (pc := 34) C kc_X5_22 dX5_plus_34 ?_
        refine k_eqi (y := nI 65535) rfl ?_
        refine k_iand (pc := 36) C dX5_plus_36 ?_
        refine k_eqi (y := nI ((x % 65536 + y % 65536 + c) % 65536)) (and16 (by omega)) ?_
        refine k_iast (pc := 37) C E (i + 1) (isW_lt hi) (up_s _ _) (k) rfl (by omega) (by decide) dX5_plus_37 ?_
        refine k_w (w' := xw ad (va_up (cm ad ca (V, U, sc, ia, la)) (i + 1) (.inl (ca 0, 24, .inl (mx (k + 1) (V i + V j) (V i))))) 187) (by rw [bx_uu, mx_up (by omega) (by rw [hq]; omega)]) ?_
        refine k_iload (pc := 38) C dX5_plus_38 0 rfl ?_
        refine k_bipush (pc := 40) (v := nI 16) C dX5_plus_40 (by decide) ?_
        refine k_iushr (pc := 42) C dX5_plus_42 rfl ?_
        refine k_eqi (y := nI ((x % 65536 + y % 65536 + c) / 65536)) (ush16 (by omega)) ?_
        refine k_istore_n (pc := 43) (lv' := [(2, .int (nI ((x % 65536 + y % 65536 + c) / 65536))), (4, .int (nI (x % 65536 + y % 65536 + c))), (3, .int (nI k)), (0, .ref (ad (i))), (1, .ref (ad (j)))]) C dX5_plus_43 rfl (by decide) rfl ?_
        refine k_iinc (pc := 44) (v := nI (k + 1)) (lv' := [(3, .int (nI (k + 1))), (2, .int (nI ((x % 65536 + y % 65536 + c) / 65536))), (4, .int (nI (x % 65536 + y % 65536 + c))), (0, .ref (ad (i))), (1, .ref (ad (j)))]) C dX5_plus_44 (k := 2) rfl (nI_1 _) (by decide) rfl ?_
        refine k_goto (pc := 47) (tgt := 4) C dX5_plus_47 (by decide) ?_
        refine k_sub [0, 1, 3, 4] rfl ?_
        exact ih (k + 1) ((x % 65536 + y % 65536 + c) / 65536) (by omega) (by omega) (by omega) (by rw [dv_s, dv_s, dv_s, ← hx, ← hy, hq]; omega)
  refine k_iconst (pc := 0) (v := nI 0) C dX5_plus_0 (by decide) ?_
  refine k_istore_n (pc := 1) (lv' := [(2, .int (nI 0)), (0, .ref (ad (i))), (1, .ref (ad (j)))]) C dX5_plus_1 rfl (by decide) rfl ?_
  refine k_iconst (pc := 2) (v := nI 0) C dX5_plus_2 (by decide) ?_
  refine k_istore_n (pc := 3) (lv' := [(3, .int (nI 0)), (2, .int (nI 0)), (0, .ref (ad (i))), (1, .ref (ad (j)))]) C dX5_plus_3 rfl (by decide) rfl ?_
  have h0 := loop 25 0 0 (by decide) (by decide) (by decide) (by simp)
  rw [mx_0, cm_self hi] at h0
  exact h0
set_option maxHeartbeats 4000000 in
set_option maxRecDepth 100000 in
/-- Wide.copy -/
theorem c_copy {i j : Nat} (hi : isW i) (hj : isW j) (hij : i ≠ j) : xV l D (xty ca) yX5_copy cX5_copy 2 none 1 60 [.ref (ad i), .ref (ad j)] ad (cm ad ca (V, U, sc, ia, la)) (fun M' => M' = cm ad ca (va_up V i (V j), U, sc, ia, la)) := by
  refine xM.of (by decide) (Nat.le_of_ble_eq_true rfl) (fun z C E => ?_)
  refine k_aload_n (pc := 0) C dX5_copy_0 rfl 1 rfl ?_
  refine gf_X5_9 (pc := 1) C (j) (Nat.lt_of_succ_lt (isW_lt hj)) (cm_w hj) rfl dX5_copy_1 ?_
  refine k_iconst (pc := 4) (v := nI 0) C dX5_copy_4 (by decide) ?_
  refine k_aload_n (pc := 5) C dX5_copy_5 rfl 0 rfl ?_
  refine gf_X5_9 (pc := 6) C (i) (Nat.lt_of_succ_lt (isW_lt hi)) (cm_w hi) rfl dX5_copy_6 ?_
  refine k_iconst (pc := 9) (v := nI 0) C dX5_copy_9 (by decide) ?_
  refine k_bipush (pc := 10) (v := nI 24) C dX5_copy_10 (by decide) ?_
  refine k_copyi (pc := 12) C E wm_X5_13 wna_arraycopyName wst_arraycopyName wI_System (i + 1) (j + 1) (isW_lt hi) (isW_lt hj) (cm_l hj) (cm_l hi) (by decide) (by decide) dX5_copy_12 ?_
  exact r_v (pc := 15) C E (by rw [cpy_dg, cm_upV hi]) dX5_copy_15
set_option maxHeartbeats 4000000 in
set_option maxRecDepth 100000 in
/-- Wide.limbAt, at 0 or more -/
theorem c_limbAt {i k : Nat} (hi : isW i) (hk : k < 2147483648) (hb : V i < 65536 ^ 24) : xI l D (xty ca) yX5_limbAt cX5_limbAt 2 (some .int) 0 0 [.ref (ad i), .int (nI k)] ad (cm ad ca (V, U, sc, ia, la)) (fun r M' => M' = cm ad ca (V, U, sc, ia, la) ∧ r = nI (V i / 65536 ^ k % 65536)) := by
  refine xM.of (by decide) (Nat.le_of_ble_eq_true rfl) (fun z C E => ?_)
  refine k_iload_n (pc := 0) C dX5_limbAt_0 rfl 1 rfl ?_
  refine k_if_lt (pc := 1) (tgt := 19) C dX5_limbAt_1 (by decide) (fun c1 => ?_) (fun c1 => ?_)
  · rw [q_lt0 hk] at c1
    exact c1.elim
  · rw [q_lt0 hk] at c1
    refine k_iload_n (pc := 4) C dX5_limbAt_4 rfl 1 rfl ?_
    refine k_bipush (pc := 5) (v := nI 24) C dX5_limbAt_5 (by decide) ?_
    refine k_icmp_ge (pc := 7) (tgt := 19) C dX5_limbAt_7 (by decide) (fun c7 => ?_) (fun c7 => ?_)
    · rw [q_le (by omega) (by omega)] at c7
      have e0 : V i / 65536 ^ k = 0 := Nat.div_eq_of_lt (Nat.lt_of_lt_of_le hb (pw_le c7))
      refine k_iconst (pc := 19) (v := nI 0) C dX5_limbAt_19 (by decide) ?_
      exact r_i (pc := 20) C E (⟨rfl, by first | rfl | (rw [e0])⟩) dX5_limbAt_20
    · rw [q_le (by omega) (by omega)] at c7
      refine k_aload_n (pc := 10) C dX5_limbAt_10 rfl 0 rfl ?_
      refine gf_X5_9 (pc := 11) C (i) (Nat.lt_of_succ_lt (isW_lt hi)) (cm_w hi) rfl dX5_limbAt_11 ?_
      refine k_iload_n (pc := 14) C dX5_limbAt_14 rfl 1 rfl ?_
      refine k_iald (pc := 15) C E (i + 1) (isW_lt hi) (cm_l hi) (k) rfl (by omega) (by decide) dX5_limbAt_15 ?_
      refine k_eqi (y := nI (V i / 65536 ^ k % 65536)) (dg_lt (by omega)) ?_
      refine k_goto (pc := 16) (tgt := 20) C dX5_limbAt_16 (by decide) ?_
      exact r_i (pc := 20) C E (⟨rfl, by first | rfl | (rw [e0])⟩) dX5_limbAt_20
set_option maxHeartbeats 4000000 in
set_option maxRecDepth 100000 in
/-- Wide.limbAt, below 0 -/
theorem c_limbAtN {i : Nat} {t : Int32} (ht : t < 0) : xI l D (xty ca) yX5_limbAt cX5_limbAt 2 (some .int) 0 0 [.ref (ad i), .int t] ad (cm ad ca (V, U, sc, ia, la)) (fun r M' => M' = cm ad ca (V, U, sc, ia, la) ∧ r = nI 0) := by
  refine xM.of (by decide) (Nat.le_of_ble_eq_true rfl) (fun z C E => ?_)
  refine k_iload_n (pc := 0) C dX5_limbAt_0 rfl 1 rfl ?_
  refine k_if_lt (pc := 1) (tgt := 19) C dX5_limbAt_1 (by decide) (fun c1 => ?_) (fun c1 => ?_)
  · refine k_iconst (pc := 19) (v := nI 0) C dX5_limbAt_19 (by decide) ?_
    exact r_i (pc := 20) C E (⟨rfl, rfl⟩) dX5_limbAt_20
  · exact absurd ht c1
set_option maxHeartbeats 4000000 in
set_option maxRecDepth 100000 in
/-- Wide.usedLimbs -/
theorem c_used {i : Nat} (hi : isW i) (hb : V i < 65536 ^ 24) : xI l D (xty ca) yX5_usedLimbs cX5_usedLimbs 2 (some .int) 0 0 [.ref (ad i)] ad (cm ad ca (V, U, sc, ia, la)) (fun r M' => M' = cm ad ca (V, U, sc, ia, la) ∧ ∃ u, u ≤ 24 ∧ r = nI u ∧ V i < 65536 ^ u ∧ (0 < u → 65536 ^ (u - 1) ≤ V i)) := by
  refine xM.of (by decide) (Nat.le_of_ble_eq_true rfl) (fun z C E => ?_)
  have loop : ∀ k : Nat, k ≤ 24 → V i < 65536 ^ k → xK z (xw ad (cm ad ca (V, U, sc, ia, la)) 187) 0 0 3 [(1, .int (nI k)), (0, .ref (ad i))] [] := by
    intro k
    induction k with
    | zero =>
      intro hk hv
      refine k_iload_n (pc := 3) C dX5_usedLimbs_3 rfl 0 rfl ?_
      refine k_if_le (pc := 4) (tgt := 24) C dX5_usedLimbs_4 (by decide) (fun c4 => ?_) (fun c4 => ?_)
      · rw [q_le0 (by decide)] at c4
        refine k_iload_n (pc := 24) C dX5_usedLimbs_24 rfl 0 rfl ?_
        exact r_i (pc := 25) C E (⟨rfl, 0, by decide, rfl, hv, fun h => absurd h (by decide)⟩) dX5_usedLimbs_25
      · rw [q_le0 (by decide)] at c4
        exact absurd rfl c4
    | succ k ih =>
      intro hk hv
      refine k_iload_n (pc := 3) C dX5_usedLimbs_3 rfl 0 rfl ?_
      refine k_if_le (pc := 4) (tgt := 24) C dX5_usedLimbs_4 (by decide) (fun c4 => ?_) (fun c4 => ?_)
      · rw [q_le0 (by omega)] at c4
        exact absurd c4 (by omega)
      · rw [q_le0 (by omega)] at c4
        refine k_aload_n (pc := 7) C dX5_usedLimbs_7 rfl 1 rfl ?_
        refine gf_X5_9 (pc := 8) C (i) (Nat.lt_of_succ_lt (isW_lt hi)) (cm_w hi) rfl dX5_usedLimbs_8 ?_
        refine k_iload_n (pc := 11) C dX5_usedLimbs_11 rfl 0 rfl ?_
        refine k_iconst (pc := 12) (v := nI 1) C dX5_usedLimbs_12 (by decide) ?_
        refine k_isub (pc := 13) C dX5_usedLimbs_13 ?_
        refine k_eqi (y := nI k) (pk_sub (a := k + 1) (b := 1) (by omega)) ?_
        refine k_iald (pc := 14) C E (i + 1) (isW_lt hi) (cm_l hi) (k) rfl (by omega) (by decide) dX5_usedLimbs_14 ?_
        refine k_eqi (y := nI (V i / 65536 ^ k % 65536)) (dg_lt (by omega)) ?_
        refine k_if_ne (pc := 15) (tgt := 24) C dX5_usedLimbs_15 (by decide) (fun c15 => ?_) (fun c15 => ?_)
        · rw [q_eq0 (Nat.lt_trans (Nat.mod_lt _ (by decide)) (by decide))] at c15
          refine k_iload_n (pc := 24) C dX5_usedLimbs_24 rfl 0 rfl ?_
          exact r_i (pc := 25) C E (⟨rfl, k + 1, hk, rfl, hv, fun _ => by
          rcases Nat.lt_or_ge (V i) (65536 ^ k) with q | q
          · exact absurd (by rw [Nat.div_eq_of_lt q]) c15
          · exact q⟩) dX5_usedLimbs_25
        · rw [q_eq0 (Nat.lt_trans (Nat.mod_lt _ (by decide)) (by decide))] at c15
          refine k_iinc (pc := 18) (v := nI k) (lv' := [(1, .int (nI k)), (0, .ref (ad (i)))]) C dX5_usedLimbs_18 (k := 0) rfl (dec1 (by omega)) (by decide) rfl ?_
          refine k_goto (pc := 21) (tgt := 3) C dX5_usedLimbs_21 (by decide) ?_
          refine k_sub [0, 1] rfl ?_
          refine ih (by omega) ?_
          have e1 : V i / 65536 ^ k < 65536 := Nat.div_lt_of_lt_mul (by rw [← Nat.pow_succ]; exact hv)
          rcases Nat.lt_or_ge (V i) (65536 ^ k) with q | q
          · exact q
          · have := Nat.div_pos q (pw_pos k)
            omega
  refine k_bipush (pc := 0) (v := nI 24) C dX5_usedLimbs_0 (by decide) ?_
  refine k_istore_n (pc := 2) (lv' := [(1, .int (nI 24)), (0, .ref (ad (i)))]) C dX5_usedLimbs_2 rfl (by decide) rfl ?_
  exact loop 24 (by decide) hb
set_option maxHeartbeats 4000000 in
set_option maxRecDepth 100000 in
/-- Wide.isZero -/
theorem c_isZero {i : Nat} (hi : isW i) (hb : V i < 65536 ^ 24) : xI l D (xty ca) yX5_isZero cX5_isZero 1 (some .boolean) 1 21 [.ref (ad i)] ad (cm ad ca (V, U, sc, ia, la)) (fun r M' => M' = cm ad ca (V, U, sc, ia, la) ∧ r = if V i = 0 then 1 else 0) := by
  refine xM.of (by decide) (Nat.le_of_ble_eq_true rfl) (fun z C E => ?_)
  refine k_aload_n (pc := 0) C dX5_isZero_0 rfl 0 rfl ?_
  refine cv_X5_31 (pc := 1) C E (c_used hi hb) rfl (Nat.lt_of_succ_lt (isW_lt hi)) (cm_w hi) (by decide) rfl (Nat.le_of_ble_eq_true rfl) dX5_isZero_1 (fun r1 M1 h1 => ?_)
  obtain ⟨rfl, u, hu, rfl, h1, h2⟩ := h1
  refine k_if_ne (pc := 4) (tgt := 11) C dX5_isZero_4 (by decide) (fun c4 => ?_) (fun c4 => ?_)
  · rw [q_eq0 (by omega)] at c4
    refine k_iconst (pc := 11) (v := nI 0) C dX5_isZero_11 (by decide) ?_
    exact r_z (pc := 12) C E (⟨rfl, by first | (rw [if_neg (show ¬ V i = 0 from fun e => by have := h2 (by omega); have := pw_pos (u - 1); omega)]; rfl) | (rw [if_pos (show V i = 0 by rw [c4] at h1; simpa using h1)]; rfl)⟩) (by decide) dX5_isZero_12
  · rw [q_eq0 (by omega)] at c4
    refine k_iconst (pc := 7) (v := nI 1) C dX5_isZero_7 (by decide) ?_
    refine k_goto (pc := 8) (tgt := 12) C dX5_isZero_8 (by decide) ?_
    exact r_z (pc := 12) C E (⟨rfl, by first | (rw [if_neg (show ¬ V i = 0 from fun e => by have := h2 (by omega); have := pw_pos (u - 1); omega)]; rfl) | (rw [if_pos (show V i = 0 by rw [c4] at h1; simpa using h1)]; rfl)⟩) (by decide) dX5_isZero_12
set_option maxHeartbeats 4000000 in
set_option maxRecDepth 100000 in
/-- Wide.isSum -/
theorem c_isSum {i : Nat} (hi : isW i) (hb : V i < 65536 ^ 24) : xI l D (xty ca) yX5_isSum cX5_isSum 1 (some .boolean) 1 21 [.ref (ad i)] ad (cm ad ca (V, U, sc, ia, la)) (fun r M' => M' = cm ad ca (V, U, sc, ia, la) ∧ r = if V i < 65536 ^ 16 then 1 else 0) := by
  refine xM.of (by decide) (Nat.le_of_ble_eq_true rfl) (fun z C E => ?_)
  refine k_aload_n (pc := 0) C dX5_isSum_0 rfl 0 rfl ?_
  refine cv_X5_31 (pc := 1) C E (c_used hi hb) rfl (Nat.lt_of_succ_lt (isW_lt hi)) (cm_w hi) (by decide) rfl (Nat.le_of_ble_eq_true rfl) dX5_isSum_1 (fun r1 M1 h1 => ?_)
  obtain ⟨rfl, u, hu, rfl, h1, h2⟩ := h1
  refine k_bipush (pc := 4) (v := nI 16) C dX5_isSum_4 (by decide) ?_
  refine k_icmp_gt (pc := 6) (tgt := 13) C dX5_isSum_6 (by decide) (fun c6 => ?_) (fun c6 => ?_)
  · rw [q_lt (by omega) (by omega)] at c6
    refine k_iconst (pc := 13) (v := nI 0) C dX5_isSum_13 (by decide) ?_
    exact r_z (pc := 14) C E (⟨rfl, by first | (rw [if_neg (show ¬ V i < 65536 ^ 16 from fun e => by have := h2 (by omega); have := pw_le (a := 16) (b := u - 1) (by omega); omega)]; rfl) | (rw [if_pos (show V i < 65536 ^ 16 from Nat.lt_of_lt_of_le h1 (pw_le (by omega)))]; rfl)⟩) (by decide) dX5_isSum_14
  · rw [q_lt (by omega) (by omega)] at c6
    refine k_iconst (pc := 9) (v := nI 1) C dX5_isSum_9 (by decide) ?_
    refine k_goto (pc := 10) (tgt := 14) C dX5_isSum_10 (by decide) ?_
    exact r_z (pc := 14) C E (⟨rfl, by first | (rw [if_neg (show ¬ V i < 65536 ^ 16 from fun e => by have := h2 (by omega); have := pw_le (a := 16) (b := u - 1) (by omega); omega)]; rfl) | (rw [if_pos (show V i < 65536 ^ 16 from Nat.lt_of_lt_of_le h1 (pw_le (by omega)))]; rfl)⟩) (by decide) dX5_isSum_14
set_option maxHeartbeats 4000000 in
set_option maxRecDepth 100000 in
/-- Wide.fitsPool -/
theorem c_fitsPool {i : Nat} (hi : isW i) (hb : V i < 65536 ^ 24) : xI l D (xty ca) yX5_fitsPool cX5_fitsPool 1 (some .boolean) 1 21 [.ref (ad i)] ad (cm ad ca (V, U, sc, ia, la)) (fun r M' => M' = cm ad ca (V, U, sc, ia, la) ∧ r = if V i < 2 ^ 100 then 1 else 0) := by
  refine xM.of (by decide) (Nat.le_of_ble_eq_true rfl) (fun z C E => ?_)
  refine k_aload_n (pc := 0) C dX5_fitsPool_0 rfl 0 rfl ?_
  refine cv_X5_31 (pc := 1) C E (c_used hi hb) rfl (Nat.lt_of_succ_lt (isW_lt hi)) (cm_w hi) (by decide) rfl (Nat.le_of_ble_eq_true rfl) dX5_fitsPool_1 (fun r1 M1 h1 => ?_)
  obtain ⟨rfl, u, hu, rfl, h1, h2⟩ := h1
  refine k_bipush (pc := 4) (v := nI 7) C dX5_fitsPool_4 (by decide) ?_
  refine k_icmp_gt (pc := 6) (tgt := 25) C dX5_fitsPool_6 (by decide) (fun c6 => ?_) (fun c6 => ?_)
  · rw [q_lt (by omega) (by omega)] at c6
    refine k_iconst (pc := 25) (v := nI 0) C dX5_fitsPool_25 (by decide) ?_
    exact r_z (pc := 26) C E (⟨rfl, by first | (rw [if_neg (show ¬ V i < 2 ^ 100 from fun e => by have := h2 (by omega); have := pw_le (a := 7) (b := u - 1) (by omega); omega)]; rfl) | (rw [if_neg (show ¬ V i < 2 ^ 100 by omega)]; rfl) | (rw [if_pos (show V i < 2 ^ 100 by omega)]; rfl)⟩) (by decide) dX5_fitsPool_26
  · rw [q_lt (by omega) (by omega)] at c6
    refine k_aload_n (pc := 9) C dX5_fitsPool_9 rfl 0 rfl ?_
    refine gf_X5_9 (pc := 10) C (i) (Nat.lt_of_succ_lt (isW_lt hi)) (cm_w hi) rfl dX5_fitsPool_10 ?_
    refine k_bipush (pc := 13) (v := nI 6) C dX5_fitsPool_13 (by decide) ?_
    refine k_iald (pc := 15) C E (i + 1) (isW_lt hi) (cm_l hi) (6) rfl (by decide) (by decide) dX5_fitsPool_15 ?_
    refine k_eqi (y := nI (V i / 65536 ^ 6 % 65536)) (dg_lt (by decide)) ?_
    refine k_bipush (pc := 16) (v := nI 16) C dX5_fitsPool_16 (by decide) ?_
    refine k_icmp_ge (pc := 18) (tgt := 25) C dX5_fitsPool_18 (by decide) (fun c18 => ?_) (fun c18 => ?_)
    · rw [q_le (by decide) (Nat.lt_trans (Nat.mod_lt _ (by decide)) (by decide))] at c18
      have h3 := Nat.lt_of_lt_of_le h1 (pw_le (b := 7) (by omega))
      refine k_iconst (pc := 25) (v := nI 0) C dX5_fitsPool_25 (by decide) ?_
      exact r_z (pc := 26) C E (⟨rfl, by first | (rw [if_neg (show ¬ V i < 2 ^ 100 from fun e => by have := h2 (by omega); have := pw_le (a := 7) (b := u - 1) (by omega); omega)]; rfl) | (rw [if_neg (show ¬ V i < 2 ^ 100 by omega)]; rfl) | (rw [if_pos (show V i < 2 ^ 100 by omega)]; rfl)⟩) (by decide) dX5_fitsPool_26
    · rw [q_le (by decide) (Nat.lt_trans (Nat.mod_lt _ (by decide)) (by decide))] at c18
      have h3 := Nat.lt_of_lt_of_le h1 (pw_le (b := 7) (by omega))
      refine k_iconst (pc := 21) (v := nI 1) C dX5_fitsPool_21 (by decide) ?_
      refine k_goto (pc := 22) (tgt := 26) C dX5_fitsPool_22 (by decide) ?_
      exact r_z (pc := 26) C E (⟨rfl, by first | (rw [if_neg (show ¬ V i < 2 ^ 100 from fun e => by have := h2 (by omega); have := pw_le (a := 7) (b := u - 1) (by omega); omega)]; rfl) | (rw [if_neg (show ¬ V i < 2 ^ 100 by omega)]; rfl) | (rw [if_pos (show V i < 2 ^ 100 by omega)]; rfl)⟩) (by decide) dX5_fitsPool_26
set_option maxHeartbeats 4000000 in
set_option maxRecDepth 100000 in
/-- Wide.isOdd -/
theorem c_isOdd {i : Nat} (hi : isW i) : xI l D (xty ca) yX5_isOdd cX5_isOdd 1 (some .boolean) 0 0 [.ref (ad i)] ad (cm ad ca (V, U, sc, ia, la)) (fun r M' => M' = cm ad ca (V, U, sc, ia, la) ∧ r = if V i % 2 = 1 then 1 else 0) := by
  refine xM.of (by decide) (Nat.le_of_ble_eq_true rfl) (fun z C E => ?_)
  refine k_aload_n (pc := 0) C dX5_isOdd_0 rfl 0 rfl ?_
  refine gf_X5_9 (pc := 1) C (i) (Nat.lt_of_succ_lt (isW_lt hi)) (cm_w hi) rfl dX5_isOdd_1 ?_
  refine k_iconst (pc := 4) (v := nI 0) C dX5_isOdd_4 (by decide) ?_
  refine k_iald (pc := 5) C E (i + 1) (isW_lt hi) (cm_l hi) (0) rfl (by decide) (by decide) dX5_isOdd_5 ?_
  refine k_eqi (y := nI (V i / 65536 ^ 0 % 65536)) (dg_lt (by decide)) ?_
  refine k_iconst (pc := 6) (v := nI 1) C dX5_isOdd_6 (by decide) ?_
  refine k_iand (pc := 7) C dX5_isOdd_7 ?_
  refine k_eqi (y := nI (V i / 65536 ^ 0 % 65536 % 2)) (pk_andN (m := nI 1) (Nat.lt_trans (Nat.mod_lt _ (by decide)) (by decide)) 1 (by decide)) ?_
  refine k_iconst (pc := 8) (v := nI 1) C dX5_isOdd_8 (by decide) ?_
  refine k_icmp_ne (pc := 9) (tgt := 16) C dX5_isOdd_9 (by decide) (fun c9 => ?_) (fun c9 => ?_)
  · rw [q_eq (Nat.lt_trans (Nat.mod_lt _ (by decide)) (by decide)) (by decide)] at c9
    refine k_iconst (pc := 16) (v := nI 0) C dX5_isOdd_16 (by decide) ?_
    exact r_z (pc := 17) C E (⟨rfl, by first | (rw [if_neg (show ¬ V i % 2 = 1 by omega)]; rfl) | (rw [if_pos (show V i % 2 = 1 by omega)]; rfl)⟩) (by decide) dX5_isOdd_17
  · rw [q_eq (Nat.lt_trans (Nat.mod_lt _ (by decide)) (by decide)) (by decide)] at c9
    refine k_iconst (pc := 12) (v := nI 1) C dX5_isOdd_12 (by decide) ?_
    refine k_goto (pc := 13) (tgt := 17) C dX5_isOdd_13 (by decide) ?_
    exact r_z (pc := 17) C E (⟨rfl, by first | (rw [if_neg (show ¬ V i % 2 = 1 by omega)]; rfl) | (rw [if_pos (show V i % 2 = 1 by omega)]; rfl)⟩) (by decide) dX5_isOdd_17
set_option maxHeartbeats 4000000 in
set_option maxRecDepth 100000 in
/-- Wide.compareWith -/
theorem c_compare {i j : Nat} (hi : isW i) (hj : isW j) (hbi : V i < 65536 ^ 24) (hbj : V j < 65536 ^ 24) : xI l D (xty ca) yX5_compareWith cX5_compareWith 3 (some .int) 0 0 [.ref (ad i), .ref (ad j)] ad (cm ad ca (V, U, sc, ia, la)) (fun r M' => M' = cm ad ca (V, U, sc, ia, la) ∧ r = cmpN (V i) (V j)) := by
  refine xM.of (by decide) (Nat.le_of_ble_eq_true rfl) (fun z C E => ?_)
  have loop : ∀ c : Nat, c ≤ 24 → V i / 65536 ^ c = V j / 65536 ^ c → xK z (xw ad (cm ad ca (V, U, sc, ia, la)) 187) 0 0 3 [(2, .int (iz ((c : Int) - 1))), (0, .ref (ad i)), (1, .ref (ad j))] [] := by
    intro c
    induction c with
    | zero =>
      intro hc hq
      refine k_iload_n (pc := 3) C dX5_compareWith_3 rfl 0 rfl ?_
      refine k_if_lt (pc := 4) (tgt := 49) C dX5_compareWith_4 (by decide) (fun c4 => ?_) (fun c4 => ?_)
      · rw [iz_lt0 (by omega) (by omega)] at c4
        refine k_iconst (pc := 49) (v := nI 0) C dX5_compareWith_49 (by decide) ?_
        exact r_i (pc := 50) C E (⟨rfl, by simp only [Nat.pow_zero, Nat.div_one] at hq; unfold cmpN; rw [if_neg (by omega), if_pos hq]; rfl⟩) dX5_compareWith_50
      · rw [iz_lt0 (by omega) (by omega)] at c4
        exact absurd (by decide) c4
    | succ c ih =>
      intro hc hq
      obtain ⟨x, hx⟩ : ∃ x, x = V i / 65536 ^ c := ⟨_, rfl⟩
      obtain ⟨y, hy⟩ : ∃ y, y = V j / 65536 ^ c := ⟨_, rfl⟩
      rw [dv_s, dv_s, ← hx, ← hy] at hq
      have hm : ∀ a : Nat, a % 65536 < 2147483648 := fun a => Nat.lt_trans (Nat.mod_lt _ (by decide)) (by decide)
      refine k_iload_n (pc := 3) C dX5_compareWith_3 rfl 0 rfl ?_
      refine k_if_lt (pc := 4) (tgt := 49) C dX5_compareWith_4 (by decide) (fun c4 => ?_) (fun c4 => ?_)
      · rw [iz_lt0 (by omega) (by omega)] at c4
        exact absurd c4 (by omega)
      · rw [iz_lt0 (by omega) (by omega)] at c4
        refine k_aload_n (pc := 7) C dX5_compareWith_7 rfl 1 rfl ?_
        refine gf_X5_9 (pc := 8) C (i) (Nat.lt_of_succ_lt (isW_lt hi)) (cm_w hi) rfl dX5_compareWith_8 ?_
        refine k_iload_n (pc := 11) C dX5_compareWith_11 rfl 0 rfl ?_
        refine k_iald (pc := 12) C E (i + 1) (isW_lt hi) (cm_l hi) (c) (iz_pos (t := ((c + 1 : Nat) : Int) - 1) (by omega) |>.trans (congrArg nI (by omega))) (by omega) (by decide) dX5_compareWith_12 ?_
        refine k_eqi (y := nI (x % 65536)) (by rw [dg_lt (by omega), hx]) ?_
        refine k_aload_n (pc := 13) C dX5_compareWith_13 rfl 2 rfl ?_
        refine gf_X5_9 (pc := 14) C (j) (Nat.lt_of_succ_lt (isW_lt hj)) (cm_w hj) rfl dX5_compareWith_14 ?_
        refine k_iload_n (pc := 17) C dX5_compareWith_17 rfl 0 rfl ?_
        refine k_iald (pc := 18) C E (j + 1) (isW_lt hj) (cm_l hj) (c) (iz_pos (t := ((c + 1 : Nat) : Int) - 1) (by omega) |>.trans (congrArg nI (by omega))) (by omega) (by decide) dX5_compareWith_18 ?_
        refine k_eqi (y := nI (y % 65536)) (by rw [dg_lt (by omega), hy]) ?_
        refine k_icmp_eq (pc := 19) (tgt := 43) C dX5_compareWith_19 (by decide) (fun c19 => ?_) (fun c19 => ?_)
        · rw [q_eq (hm _) (hm _)] at c19
          refine k_iinc (pc := 43) (v := iz ((c : Int) - 1)) (lv' := [(2, .int (iz ((c : Int) - 1))), (0, .ref (ad (i))), (1, .ref (ad (j)))]) C dX5_compareWith_43 (k := 0) rfl (show iz (((c + 1 : Nat) : Int) - 1) + iz (-1) = _ by rw [iz_add]; congr 1; omega) (by decide) rfl ?_
          refine k_goto (pc := 46) (tgt := 3) C dX5_compareWith_46 (by decide) ?_
          refine k_sub [0, 1, 2] rfl ?_
          exact ih (by omega) (by rw [← hx, ← hy]; omega)
        · rw [q_eq (hm _) (hm _)] at c19
          refine k_aload_n (pc := 22) C dX5_compareWith_22 rfl 1 rfl ?_
          refine gf_X5_9 (pc := 23) C (i) (Nat.lt_of_succ_lt (isW_lt hi)) (cm_w hi) rfl dX5_compareWith_23 ?_
          refine k_iload_n (pc := 26) C dX5_compareWith_26 rfl 0 rfl ?_
          refine k_iald (pc := 27) C E (i + 1) (isW_lt hi) (cm_l hi) (c) (iz_pos (t := ((c + 1 : Nat) : Int) - 1) (by omega) |>.trans (congrArg nI (by omega))) (by omega) (by decide) dX5_compareWith_27 ?_
          refine k_eqi (y := nI (x % 65536)) (by rw [dg_lt (by omega), hx]) ?_
          refine k_aload_n (pc := 28) C dX5_compareWith_28 rfl 2 rfl ?_
          refine gf_X5_9 (pc := 29) C (j) (Nat.lt_of_succ_lt (isW_lt hj)) (cm_w hj) rfl dX5_compareWith_29 ?_
          refine k_iload_n (pc := 32) C dX5_compareWith_32 rfl 0 rfl ?_
          refine k_iald (pc := 33) C E (j + 1) (isW_lt hj) (cm_l hj) (c) (iz_pos (t := ((c + 1 : Nat) : Int) - 1) (by omega) |>.trans (congrArg nI (by omega))) (by omega) (by decide) dX5_compareWith_33 ?_
          refine k_eqi (y := nI (y % 65536)) (by rw [dg_lt (by omega), hy]) ?_
          refine k_icmp_ge (pc := 34) (tgt := 41) C dX5_compareWith_34 (by decide) (fun c34 => ?_) (fun c34 => ?_)
          · rw [q_le (hm _) (hm _)] at c34
            refine k_iconst (pc := 41) (v := nI 1) C dX5_compareWith_41 (by decide) ?_
            exact r_i (pc := 42) C E (⟨rfl, by
            unfold cmpN
            first
              | (have h3 : ¬ V i < V j := fun e => by have := Nat.div_le_div_right (c := 65536 ^ c) (Nat.le_of_lt e); omega
                 have h4 : ¬ V i = V j := fun e => by rw [e] at hx; omega
                 rw [if_neg h3, if_neg h4]; rfl)
              | (have h3 : V i < V j := by
                   rcases Nat.lt_or_ge (V i) (V j) with q | q
                   · exact q
                   · have := Nat.div_le_div_right (c := 65536 ^ c) q
                     omega
                 rw [if_pos h3])⟩) dX5_compareWith_42
          · rw [q_le (hm _) (hm _)] at c34
            refine k_iconst (pc := 37) (v := (-1)) C dX5_compareWith_37 (by decide) ?_
            refine k_goto (pc := 38) (tgt := 42) C dX5_compareWith_38 (by decide) ?_
            exact r_i (pc := 42) C E (⟨rfl, by
            unfold cmpN
            first
              | (have h3 : ¬ V i < V j := fun e => by have := Nat.div_le_div_right (c := 65536 ^ c) (Nat.le_of_lt e); omega
                 have h4 : ¬ V i = V j := fun e => by rw [e] at hx; omega
                 rw [if_neg h3, if_neg h4]; rfl)
              | (have h3 : V i < V j := by
                   rcases Nat.lt_or_ge (V i) (V j) with q | q
                   · exact q
                   · have := Nat.div_le_div_right (c := 65536 ^ c) q
                     omega
                 rw [if_pos h3])⟩) dX5_compareWith_42
  refine k_bipush (pc := 0) (v := nI 23) C dX5_compareWith_0 (by decide) ?_
  refine k_istore_n (pc := 2) (lv' := [(2, .int (nI 23)), (0, .ref (ad (i))), (1, .ref (ad (j)))]) C dX5_compareWith_2 rfl (by decide) rfl ?_
  exact loop 24 (by decide) (by rw [Nat.div_eq_of_lt hbi, Nat.div_eq_of_lt hbj])
set_option maxHeartbeats 4000000 in
set_option maxRecDepth 100000 in
/-- Wide.minus -/
theorem c_minus {i j : Nat} (hi : isW i) (hj : isW j) (hij : i ≠ j) (hle : V j ≤ V i) : xV l D (xty ca) yX5_minus cX5_minus 5 none 0 0 [.ref (ad i), .ref (ad j)] ad (cm ad ca (V, U, sc, ia, la)) (fun M' => M' = cm ad ca (va_up V i (V i - V j), U, sc, ia, la)) := by
  refine xM.of (by decide) (Nat.le_of_ble_eq_true rfl) (fun z C E => ?_)
  have loop : ∀ (n k c : Nat), 24 - k < n → k ≤ 24 → c ≤ 1 → V i / 65536 ^ k = V j / 65536 ^ k + (V i - V j) / 65536 ^ k + c → xK z (xw ad (va_up (cm ad ca (V, U, sc, ia, la)) (i + 1) (.inl (ca 0, 24, .inl (mx k (V i - V j) (V i))))) 187) 0 0 4 [(3, .int (nI k)), (2, .int (iz (-(c : Int)))), (0, .ref (ad i)), (1, .ref (ad j))] [] := by
    intro n
    induction n with
    | zero => intro k c h; exact absurd h (Nat.not_lt_zero _)
    | succ n ih =>
      intro k c hn hk hc hq
      obtain ⟨x, hx⟩ : ∃ x, x = V i / 65536 ^ k := ⟨_, rfl⟩
      obtain ⟨y, hy⟩ : ∃ y, y = V j / 65536 ^ k := ⟨_, rfl⟩
      obtain ⟨d, hd⟩ : ∃ d, d = (V i - V j) / 65536 ^ k := ⟨_, rfl⟩
      rw [← hx, ← hy, ← hd] at hq
      refine k_iload_n (pc := 4) C dX5_minus_4 rfl 0 rfl ?_
      refine k_bipush (pc := 5) (v := nI 24) C dX5_minus_5 (by decide) ?_
      refine k_icmp_ge (pc := 7) (tgt := 50) C dX5_minus_7 (by decide) (fun c7 => ?_) (fun c7 => ?_)
      · rw [q_le (by omega) (by omega)] at c7
        exact r_v (pc := 50) C E (by rw [show k = 24 by omega, mx_24, cm_upV hi]) dX5_minus_50
      · rw [q_le (by omega) (by omega)] at c7
        refine k_aload_n (pc := 10) C dX5_minus_10 rfl 2 rfl ?_
        refine gf_X5_9 (pc := 11) C (i) (Nat.lt_of_succ_lt (isW_lt hi)) (cm_w2 hi hi _) rfl dX5_minus_11 ?_
        refine k_iload_n (pc := 14) C dX5_minus_14 rfl 0 rfl ?_
        refine k_iald (pc := 15) C E (i + 1) (isW_lt hi) (up_s _ _) (k) rfl (by omega) (by decide) dX5_minus_15 ?_
        refine k_eqi (y := nI (x % 65536)) (by rw [mx_at (by omega), hx]) ?_
        refine k_aload_n (pc := 16) C dX5_minus_16 rfl 3 rfl ?_
        refine gf_X5_9 (pc := 17) C (j) (Nat.lt_of_succ_lt (isW_lt hj)) (cm_w2 hi hj _) rfl dX5_minus_17 ?_
        refine k_iload_n (pc := 20) C dX5_minus_20 rfl 0 rfl ?_
        refine k_iald (pc := 21) C E (j + 1) (isW_lt hj) (cm_l2 hj hij _) (k) rfl (by omega) (by decide) dX5_minus_21 ?_
        refine k_eqi (y := nI (y % 65536)) (by rw [dg_lt (by omega), hy]) ?_
        refine k_isub (pc := 22) C dX5_minus_22 ?_
        refine k_eqi (y := iz (((x % 65536 : Nat) : Int) - ((y % 65536 : Nat) : Int))) (iz_sub ((x % 65536 : Nat) : Int) ((y % 65536 : Nat) : Int)) ?_
        refine k_iload_n (pc := 23) C dX5_minus_23 rfl 1 rfl ?_
        refine k_iadd (pc := 24) C dX5_minus_24 ?_
        refine k_eqi (y := iz (((x % 65536 : Nat) : Int) - ((y % 65536 : Nat) : Int) + -(c : Int))) (iz_add _ _) ?_
        refine k_topi (fun lf elf => ?_)
        refine k_istore (pc := 25) (lv' := [(4, .int (lf)), (3, .int (nI k)), (2, .int (iz (-(c : Int)))), (0, .ref (ad (i))), (1, .ref (ad (j)))]) C dX5_minus_25 (by decide) rfl ?_
        refine k_aload_n (pc := 27) C dX5_minus_27 rfl 3 rfl ?_
        refine gf_X5_9 (pc := 28) C (i) (Nat.lt_of_succ_lt (isW_lt hi)) (cm_w2 hi hi _) rfl dX5_minus_28 ?_
        refine k_iload_n (pc := 31) C dX5_minus_31 rfl 1 rfl ?_
        refine k_iload (pc := 32) C dX5_minus_32 0 rfl ?_
        refine k_ldc (pc := 34) C kc_X5_22 dX5_minus_34 ?_
        refine k_eqi (y := nI 65535) rfl ?_
        refine k_iand (pc := 36) C dX5_minus_36 ?_
        refine k_eqi (y := nI (d % 65536)) (by rw [elf, iz_and]; congr 1; omega) ?_
        refine k_iast (pc := 37) C E (i + 1) (isW_lt hi) (up_s _ _) (k) rfl (by omega) (by decide) dX5_minus_37 ?_
        refine k_w (w' := xw ad (va_up (cm ad ca (V, U, sc, ia, la)) (i + 1) (.inl (ca 0, 24, .inl (mx (k + 1) (V i - V j) (V i))))) 187) (by rw [bx_uu, mx_up (by omega) (by rw [← hd])]) ?_
        refine k_iload (pc := 38) C dX5_minus_38 0 rfl ?_
        refine k_bipush (pc := 40) (v := nI 16) C dX5_minus_40 (by decide) ?_
        refine k_ishr (pc := 42) C dX5_minus_42 ?_
        refine k_eqi (y := iz (-((x / 65536 - y / 65536 - d / 65536 : Nat) : Int))) (by rw [elf, iz_shr (by omega) (by omega)]; congr 1; omega) ?_
        refine k_istore_n (pc := 43) (lv' := [(2, .int (iz (-((x / 65536 - y / 65536 - d / 65536 : Nat) : Int)))), (4, .int (lf)), (3, .int (nI k)), (0, .ref (ad (i))), (1, .ref (ad (j)))]) C dX5_minus_43 rfl (by decide) rfl ?_
        refine k_iinc (pc := 44) (v := nI (k + 1)) (lv' := [(3, .int (nI (k + 1))), (2, .int (iz (-((x / 65536 - y / 65536 - d / 65536 : Nat) : Int)))), (4, .int (lf)), (0, .ref (ad (i))), (1, .ref (ad (j)))]) C dX5_minus_44 (k := 2) rfl (nI_1 _) (by decide) rfl ?_
        refine k_goto (pc := 47) (tgt := 4) C dX5_minus_47 (by decide) ?_
        refine k_sub [0, 1, 3, 4] rfl ?_
        exact ih (k + 1) (x / 65536 - y / 65536 - d / 65536) (by omega) (by omega) (by omega) (by rw [dv_s, dv_s, dv_s, ← hx, ← hy, ← hd]; omega)
  refine k_iconst (pc := 0) (v := nI 0) C dX5_minus_0 (by decide) ?_
  refine k_istore_n (pc := 1) (lv' := [(2, .int (nI 0)), (0, .ref (ad (i))), (1, .ref (ad (j)))]) C dX5_minus_1 rfl (by decide) rfl ?_
  refine k_iconst (pc := 2) (v := nI 0) C dX5_minus_2 (by decide) ?_
  refine k_istore_n (pc := 3) (lv' := [(3, .int (nI 0)), (2, .int (nI 0)), (0, .ref (ad (i))), (1, .ref (ad (j)))]) C dX5_minus_3 rfl (by decide) rfl ?_
  have h0 := loop 25 0 0 (by decide) (by decide) (by decide) (by simp; omega)
  rw [mx_0, cm_self hi] at h0
  exact h0
end WA
