section WA
variable {l : Launch} {D : va_G} {ca : Nat → ClassId} {ad : Nat → Nat} {V U : Nat → Nat} {sc : Nat → Int32} {ia : Nat → Nat → Int32} {la : Nat → Nat → Int64}
/-- Wide.clear: the value is 0 -/
set_option maxHeartbeats 4000000 in
set_option maxRecDepth 100000 in
theorem c_clear {i : Nat} (hi : isW i) : xV l D (xty ca) yX5_clear cX5_clear 2 none 0 0 [.ref (ad i)] ad (cm ad ca (V, U, sc, ia, la)) (fun M' => M' = cm ad ca (va_up V i 0, U, sc, ia, la)) := by
  refine xM.of (by decide) (Nat.le_of_ble_eq_true rfl) (fun z C E => ?_)
  have loop : ∀ (n k : Nat), 24 - k < n → k ≤ 24 → xK z (xw ad (va_up (cm ad ca (V, U, sc, ia, la)) (i + 1) (.inl (ca 0, 24, .inl (mx k 0 (V i))))) 187) 0 0 2 [(1, .int (nI k)), (0, .ref (ad i))] [] := by
    intro n
    induction n with
    | zero => intro k h; exact absurd h (Nat.not_lt_zero _)
    | succ n ih =>
      intro k hn hk
      refine k_iload_n (pc := 2) C dX5_clear_2 rfl 0 rfl ?_
      refine k_bipush (pc := 3) (v := nI 24) C dX5_clear_3 (by decide) ?_
      refine k_icmp_ge (pc := 5) (tgt := 21) C dX5_clear_5 (by decide) (fun c5 => ?_) (fun c5 => ?_)
      · rw [q_le (by omega) (by omega)] at c5
        exact r_v (pc := 21) C E (by rw [show k = 24 by omega, mx_24, cm_upV hi]) dX5_clear_21
      · rw [q_le (by omega) (by omega)] at c5
        refine k_aload_n (pc := 8) C dX5_clear_8 rfl 1 rfl ?_
        refine gf_X5_9 (pc := 9) C (i) (Nat.lt_of_succ_lt (isW_lt hi)) (cm_w2 hi hi _) rfl dX5_clear_9 ?_
        refine k_iload_n (pc := 12) C dX5_clear_12 rfl 0 rfl ?_
        refine k_iconst (pc := 13) (v := nI 0) C dX5_clear_13 (by decide) ?_
        refine k_iast (pc := 14) C E (i + 1) (isW_lt hi) (up_s _ _) (k) rfl (by omega) (by decide) dX5_clear_14 ?_
        refine k_w (w' := xw ad (va_up (cm ad ca (V, U, sc, ia, la)) (i + 1) (.inl (ca 0, 24, .inl (mx (k + 1) 0 (V i))))) 187) (by rw [bx_uu, mx_up (y := 0) (by omega) (by simp)]) ?_
        refine k_iinc (pc := 15) (v := nI (k + 1)) (lv' := [(1, .int (nI (k + 1))), (0, .ref (ad (i)))]) C dX5_clear_15 (k := 0) rfl (nI_1 _) (by decide) rfl ?_
        refine k_goto (pc := 18) (tgt := 2) C dX5_clear_18 (by decide) ?_
        refine k_sub [0, 1] rfl ?_
        exact ih (k + 1) (by omega) (by omega)
  refine k_iconst (pc := 0) (v := nI 0) C dX5_clear_0 (by decide) ?_
  refine k_istore_n (pc := 1) (lv' := [(1, .int (nI 0)), (0, .ref (ad (i)))]) C dX5_clear_1 rfl (by decide) rfl ?_
  have h0 := loop 25 0 (by decide) (by decide)
  rw [mx_0, cm_self hi] at h0
  exact h0
/-- Wide.plus: the values together -/
set_option maxHeartbeats 4000000 in
set_option maxRecDepth 100000 in
theorem c_plus {i j : Nat} (hi : isW i) (hj : isW j) (hij : i ≠ j) : xV l D (xty ca) yX5_plus cX5_plus 5 none 0 0 [.ref (ad i), .ref (ad j)] ad (cm ad ca (V, U, sc, ia, la)) (fun M' => M' = cm ad ca (va_up V i (V i + V j), U, sc, ia, la)) := by
  refine xM.of (by decide) (Nat.le_of_ble_eq_true rfl) (fun z C E => ?_)
  have loop : ∀ (n k c : Nat), 24 - k < n → k ≤ 24 → c ≤ 1 → (V i + V j) / 65536 ^ k = V i / 65536 ^ k + V j / 65536 ^ k + c → xK z (xw ad (va_up (cm ad ca (V, U, sc, ia, la)) (i + 1) (.inl (ca 0, 24, .inl (mx k (V i + V j) (V i))))) 187) 0 0 4 [(3, .int (nI k)), (2, .int (nI c)), (0, .ref (ad i)), (1, .ref (ad j))] [] := by
    intro n
    induction n with
    | zero => intro k c h; exact absurd h (Nat.not_lt_zero _)
    | succ n ih =>
      intro k c hn hk hc hq
      obtain ⟨x, hx⟩ : ∃ x, x = V i / 65536 ^ k := ⟨_, rfl⟩
      obtain ⟨y, hy⟩ : ∃ y, y = V j / 65536 ^ k := ⟨_, rfl⟩
      rw [← hx, ← hy] at hq
      refine k_iload_n (pc := 4) C dX5_plus_4 rfl 0 rfl ?_
      refine k_bipush (pc := 5) (v := nI 24) C dX5_plus_5 (by decide) ?_
      refine k_icmp_ge (pc := 7) (tgt := 50) C dX5_plus_7 (by decide) (fun c7 => ?_) (fun c7 => ?_)
      · rw [q_le (by omega) (by omega)] at c7
        exact r_v (pc := 50) C E (by rw [show k = 24 by omega, mx_24, cm_upV hi]) dX5_plus_50
      · rw [q_le (by omega) (by omega)] at c7
        refine k_aload_n (pc := 10) C dX5_plus_10 rfl 2 rfl ?_
        refine gf_X5_9 (pc := 11) C (i) (Nat.lt_of_succ_lt (isW_lt hi)) (cm_w2 hi hi _) rfl dX5_plus_11 ?_
        refine k_iload_n (pc := 14) C dX5_plus_14 rfl 0 rfl ?_
        refine k_iald (pc := 15) C E (i + 1) (isW_lt hi) (up_s _ _) (k) rfl (by omega) (by decide) dX5_plus_15 ?_
        refine k_eqi (y := nI (x % 65536)) (by rw [mx_at (by omega), hx]) ?_
        refine k_aload_n (pc := 16) C dX5_plus_16 rfl 3 rfl ?_
        refine gf_X5_9 (pc := 17) C (j) (Nat.lt_of_succ_lt (isW_lt hj)) (cm_w2 hi hj _) rfl dX5_plus_17 ?_
        refine k_iload_n (pc := 20) C dX5_plus_20 rfl 0 rfl ?_
        refine k_iald (pc := 21) C E (j + 1) (isW_lt hj) (cm_l2 hj hij _) (k) rfl (by omega) (by decide) dX5_plus_21 ?_
        refine k_eqi (y := nI (y % 65536)) (by rw [dg_lt (by omega), hy]) ?_
        refine k_iadd (pc := 22) C dX5_plus_22 ?_
        refine k_eqi (y := nI (x % 65536 + y % 65536)) (nI_add _ _) ?_
        refine k_iload_n (pc := 23) C dX5_plus_23 rfl 1 rfl ?_
        refine k_iadd (pc := 24) C dX5_plus_24 ?_
        refine k_eqi (y := nI (x % 65536 + y % 65536 + c)) (nI_add _ _) ?_
        refine k_istore (pc := 25) (lv' := [(4, .int (nI (x % 65536 + y % 65536 + c))), (3, .int (nI k)), (2, .int (nI c)), (0, .ref (ad (i))), (1, .ref (ad (j)))]) C dX5_plus_25 (by decide) rfl ?_
        refine k_aload_n (pc := 27) C dX5_plus_27 rfl 3 rfl ?_
        refine gf_X5_9 (pc := 28) C (i) (Nat.lt_of_succ_lt (isW_lt hi)) (cm_w2 hi hi _) rfl dX5_plus_28 ?_
        refine k_iload_n (pc := 31) C dX5_plus_31 rfl 1 rfl ?_
        refine k_iload (pc := 32) C dX5_plus_32 0 rfl ?_
        refine k_ldc (pc := 34) C kc_X5_22 dX5_plus_34 ?_
        refine k_eqi (y := nI 65535) rfl ?_
        refine k_iand (pc := 36) C dX5_plus_36 ?_
        refine k_eqi (y := nI ((x % 65536 + y % 65536 + c) % 65536)) (and16 (by omega)) ?_
        refine k_iast (pc := 37) C E (i + 1) (isW_lt hi) (up_s _ _) (k) rfl (by omega) (by decide) dX5_plus_37 ?_
        refine k_w (w' := xw ad (va_up (cm ad ca (V, U, sc, ia, la)) (i + 1) (.inl (ca 0, 24, .inl (mx (k + 1) (V i + V j) (V i))))) 187) (by rw [bx_uu, mx_up (by omega) (by rw [hq]; omega)]) ?_
        refine k_iload (pc := 38) C dX5_plus_38 0 rfl ?_
        refine k_bipush (pc := 40) (v := nI 16) C dX5_plus_40 (by decide) ?_
        refine k_iushr (pc := 42) C dX5_plus_42 rfl ?_
        refine k_eqi (y := nI ((x % 65536 + y % 65536 + c) / 65536)) (ush16 (by omega)) ?_
        refine k_istore_n (pc := 43) (lv' := [(2, .int (nI ((x % 65536 + y % 65536 + c) / 65536))), (4, .int (nI (x % 65536 + y % 65536 + c))), (3, .int (nI k)), (0, .ref (ad (i))), (1, .ref (ad (j)))]) C dX5_plus_43 rfl (by decide) rfl ?_
        refine k_iinc (pc := 44) (v := nI (k + 1)) (lv' := [(3, .int (nI (k + 1))), (2, .int (nI ((x % 65536 + y % 65536 + c) / 65536))), (4, .int (nI (x % 65536 + y % 65536 + c))), (0, .ref (ad (i))), (1, .ref (ad (j)))]) C dX5_plus_44 (k := 2) rfl (nI_1 _) (by decide) rfl ?_
        refine k_goto (pc := 47) (tgt := 4) C dX5_plus_47 (by decide) ?_
        refine k_sub [0, 1, 3, 4] rfl ?_
        exact ih (k + 1) ((x % 65536 + y % 65536 + c) / 65536) (by omega) (by omega) (by omega) (by rw [dv_s, dv_s, dv_s, ← hx, ← hy, hq]; omega)
  refine k_iconst (pc := 0) (v := nI 0) C dX5_plus_0 (by decide) ?_
  refine k_istore_n (pc := 1) (lv' := [(2, .int (nI 0)), (0, .ref (ad (i))), (1, .ref (ad (j)))]) C dX5_plus_1 rfl (by decide) rfl ?_
  refine k_iconst (pc := 2) (v := nI 0) C dX5_plus_2 (by decide) ?_
  refine k_istore_n (pc := 3) (lv' := [(3, .int (nI 0)), (2, .int (nI 0)), (0, .ref (ad (i))), (1, .ref (ad (j)))]) C dX5_plus_3 rfl (by decide) rfl ?_
  have h0 := loop 25 0 0 (by decide) (by decide) (by decide) (by simp)
  rw [mx_0, cm_self hi] at h0
  exact h0
end WA
