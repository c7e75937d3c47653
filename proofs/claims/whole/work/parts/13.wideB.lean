section WB
variable {l : Launch} {D : va_G} {ca : Nat → ClassId} {ad : Nat → Nat} {V U : Nat → Nat} {sc : Nat → Int32} {ia : Nat → Nat → Int32} {la : Nat → Nat → Int64}
set_option maxHeartbeats 4000000 in
set_option maxRecDepth 100000 in
/-- Wide.scale -/
theorem c_scale {i p q : Nat} (hi : isW i) (hp : p < 2147483648) (hq0 : q < 2147483648) : xV l D (xty ca) yX5_scale cX5_scale 8 none 0 0 [.ref (ad i), .int (nI p), .int (nI q)] ad (cm ad ca (V, U, sc, ia, la)) (fun M' => M' = cm ad ca (va_up V i (V i * p + q), U, sc, ia, la)) := by
  refine xM.of (by decide) (Nat.le_of_ble_eq_true rfl) (fun z C E => ?_)
  have loop : ∀ (n k c : Nat), 24 - k < n → k ≤ 24 → c < 2147483648 → (V i * p + q) / 65536 ^ k = V i / 65536 ^ k * p + c → xK z (xw ad (cm ad ca (va_up V i (bl k (V i * p + q) (V i)), U, sc, ia, la)) 187) 0 0 6 [(5, .int (nI k)), (3, .long (lN c)), (0, .ref (ad i)), (1, .int (nI p))] [] := by
    intro n
    induction n with
    | zero => intro k c h; exact absurd h (Nat.not_lt_zero _)
    | succ n ih =>
      intro k c hn hk hc hq
      obtain ⟨x, hx⟩ : ∃ x, x = V i / 65536 ^ k := ⟨_, rfl⟩
      rw [← hx] at hq
      have hT : x % 65536 * p ≤ 65535 * p := Nat.mul_le_mul_right _ (by omega)
      have hM := mulsplit x p
      refine k_iload (pc := 6) C dX5_scale_6 0 rfl ?_
      refine k_bipush (pc := 8) (v := nI 24) C dX5_scale_8 (by decide) ?_
      refine k_icmp_ge (pc := 10) (tgt := 53) C dX5_scale_10 (by decide) (fun c10 => ?_) (fun c10 => ?_)
      · rw [q_le (by omega) (by omega)] at c10
        exact r_v (pc := 53) C E (by rw [show k = 24 by omega]; exact cm_ext hi (bl_24 _ _)) dX5_scale_53
      · rw [q_le (by omega) (by omega)] at c10
        refine k_aload_n (pc := 13) C dX5_scale_13 rfl 2 rfl ?_
        refine gf_X5_9 (pc := 14) C (i) (Nat.lt_of_succ_lt (isW_lt hi)) (cm_w hi) rfl dX5_scale_14 ?_
        refine k_iload (pc := 17) C dX5_scale_17 0 rfl ?_
        refine k_iald (pc := 19) C E (i + 1) (isW_lt hi) (cm_lu hi) (k) rfl (by omega) (by decide) dX5_scale_19 ?_
        refine k_eqi (y := nI (x % 65536)) (by rw [dg_lt (by omega), bl_hi (Nat.le_refl _), hx]) ?_
        refine k_i2l (pc := 20) C dX5_scale_20 rfl ?_
        refine k_eql (y := lN (x % 65536)) (nI_l (by omega)) ?_
        refine k_iload_n (pc := 21) C dX5_scale_21 rfl 3 rfl ?_
        refine k_i2l (pc := 22) C dX5_scale_22 rfl ?_
        refine k_eql (y := lN p) (nI_l hp) ?_
        refine k_lmul (pc := 23) C dX5_scale_23 ?_
        refine k_eql (y := lN (x % 65536 * p)) (lN_mul _ _) ?_
        refine k_lload_n (pc := 24) C dX5_scale_24 rfl 1 rfl ?_
        refine k_ladd (pc := 25) C dX5_scale_25 ?_
        refine k_eql (y := lN (x % 65536 * p + c)) (lN_add _ _) ?_
        refine k_topl (fun sv esv => ?_)
        refine k_lstore (pc := 26) (lv' := [(6, .long (sv)), (5, .int (nI k)), (3, .long (lN c)), (0, .ref (ad (i))), (1, .int (nI p))]) C dX5_scale_26 (by decide) rfl ?_
        refine k_aload_n (pc := 28) C dX5_scale_28 rfl 3 rfl ?_
        refine gf_X5_9 (pc := 29) C (i) (Nat.lt_of_succ_lt (isW_lt hi)) (cm_w hi) rfl dX5_scale_29 ?_
        refine k_iload (pc := 32) C dX5_scale_32 1 rfl ?_
        refine k_lload (pc := 34) C dX5_scale_34 0 rfl ?_
        refine k_l2i (pc := 36) C dX5_scale_36 rfl ?_
        refine k_eqi (y := nI (x % 65536 * p + c)) (by rw [esv]; exact lN_i _) ?_
        refine k_ldc (pc := 37) C kc_X5_22 dX5_scale_37 ?_
        refine k_eqi (y := nI 65535) rfl ?_
        refine k_iand (pc := 39) C dX5_scale_39 ?_
        refine k_eqi (y := nI ((x % 65536 * p + c) % 65536)) (and16' _) ?_
        refine k_iast (pc := 40) C E (i + 1) (isW_lt hi) (cm_lu hi) (k) rfl (by omega) (by decide) dX5_scale_40 ?_
        refine k_w (w' := xw ad (cm ad ca (va_up V i (bl (k + 1) (V i * p + q) (V i)), U, sc, ia, la)) 187) (by rw [bl_upd (by omega) (by rw [hq]; omega), cm_st hi]) ?_
        refine k_lload (pc := 41) C dX5_scale_41 0 rfl ?_
        refine k_bipush (pc := 43) (v := nI 16) C dX5_scale_43 (by decide) ?_
        refine k_lushr (pc := 45) C dX5_scale_45 rfl ?_
        refine k_eql (y := lN ((x % 65536 * p + c) / 65536)) (by rw [esv]; exact wb_shr (n := x % 65536 * p + c) (k := 16) (by omega) (by decide)) ?_
        refine k_lstore_n (pc := 46) (lv' := [(3, .long (lN ((x % 65536 * p + c) / 65536))), (6, .long (sv)), (5, .int (nI k)), (0, .ref (ad (i))), (1, .int (nI p))]) C dX5_scale_46 rfl (by decide) rfl ?_
        refine k_iinc (pc := 47) (v := nI (k + 1)) (lv' := [(5, .int (nI (k + 1))), (3, .long (lN ((x % 65536 * p + c) / 65536))), (6, .long (sv)), (0, .ref (ad (i))), (1, .int (nI p))]) C dX5_scale_47 (k := 2) rfl (nI_1 _) (by decide) rfl ?_
        refine k_goto (pc := 50) (tgt := 6) C dX5_scale_50 (by decide) ?_
        refine k_sub [0, 1, 3, 4] rfl ?_
        exact ih (k + 1) ((x % 65536 * p + c) / 65536) (by omega) (by omega) (by omega) (by rw [dv_s, dv_s, ← hx, hq]; omega)
  refine k_iload_n (pc := 0) C dX5_scale_0 rfl 2 rfl ?_
  refine k_i2l (pc := 1) C dX5_scale_1 rfl ?_
  refine k_eql (y := lN q) (nI_l hq0) ?_
  refine k_lstore_n (pc := 2) (lv' := [(3, .long (lN q)), (0, .ref (ad (i))), (1, .int (nI p)), (2, .int (nI q))]) C dX5_scale_2 rfl (by decide) rfl ?_
  refine k_iconst (pc := 3) (v := nI 0) C dX5_scale_3 (by decide) ?_
  refine k_istore (pc := 4) (lv' := [(5, .int (nI 0)), (3, .long (lN q)), (0, .ref (ad (i))), (1, .int (nI p)), (2, .int (nI q))]) C dX5_scale_4 (by decide) rfl ?_
  refine k_sub [0, 1, 2, 3] rfl ?_
  have h0 := loop 25 0 q (by decide) (by decide) hq0 (by simp)
  rw [bl_0, up_self] at h0
  exact h0
set_option maxHeartbeats 4000000 in
set_option maxRecDepth 100000 in
/-- Wide.increment -/
theorem c_increment {i : Nat} (hi : isW i) : xV l D (xty ca) yX5_increment cX5_increment 1 none 1 27 [.ref (ad i)] ad (cm ad ca (V, U, sc, ia, la)) (fun M' => M' = cm ad ca (va_up V i (V i + 1), U, sc, ia, la)) := by
  refine xM.of (by decide) (Nat.le_of_ble_eq_true rfl) (fun z C E => ?_)
  refine k_aload_n (pc := 0) C dX5_increment_0 rfl 0 rfl ?_
  refine k_iconst (pc := 1) (v := nI 1) C dX5_increment_1 (by decide) ?_
  refine k_iconst (pc := 2) (v := nI 1) C dX5_increment_2 (by decide) ?_
  refine cv_X5_35 (pc := 3) C E (c_scale hi (p := 1) (q := 1) (by decide) (by decide)) rfl (Nat.lt_of_succ_lt (isW_lt hi)) (cm_w hi) (by decide) rfl (Nat.le_of_ble_eq_true rfl) dX5_increment_3 (fun M3 h3 => ?_)
  subst h3
  exact r_v (pc := 6) C E (by rw [Nat.mul_one]) dX5_increment_6
set_option maxHeartbeats 4000000 in
set_option maxRecDepth 100000 in
/-- Wide.shrink -/
theorem c_shrink {i b : Nat} (hi : isW i) (hb : V i < 65536 ^ 24) (hb0 : 0 < b) (hb1 : b < 65536) : xI l D (xty ca) yX5_shrink cX5_shrink 5 (some .int) 1 21 [.ref (ad i), .int (nI b)] ad (cm ad ca (V, U, sc, ia, la)) (fun r M' => M' = cm ad ca (va_up V i (V i / b), U, sc, ia, la) ∧ r = nI (V i % b)) := by
  refine xM.of (by decide) (Nat.le_of_ble_eq_true rfl) (fun z C E => ?_)
  have loop : ∀ c : Nat, c ≤ 24 → xK z (xw ad (cm ad ca (va_up V i (bl c (V i) (V i / b)), U, sc, ia, la)) 187) 0 0 16 [(4, .int (iz ((c : Int) - 1))), (2, .long (lN (V i / 65536 ^ c % b))), (0, .ref (ad i)), (1, .int (nI b))] [] := by
    intro c
    induction c with
    | zero =>
      intro hc
      refine k_iload (pc := 16) C dX5_shrink_16 0 rfl ?_
      refine k_if_lt (pc := 18) (tgt := 58) C dX5_shrink_18 (by decide) (fun c18 => ?_) (fun c18 => ?_)
      · rw [iz_lt0 (by omega) (by omega)] at c18
        refine k_lload_n (pc := 58) C dX5_shrink_58 rfl 1 rfl ?_
        refine k_l2i (pc := 59) C dX5_shrink_59 rfl ?_
        refine k_eqi (y := nI (V i / 65536 ^ 0 % b)) (lN_i _) ?_
        exact r_i (pc := 60) C E (⟨by rw [bl_0], by rw [Nat.pow_zero, Nat.div_one]⟩) dX5_shrink_60
      · rw [iz_lt0 (by omega) (by omega)] at c18
        exact absurd (by decide) c18
    | succ c ih =>
      intro hc
      obtain ⟨x, hx⟩ : ∃ x, x = V i / 65536 ^ c := ⟨_, rfl⟩
      rw [dv_s, ← hx]
      obtain ⟨s1, s2, s3⟩ := shr_step x b hb0
      have s4 : x / 65536 % b < b := Nat.mod_lt _ hb0
      have s5 : V i / b / 65536 ^ c = x / b := by rw [hx, Nat.div_div_eq_div_mul, Nat.div_div_eq_div_mul, Nat.mul_comm]
      refine k_iload (pc := 16) C dX5_shrink_16 0 rfl ?_
      refine k_if_lt (pc := 18) (tgt := 58) C dX5_shrink_18 (by decide) (fun c18 => ?_) (fun c18 => ?_)
      · rw [iz_lt0 (by omega) (by omega)] at c18
        exact absurd c18 (by omega)
      · rw [iz_lt0 (by omega) (by omega)] at c18
        refine k_lload_n (pc := 21) C dX5_shrink_21 rfl 1 rfl ?_
        refine k_bipush (pc := 22) (v := nI 16) C dX5_shrink_22 (by decide) ?_
        refine k_lshl (pc := 24) C dX5_shrink_24 rfl ?_
        refine k_eql (y := lN (x / 65536 % b * 65536)) (wb_shl (x / 65536 % b) (k := 16) (by decide)) ?_
        refine k_aload_n (pc := 25) C dX5_shrink_25 rfl 2 rfl ?_
        refine gf_X5_9 (pc := 26) C (i) (Nat.lt_of_succ_lt (isW_lt hi)) (cm_w hi) rfl dX5_shrink_26 ?_
        refine k_iload (pc := 29) C dX5_shrink_29 0 rfl ?_
        refine k_iald (pc := 31) C E (i + 1) (isW_lt hi) (cm_lu hi) (c) (iz_pos (t := ((c + 1 : Nat) : Int) - 1) (by omega) |>.trans (congrArg nI (by omega))) (by omega) (by decide) dX5_shrink_31 ?_
        refine k_eqi (y := nI (x % 65536)) (by rw [dg_lt (by omega), bl_lo (Nat.lt_succ_self c), hx]) ?_
        refine k_i2l (pc := 32) C dX5_shrink_32 rfl ?_
        refine k_eql (y := lN (x % 65536)) (nI_l (by omega)) ?_
        refine k_lor (pc := 33) C dX5_shrink_33 ?_
        refine k_eql (y := lN (x / 65536 % b * 65536 + x % 65536)) (g_or (k := 16) (p := 65536) rfl (by omega) (by omega)) ?_
        refine k_topl (fun lf elf => ?_)
        refine k_lstore_n (pc := 34) (lv' := [(2, .long (lf)), (4, .int (iz (((c + 1 : Nat) : Int) - 1))), (0, .ref (ad (i))), (1, .int (nI b))]) C dX5_shrink_34 rfl (by decide) rfl ?_
        refine k_aload_n (pc := 35) C dX5_shrink_35 rfl 2 rfl ?_
        refine gf_X5_9 (pc := 36) C (i) (Nat.lt_of_succ_lt (isW_lt hi)) (cm_w hi) rfl dX5_shrink_36 ?_
        refine k_iload (pc := 39) C dX5_shrink_39 1 rfl ?_
        refine k_lload_n (pc := 41) C dX5_shrink_41 rfl 0 rfl ?_
        refine k_iload_n (pc := 42) C dX5_shrink_42 rfl 3 rfl ?_
        refine k_i2l (pc := 43) C dX5_shrink_43 rfl ?_
        refine k_eql (y := lN b) (nI_l (by omega)) ?_
        refine k_ldiv (pc := 44) C dX5_shrink_44 (lN_ne0 hb0 (by omega)) ?_
        refine k_eql (y := lN ((x / 65536 % b * 65536 + x % 65536) / b)) (by rw [elf]; exact pk_lDiv (by omega) hb0 (by omega)) ?_
        refine k_l2i (pc := 45) C dX5_shrink_45 rfl ?_
        refine k_eqi (y := nI ((x / 65536 % b * 65536 + x % 65536) / b)) (lN_i _) ?_
        refine k_iast (pc := 46) C E (i + 1) (isW_lt hi) (cm_lu hi) (c) (iz_pos (t := ((c + 1 : Nat) : Int) - 1) (by omega) |>.trans (congrArg nI (by omega))) (by omega) (by decide) dX5_shrink_46 ?_
        refine k_w (w' := xw ad (cm ad ca (va_up V i (bl c (V i) (V i / b)), U, sc, ia, la)) 187) (by rw [bl_dnd (by omega) (by rw [s5, s1, Nat.mul_add_mod, Nat.mod_eq_of_lt s3]), cm_st hi]) ?_
        refine k_lload_n (pc := 47) C dX5_shrink_47 rfl 0 rfl ?_
        refine k_iload_n (pc := 48) C dX5_shrink_48 rfl 3 rfl ?_
        refine k_i2l (pc := 49) C dX5_shrink_49 rfl ?_
        refine k_eql (y := lN b) (nI_l (by omega)) ?_
        refine k_lrem (pc := 50) C dX5_shrink_50 (lN_ne0 hb0 (by omega)) ?_
        refine k_eql (y := lN (x % b)) (by rw [elf, s2]; exact pk_lRem (by omega) hb0 (by omega)) ?_
        refine k_lstore_n (pc := 51) (lv' := [(2, .long (lN (x % b))), (4, .int (iz (((c + 1 : Nat) : Int) - 1))), (0, .ref (ad (i))), (1, .int (nI b))]) C dX5_shrink_51 rfl (by decide) rfl ?_
        refine k_iinc (pc := 52) (v := iz ((c : Int) - 1)) (lv' := [(4, .int (iz ((c : Int) - 1))), (2, .long (lN (x % b))), (0, .ref (ad (i))), (1, .int (nI b))]) C dX5_shrink_52 (k := 1) rfl (show iz (((c + 1 : Nat) : Int) - 1) + iz (-1) = _ by rw [iz_add]; congr 1; omega) (by decide) rfl ?_
        refine k_goto (pc := 55) (tgt := 16) C dX5_shrink_55 (by decide) ?_
        refine k_sub [0, 1, 2, 3] rfl ?_
        have h9 := ih (by omega)
        rw [← hx] at h9
        exact h9
  refine k_iload_n (pc := 0) C dX5_shrink_0 rfl 1 rfl ?_
  refine k_if_gt (pc := 1) (tgt := 6) C dX5_shrink_1 (by decide) (fun c1 => ?_) (fun c1 => ?_)
  · refine k_lconst (pc := 6) (v := lN 0) C dX5_shrink_6 (by decide) ?_
    refine k_lstore_n (pc := 7) (lv' := [(2, .long (lN 0)), (0, .ref (ad (i))), (1, .int (nI b))]) C dX5_shrink_7 rfl (by decide) rfl ?_
    refine k_aload_n (pc := 8) C dX5_shrink_8 rfl 1 rfl ?_
    refine cv_X5_31 (pc := 9) C E (c_used hi hb) rfl (Nat.lt_of_succ_lt (isW_lt hi)) (cm_w hi) (by decide) rfl (Nat.le_of_ble_eq_true rfl) dX5_shrink_9 (fun r9 M9 h9 => ?_)
    obtain ⟨rfl, u, hu, rfl, h1, h2⟩ := h9
    refine k_iconst (pc := 12) (v := nI 1) C dX5_shrink_12 (by decide) ?_
    refine k_isub (pc := 13) C dX5_shrink_13 ?_
    refine k_eqi (y := iz ((u : Int) - 1)) (iz_sub (u : Int) ((1 : Nat) : Int)) ?_
    refine k_istore (pc := 14) (lv' := [(4, .int (iz ((u : Int) - 1))), (2, .long (lN 0)), (0, .ref (ad (i))), (1, .int (nI b))]) C dX5_shrink_14 (by decide) rfl ?_
    refine k_sub [0, 1, 2, 3] rfl ?_
    have h0 := loop u hu
    rw [bl_top h1 (Nat.lt_of_le_of_lt (Nat.div_le_self _ _) h1), up_self, Nat.div_eq_of_lt h1, Nat.zero_mod] at h0
    exact h0
  · exact absurd (show (0 : Int32) < nI b from nI_lt (a := 0) hb0 (by omega)) c1
set_option maxHeartbeats 4000000 in
set_option maxRecDepth 100000 in
/-- Wide.setLong of 0 or more -/
theorem c_setLong {i a : Nat} (hi : isW i) (ha : a < 9223372036854775808) : xV l D (xty ca) yX5_setLong cX5_setLong 4 none 1 21 [.ref (ad i), .long (lN a)] ad (cm ad ca (V, U, sc, ia, la)) (fun M' => M' = cm ad ca (va_up V i a, U, sc, ia, la)) := by
  refine xM.of (by decide) (Nat.le_of_ble_eq_true rfl) (fun z C E => ?_)
  have loop : ∀ (n k : Nat), 4 - k < n → k ≤ 4 → xK z (xw ad (cm ad ca (va_up V i (bl k a 0), U, sc, ia, la)) 187) 0 0 6 [(3, .int (nI k)), (0, .ref (ad i)), (1, .long (lN a))] [] := by
    intro n
    induction n with
    | zero => intro k h; exact absurd h (Nat.not_lt_zero _)
    | succ n ih =>
      intro k hn hk
      refine k_iload_n (pc := 6) C dX5_setLong_6 rfl 0 rfl ?_
      refine k_iconst (pc := 7) (v := nI 4) C dX5_setLong_7 (by decide) ?_
      refine k_icmp_ge (pc := 8) (tgt := 33) C dX5_setLong_8 (by decide) (fun c8 => ?_) (fun c8 => ?_)
      · rw [q_le (by omega) (by omega)] at c8
        exact r_v (pc := 33) C E (by rw [show k = 4 by omega, bl_top (by omega) (by decide)]) dX5_setLong_33
      · rw [q_le (by omega) (by omega)] at c8
        refine k_aload_n (pc := 11) C dX5_setLong_11 rfl 1 rfl ?_
        refine gf_X5_9 (pc := 12) C (i) (Nat.lt_of_succ_lt (isW_lt hi)) (cm_w hi) rfl dX5_setLong_12 ?_
        refine k_iload_n (pc := 15) C dX5_setLong_15 rfl 0 rfl ?_
        refine k_lload_n (pc := 16) C dX5_setLong_16 rfl 2 rfl ?_
        refine k_bipush (pc := 17) (v := nI 16) C dX5_setLong_17 (by decide) ?_
        refine k_iload_n (pc := 19) C dX5_setLong_19 rfl 0 rfl ?_
        refine k_imul (pc := 20) C dX5_setLong_20 ?_
        refine k_eqi (y := nI (16 * k)) (pk_mul _ _) ?_
        refine k_lushr (pc := 21) C dX5_setLong_21 rfl ?_
        refine k_eql (y := lN (a / 2 ^ (16 * k))) (wb_shr (n := a) (k := 16 * k) (by omega) (by omega)) ?_
        refine k_l2i (pc := 22) C dX5_setLong_22 rfl ?_
        refine k_eqi (y := nI (a / 2 ^ (16 * k))) (lN_i _) ?_
        refine k_ldc (pc := 23) C kc_X5_22 dX5_setLong_23 ?_
        refine k_eqi (y := nI 65535) rfl ?_
        refine k_iand (pc := 25) C dX5_setLong_25 ?_
        refine k_eqi (y := nI (a / 2 ^ (16 * k) % 65536)) (and16' _) ?_
        refine k_iast (pc := 26) C E (i + 1) (isW_lt hi) (cm_lu hi) (k) rfl (by omega) (by decide) dX5_setLong_26 ?_
        refine k_w (w' := xw ad (cm ad ca (va_up V i (bl (k + 1) a 0), U, sc, ia, la)) 187) (by rw [bl_upd (by omega) (by rw [Nat.pow_mul]), cm_st hi]) ?_
        refine k_iinc (pc := 27) (v := nI (k + 1)) (lv' := [(3, .int (nI (k + 1))), (0, .ref (ad (i))), (1, .long (lN a))]) C dX5_setLong_27 (k := 0) rfl (nI_1 _) (by decide) rfl ?_
        refine k_goto (pc := 30) (tgt := 6) C dX5_setLong_30 (by decide) ?_
        refine k_sub [0, 1, 2] rfl ?_
        exact ih (k + 1) (by omega) (by omega)
  refine k_aload_n (pc := 0) C dX5_setLong_0 rfl 0 rfl ?_
  refine cv_X5_19 (pc := 1) C E (c_clear hi) rfl (Nat.lt_of_succ_lt (isW_lt hi)) (cm_w hi) (by decide) rfl (Nat.le_of_ble_eq_true rfl) dX5_setLong_1 (fun M1 h1 => ?_)
  subst h1
  refine k_iconst (pc := 4) (v := nI 0) C dX5_setLong_4 (by decide) ?_
  refine k_istore_n (pc := 5) (lv' := [(3, .int (nI 0)), (0, .ref (ad (i))), (1, .long (lN a))]) C dX5_setLong_5 rfl (by decide) rfl ?_
  refine k_sub [0, 1, 2] rfl ?_
  have h0 := loop 5 0 (by decide) (by decide)
  rw [bl_0] at h0
  exact h0
set_option maxHeartbeats 4000000 in
set_option maxRecDepth 100000 in
/-- Wide.bits32 -/
theorem c_bits32 {i k : Nat} (hi : isW i) (hb : V i < 65536 ^ 24) (hk : k < 8) : xL l D (xty ca) yX5_bits32 cX5_bits32 2 (some .long) 1 21 [.ref (ad i), .int (nI k)] ad (cm ad ca (V, U, sc, ia, la)) (fun r M' => M' = cm ad ca (V, U, sc, ia, la) ∧ r = lN (V i / 4294967296 ^ k % 4294967296)) := by
  refine xM.of (by decide) (Nat.le_of_ble_eq_true rfl) (fun z C E => ?_)
  obtain ⟨x, hx⟩ : ∃ x, x = V i / 65536 ^ (2 * k) := ⟨_, rfl⟩
  have hx2 : V i / 4294967296 ^ k = x := by rw [hx, Nat.pow_mul]
  refine k_aload_n (pc := 0) C dX5_bits32_0 rfl 0 rfl ?_
  refine k_iconst (pc := 1) (v := nI 2) C dX5_bits32_1 (by decide) ?_
  refine k_iload_n (pc := 2) C dX5_bits32_2 rfl 1 rfl ?_
  refine k_imul (pc := 3) C dX5_bits32_3 ?_
  refine k_eqi (y := nI (2 * k)) (pk_mul _ _) ?_
  refine k_iconst (pc := 4) (v := nI 1) C dX5_bits32_4 (by decide) ?_
  refine k_iadd (pc := 5) C dX5_bits32_5 ?_
  refine k_eqi (y := nI (2 * k + 1)) (nI_add _ _) ?_
  refine cv_X5_27 (pc := 6) C E (c_limbAt hi (k := 2 * k + 1) (by omega) hb) rfl (Nat.lt_of_succ_lt (isW_lt hi)) (cm_w hi) (by decide) rfl (Nat.le_of_ble_eq_true rfl) dX5_bits32_6 (fun r6 M6 h6 => ?_)
  obtain ⟨rfl, rfl⟩ := h6
  rw [dv_s, ← hx]
  refine k_i2l (pc := 9) C dX5_bits32_9 rfl ?_
  refine k_eql (y := lN (x / 65536 % 65536)) (nI_l (by omega)) ?_
  refine k_bipush (pc := 10) (v := nI 16) C dX5_bits32_10 (by decide) ?_
  refine k_lshl (pc := 12) C dX5_bits32_12 rfl ?_
  refine k_eql (y := lN (x / 65536 % 65536 * 65536)) (wb_shl (x / 65536 % 65536) (k := 16) (by decide)) ?_
  refine k_aload_n (pc := 13) C dX5_bits32_13 rfl 0 rfl ?_
  refine k_iconst (pc := 14) (v := nI 2) C dX5_bits32_14 (by decide) ?_
  refine k_iload_n (pc := 15) C dX5_bits32_15 rfl 1 rfl ?_
  refine k_imul (pc := 16) C dX5_bits32_16 ?_
  refine k_eqi (y := nI (2 * k)) (pk_mul _ _) ?_
  refine cv_X5_27 (pc := 17) C E (c_limbAt hi (k := 2 * k) (by omega) hb) rfl (Nat.lt_of_succ_lt (isW_lt hi)) (cm_w hi) (by decide) rfl (Nat.le_of_ble_eq_true rfl) dX5_bits32_17 (fun r17 M17 h17 => ?_)
  obtain ⟨rfl, rfl⟩ := h17
  rw [← hx]
  refine k_i2l (pc := 20) C dX5_bits32_20 rfl ?_
  refine k_eql (y := lN (x % 65536)) (nI_l (by omega)) ?_
  refine k_lor (pc := 21) C dX5_bits32_21 ?_
  refine k_eql (y := lN (x / 65536 % 65536 * 65536 + x % 65536)) (g_or (k := 16) (p := 65536) rfl (by omega) (by omega)) ?_
  exact r_l (pc := 22) C E (⟨rfl, by rw [hx2]; congr 1; omega⟩) dX5_bits32_22
set_option maxHeartbeats 4000000 in
set_option maxRecDepth 100000 in
/-- Wide.lowestLong -/
theorem c_lowest {i : Nat} (hi : isW i) (hb : V i < 65536 ^ 24) : xL l D (xty ca) yX5_lowestLong cX5_lowestLong 1 (some .long) 2 42 [.ref (ad i)] ad (cm ad ca (V, U, sc, ia, la)) (fun r M' => M' = cm ad ca (V, U, sc, ia, la) ∧ r = lN (V i % 18446744073709551616)) := by
  refine xM.of (by decide) (Nat.le_of_ble_eq_true rfl) (fun z C E => ?_)
  refine k_aload_n (pc := 0) C dX5_lowestLong_0 rfl 0 rfl ?_
  refine k_iconst (pc := 1) (v := nI 1) C dX5_lowestLong_1 (by decide) ?_
  refine cv_X5_23 (pc := 2) C E (c_bits32 hi (k := 1) hb (by decide)) rfl (Nat.lt_of_succ_lt (isW_lt hi)) (cm_w hi) (by decide) rfl (Nat.le_of_ble_eq_true rfl) dX5_lowestLong_2 (fun r2 M2 h2 => ?_)
  obtain ⟨rfl, rfl⟩ := h2
  refine k_bipush (pc := 5) (v := nI 32) C dX5_lowestLong_5 (by decide) ?_
  refine k_lshl (pc := 7) C dX5_lowestLong_7 rfl ?_
  refine k_eql (y := lN (V i / 4294967296 ^ 1 % 4294967296 * 4294967296)) (wb_shl (V i / 4294967296 ^ 1 % 4294967296) (k := 32) (by decide)) ?_
  refine k_aload_n (pc := 8) C dX5_lowestLong_8 rfl 0 rfl ?_
  refine k_iconst (pc := 9) (v := nI 0) C dX5_lowestLong_9 (by decide) ?_
  refine cv_X5_23 (pc := 10) C E (c_bits32 hi (k := 0) hb (by decide)) rfl (Nat.lt_of_succ_lt (isW_lt hi)) (cm_w hi) (by decide) rfl (Nat.le_of_ble_eq_true rfl) dX5_lowestLong_10 (fun r10 M10 h10 => ?_)
  obtain ⟨rfl, rfl⟩ := h10
  refine k_lor (pc := 13) C dX5_lowestLong_13 ?_
  refine k_eql (y := lN (V i / 4294967296 ^ 1 % 4294967296 * 4294967296 + V i / 4294967296 ^ 0 % 4294967296)) (g_or (k := 32) (p := 4294967296) rfl (by omega) (by omega)) ?_
  exact r_l (pc := 14) C E (⟨rfl, by congr 1; omega⟩) dX5_lowestLong_14
set_option maxHeartbeats 4000000 in
set_option maxRecDepth 100000 in
/-- Wide.product -/
theorem c_product {i ja jb : Nat} (hi : isW i) (hja : isW ja) (hjb : isW jb) (hia : i ≠ ja) (hib : i ≠ jb) (hba : V ja < 65536 ^ 24) (hbb : V jb < 65536 ^ 24) : xV l D (xty ca) yX5_product cX5_product 11 none 1 21 [.ref (ad i), .ref (ad ja), .ref (ad jb)] ad (cm ad ca (V, U, sc, ia, la)) (fun M' => M' = cm ad ca (va_up V i (V ja * V jb), U, sc, ia, la)) := by
  refine xM.of (by decide) (Nat.le_of_ble_eq_true rfl) (fun z C E => ?_)
  refine k_aload_n (pc := 0) C dX5_product_0 rfl 0 rfl ?_
  refine cv_X5_19 (pc := 1) C E (c_clear hi) rfl (Nat.lt_of_succ_lt (isW_lt hi)) (cm_w hi) (by decide) rfl (Nat.le_of_ble_eq_true rfl) dX5_product_1 (fun M1 h1 => ?_)
  subst h1
  refine k_aload_n (pc := 4) C dX5_product_4 rfl 1 rfl ?_
  refine cv_X5_31 (pc := 5) C E (c_used hja (by rw [upn hia]; exact hba)) rfl (Nat.lt_of_succ_lt (isW_lt hja)) (cm_w hja) (by decide) rfl (Nat.le_of_ble_eq_true rfl) dX5_product_5 (fun r5 M5 h5 => ?_)
  obtain ⟨rfl, ua, hua, rfl, ha1, -⟩ := h5
  rw [upn hia] at ha1
  refine k_istore_n (pc := 8) (lv' := [(3, .int (nI ua)), (0, .ref (ad (i))), (1, .ref (ad (ja))), (2, .ref (ad (jb)))]) C dX5_product_8 rfl (by decide) rfl ?_
  refine k_aload_n (pc := 9) C dX5_product_9 rfl 3 rfl ?_
  refine cv_X5_31 (pc := 10) C E (c_used hjb (by rw [upn hib]; exact hbb)) rfl (Nat.lt_of_succ_lt (isW_lt hjb)) (cm_w hjb) (by decide) rfl (Nat.le_of_ble_eq_true rfl) dX5_product_10 (fun r10 M10 h10 => ?_)
  obtain ⟨rfl, ub, hub, rfl, hb1, -⟩ := h10
  rw [upn hib] at hb1
  refine k_istore (pc := 13) (lv' := [(4, .int (nI ub)), (3, .int (nI ua)), (0, .ref (ad (i))), (1, .ref (ad (ja))), (2, .ref (ad (jb)))]) C dX5_product_13 (by decide) rfl ?_
  refine k_iconst (pc := 15) (v := nI 0) C dX5_product_15 (by decide) ?_
  refine k_istore (pc := 16) (lv' := [(5, .int (nI 0)), (4, .int (nI ub)), (3, .int (nI ua)), (0, .ref (ad (i))), (1, .ref (ad (ja))), (2, .ref (ad (jb)))]) C dX5_product_16 (by decide) rfl ?_
  have outer : ∀ (n t : Nat), ua - t < n → t ≤ ua → xK z (xw ad (cm ad ca (va_up V i (V ja % 65536 ^ t * V jb), U, sc, ia, la)) 187) 0 0 18 [(5, .int (nI t)), (4, .int (nI ub)), (3, .int (nI ua)), (0, .ref (ad i)), (1, .ref (ad ja)), (2, .ref (ad jb))] [] := by
    intro n
    induction n with
    | zero => intro t h; exact absurd h (Nat.not_lt_zero _)
    | succ n ih =>
      intro t hn ht
      refine k_iload (pc := 18) C dX5_product_18 0 rfl ?_
      refine k_iload_n (pc := 20) C dX5_product_20 rfl 2 rfl ?_
      refine k_icmp_ge (pc := 21) (tgt := 115) C dX5_product_21 (by decide) (fun c21 => ?_) (fun c21 => ?_)
      · rw [q_le (by omega) (by omega)] at c21
        exact r_v (pc := 115) C E (by rw [show t = ua by omega, Nat.mod_eq_of_lt ha1]) dX5_product_115
      · rw [q_le (by omega) (by omega)] at c21
        refine k_lconst (pc := 24) (v := lN 0) C dX5_product_24 (by decide) ?_
        refine k_lstore (pc := 25) (lv' := [(6, .long (lN 0)), (5, .int (nI t)), (4, .int (nI ub)), (3, .int (nI ua)), (0, .ref (ad (i))), (1, .ref (ad (ja))), (2, .ref (ad (jb)))]) C dX5_product_25 (by decide) rfl ?_
        refine k_iconst (pc := 27) (v := nI 0) C dX5_product_27 (by decide) ?_
        refine k_istore (pc := 28) (lv' := [(8, .int (nI 0)), (6, .long (lN 0)), (5, .int (nI t)), (4, .int (nI ub)), (3, .int (nI ua)), (0, .ref (ad (i))), (1, .ref (ad (ja))), (2, .ref (ad (jb)))]) C dX5_product_28 (by decide) rfl ?_
        obtain ⟨S1, hS1⟩ : ∃ S, S = V ja % 65536 ^ t * V jb := ⟨_, rfl⟩
        obtain ⟨S2, hS2⟩ : ∃ S, S = V ja % 65536 ^ (t + 1) * V jb := ⟨_, rfl⟩
        obtain ⟨at1, hat⟩ : ∃ a, a = V ja / 65536 ^ t % 65536 := ⟨_, rfl⟩
        have hst : S2 / 65536 ^ t = S1 / 65536 ^ t + at1 * V jb := by rw [hS1, hS2, hat]; exact prod_step _ _ _
        have hat9 : at1 < 65536 := by rw [hat]; exact Nat.mod_lt _ (by decide)
        have hB1 : S1 < 65536 ^ (t + ub) := by rw [hS1, Nat.pow_add]; exact Nat.mul_lt_mul_of_lt_of_le (Nat.mod_lt _ (pw_pos t)) (Nat.le_of_lt hb1) (pw_pos ub)
        have hB2 : S2 < 65536 ^ (t + 1 + ub) := by rw [hS2, Nat.pow_add _ (t + 1)]; exact Nat.mul_lt_mul_of_lt_of_le (Nat.mod_lt _ (pw_pos _)) (Nat.le_of_lt hb1) (pw_pos ub)
        rw [← hS1]
        have loop : ∀ (n2 s c : Nat), ub + 2 - s < n2 → s ≤ ub + 1 → t + s ≤ 24 → c < 65536 → S2 / 65536 ^ (t + s) = S1 / 65536 ^ (t + s) + at1 * (V jb / 65536 ^ s) + c → xK z (xw ad (cm ad ca (va_up V i (bl (t + s) S2 S1), U, sc, ia, la)) 187) 0 0 30 [(8, .int (nI s)), (6, .long (lN c)), (5, .int (nI t)), (4, .int (nI ub)), (3, .int (nI ua)), (0, .ref (ad i)), (1, .ref (ad ja)), (2, .ref (ad jb))] [] := by
          intro n2
          induction n2 with
          | zero => intro s c h; exact absurd h (Nat.not_lt_zero _)
          | succ n2 ih2 =>
            intro s c hn2 hs hts hc hq
            obtain ⟨y, hy⟩ : ∃ y, y = V jb / 65536 ^ s := ⟨_, rfl⟩
            obtain ⟨g, hg⟩ : ∃ g, g = S1 / 65536 ^ (t + s) := ⟨_, rfl⟩
            rw [← hy, ← hg] at hq
            have hM := mulsplit y at1
            rw [Nat.mul_comm y at1, Nat.mul_comm (y / 65536), Nat.mul_comm (y % 65536)] at hM
            have hT : at1 * (y % 65536) ≤ 65535 * 65535 := Nat.mul_le_mul (by omega) (by omega)
            refine k_iload (pc := 30) C dX5_product_30 0 rfl ?_
            refine k_iload (pc := 32) C dX5_product_32 3 rfl ?_
            refine k_icmp_gt (pc := 34) (tgt := 109) C dX5_product_34 (by decide) (fun c34 => ?_) (fun c34 => ?_)
            · rw [q_lt (by omega) (by omega)] at c34
              refine k_w (w' := xw ad (cm ad ca (va_up V i (V ja % 65536 ^ (t + 1) * V jb), U, sc, ia, la)) 187) (congrArg (fun M => xw ad M 187) (by
                  rw [← hS2]
                  first
                    | exact cm_ext hi (bl_ge (by omega))
                    | (rw [bl_top (k := t + s) (by rw [show t + s = t + 1 + ub by omega]; exact hB2) (Nat.lt_of_lt_of_le hB1 (pw_le (by omega)))]))) ?_
              refine k_iinc (pc := 109) (v := nI (t + 1)) (lv' := [(5, .int (nI (t + 1))), (8, .int (nI s)), (6, .long (lN c)), (4, .int (nI ub)), (3, .int (nI ua)), (0, .ref (ad (i))), (1, .ref (ad (ja))), (2, .ref (ad (jb)))]) C dX5_product_109 (k := 2) rfl (nI_1 _) (by decide) rfl ?_
              refine k_goto (pc := 112) (tgt := 18) C dX5_product_112 (by decide) ?_
              refine k_sub [0, 3, 4, 5, 6, 7] rfl ?_
              exact ih (t + 1) (by omega) (by omega)
            · rw [q_lt (by omega) (by omega)] at c34
              refine k_iload (pc := 37) C dX5_product_37 2 rfl ?_
              refine k_iload (pc := 39) C dX5_product_39 0 rfl ?_
              refine k_iadd (pc := 41) C dX5_product_41 ?_
              refine k_eqi (y := nI (t + s)) (nI_add _ _) ?_
              refine k_bipush (pc := 42) (v := nI 24) C dX5_product_42 (by decide) ?_
              refine k_icmp_ge (pc := 44) (tgt := 109) C dX5_product_44 (by decide) (fun c44 => ?_) (fun c44 => ?_)
              · rw [q_le (by omega) (by omega)] at c44
                refine k_w (w' := xw ad (cm ad ca (va_up V i (V ja % 65536 ^ (t + 1) * V jb), U, sc, ia, la)) 187) (congrArg (fun M => xw ad M 187) (by
                    rw [← hS2]
                    first
                      | exact cm_ext hi (bl_ge (by omega))
                      | (rw [bl_top (k := t + s) (by rw [show t + s = t + 1 + ub by omega]; exact hB2) (Nat.lt_of_lt_of_le hB1 (pw_le (by omega)))]))) ?_
                refine k_iinc (pc := 109) (v := nI (t + 1)) (lv' := [(5, .int (nI (t + 1))), (8, .int (nI s)), (6, .long (lN c)), (4, .int (nI ub)), (3, .int (nI ua)), (0, .ref (ad (i))), (1, .ref (ad (ja))), (2, .ref (ad (jb)))]) C dX5_product_109 (k := 2) rfl (nI_1 _) (by decide) rfl ?_
                refine k_goto (pc := 112) (tgt := 18) C dX5_product_112 (by decide) ?_
                refine k_sub [0, 3, 4, 5, 6, 7] rfl ?_
                exact ih (t + 1) (by omega) (by omega)
              · rw [q_le (by omega) (by omega)] at c44
                refine k_aload_n (pc := 47) C dX5_product_47 rfl 6 rfl ?_
                refine gf_X5_9 (pc := 48) C (ja) (Nat.lt_of_succ_lt (isW_lt hja)) (cm_w hja) rfl dX5_product_48 ?_
                refine k_iload (pc := 51) C dX5_product_51 2 rfl ?_
                refine k_iald (pc := 53) C E (ja + 1) (isW_lt hja) (cm_lo hja hia) (t) rfl (by omega) (by decide) dX5_product_53 ?_
                refine k_eqi (y := nI at1) (by rw [dg_lt (by omega), hat]) ?_
                refine k_i2l (pc := 54) C dX5_product_54 rfl ?_
                refine k_eql (y := lN at1) (nI_l (by omega)) ?_
                refine k_aload_n (pc := 55) C dX5_product_55 rfl 7 rfl ?_
                refine k_iload (pc := 56) C dX5_product_56 0 rfl ?_
                refine cv_X5_27 (pc := 58) C E (c_limbAt hjb (k := s) (by omega) (by rw [upn hib]; exact hbb)) rfl (Nat.lt_of_succ_lt (isW_lt hjb)) (cm_w hjb) (by decide) rfl (Nat.le_of_ble_eq_true rfl) dX5_product_58 (fun r58 M58 h58 => ?_)
                obtain ⟨rfl, rfl⟩ := h58
                rw [upn hib, ← hy]
                refine k_i2l (pc := 61) C dX5_product_61 rfl ?_
                refine k_eql (y := lN (y % 65536)) (nI_l (by omega)) ?_
                refine k_lmul (pc := 62) C dX5_product_62 ?_
                refine k_eql (y := lN (at1 * (y % 65536))) (lN_mul _ _) ?_
                refine k_aload_n (pc := 63) C dX5_product_63 rfl 5 rfl ?_
                refine gf_X5_9 (pc := 64) C (i) (Nat.lt_of_succ_lt (isW_lt hi)) (cm_w hi) rfl dX5_product_64 ?_
                refine k_iload (pc := 67) C dX5_product_67 2 rfl ?_
                refine k_iload (pc := 69) C dX5_product_69 0 rfl ?_
                refine k_iadd (pc := 71) C dX5_product_71 ?_
                refine k_eqi (y := nI (t + s)) (nI_add _ _) ?_
                refine k_iald (pc := 72) C E (i + 1) (isW_lt hi) (cm_lu hi) (t + s) rfl (by omega) (by decide) dX5_product_72 ?_
                refine k_eqi (y := nI (g % 65536)) (by rw [dg_lt (by omega), bl_hi (Nat.le_refl _), hg]) ?_
                refine k_i2l (pc := 73) C dX5_product_73 rfl ?_
                refine k_eql (y := lN (g % 65536)) (nI_l (by omega)) ?_
                refine k_ladd (pc := 74) C dX5_product_74 ?_
                refine k_eql (y := lN (at1 * (y % 65536) + g % 65536)) (lN_add _ _) ?_
                refine k_lload (pc := 75) C dX5_product_75 1 rfl ?_
                refine k_ladd (pc := 77) C dX5_product_77 ?_
                refine k_eql (y := lN (at1 * (y % 65536) + g % 65536 + c)) (lN_add _ _) ?_
                refine k_topl (fun sv esv => ?_)
                refine k_lstore (pc := 78) (lv' := [(9, .long (sv)), (8, .int (nI s)), (6, .long (lN c)), (5, .int (nI t)), (4, .int (nI ub)), (3, .int (nI ua)), (0, .ref (ad (i))), (1, .ref (ad (ja))), (2, .ref (ad (jb)))]) C dX5_product_78 (by decide) rfl ?_
                refine k_aload_n (pc := 80) C dX5_product_80 rfl 6 rfl ?_
                refine gf_X5_9 (pc := 81) C (i) (Nat.lt_of_succ_lt (isW_lt hi)) (cm_w hi) rfl dX5_product_81 ?_
                refine k_iload (pc := 84) C dX5_product_84 3 rfl ?_
                refine k_iload (pc := 86) C dX5_product_86 1 rfl ?_
                refine k_iadd (pc := 88) C dX5_product_88 ?_
                refine k_eqi (y := nI (t + s)) (nI_add _ _) ?_
                refine k_lload (pc := 89) C dX5_product_89 0 rfl ?_
                refine k_l2i (pc := 91) C dX5_product_91 rfl ?_
                refine k_eqi (y := nI (at1 * (y % 65536) + g % 65536 + c)) (by rw [esv]; exact lN_i _) ?_
                refine k_ldc (pc := 92) C kc_X5_22 dX5_product_92 ?_
                refine k_eqi (y := nI 65535) rfl ?_
                refine k_iand (pc := 94) C dX5_product_94 ?_
                refine k_eqi (y := nI ((at1 * (y % 65536) + g % 65536 + c) % 65536)) (and16' _) ?_
                refine k_iast (pc := 95) C E (i + 1) (isW_lt hi) (cm_lu hi) (t + s) rfl (by omega) (by decide) dX5_product_95 ?_
                refine k_w (w' := xw ad (cm ad ca (va_up V i (bl (t + (s + 1)) S2 S1), U, sc, ia, la)) 187) (by rw [bl_upd (by omega) (by rw [hq]; omega), cm_st hi]; rfl) ?_
                refine k_lload (pc := 96) C dX5_product_96 0 rfl ?_
                refine k_bipush (pc := 98) (v := nI 16) C dX5_product_98 (by decide) ?_
                refine k_lushr (pc := 100) C dX5_product_100 rfl ?_
                refine k_eql (y := lN ((at1 * (y % 65536) + g % 65536 + c) / 65536)) (by rw [esv]; exact wb_shr (n := at1 * (y % 65536) + g % 65536 + c) (k := 16) (by omega) (by decide)) ?_
                refine k_lstore (pc := 101) (lv' := [(6, .long (lN ((at1 * (y % 65536) + g % 65536 + c) / 65536))), (9, .long (sv)), (8, .int (nI s)), (5, .int (nI t)), (4, .int (nI ub)), (3, .int (nI ua)), (0, .ref (ad (i))), (1, .ref (ad (ja))), (2, .ref (ad (jb)))]) C dX5_product_101 (by decide) rfl ?_
                refine k_iinc (pc := 103) (v := nI (s + 1)) (lv' := [(8, .int (nI (s + 1))), (6, .long (lN ((at1 * (y % 65536) + g % 65536 + c) / 65536))), (9, .long (sv)), (5, .int (nI t)), (4, .int (nI ub)), (3, .int (nI ua)), (0, .ref (ad (i))), (1, .ref (ad (ja))), (2, .ref (ad (jb)))]) C dX5_product_103 (k := 2) rfl (nI_1 _) (by decide) rfl ?_
                refine k_goto (pc := 106) (tgt := 30) C dX5_product_106 (by decide) ?_
                refine k_sub [0, 1, 3, 4, 5, 6, 7, 8] rfl ?_
                exact ih2 (s + 1) ((at1 * (y % 65536) + g % 65536 + c) / 65536) (by omega) (by omega) (by omega) (by omega) (by rw [← Nat.add_assoc, dv_s, dv_s, dv_s, ← hy, ← hg, hq]; omega)
        refine k_sub [0, 1, 2, 3, 4, 5, 6, 7] rfl ?_
        have h0 := loop (ub + 3) 0 0 (by omega) (by omega) (by omega) (by decide) (by rw [Nat.add_zero, hst, Nat.pow_zero, Nat.div_one, Nat.add_zero])
        rw [Nat.add_zero] at h0
        have e9 : cm ad ca (va_up V i (bl t S2 S1), U, sc, ia, la) = cm ad ca (va_up V i S1, U, sc, ia, la) := congrArg (fun q => cm ad ca (va_up V i q, U, sc, ia, la)) (by
          unfold bl
          have : S2 % 65536 ^ t = S1 % 65536 ^ t := by rw [hS1, hS2, Nat.mod_pow_succ, Nat.add_mul, Nat.mul_assoc, Nat.add_mul_mod_self_left]
          rw [this, Nat.mul_comm]; exact Nat.mod_add_div _ _)
        rw [e9] at h0
        exact h0
  have h0 := outer (ua + 1) 0 (by omega) (by omega)
  rw [Nat.pow_zero, Nat.mod_one, Nat.zero_mul] at h0
  exact h0
end WB
