section MC
variable {l : Launch} {D : va_G} {ca : Nat → ClassId} {ad : Nat → Nat} {V U : Nat → Nat} {sc : Nat → Int32} {ia : Nat → Nat → Int32} {la : Nat → Nat → Int64}
theorem q_orbit (m c : Nat) : lN (m * 2 ^ (c + 1) / 4294967296 ^ (c / 32) % 4294967296) ||| lN (2 ^ (c % 32)) = lN (m * 2 ^ (c + 1) / 4294967296 ^ (c / 32) % 4294967296 + 2 ^ (c % 32)) := by
  obtain ⟨q, hq⟩ : ∃ q, q = c / 32 := ⟨_, rfl⟩
  obtain ⟨r, hr⟩ : ∃ r, r = c % 32 := ⟨_, rfl⟩
  have hr9 : r < 32 := by omega
  rw [← hq, ← hr]
  have e2 : m * 2 ^ (c + 1) = 4294967296 ^ q * (m * 2 ^ (r + 1)) := by
    rw [show c + 1 = 32 * q + (r + 1) by omega, Nat.pow_add, ← q_2, Nat.mul_left_comm]
  have e3 : (4294967296 : Nat) = 2 ^ (r + 1) * 2 ^ (31 - r) := by
    rw [← Nat.pow_add, show r + 1 + (31 - r) = 32 by omega]
  rw [e2, Nat.mul_div_cancel_left _ (qw_pos q)]
  have e4 : m * 2 ^ (r + 1) % 4294967296 = m % 2 ^ (31 - r) * 2 ^ (r + 1) := by
    rw [e3, Nat.mul_comm m, Nat.mul_mod_mul_left, Nat.mul_comm]
  rw [e4]
  have h1 := Nat.mod_lt m (p2pos (31 - r))
  have h2 : m % 2 ^ (31 - r) * 2 ^ (r + 1) + 2 ^ (r + 1) ≤ 2 ^ (31 - r) * 2 ^ (r + 1) := by
    rw [← Nat.succ_mul]
    exact Nat.mul_le_mul_right _ h1
  have h3 : 2 ^ (31 - r) * 2 ^ (r + 1) = 4294967296 := by rw [Nat.mul_comm]; exact e3.symm
  have h4 : 2 ^ r < 2 ^ (r + 1) := Nat.pow_lt_pow_right (by decide) (by omega)
  exact g_or (k := r + 1) (p := 2 ^ (r + 1)) rfl h4 (by omega)
def dv2 (U : Nat → Nat) (q r : Nat) : Nat → Nat := va_up (va_up U 32 q) 33 r
section DV
variable {U : Nat → Nat} {q r x k : Nat}
theorem dv_2 : dv2 U q r 32 = q := by simp [dv2, va_up]
theorem dv_3 : dv2 U q r 33 = r := by simp [dv2, va_up]
theorem dv_o (h2 : 32 ≠ k) (h3 : 33 ≠ k) : dv2 U q r k = U k := by simp [dv2, va_up, Ne.symm h2, Ne.symm h3]
theorem dv_u3 : va_up (dv2 U q r) 33 x = dv2 U q x := by unfold dv2; rw [bx_uu]
theorem dv_u2 : va_up (dv2 U q r) 32 x = dv2 U x r := by
  funext k
  by_cases h1 : k = 32 <;> by_cases h2 : k = 33 <;> simp [dv2, va_up, h1, h2]
end DV
set_option maxHeartbeats 4000000 in
set_option maxRecDepth 100000 in
/-- divides -/
theorem c7_divides {a b : Nat} (ha : a < 80) (hb : b < 80) (a2 : 32 ≠ a) (a3 : 33 ≠ a) (b2 : 32 ≠ b) (b3 : 33 ≠ b) (hB0 : 0 < U b) (hB : U b ≤ 2 ^ 383) (hA : U a < 4294967296 ^ 12) : xV l D (xty ca) yX7_divides cX7_divides 4 none 1 40 [.ref (ad 174), .int (nI a), .int (nI b)] ad (cm ad ca (V, U, sc, ia, la)) (fun M' => M' = cm ad ca (V, dv2 U (U a / U b) (U a % U b), sc, ia, la)) := by
  refine xM.of (by decide) (Nat.le_of_ble_eq_true rfl) (fun z C E => ?_)
  have loop : ∀ c : Nat, c ≤ 384 → xK z (xw ad (cm ad ca (V, dv2 U (U a / 2 ^ c / U b * 2 ^ c) (U a / 2 ^ c % U b), sc, ia, la)) 187) 0 0 18 [(3, .int (iz ((c : Int) - 1))), (0, .ref (ad 174)), (1, .int (nI a)), (2, .int (nI b))] [] := by
    intro c
    induction c with
    | zero =>
      intro hc
      refine k_iload_n (pc := 18) C dX7_divides_18 rfl 0 rfl ?_
      refine k_if_lt (pc := 19) (tgt := 111) C dX7_divides_19 (by decide) (fun c19 => ?_) (fun c19 => ?_)
      · rw [iz_lt0 (by omega) (by omega)] at c19
        exact r_v (pc := 111) C E (by rw [Nat.pow_zero, Nat.div_one, Nat.mul_one]) dX7_divides_111
      · rw [iz_lt0 (by omega) (by omega)] at c19
        exact absurd (by decide) c19
    | succ c ih =>
      intro hc
      obtain ⟨d1, d2, d3⟩ := div_bit (A := U a) (B := U b) (c := c) hB0
      obtain ⟨R, hR⟩ : ∃ R, R = U a / 2 ^ (c + 1) % U b := ⟨_, rfl⟩
      obtain ⟨m, hm⟩ : ∃ m, m = U a / 2 ^ (c + 1) / U b := ⟨_, rfl⟩
      obtain ⟨bt, hbt⟩ : ∃ b, b = U a / 2 ^ c % 2 := ⟨_, rfl⟩
      have hR9 : R < U b := by rw [hR]; exact Nat.mod_lt _ hB0
      have hbt9 : bt < 2 := by rw [hbt]; exact Nat.mod_lt _ (by decide)
      rw [← hR, ← hbt, ← hm] at d2 d3
      rw [← hR, ← hm]
      have hRs : R + R + bt < 4294967296 ^ 12 := by omega
      refine k_iload_n (pc := 18) C dX7_divides_18 rfl 0 rfl ?_
      refine k_if_lt (pc := 19) (tgt := 111) C dX7_divides_19 (by decide) (fun c19 => ?_) (fun c19 => ?_)
      · rw [iz_lt0 (by omega) (by omega)] at c19
        exact absurd c19 (by omega)
      · rw [iz_lt0 (by omega) (by omega)] at c19
        refine k_aload_n (pc := 22) C dX7_divides_22 rfl 1 rfl ?_
        refine k_bipush (pc := 23) (v := nI 33) C dX7_divides_23 (by decide) ?_
        refine k_bipush (pc := 25) (v := nI 33) C dX7_divides_25 (by decide) ?_
        refine k_bipush (pc := 27) (v := nI 33) C dX7_divides_27 (by decide) ?_
        refine cv_X7_66 (pc := 29) C E (c7_plus (t := 33) (a := 33) (b := 33) (by decide) (by decide) (by decide)) rfl (by decide) cm_174 (by decide) rfl (Nat.le_of_ble_eq_true rfl) dX7_divides_29 (fun M29 h29 => ?_)
        subst h29
        rw [dv_u3, dv_3]
        refine k_aload_n (pc := 32) C dX7_divides_32 rfl 1 rfl ?_
        refine gf_X7_7 (pc := 33) C (174) (by decide) cm_174 rfl dX7_divides_33 ?_
        refine k_sipush (pc := 36) (v := nI (12 * 33 + 0)) C dX7_divides_36 (by decide) ?_
        refine k_dup2_11 (pc := 39) C dX7_divides_39 rfl rfl ?_
        refine k_lald (pc := 40) C E (175) (by decide) cm_175 (12 * 33 + 0) rfl (by decide) (by decide) dX7_divides_40 ?_
        refine k_eql (y := lN ((R + R) % 4294967296)) (by rw [mw_at _ (by decide) (by decide), dv_3, Nat.pow_zero, Nat.div_one]) ?_
        refine k_aload_n (pc := 41) C dX7_divides_41 rfl 1 rfl ?_
        refine gf_X7_7 (pc := 42) C (174) (by decide) cm_174 rfl dX7_divides_42 ?_
        refine k_bipush (pc := 45) (v := nI 12) C dX7_divides_45 (by decide) ?_
        refine k_iload_n (pc := 47) C dX7_divides_47 rfl 2 rfl ?_
        refine k_imul (pc := 48) C dX7_divides_48 ?_
        refine k_eqi (y := nI (12 * a)) (pk_mul _ _) ?_
        refine k_iload_n (pc := 49) C dX7_divides_49 rfl 0 rfl ?_
        refine k_eqi (y := nI c) (iz_pos (t := ((c + 1 : Nat) : Int) - 1) (by omega) |>.trans (congrArg nI (by omega))) ?_
        refine k_bipush (pc := 50) (v := nI 32) C dX7_divides_50 (by decide) ?_
        refine k_idiv (pc := 52) C dX7_divides_52 (by decide) ?_
        refine k_eqi (y := nI (c / 32)) (pk_div (by omega) (by decide) (by decide)) ?_
        refine k_iadd (pc := 53) C dX7_divides_53 ?_
        refine k_eqi (y := nI (12 * a + c / 32)) (nI_add _ _) ?_
        refine k_lald (pc := 54) C E (175) (by decide) cm_175 (12 * a + c / 32) rfl (by omega) (by decide) dX7_divides_54 ?_
        refine k_eql (y := lN (U a / 4294967296 ^ (c / 32) % 4294967296)) (by rw [mw_at _ ha (by omega), dv_o a2 a3]) ?_
        refine k_iload_n (pc := 55) C dX7_divides_55 rfl 0 rfl ?_
        refine k_eqi (y := nI c) (iz_pos (t := ((c + 1 : Nat) : Int) - 1) (by omega) |>.trans (congrArg nI (by omega))) ?_
        refine k_bipush (pc := 56) (v := nI 32) C dX7_divides_56 (by decide) ?_
        refine k_irem (pc := 58) C dX7_divides_58 (by decide) ?_
        refine k_eqi (y := nI (c % 32)) (pk_rem (by omega) (by decide) (by decide)) ?_
        refine k_lshr (pc := 59) C dX7_divides_59 rfl ?_
        refine k_eql (y := lN (U a / 4294967296 ^ (c / 32) % 4294967296 / 2 ^ (c % 32))) (lshrN (Nat.lt_trans (Nat.mod_lt _ (by decide)) (by decide)) (by omega)) ?_
        refine k_lconst (pc := 60) (v := lN 1) C dX7_divides_60 (by decide) ?_
        refine k_land (pc := 61) C dX7_divides_61 ?_
        refine k_eql (y := lN bt) (by rw [show lN 1 = lN (2 - 1) from rfl, g_mask (s := 1) (p := 2) rfl (by decide) (Nat.lt_of_le_of_lt (Nat.div_le_self _ _) (Nat.lt_trans (Nat.mod_lt _ (by decide)) (by decide))), bit_at, hbt]) ?_
        refine k_lor (pc := 62) C dX7_divides_62 ?_
        refine k_eql (y := lN ((R + R) % 4294967296 + bt)) (by
          have e8 : (R + R) % 4294967296 = (R + R) % 4294967296 / 2 * 2 := by omega
          rw [e8]; exact g_or (k := 1) (p := 2) rfl hbt9 (by omega)) ?_
        refine k_last (pc := 63) C E (175) (by decide) cm_175 (12 * 33 + 0) rfl (by decide) (by decide) dX7_divides_63 ?_
        refine k_w (w' := xw ad (cm ad ca (V, dv2 U (m * 2 ^ (c + 1)) (R + R + bt), sc, ia, la)) 187) (by rw [mw_up (v := R + R + bt) (by decide) (by decide) (by rw [even_add (by omega) (by omega), if_pos rfl]) (fun j hj hj0 => by rw [even_add (by omega) (by omega), if_neg hj0, dv_3]), dv_u3, cm_upU]) ?_
        refine k_aload_n (pc := 64) C dX7_divides_64 rfl 1 rfl ?_
        refine k_bipush (pc := 65) (v := nI 33) C dX7_divides_65 (by decide) ?_
        refine k_iload_n (pc := 67) C dX7_divides_67 rfl 3 rfl ?_
        refine cv_X7_76 (pc := 68) C E (c7_compare (a := 33) (b := b) (by decide) hb (by rw [dv_3]; exact hRs) (by rw [dv_o b2 b3]; omega)) rfl (by decide) cm_174 (by decide) rfl (Nat.le_of_ble_eq_true rfl) dX7_divides_68 (fun r68 M68 h68 => ?_)
        obtain ⟨rfl, rfl⟩ := h68
        rw [dv_3, dv_o b2 b3]
        refine k_if_lt (pc := 71) (tgt := 105) C dX7_divides_71 (by decide) (fun c71 => ?_) (fun c71 => ?_)
        · rw [cmp_l0] at c71
          obtain ⟨e1, e2⟩ := d2 c71
          have e3 : m * 2 ^ (c + 1) = U a / 2 ^ c / U b * 2 ^ c := by rw [e1, Nat.pow_succ, Nat.mul_comm (2 ^ c) 2, ← Nat.mul_assoc, Nat.mul_comm m 2]
          rw [← e2, e3]
          refine k_iinc (pc := 105) (v := iz ((c : Int) - 1)) (lv' := [(3, .int (iz ((c : Int) - 1))), (0, .ref (ad (174))), (1, .int (nI a)), (2, .int (nI b))]) C dX7_divides_105 (k := 0) rfl (show iz (((c + 1 : Nat) : Int) - 1) + iz (-1) = _ by rw [iz_add]; congr 1; omega) (by decide) rfl ?_
          refine k_goto (pc := 108) (tgt := 18) C dX7_divides_108 (by decide) ?_
          refine k_sub [0, 1, 2, 3] rfl ?_
          exact ih (by omega)
        · rw [cmp_l0] at c71
          obtain ⟨e1, e2⟩ := d3 (Nat.le_of_not_lt c71)
          have e3 : m * 2 ^ (c + 1) + 2 ^ c = U a / 2 ^ c / U b * 2 ^ c := by rw [e1, Nat.pow_succ, Nat.mul_comm (2 ^ c) 2, ← Nat.mul_assoc, Nat.mul_comm m 2, Nat.add_mul, Nat.one_mul]
          refine k_aload_n (pc := 74) C dX7_divides_74 rfl 1 rfl ?_
          refine k_bipush (pc := 75) (v := nI 33) C dX7_divides_75 (by decide) ?_
          refine k_bipush (pc := 77) (v := nI 33) C dX7_divides_77 (by decide) ?_
          refine k_iload_n (pc := 79) C dX7_divides_79 rfl 3 rfl ?_
          refine cv_X7_80 (pc := 80) C E (c7_minus (t := 33) (a := 33) (b := b) (by decide) (by decide) hb (by rw [dv_3, dv_o b2 b3]; exact Nat.le_of_not_lt c71)) rfl (by decide) cm_174 (by decide) rfl (Nat.le_of_ble_eq_true rfl) dX7_divides_80 (fun M80 h80 => ?_)
          subst h80
          rw [dv_u3, dv_3, dv_o b2 b3, ← e2]
          refine k_aload_n (pc := 83) C dX7_divides_83 rfl 1 rfl ?_
          refine gf_X7_7 (pc := 84) C (174) (by decide) cm_174 rfl dX7_divides_84 ?_
          refine k_sipush (pc := 87) (v := nI 384) C dX7_divides_87 (by decide) ?_
          refine k_iload_n (pc := 90) C dX7_divides_90 rfl 0 rfl ?_
          refine k_eqi (y := nI c) (iz_pos (t := ((c + 1 : Nat) : Int) - 1) (by omega) |>.trans (congrArg nI (by omega))) ?_
          refine k_bipush (pc := 91) (v := nI 32) C dX7_divides_91 (by decide) ?_
          refine k_idiv (pc := 93) C dX7_divides_93 (by decide) ?_
          refine k_eqi (y := nI (c / 32)) (pk_div (by omega) (by decide) (by decide)) ?_
          refine k_iadd (pc := 94) C dX7_divides_94 ?_
          refine k_eqi (y := nI (12 * 32 + c / 32)) (nI_add _ _) ?_
          refine k_dup2_11 (pc := 95) C dX7_divides_95 rfl rfl ?_
          refine k_lald (pc := 96) C E (175) (by decide) cm_175 (12 * 32 + c / 32) rfl (by omega) (by decide) dX7_divides_96 ?_
          refine k_eql (y := lN (m * 2 ^ (c + 1) / 4294967296 ^ (c / 32) % 4294967296)) (by rw [mw_at _ (by decide) (by omega), dv_2]) ?_
          refine k_lconst (pc := 97) (v := lN 1) C dX7_divides_97 (by decide) ?_
          refine k_iload_n (pc := 98) C dX7_divides_98 rfl 0 rfl ?_
          refine k_eqi (y := nI c) (iz_pos (t := ((c + 1 : Nat) : Int) - 1) (by omega) |>.trans (congrArg nI (by omega))) ?_
          refine k_bipush (pc := 99) (v := nI 32) C dX7_divides_99 (by decide) ?_
          refine k_irem (pc := 101) C dX7_divides_101 (by decide) ?_
          refine k_eqi (y := nI (c % 32)) (pk_rem (by omega) (by decide) (by decide)) ?_
          refine k_lshl (pc := 102) C dX7_divides_102 rfl ?_
          refine k_eql (y := lN (2 ^ (c % 32))) (by rw [wb_shl 1 (k := c % 32) (by omega), Nat.one_mul]) ?_
          refine k_lor (pc := 103) C dX7_divides_103 ?_
          refine k_eql (y := lN (m * 2 ^ (c + 1) / 4294967296 ^ (c / 32) % 4294967296 + 2 ^ (c % 32))) (q_orbit m c) ?_
          refine k_last (pc := 104) C E (175) (by decide) cm_175 (12 * 32 + c / 32) rfl (by omega) (by decide) dX7_divides_104 ?_
          refine k_w (w' := xw ad (cm ad ca (V, dv2 U (U a / 2 ^ c / U b * 2 ^ c) (U a / 2 ^ c % U b), sc, ia, la)) 187) (by rw [← e3, mw_up (v := m * 2 ^ (c + 1) + 2 ^ c) (by decide) (by omega) (by rw [add_bit, if_pos rfl]) (fun j hj hj0 => by rw [add_bit, if_neg hj0, dv_2]), dv_u2, cm_upU]) ?_
          refine k_iinc (pc := 105) (v := iz ((c : Int) - 1)) (lv' := [(3, .int (iz ((c : Int) - 1))), (0, .ref (ad (174))), (1, .int (nI a)), (2, .int (nI b))]) C dX7_divides_105 (k := 0) rfl (show iz (((c + 1 : Nat) : Int) - 1) + iz (-1) = _ by rw [iz_add]; congr 1; omega) (by decide) rfl ?_
          refine k_goto (pc := 108) (tgt := 18) C dX7_divides_108 (by decide) ?_
          refine k_sub [0, 1, 2, 3] rfl ?_
          exact ih (by omega)
  refine k_aload_n (pc := 0) C dX7_divides_0 rfl 0 rfl ?_
  refine k_bipush (pc := 1) (v := nI 32) C dX7_divides_1 (by decide) ?_
  refine k_lconst (pc := 3) (v := lN 0) C dX7_divides_3 (by decide) ?_
  refine cv_X7_62 (pc := 4) C E (c7_set (t := 32) (a := 0) (by decide) (by decide)) rfl (by decide) cm_174 (by decide) rfl (Nat.le_of_ble_eq_true rfl) dX7_divides_4 (fun M4 h4 => ?_)
  subst h4
  refine k_aload_n (pc := 7) C dX7_divides_7 rfl 0 rfl ?_
  refine k_bipush (pc := 8) (v := nI 33) C dX7_divides_8 (by decide) ?_
  refine k_lconst (pc := 10) (v := lN 0) C dX7_divides_10 (by decide) ?_
  refine cv_X7_62 (pc := 11) C E (c7_set (t := 33) (a := 0) (by decide) (by decide)) rfl (by decide) cm_174 (by decide) rfl (Nat.le_of_ble_eq_true rfl) dX7_divides_11 (fun M11 h11 => ?_)
  subst h11
  refine k_sipush (pc := 14) (v := iz (((384 : Nat) : Int) - 1)) C dX7_divides_14 (by decide) ?_
  refine k_istore_n (pc := 17) (lv' := [(3, .int (iz (((384 : Nat) : Int) - 1))), (0, .ref (ad (174))), (1, .int (nI a)), (2, .int (nI b))]) C dX7_divides_17 rfl (by decide) rfl ?_
  have h0 := loop 384 (by decide)
  rw [Nat.div_eq_of_lt (show U a < 2 ^ 384 by omega), Nat.zero_div, Nat.zero_mul, Nat.zero_mod] at h0
  exact h0
end MC
