section DA
variable {l : Launch} {D : va_G} {ca : Nat → ClassId} {ad : Nat → Nat} {V U : Nat → Nat} {sc : Nat → Int32} {ia : Nat → Nat → Int32} {la : Nat → Nat → Int64}
theorem c_limbAtZ {i : Nat} {s : Int} (hi : isW i) (h1 : -1 ≤ s) (h2 : s < 1000) (hb : V i < 65536 ^ 24) : xI l D (xty ca) yX5_limbAt cX5_limbAt 2 (some .int) 0 0 [.ref (ad i), .int (iz s)] ad (cm ad ca (V, U, sc, ia, la)) (fun r M' => M' = cm ad ca (V, U, sc, ia, la) ∧ r = nI (la0 (V i) s)) := by
  unfold la0
  by_cases h : s < 0
  · rw [if_pos h]
    exact c_limbAtN (by rw [iz_lt0 (by omega) (by omega)]; exact h)
  · rw [if_neg h, iz_pos (by omega)]
    exact c_limbAt hi (by omega) hb
/-- rest, less m divisors from limb j on, n + 1 limbs of it -/
def tfr (R Dv j n : Nat) (m : Int) : Nat := R % 65536 ^ j + ((((R / 65536 ^ j : Nat) : Int) - m * (Dv : Int)) % ((65536 ^ (n + 1) : Nat) : Int)).toNat * 65536 ^ j
theorem tfr_hi (R Dv j n i : Nat) (m : Int) : tfr R Dv j n m / 65536 ^ (i + j) = ((((R / 65536 ^ j : Nat) : Int) - m * (Dv : Int)) % ((65536 ^ (n + 1) : Nat) : Int)).toNat / 65536 ^ i := by
  unfold tfr
  generalize ((((R / 65536 ^ j : Nat) : Int) - m * (Dv : Int)) % ((65536 ^ (n + 1) : Nat) : Int)).toNat = t
  rw [Nat.add_comm i j, Nat.pow_add, ← Nat.div_div_eq_div_mul, Nat.add_mul_div_right _ _ (pw_pos j), Nat.div_eq_of_lt (Nat.mod_lt _ (pw_pos j)), Nat.zero_add]
theorem tfr_lt (R Dv j n : Nat) (m : Int) : tfr R Dv j n m < 65536 ^ (j + n + 1) := by
  unfold tfr
  have h1 := Nat.mod_lt R (pw_pos j)
  obtain ⟨t, ht⟩ : ∃ t, t = ((((R / 65536 ^ j : Nat) : Int) - m * (Dv : Int)) % ((65536 ^ (n + 1) : Nat) : Int)).toNat := ⟨_, rfl⟩
  rw [← ht]
  have h2 : t < 65536 ^ (n + 1) := by
    have h3 := Int.emod_lt_of_pos (((R / 65536 ^ j : Nat) : Int) - m * (Dv : Int)) (b := ((65536 ^ (n + 1) : Nat) : Int)) (by have := pw_pos (n + 1); omega)
    have h4 := Int.emod_nonneg (((R / 65536 ^ j : Nat) : Int) - m * (Dv : Int)) (b := ((65536 ^ (n + 1) : Nat) : Int)) (by have := pw_pos (n + 1); omega)
    omega
  have h5 : t * 65536 ^ j + 65536 ^ j ≤ 65536 ^ (n + 1) * 65536 ^ j := by
    rw [← Nat.succ_mul]
    exact Nat.mul_le_mul_right _ h2
  rw [show j + n + 1 = n + 1 + j by omega, Nat.pow_add]
  omega
set_option maxHeartbeats 4000000 in
set_option maxRecDepth 100000 in
/-- Desk.takeFromRest -/
theorem c_take {j n : Nat} {m : Int} (hm1 : -1 ≤ m) (hm2 : m ≤ 65535) (hjn : j + n < 24) (hR : V 142 < 65536 ^ (j + n + 1)) (hD : V 144 < 65536 ^ n) : xI l D (xty ca) yX1_takeFromRest cX1_takeFromRest 9 (some .int) 0 0 [.ref (ad 135), .int (iz m), .int (nI j), .int (nI n)] ad (cm ad ca (V, U, sc, ia, la)) (fun r M' => M' = cm ad ca (va_up V 142 (tfr (V 142) (V 144) j n m), U, sc, ia, la) ∧ r = if ((V 142 / 65536 ^ j : Nat) : Int) - m * (V 144 : Int) < 0 then iz (-1) else iz 0) := by
  refine xM.of (by decide) (Nat.le_of_ble_eq_true rfl) (fun z C E => ?_)
  obtain ⟨Y, hY⟩ : ∃ Y, Y = ((V 142 / 65536 ^ j : Nat) : Int) - m * (V 144 : Int) := ⟨_, rfl⟩
  obtain ⟨R2, hR2⟩ : ∃ R2, R2 = tfr (V 142) (V 144) j n m := ⟨_, rfl⟩
  have hdig : ∀ i : Nat, i ≤ n → ((R2 / 65536 ^ (i + j) % 65536 : Nat) : Int) = Y / ((65536 ^ i : Nat) : Int) % 65536 := by
    intro i hin
    rw [hR2, tfr_hi, ← hY]
    exact topdig Y hin
  have hX : ∀ i : Nat, V 142 / 65536 ^ (i + j) = V 142 / 65536 ^ j / 65536 ^ i := by
    intro i
    rw [Nat.add_comm i j, Nat.pow_add, Nat.div_div_eq_div_mul]
  rw [← hY, ← hR2] at E
  have fin : ∀ b : Int, -65536 ≤ b → b ≤ 1 → Y / ((65536 ^ n : Nat) : Int) = ((V 142 / 65536 ^ j / 65536 ^ n : Nat) : Int) - m * ((V 144 / 65536 ^ n : Nat) : Int) + b → xK z (xw ad (cm ad ca (va_up V 142 (bl (n + j) R2 (V 142)), U, sc, ia, la)) 187) 0 0 85 [(4, .long (lz b)), (0, .ref (ad 135)), (2, .int (nI j)), (3, .int (nI n))] [] := by
    intro b hb1 hb2 hq
    rw [Nat.div_eq_of_lt hD] at hq
    obtain ⟨x, hx⟩ : ∃ x, x = V 142 / 65536 ^ j / 65536 ^ n := ⟨_, rfl⟩
    have hx9 : x < 65536 := by
      rw [hx, ← hX, Nat.add_comm n j]
      exact Nat.div_lt_of_lt_mul (by rw [← Nat.pow_succ]; exact hR)
    rw [← hx] at hq
    have hd9 := hdig n (Nat.le_refl n)
    have hneg : Y < 0 ↔ (x : Int) + b < 0 := by
      have : Y / ((65536 ^ n : Nat) : Int) = (x : Int) + b := by rw [hq]; omega
      rw [← this, Int.ediv_lt_iff_lt_mul (by have := pw_pos n; omega), Int.zero_mul]
    refine k_iload_n (pc := 85) C dX1_takeFromRest_85 rfl 2 rfl ?_
    refine k_iload_n (pc := 86) C dX1_takeFromRest_86 rfl 3 rfl ?_
    refine k_iadd (pc := 87) C dX1_takeFromRest_87 ?_
    refine k_eqi (y := nI (j + n)) (nI_add _ _) ?_
    refine k_bipush (pc := 88) (v := nI 24) C dX1_takeFromRest_88 (by decide) ?_
    refine k_icmp_lt (pc := 90) (tgt := 95) C dX1_takeFromRest_90 (by decide) (fun c90 => ?_) (fun c90 => ?_)
    · rw [q_lt (by omega) (by omega)] at c90
      refine k_aload_n (pc := 95) C dX1_takeFromRest_95 rfl 1 rfl ?_
      refine gf_X1_24 (pc := 96) C (135) (by decide) cm_135 rfl dX1_takeFromRest_96 ?_
      refine gf_X1_51 (pc := 99) C (142) (by decide) (cm_w w142) rfl dX1_takeFromRest_99 ?_
      refine k_iload_n (pc := 102) C dX1_takeFromRest_102 rfl 2 rfl ?_
      refine k_iload_n (pc := 103) C dX1_takeFromRest_103 rfl 3 rfl ?_
      refine k_iadd (pc := 104) C dX1_takeFromRest_104 ?_
      refine k_eqi (y := nI (n + j)) (by rw [nI_add, Nat.add_comm]) ?_
      refine k_iald (pc := 105) C E (142 + 1) (by decide) (cm_lu w142) (n + j) rfl (by omega) (by decide) dX1_takeFromRest_105 ?_
      refine k_eqi (y := nI x) (by rw [dg_lt (by omega), bl_hi (Nat.le_refl _), hX, ← hx, Nat.mod_eq_of_lt hx9]) ?_
      refine k_i2l (pc := 106) C dX1_takeFromRest_106 rfl ?_
      refine k_eql (y := lz (x : Int)) (nI_l (by omega)) ?_
      refine k_lload (pc := 107) C dX1_takeFromRest_107 0 rfl ?_
      refine k_ladd (pc := 109) C dX1_takeFromRest_109 ?_
      refine k_eql (y := lz ((x : Int) + b)) (lz_add _ _) ?_
      refine k_topl (fun lf elf => ?_)
      refine k_lstore (pc := 110) (lv' := [(6, .long (lf)), (4, .long (lz b)), (0, .ref (ad (135))), (2, .int (nI j)), (3, .int (nI n))]) C dX1_takeFromRest_110 (by decide) rfl ?_
      refine k_aload_n (pc := 112) C dX1_takeFromRest_112 rfl 2 rfl ?_
      refine gf_X1_24 (pc := 113) C (135) (by decide) cm_135 rfl dX1_takeFromRest_113 ?_
      refine gf_X1_51 (pc := 116) C (142) (by decide) (cm_w w142) rfl dX1_takeFromRest_116 ?_
      refine k_iload_n (pc := 119) C dX1_takeFromRest_119 rfl 3 rfl ?_
      refine k_iload_n (pc := 120) C dX1_takeFromRest_120 rfl 4 rfl ?_
      refine k_iadd (pc := 121) C dX1_takeFromRest_121 ?_
      refine k_eqi (y := nI (n + j)) (by rw [nI_add, Nat.add_comm]) ?_
      refine k_lload (pc := 122) C dX1_takeFromRest_122 0 rfl ?_
      refine k_l2i (pc := 124) C dX1_takeFromRest_124 rfl ?_
      refine k_eqi (y := iz ((x : Int) + b)) (by rw [elf]; exact lz_i (by omega) (by omega)) ?_
      refine k_ldc (pc := 125) C kc_X1_84 dX1_takeFromRest_125 ?_
      refine k_eqi (y := nI 65535) rfl ?_
      refine k_iand (pc := 127) C dX1_takeFromRest_127 ?_
      refine k_eqi (y := nI (((x : Int) + b) % 65536).toNat) (iz_and _) ?_
      refine k_iast (pc := 128) C E (142 + 1) (by decide) (cm_lu w142) (n + j) rfl (by omega) (by decide) dX1_takeFromRest_128 ?_
      refine k_w (w' := xw ad (cm ad ca (va_up V 142 R2, U, sc, ia, la)) 187) (by rw [bl_upd (by omega) (by omega), cm_st w142, bl_top (by rw [hR2, show n + j + 1 = j + n + 1 by omega]; exact tfr_lt _ _ _ _ _) (by rw [show n + j + 1 = j + n + 1 by omega]; exact hR)]) ?_
      refine k_lload (pc := 129) C dX1_takeFromRest_129 0 rfl ?_
      refine k_lconst (pc := 131) (v := lN 0) C dX1_takeFromRest_131 (by decide) ?_
      refine k_lcmp (pc := 132) C dX1_takeFromRest_132 ?_
      refine k_if_ge (pc := 133) (tgt := 140) C dX1_takeFromRest_133 (by decide) (fun c133 => ?_) (fun c133 => ?_)
      · rw [elf, lz_cmp0 (by omega) (by omega)] at c133
        refine k_iconst (pc := 140) (v := iz 0) C dX1_takeFromRest_140 (by decide) ?_
        exact r_i (pc := 141) C E (⟨rfl, by first | (rw [if_pos (by omega)]; done) | (rw [if_neg (by omega)]; done)⟩) dX1_takeFromRest_141
      · rw [elf, lz_cmp0 (by omega) (by omega)] at c133
        refine k_iconst (pc := 136) (v := iz (-1)) C dX1_takeFromRest_136 (by decide) ?_
        refine k_goto (pc := 137) (tgt := 141) C dX1_takeFromRest_137 (by decide) ?_
        exact r_i (pc := 141) C E (⟨rfl, by first | (rw [if_pos (by omega)]; done) | (rw [if_neg (by omega)]; done)⟩) dX1_takeFromRest_141
    · rw [q_lt (by omega) (by omega)] at c90
      exact absurd hjn c90
  have loop : ∀ (k i : Nat) (b : Int), n - i < k → i ≤ n → -65536 ≤ b → b ≤ 1 → Y / ((65536 ^ i : Nat) : Int) = ((V 142 / 65536 ^ j / 65536 ^ i : Nat) : Int) - m * ((V 144 / 65536 ^ i : Nat) : Int) + b → xK z (xw ad (cm ad ca (va_up V 142 (bl (i + j) R2 (V 142)), U, sc, ia, la)) 187) 0 0 6 [(6, .int (nI i)), (4, .long (lz b)), (0, .ref (ad 135)), (1, .int (iz m)), (2, .int (nI j)), (3, .int (nI n))] [] := by
    intro k
    induction k with
    | zero => intro i b h; exact absurd h (Nat.not_lt_zero _)
    | succ k ih =>
      intro i b hk hi hb1 hb2 hq
      obtain ⟨x, hx⟩ : ∃ x, x = V 142 / 65536 ^ j / 65536 ^ i := ⟨_, rfl⟩
      obtain ⟨d, hd⟩ : ∃ d, d = V 144 / 65536 ^ i := ⟨_, rfl⟩
      have hq2 := hq
      rw [← hx, ← hd] at hq
      have hM := imulsplit m d
      obtain ⟨hM1, hM2⟩ := mbound hm1 hm2 (e := d % 65536) (by omega)
      have hd9 := hdig i hi
      obtain ⟨g, hg⟩ : ∃ g : Int, g = m * ((d % 65536 : Nat) : Int) := ⟨_, rfl⟩
      rw [← hg] at hM hM1 hM2
      refine k_iload (pc := 6) C dX1_takeFromRest_6 0 rfl ?_
      refine k_iload_n (pc := 8) C dX1_takeFromRest_8 rfl 5 rfl ?_
      refine k_icmp_ge (pc := 9) (tgt := 85) C dX1_takeFromRest_9 (by decide) (fun c9 => ?_) (fun c9 => ?_)
      · rw [q_le (by omega) (by omega)] at c9
        have hin : i = n := by omega
        subst hin
        refine k_sub [1, 2, 4, 5] rfl ?_
        exact fin b hb1 hb2 hq2
      · rw [q_le (by omega) (by omega)] at c9
        refine k_iload (pc := 12) C dX1_takeFromRest_12 0 rfl ?_
        refine k_iload_n (pc := 14) C dX1_takeFromRest_14 rfl 4 rfl ?_
        refine k_iadd (pc := 15) C dX1_takeFromRest_15 ?_
        refine k_eqi (y := nI (i + j)) (nI_add _ _) ?_
        refine k_bipush (pc := 16) (v := nI 24) C dX1_takeFromRest_16 (by decide) ?_
        refine k_icmp_ge (pc := 18) (tgt := 85) C dX1_takeFromRest_18 (by decide) (fun c18 => ?_) (fun c18 => ?_)
        · rw [q_le (by omega) (by omega)] at c18
          exact absurd c18 (by omega)
        · rw [q_le (by omega) (by omega)] at c18
          refine k_aload_n (pc := 21) C dX1_takeFromRest_21 rfl 2 rfl ?_
          refine gf_X1_24 (pc := 22) C (135) (by decide) cm_135 rfl dX1_takeFromRest_22 ?_
          refine gf_X1_51 (pc := 25) C (142) (by decide) (cm_w w142) rfl dX1_takeFromRest_25 ?_
          refine k_iload (pc := 28) C dX1_takeFromRest_28 0 rfl ?_
          refine k_iload_n (pc := 30) C dX1_takeFromRest_30 rfl 4 rfl ?_
          refine k_iadd (pc := 31) C dX1_takeFromRest_31 ?_
          refine k_eqi (y := nI (i + j)) (nI_add _ _) ?_
          refine k_iald (pc := 32) C E (142 + 1) (by decide) (cm_lu w142) (i + j) rfl (by omega) (by decide) dX1_takeFromRest_32 ?_
          refine k_eqi (y := nI (x % 65536)) (by rw [dg_lt (by omega), bl_hi (Nat.le_refl _), hX, ← hx]) ?_
          refine k_i2l (pc := 33) C dX1_takeFromRest_33 rfl ?_
          refine k_eql (y := lz ((x % 65536 : Nat) : Int)) (nI_l (by omega)) ?_
          refine k_iload_n (pc := 34) C dX1_takeFromRest_34 rfl 3 rfl ?_
          refine k_i2l (pc := 35) C dX1_takeFromRest_35 rfl ?_
          refine k_eql (y := lz m) (iz_l (by omega) (by omega)) ?_
          refine k_aload_n (pc := 36) C dX1_takeFromRest_36 rfl 2 rfl ?_
          refine gf_X1_27 (pc := 37) C (135) (by decide) cm_135 rfl dX1_takeFromRest_37 ?_
          refine gf_X1_51 (pc := 40) C (144) (by decide) (cm_w w144) rfl dX1_takeFromRest_40 ?_
          refine k_iload (pc := 43) C dX1_takeFromRest_43 0 rfl ?_
          refine k_iald (pc := 45) C E (144 + 1) (by decide) (cm_lo w144 (by decide)) (i) rfl (by omega) (by decide) dX1_takeFromRest_45 ?_
          refine k_eqi (y := nI (d % 65536)) (by rw [dg_lt (by omega), hd]) ?_
          refine k_i2l (pc := 46) C dX1_takeFromRest_46 rfl ?_
          refine k_eql (y := lz ((d % 65536 : Nat) : Int)) (nI_l (by omega)) ?_
          refine k_lmul (pc := 47) C dX1_takeFromRest_47 ?_
          refine k_eql (y := lz g) (by rw [lz_mul, hg]) ?_
          refine k_lsub (pc := 48) C dX1_takeFromRest_48 ?_
          refine k_eql (y := lz (((x % 65536 : Nat) : Int) - g)) (lz_sub _ _) ?_
          refine k_lload (pc := 49) C dX1_takeFromRest_49 1 rfl ?_
          refine k_ladd (pc := 51) C dX1_takeFromRest_51 ?_
          refine k_eql (y := lz (((x % 65536 : Nat) : Int) - g + b)) (lz_add _ _) ?_
          refine k_topl (fun lf elf => ?_)
          refine k_lstore (pc := 52) (lv' := [(7, .long (lf)), (6, .int (nI i)), (4, .long (lz b)), (0, .ref (ad (135))), (1, .int (iz m)), (2, .int (nI j)), (3, .int (nI n))]) C dX1_takeFromRest_52 (by decide) rfl ?_
          refine k_aload_n (pc := 54) C dX1_takeFromRest_54 rfl 3 rfl ?_
          refine gf_X1_24 (pc := 55) C (135) (by decide) cm_135 rfl dX1_takeFromRest_55 ?_
          refine gf_X1_51 (pc := 58) C (142) (by decide) (cm_w w142) rfl dX1_takeFromRest_58 ?_
          refine k_iload (pc := 61) C dX1_takeFromRest_61 1 rfl ?_
          refine k_iload_n (pc := 63) C dX1_takeFromRest_63 rfl 5 rfl ?_
          refine k_iadd (pc := 64) C dX1_takeFromRest_64 ?_
          refine k_eqi (y := nI (i + j)) (nI_add _ _) ?_
          refine k_lload (pc := 65) C dX1_takeFromRest_65 0 rfl ?_
          refine k_l2i (pc := 67) C dX1_takeFromRest_67 rfl ?_
          refine k_eqi (y := iz (((x % 65536 : Nat) : Int) - g + b)) (by rw [elf]; exact lz_i (by omega) (by omega)) ?_
          refine k_ldc (pc := 68) C kc_X1_84 dX1_takeFromRest_68 ?_
          refine k_eqi (y := nI 65535) rfl ?_
          refine k_iand (pc := 70) C dX1_takeFromRest_70 ?_
          refine k_eqi (y := nI ((((x % 65536 : Nat) : Int) - g + b) % 65536).toNat) (iz_and _) ?_
          refine k_iast (pc := 71) C E (142 + 1) (by decide) (cm_lu w142) (i + j) rfl (by omega) (by decide) dX1_takeFromRest_71 ?_
          refine k_w (w' := xw ad (cm ad ca (va_up V 142 (bl (i + 1 + j) R2 (V 142)), U, sc, ia, la)) 187) (by rw [bl_upd (by omega) (by omega), cm_st w142, show i + j + 1 = i + 1 + j by omega]) ?_
          refine k_lload (pc := 72) C dX1_takeFromRest_72 0 rfl ?_
          refine k_bipush (pc := 74) (v := nI 16) C dX1_takeFromRest_74 (by decide) ?_
          refine k_lshr (pc := 76) C dX1_takeFromRest_76 rfl ?_
          refine k_eql (y := lz ((((x % 65536 : Nat) : Int) - g + b) / 65536)) (by rw [elf]; exact lz_shr (by omega) (by omega)) ?_
          refine k_lstore (pc := 77) (lv' := [(4, .long (lz ((((x % 65536 : Nat) : Int) - g + b) / 65536))), (7, .long (lf)), (6, .int (nI i)), (0, .ref (ad (135))), (1, .int (iz m)), (2, .int (nI j)), (3, .int (nI n))]) C dX1_takeFromRest_77 (by decide) rfl ?_
          refine k_iinc (pc := 79) (v := nI (i + 1)) (lv' := [(6, .int (nI (i + 1))), (4, .long (lz ((((x % 65536 : Nat) : Int) - g + b) / 65536))), (7, .long (lf)), (0, .ref (ad (135))), (1, .int (iz m)), (2, .int (nI j)), (3, .int (nI n))]) C dX1_takeFromRest_79 (k := 2) rfl (nI_1 _) (by decide) rfl ?_
          refine k_goto (pc := 82) (tgt := 6) C dX1_takeFromRest_82 (by decide) ?_
          refine k_sub [0, 1, 3, 4, 5, 6] rfl ?_
          exact ih (i + 1) ((((x % 65536 : Nat) : Int) - g + b) / 65536) (by omega) (by omega) (by omega) (by omega) (by rw [idv_s, dv_s, dv_s, ← hx, ← hd, hq]; omega)
  refine k_lconst (pc := 0) (v := lN 0) C dX1_takeFromRest_0 (by decide) ?_
  refine k_lstore (pc := 1) (lv' := [(4, .long (lN 0)), (0, .ref (ad (135))), (1, .int (iz m)), (2, .int (nI j)), (3, .int (nI n))]) C dX1_takeFromRest_1 (by decide) rfl ?_
  refine k_iconst (pc := 3) (v := nI 0) C dX1_takeFromRest_3 (by decide) ?_
  refine k_istore (pc := 4) (lv' := [(6, .int (nI 0)), (4, .long (lN 0)), (0, .ref (ad (135))), (1, .int (iz m)), (2, .int (nI j)), (3, .int (nI n))]) C dX1_takeFromRest_4 (by decide) rfl ?_
  refine k_sub [0, 1, 2, 3, 4, 5] rfl ?_
  have h0 := loop (n + 1) 0 0 (by omega) (by omega) (by decide) (by decide) (by rw [Nat.pow_zero, Nat.div_one, Nat.div_one]; rw [show ((1 : Nat) : Int) = 1 from rfl, Int.ediv_one, hY]; omega)
  have e9 : cm ad ca (va_up V 142 (bl (0 + j) R2 (V 142)), U, sc, ia, la) = cm ad ca (V, U, sc, ia, la) := by
    have : bl (0 + j) R2 (V 142) = V 142 := by
      unfold bl
      rw [Nat.zero_add, hR2]
      unfold tfr
      rw [Nat.add_mul_mod_self_right, Nat.mod_mod, Nat.mul_comm]
      exact Nat.mod_add_div _ _
    rw [this, up_self]
  rw [e9] at h0
  exact h0
end DA
