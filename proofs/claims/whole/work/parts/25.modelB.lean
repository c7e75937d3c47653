section MB
variable {l : Launch} {D : va_G} {ca : Nat → ClassId} {ad : Nat → Nat} {V U : Nat → Nat} {sc : Nat → Int32} {ia : Nat → Nat → Int32} {la : Nat → Nat → Int64}
set_option maxHeartbeats 4000000 in
set_option maxRecDepth 100000 in
/-- product -/
theorem c7_product {t a b : Nat} (ht : t < 80) (ha : a < 80) (hb : b < 80) (na : 34 ≠ a) (nb : 34 ≠ b) (hba : U a < 4294967296 ^ 12) : xV l D (xty ca) yX7_product cX7_product 16 none 1 40 [.ref (ad 174), .int (nI t), .int (nI a), .int (nI b)] ad (cm ad ca (V, U, sc, ia, la)) (fun M' => M' = cm ad ca (V, va_up (va_up U 34 (U a * U b)) t (U a * U b), sc, ia, la)) := by
  refine xM.of (by decide) (Nat.le_of_ble_eq_true rfl) (fun z C E => ?_)
  have outer : ∀ (n i : Nat), 12 - i < n → i ≤ 12 → xK z (xw ad (cm ad ca (V, va_up U 34 (U a % 4294967296 ^ i * U b), sc, ia, la)) 187) 0 0 10 [(4, .int (nI i)), (0, .ref (ad 174)), (1, .int (nI t)), (2, .int (nI a)), (3, .int (nI b))] [] := by
    intro n
    induction n with
    | zero => intro i h; exact absurd h (Nat.not_lt_zero _)
    | succ n ih =>
      intro i hn hi
      refine k_iload (pc := 10) C dX7_product_10 0 rfl ?_
      refine k_bipush (pc := 12) (v := nI 12) C dX7_product_12 (by decide) ?_
      refine k_icmp_ge (pc := 14) (tgt := 165) C dX7_product_14 (by decide) (fun c14 => ?_) (fun c14 => ?_)
      · rw [q_le (by omega) (by omega)] at c14
        refine k_aload_n (pc := 165) C dX7_product_165 rfl 1 rfl ?_
        refine k_iload_n (pc := 166) C dX7_product_166 rfl 2 rfl ?_
        refine k_bipush (pc := 167) (v := nI 34) C dX7_product_167 (by decide) ?_
        refine cv_X7_72 (pc := 169) C E (c7_copy ht (a := 34) (by decide)) rfl (by decide) cm_174 (by decide) rfl (Nat.le_of_ble_eq_true rfl) dX7_product_169 (fun M169 h169 => ?_)
        subst h169
        exact r_v (pc := 172) C E (by rw [ups, show i = 12 by omega, Nat.mod_eq_of_lt hba]) dX7_product_172
      · rw [q_le (by omega) (by omega)] at c14
        refine k_aload_n (pc := 17) C dX7_product_17 rfl 1 rfl ?_
        refine gf_X7_7 (pc := 18) C (174) (by decide) cm_174 rfl dX7_product_18 ?_
        refine k_bipush (pc := 21) (v := nI 12) C dX7_product_21 (by decide) ?_
        refine k_iload_n (pc := 23) C dX7_product_23 rfl 3 rfl ?_
        refine k_imul (pc := 24) C dX7_product_24 ?_
        refine k_eqi (y := nI (12 * a)) (pk_mul _ _) ?_
        refine k_iload (pc := 25) C dX7_product_25 0 rfl ?_
        refine k_iadd (pc := 27) C dX7_product_27 ?_
        refine k_eqi (y := nI (12 * a + i)) (nI_add _ _) ?_
        refine k_lald (pc := 28) C E (175) (by decide) cm_175 (12 * a + i) rfl (by omega) (by decide) dX7_product_28 ?_
        refine k_eql (y := lN (U a / 4294967296 ^ i % 4294967296)) (by rw [mw_at _ ha (by omega), upn na]) ?_
        refine k_lstore (pc := 29) (lv' := [(5, .long (lN (U a / 4294967296 ^ i % 4294967296))), (4, .int (nI i)), (0, .ref (ad (174))), (1, .int (nI t)), (2, .int (nI a)), (3, .int (nI b))]) C dX7_product_29 (by decide) rfl ?_
        refine k_lconst (pc := 31) (v := lN 0) C dX7_product_31 (by decide) ?_
        refine k_lstore (pc := 32) (lv' := [(7, .long (lN 0)), (5, .long (lN (U a / 4294967296 ^ i % 4294967296))), (4, .int (nI i)), (0, .ref (ad (174))), (1, .int (nI t)), (2, .int (nI a)), (3, .int (nI b))]) C dX7_product_32 (by decide) rfl ?_
        refine k_iconst (pc := 34) (v := nI 0) C dX7_product_34 (by decide) ?_
        refine k_istore (pc := 35) (lv' := [(9, .int (nI 0)), (7, .long (lN 0)), (5, .long (lN (U a / 4294967296 ^ i % 4294967296))), (4, .int (nI i)), (0, .ref (ad (174))), (1, .int (nI t)), (2, .int (nI a)), (3, .int (nI b))]) C dX7_product_35 (by decide) rfl ?_
        obtain ⟨S1, hS1⟩ : ∃ S, S = U a % 4294967296 ^ i * U b := ⟨_, rfl⟩
        obtain ⟨S2, hS2⟩ : ∃ S, S = U a % 4294967296 ^ (i + 1) * U b := ⟨_, rfl⟩
        obtain ⟨at1, hat⟩ : ∃ x, x = U a / 4294967296 ^ i % 4294967296 := ⟨_, rfl⟩
        have hst : S2 / 4294967296 ^ i = S1 / 4294967296 ^ i + at1 * U b := by rw [hS1, hS2, hat]; exact prod_stepQ _ _ _
        have hat9 : at1 < 4294967296 := by rw [hat]; exact Nat.mod_lt _ (by decide)
        rw [← hS1, ← hat]
        have loop : ∀ (n2 s c : Nat), 12 - s < n2 → i + s ≤ 12 → c < 4294967296 → S2 / 4294967296 ^ (i + s) = S1 / 4294967296 ^ (i + s) + at1 * (U b / 4294967296 ^ s) + c → xK z (xw ad (cm ad ca (V, va_up U 34 (bq (i + s) S2 S1), sc, ia, la)) 187) 0 0 37 [(9, .int (nI s)), (7, .long (lN c)), (5, .long (lN at1)), (4, .int (nI i)), (0, .ref (ad 174)), (1, .int (nI t)), (2, .int (nI a)), (3, .int (nI b))] [] := by
          intro n2
          induction n2 with
          | zero => intro s c h; exact absurd h (Nat.not_lt_zero _)
          | succ n2 ih2 =>
            intro s c hn2 hs hc hq
            obtain ⟨y, hy⟩ : ∃ y, y = U b / 4294967296 ^ s := ⟨_, rfl⟩
            obtain ⟨g, hg⟩ : ∃ g, g = S1 / 4294967296 ^ (i + s) := ⟨_, rfl⟩
            rw [← hy, ← hg] at hq
            have hM := mulsplitQ y at1
            have hH := mulsplitH at1 (y % 4294967296)
            have hT : at1 * (y % 4294967296) ≤ 4294967295 * 4294967295 := Nat.mul_le_mul (by omega) (by omega)
            have hT0 : at1 * (y % 4294967296 % 65536) ≤ 4294967295 * 65535 := Nat.mul_le_mul (by omega) (by omega)
            have hT1 : at1 * (y % 4294967296 / 65536) ≤ 4294967295 * 65535 := Nat.mul_le_mul (by omega) (by omega)
            obtain ⟨A0, hA0⟩ : ∃ A, A = at1 * (y % 4294967296 % 65536) := ⟨_, rfl⟩
            obtain ⟨A1, hA1⟩ : ∃ A, A = at1 * (y % 4294967296 / 65536) := ⟨_, rfl⟩
            rw [← hA0] at hT0 hH
            rw [← hA1] at hT1 hH
            refine k_iload (pc := 37) C dX7_product_37 3 rfl ?_
            refine k_iload (pc := 39) C dX7_product_39 0 rfl ?_
            refine k_iadd (pc := 41) C dX7_product_41 ?_
            refine k_eqi (y := nI (i + s)) (nI_add _ _) ?_
            refine k_bipush (pc := 42) (v := nI 12) C dX7_product_42 (by decide) ?_
            refine k_icmp_ge (pc := 44) (tgt := 159) C dX7_product_44 (by decide) (fun c44 => ?_) (fun c44 => ?_)
            · rw [q_le (by omega) (by omega)] at c44
              refine k_w (w' := xw ad (cm ad ca (V, va_up U 34 (U a % 4294967296 ^ (i + 1) * U b), sc, ia, la)) 187) (congrArg (fun M => xw ad M 187) (by rw [← hS2]; exact cm_extU (mw_ext (fun j hj => bq_lo (by omega))))) ?_
              refine k_iinc (pc := 159) (v := nI (i + 1)) (lv' := [(4, .int (nI (i + 1))), (9, .int (nI s)), (7, .long (lN c)), (5, .long (lN at1)), (0, .ref (ad (174))), (1, .int (nI t)), (2, .int (nI a)), (3, .int (nI b))]) C dX7_product_159 (k := 3) rfl (nI_1 _) (by decide) rfl ?_
              refine k_goto (pc := 162) (tgt := 10) C dX7_product_162 (by decide) ?_
              refine k_sub [0, 4, 5, 6, 7] rfl ?_
              exact ih (i + 1) (by omega) (by omega)
            · rw [q_le (by omega) (by omega)] at c44
              refine k_aload_n (pc := 47) C dX7_product_47 rfl 4 rfl ?_
              refine gf_X7_7 (pc := 48) C (174) (by decide) cm_174 rfl dX7_product_48 ?_
              refine k_bipush (pc := 51) (v := nI 12) C dX7_product_51 (by decide) ?_
              refine k_iload_n (pc := 53) C dX7_product_53 rfl 7 rfl ?_
              refine k_imul (pc := 54) C dX7_product_54 ?_
              refine k_eqi (y := nI (12 * b)) (pk_mul _ _) ?_
              refine k_iload (pc := 55) C dX7_product_55 0 rfl ?_
              refine k_iadd (pc := 57) C dX7_product_57 ?_
              refine k_eqi (y := nI (12 * b + s)) (nI_add _ _) ?_
              refine k_lald (pc := 58) C E (175) (by decide) cm_175 (12 * b + s) rfl (by omega) (by decide) dX7_product_58 ?_
              refine k_eql (y := lN (y % 4294967296)) (by rw [mw_at _ hb (by omega), upn nb, hy]) ?_
              refine k_lstore (pc := 59) (lv' := [(10, .long (lN (y % 4294967296))), (9, .int (nI s)), (7, .long (lN c)), (5, .long (lN at1)), (4, .int (nI i)), (0, .ref (ad (174))), (1, .int (nI t)), (2, .int (nI a)), (3, .int (nI b))]) C dX7_product_59 (by decide) rfl ?_
              refine k_lload (pc := 61) C dX7_product_61 3 rfl ?_
              refine k_lload (pc := 63) C dX7_product_63 0 rfl ?_
              refine k_ldc2 (pc := 65) C kc_X7_70 dX7_product_65 ?_
              refine k_eql (y := lN 65535) rfl ?_
              refine k_land (pc := 68) C dX7_product_68 ?_
              refine k_eql (y := lN (y % 4294967296 % 65536)) (lmask16 (by omega)) ?_
              refine k_lmul (pc := 69) C dX7_product_69 ?_
              refine k_eql (y := lN A0) (by rw [lN_mul, hA0]) ?_
              refine k_aload_n (pc := 70) C dX7_product_70 rfl 5 rfl ?_
              refine gf_X7_7 (pc := 71) C (174) (by decide) cm_174 rfl dX7_product_71 ?_
              refine k_sipush (pc := 74) (v := nI 408) C dX7_product_74 (by decide) ?_
              refine k_iload (pc := 77) C dX7_product_77 4 rfl ?_
              refine k_iadd (pc := 79) C dX7_product_79 ?_
              refine k_eqi (y := nI (408 + i)) (nI_add _ _) ?_
              refine k_iload (pc := 80) C dX7_product_80 1 rfl ?_
              refine k_iadd (pc := 82) C dX7_product_82 ?_
              refine k_eqi (y := nI (12 * 34 + (i + s))) (by rw [nI_add]; congr 1; omega) ?_
              refine k_lald (pc := 83) C E (175) (by decide) cm_175 (12 * 34 + (i + s)) rfl (by omega) (by decide) dX7_product_83 ?_
              refine k_eql (y := lN (g % 4294967296)) (by rw [mw_at _ (by decide) (by omega), ups, bq_hi (Nat.le_refl _), hg]) ?_
              refine k_ladd (pc := 84) C dX7_product_84 ?_
              refine k_eql (y := lN (A0 + g % 4294967296)) (lN_add _ _) ?_
              refine k_lload (pc := 85) C dX7_product_85 2 rfl ?_
              refine k_ldc2 (pc := 87) C kc_X7_60 dX7_product_87 ?_
              refine k_eql (y := lN 4294967295) rfl ?_
              refine k_land (pc := 90) C dX7_product_90 ?_
              refine k_eql (y := lN c) (by rw [lmaskN (by omega), Nat.mod_eq_of_lt hc]) ?_
              refine k_ladd (pc := 91) C dX7_product_91 ?_
              refine k_eql (y := lN (A0 + g % 4294967296 + c)) (lN_add _ _) ?_
              refine k_lstore (pc := 92) (lv' := [(12, .long (lN (A0 + g % 4294967296 + c))), (10, .long (lN (y % 4294967296))), (9, .int (nI s)), (7, .long (lN c)), (5, .long (lN at1)), (4, .int (nI i)), (0, .ref (ad (174))), (1, .int (nI t)), (2, .int (nI a)), (3, .int (nI b))]) C dX7_product_92 (by decide) rfl ?_
              refine k_lload (pc := 94) C dX7_product_94 4 rfl ?_
              refine k_lload (pc := 96) C dX7_product_96 1 rfl ?_
              refine k_bipush (pc := 98) (v := nI 16) C dX7_product_98 (by decide) ?_
              refine k_lushr (pc := 100) C dX7_product_100 rfl ?_
              refine k_eql (y := lN (y % 4294967296 / 65536)) (lsh16 (by omega)) ?_
              refine k_lmul (pc := 101) C dX7_product_101 ?_
              refine k_eql (y := lN A1) (by rw [lN_mul, hA1]) ?_
              refine k_lload (pc := 102) C dX7_product_102 0 rfl ?_
              refine k_bipush (pc := 104) (v := nI 16) C dX7_product_104 (by decide) ?_
              refine k_lushr (pc := 106) C dX7_product_106 rfl ?_
              refine k_eql (y := lN ((A0 + g % 4294967296 + c) / 65536)) (lsh16 (by omega)) ?_
              refine k_ladd (pc := 107) C dX7_product_107 ?_
              refine k_eql (y := lN (A1 + (A0 + g % 4294967296 + c) / 65536)) (lN_add _ _) ?_
              refine k_lstore (pc := 108) (lv' := [(14, .long (lN (A1 + (A0 + g % 4294967296 + c) / 65536))), (12, .long (lN (A0 + g % 4294967296 + c))), (10, .long (lN (y % 4294967296))), (9, .int (nI s)), (7, .long (lN c)), (5, .long (lN at1)), (4, .int (nI i)), (0, .ref (ad (174))), (1, .int (nI t)), (2, .int (nI a)), (3, .int (nI b))]) C dX7_product_108 (by decide) rfl ?_
              refine k_aload_n (pc := 110) C dX7_product_110 rfl 7 rfl ?_
              refine gf_X7_7 (pc := 111) C (174) (by decide) cm_174 rfl dX7_product_111 ?_
              refine k_sipush (pc := 114) (v := nI 408) C dX7_product_114 (by decide) ?_
              refine k_iload (pc := 117) C dX7_product_117 6 rfl ?_
              refine k_iadd (pc := 119) C dX7_product_119 ?_
              refine k_eqi (y := nI (408 + i)) (nI_add _ _) ?_
              refine k_iload (pc := 120) C dX7_product_120 3 rfl ?_
              refine k_iadd (pc := 122) C dX7_product_122 ?_
              refine k_eqi (y := nI (12 * 34 + (i + s))) (by rw [nI_add]; congr 1; omega) ?_
              refine k_lload (pc := 123) C dX7_product_123 0 rfl ?_
              refine k_ldc2 (pc := 125) C kc_X7_70 dX7_product_125 ?_
              refine k_eql (y := lN 65535) rfl ?_
              refine k_land (pc := 128) C dX7_product_128 ?_
              refine k_eql (y := lN ((A1 + (A0 + g % 4294967296 + c) / 65536) % 65536)) (lmask16 (by omega)) ?_
              refine k_bipush (pc := 129) (v := nI 16) C dX7_product_129 (by decide) ?_
              refine k_lshl (pc := 131) C dX7_product_131 rfl ?_
              refine k_eql (y := lN ((A1 + (A0 + g % 4294967296 + c) / 65536) % 65536 * 65536)) (wb_shl ((A1 + (A0 + g % 4294967296 + c) / 65536) % 65536) (k := 16) (by decide)) ?_
              refine k_lload (pc := 132) C dX7_product_132 1 rfl ?_
              refine k_ldc2 (pc := 134) C kc_X7_70 dX7_product_134 ?_
              refine k_eql (y := lN 65535) rfl ?_
              refine k_land (pc := 137) C dX7_product_137 ?_
              refine k_eql (y := lN ((A0 + g % 4294967296 + c) % 65536)) (lmask16 (by omega)) ?_
              refine k_lor (pc := 138) C dX7_product_138 ?_
              refine k_eql (y := lN ((A1 + (A0 + g % 4294967296 + c) / 65536) % 65536 * 65536 + (A0 + g % 4294967296 + c) % 65536)) (g_or (k := 16) (p := 65536) rfl (Nat.mod_lt _ (by decide)) (by omega)) ?_
              refine k_last (pc := 139) C E (175) (by decide) cm_175 (12 * 34 + (i + s)) rfl (by omega) (by decide) dX7_product_139 ?_
              refine k_w (w' := xw ad (cm ad ca (V, va_up U 34 (bq (i + (s + 1)) S2 S1), sc, ia, la)) 187) (by rw [mw_bq (by decide) (by omega) (by rw [hq]; omega), cm_upU]; rfl) ?_
              refine k_lload (pc := 140) C dX7_product_140 0 rfl ?_
              refine k_bipush (pc := 142) (v := nI 16) C dX7_product_142 (by decide) ?_
              refine k_lushr (pc := 144) C dX7_product_144 rfl ?_
              refine k_eql (y := lN ((A1 + (A0 + g % 4294967296 + c) / 65536) / 65536)) (lsh16 (by omega)) ?_
              refine k_lload (pc := 145) C dX7_product_145 4 rfl ?_
              refine k_bipush (pc := 147) (v := nI 32) C dX7_product_147 (by decide) ?_
              refine k_lushr (pc := 149) C dX7_product_149 rfl ?_
              refine k_eql (y := lN (c / 4294967296)) (lsh32 (by omega)) ?_
              refine k_ladd (pc := 150) C dX7_product_150 ?_
              refine k_eql (y := lN ((A1 + (A0 + g % 4294967296 + c) / 65536) / 65536 + c / 4294967296)) (lN_add _ _) ?_
              refine k_lstore (pc := 151) (lv' := [(7, .long (lN ((A1 + (A0 + g % 4294967296 + c) / 65536) / 65536 + c / 4294967296))), (14, .long (lN (A1 + (A0 + g % 4294967296 + c) / 65536))), (12, .long (lN (A0 + g % 4294967296 + c))), (10, .long (lN (y % 4294967296))), (9, .int (nI s)), (5, .long (lN at1)), (4, .int (nI i)), (0, .ref (ad (174))), (1, .int (nI t)), (2, .int (nI a)), (3, .int (nI b))]) C dX7_product_151 (by decide) rfl ?_
              refine k_iinc (pc := 153) (v := nI (s + 1)) (lv' := [(9, .int (nI (s + 1))), (7, .long (lN ((A1 + (A0 + g % 4294967296 + c) / 65536) / 65536 + c / 4294967296))), (14, .long (lN (A1 + (A0 + g % 4294967296 + c) / 65536))), (12, .long (lN (A0 + g % 4294967296 + c))), (10, .long (lN (y % 4294967296))), (5, .long (lN at1)), (4, .int (nI i)), (0, .ref (ad (174))), (1, .int (nI t)), (2, .int (nI a)), (3, .int (nI b))]) C dX7_product_153 (k := 4) rfl (nI_1 _) (by decide) rfl ?_
              refine k_goto (pc := 156) (tgt := 37) C dX7_product_156 (by decide) ?_
              refine k_sub [0, 1, 5, 6, 7, 8, 9, 10] rfl ?_
              exact ih2 (s + 1) ((A1 + (A0 + g % 4294967296 + c) / 65536) / 65536 + c / 4294967296) (by omega) (by omega) (by omega) (by rw [← Nat.add_assoc, dq_s, dq_s, dq_s, ← hy, ← hg, hq]; omega)
        refine k_sub [0, 1, 2, 3, 4, 5, 6, 7] rfl ?_
        have h0 := loop 13 0 0 (by decide) (by omega) (by decide) (by rw [Nat.add_zero, hst, Nat.pow_zero, Nat.div_one, Nat.add_zero])
        rw [Nat.add_zero] at h0
        have e9 : bq i S2 S1 = S1 := by
          unfold bq
          have : S2 % 4294967296 ^ i = S1 % 4294967296 ^ i := by rw [hS1, hS2, Nat.mod_pow_succ, Nat.add_mul, Nat.mul_assoc, Nat.add_mul_mod_self_left]
          rw [this, Nat.mul_comm]; exact Nat.mod_add_div _ _
        rw [e9] at h0
        exact h0
  refine k_aload_n (pc := 0) C dX7_product_0 rfl 0 rfl ?_
  refine k_bipush (pc := 1) (v := nI 34) C dX7_product_1 (by decide) ?_
  refine k_lconst (pc := 3) (v := lN 0) C dX7_product_3 (by decide) ?_
  refine cv_X7_62 (pc := 4) C E (c7_set (t := 34) (a := 0) (by decide) (by decide)) rfl (by decide) cm_174 (by decide) rfl (Nat.le_of_ble_eq_true rfl) dX7_product_4 (fun M4 h4 => ?_)
  subst h4
  refine k_iconst (pc := 7) (v := nI 0) C dX7_product_7 (by decide) ?_
  refine k_istore (pc := 8) (lv' := [(4, .int (nI 0)), (0, .ref (ad (174))), (1, .int (nI t)), (2, .int (nI a)), (3, .int (nI b))]) C dX7_product_8 (by decide) rfl ?_
  have h0 := outer 13 0 (by decide) (by decide)
  rw [Nat.pow_zero, Nat.mod_one, Nat.zero_mul] at h0
  exact h0
end MB
