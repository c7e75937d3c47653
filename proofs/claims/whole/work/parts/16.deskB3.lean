section DB
variable {l : Launch} {D : va_G} {ca : Nat → ClassId} {ad : Nat → Nat} {V U : Nat → Nat} {sc : Nat → Int32} {ia : Nat → Nat → Int32} {la : Nat → Nat → Int64}
set_option maxHeartbeats 4000000 in
set_option maxRecDepth 100000 in
/-- Desk.nextLimb -/
theorem c_next {j n : Nat} (hn : 0 < n) (hjn : j + n < 24) (hD1 : 65536 ^ n ≤ 2 * V 144) (hD2 : V 144 < 65536 ^ n) (hR : V 142 < V 144 * 65536 ^ (j + 1)) : xI l D (xty ca) yX1_nextLimb cX1_nextLimb 8 (some .int) 1 28 [.ref (ad 135), .int (nI j), .int (nI n)] ad (cm ad ca (V, U, sc, ia, la)) (fun r M' => M' = cm ad ca (va_up V 142 (V 142 % 65536 ^ j + V 142 / 65536 ^ j % V 144 * 65536 ^ j), U, sc, ia, la) ∧ r = nI (V 142 / 65536 ^ j / V 144)) := by
  refine xM.of (by decide) (Nat.le_of_ble_eq_true rfl) (fun z C E => ?_)
  have hR1 : V 142 < 65536 ^ (j + n + 1) := by
    rw [show j + n + 1 = n + (j + 1) by omega, Nat.pow_add]
    exact Nat.lt_of_lt_of_le hR (Nat.mul_le_mul_right _ (Nat.le_of_lt hD2))
  have hb : V 142 < 65536 ^ 24 := Nat.lt_of_lt_of_le hR1 (pw_le (by omega))
  have hbd : V 144 < 65536 ^ 24 := Nat.lt_of_lt_of_le hD2 (pw_le (by omega))
  have hD0 : 0 < V 144 := by have := pw_pos n; omega
  obtain ⟨g1, g2, g3⟩ := guess_limb (j := j) hn hD1 hD2 hR
  obtain ⟨a2, ha2⟩ : ∃ a, a = V 142 / 65536 ^ (j + n) % 65536 := ⟨_, rfl⟩
  obtain ⟨a1, ha1⟩ : ∃ a, a = V 142 / 65536 ^ (j + n - 1) % 65536 := ⟨_, rfl⟩
  obtain ⟨a0, ha0⟩ : ∃ a, a = la0 (V 142) (((j + n : Nat) : Int) - 2) := ⟨_, rfl⟩
  obtain ⟨d1, hd1⟩ : ∃ a, a = V 144 / 65536 ^ (n - 1) % 65536 := ⟨_, rfl⟩
  obtain ⟨d0, hd0⟩ : ∃ a, a = la0 (V 144) ((n : Int) - 2) := ⟨_, rfl⟩
  rw [← ha2, ← ha1, ← ha0, ← hd1, ← hd0] at g1 g2
  rw [← hd1, ← hd0] at g3
  have b2 : a2 < 65536 := by rw [ha2]; exact Nat.mod_lt _ (by decide)
  have b1 : a1 < 65536 := by rw [ha1]; exact Nat.mod_lt _ (by decide)
  have b0 : a0 < 65536 := by rw [ha0]; exact la0_lt _ _
  have c1 : d1 < 65536 := by rw [hd1]; exact Nat.mod_lt _ (by decide)
  have c0 : d0 < 65536 := by rw [hd0]; exact la0_lt _ _
  obtain ⟨q, hq⟩ : ∃ q, q = V 142 / 65536 ^ j / V 144 := ⟨_, rfl⟩
  rw [← hq] at g1 g2
  obtain ⟨g, hg⟩ : ∃ g, Hid (g = min ((a2 * 4294967296 + a1 * 65536 + a0) / (d1 * 65536 + d0)) 65535) := ⟨_, rfl⟩
  rw [← show g = _ from hg] at g1 g2
  have gl : g ≤ 65535 := by rw [show g = _ from hg]; exact Nat.min_le_right _ _
  refine k_aload_n (pc := 0) C dX1_nextLimb_0 rfl 0 rfl ?_
  refine gf_X1_24 (pc := 1) C (135) (by decide) cm_135 rfl dX1_nextLimb_1 ?_
  refine k_iload_n (pc := 4) C dX1_nextLimb_4 rfl 1 rfl ?_
  refine k_iload_n (pc := 5) C dX1_nextLimb_5 rfl 2 rfl ?_
  refine k_iadd (pc := 6) C dX1_nextLimb_6 ?_
  refine k_eqi (y := nI (j + n)) (nI_add _ _) ?_
  refine cv_X1_72 (pc := 7) C E (c_limbAt w142 (k := j + n) (by omega) hb) rfl (by decide) (cm_w w142) (by decide) rfl (Nat.le_of_ble_eq_true rfl) dX1_nextLimb_7 (fun r7 M7 h7 => ?_)
  obtain ⟨rfl, rfl⟩ := h7
  rw [← ha2]
  refine k_i2l (pc := 10) C dX1_nextLimb_10 rfl ?_
  refine k_eql (y := lN a2) (nI_l (by omega)) ?_
  refine k_bipush (pc := 11) (v := nI 32) C dX1_nextLimb_11 (by decide) ?_
  refine k_lshl (pc := 13) C dX1_nextLimb_13 rfl ?_
  refine k_eql (y := lN (a2 * 4294967296)) (wb_shl a2 (k := 32) (by decide)) ?_
  refine k_aload_n (pc := 14) C dX1_nextLimb_14 rfl 0 rfl ?_
  refine gf_X1_24 (pc := 15) C (135) (by decide) cm_135 rfl dX1_nextLimb_15 ?_
  refine k_iload_n (pc := 18) C dX1_nextLimb_18 rfl 1 rfl ?_
  refine k_iload_n (pc := 19) C dX1_nextLimb_19 rfl 2 rfl ?_
  refine k_iadd (pc := 20) C dX1_nextLimb_20 ?_
  refine k_eqi (y := nI (j + n)) (nI_add _ _) ?_
  refine k_iconst (pc := 21) (v := nI 1) C dX1_nextLimb_21 (by decide) ?_
  refine k_isub (pc := 22) C dX1_nextLimb_22 ?_
  refine k_eqi (y := nI (j + n - 1)) (pk_sub (by omega)) ?_
  refine cv_X1_72 (pc := 23) C E (c_limbAt w142 (k := j + n - 1) (by omega) hb) rfl (by decide) (cm_w w142) (by decide) rfl (Nat.le_of_ble_eq_true rfl) dX1_nextLimb_23 (fun r23 M23 h23 => ?_)
  obtain ⟨rfl, rfl⟩ := h23
  rw [← ha1]
  refine k_i2l (pc := 26) C dX1_nextLimb_26 rfl ?_
  refine k_eql (y := lN a1) (nI_l (by omega)) ?_
  refine k_bipush (pc := 27) (v := nI 16) C dX1_nextLimb_27 (by decide) ?_
  refine k_lshl (pc := 29) C dX1_nextLimb_29 rfl ?_
  refine k_eql (y := lN (a1 * 65536)) (wb_shl a1 (k := 16) (by decide)) ?_
  refine k_lor (pc := 30) C dX1_nextLimb_30 ?_
  refine k_eql (y := lN (a2 * 4294967296 + a1 * 65536)) (g_or (k := 32) (p := 4294967296) rfl (by omega) (by omega)) ?_
  refine k_aload_n (pc := 31) C dX1_nextLimb_31 rfl 0 rfl ?_
  refine gf_X1_24 (pc := 32) C (135) (by decide) cm_135 rfl dX1_nextLimb_32 ?_
  refine k_iload_n (pc := 35) C dX1_nextLimb_35 rfl 1 rfl ?_
  refine k_iload_n (pc := 36) C dX1_nextLimb_36 rfl 2 rfl ?_
  refine k_iadd (pc := 37) C dX1_nextLimb_37 ?_
  refine k_eqi (y := nI (j + n)) (nI_add _ _) ?_
  refine k_iconst (pc := 38) (v := nI 2) C dX1_nextLimb_38 (by decide) ?_
  refine k_isub (pc := 39) C dX1_nextLimb_39 ?_
  refine k_eqi (y := iz (((j + n : Nat) : Int) - 2)) (iz_sub ((j + n : Nat) : Int) ((2 : Nat) : Int)) ?_
  refine cv_X1_72 (pc := 40) C E (c_limbAtZ w142 (s := ((j + n : Nat) : Int) - 2) (by omega) (by omega) hb) rfl (by decide) (cm_w w142) (by decide) rfl (Nat.le_of_ble_eq_true rfl) dX1_nextLimb_40 (fun r40 M40 h40 => ?_)
  obtain ⟨rfl, rfl⟩ := h40
  rw [← ha0]
  refine k_i2l (pc := 43) C dX1_nextLimb_43 rfl ?_
  refine k_eql (y := lN a0) (nI_l (by omega)) ?_
  refine k_lor (pc := 44) C dX1_nextLimb_44 ?_
  refine k_eql (y := lN (a2 * 4294967296 + a1 * 65536 + a0)) (by rw [show a2 * 4294967296 + a1 * 65536 = (a2 * 65536 + a1) * 65536 by omega]; exact g_or (k := 16) (p := 65536) rfl b0 (by omega)) ?_
  refine k_topl (fun hv ehv => ?_)
  refine k_lstore_n (pc := 45) (lv' := [(3, .long (hv)), (0, .ref (ad (135))), (1, .int (nI j)), (2, .int (nI n))]) C dX1_nextLimb_45 rfl (by decide) rfl ?_
  refine k_aload_n (pc := 46) C dX1_nextLimb_46 rfl 1 rfl ?_
  refine gf_X1_27 (pc := 47) C (135) (by decide) cm_135 rfl dX1_nextLimb_47 ?_
  refine k_iload_n (pc := 50) C dX1_nextLimb_50 rfl 3 rfl ?_
  refine k_iconst (pc := 51) (v := nI 1) C dX1_nextLimb_51 (by decide) ?_
  refine k_isub (pc := 52) C dX1_nextLimb_52 ?_
  refine k_eqi (y := nI (n - 1)) (pk_sub (by omega)) ?_
  refine cv_X1_72 (pc := 53) C E (c_limbAt w144 (k := n - 1) (by omega) hbd) rfl (by decide) (cm_w w144) (by decide) rfl (Nat.le_of_ble_eq_true rfl) dX1_nextLimb_53 (fun r53 M53 h53 => ?_)
  obtain ⟨rfl, rfl⟩ := h53
  rw [← hd1]
  refine k_i2l (pc := 56) C dX1_nextLimb_56 rfl ?_
  refine k_eql (y := lN d1) (nI_l (by omega)) ?_
  refine k_bipush (pc := 57) (v := nI 16) C dX1_nextLimb_57 (by decide) ?_
  refine k_lshl (pc := 59) C dX1_nextLimb_59 rfl ?_
  refine k_eql (y := lN (d1 * 65536)) (wb_shl d1 (k := 16) (by decide)) ?_
  refine k_aload_n (pc := 60) C dX1_nextLimb_60 rfl 1 rfl ?_
  refine gf_X1_27 (pc := 61) C (135) (by decide) cm_135 rfl dX1_nextLimb_61 ?_
  refine k_iload_n (pc := 64) C dX1_nextLimb_64 rfl 3 rfl ?_
  refine k_iconst (pc := 65) (v := nI 2) C dX1_nextLimb_65 (by decide) ?_
  refine k_isub (pc := 66) C dX1_nextLimb_66 ?_
  refine k_eqi (y := iz ((n : Int) - 2)) (iz_sub (n : Int) ((2 : Nat) : Int)) ?_
  refine cv_X1_72 (pc := 67) C E (c_limbAtZ w144 (s := (n : Int) - 2) (by omega) (by omega) hbd) rfl (by decide) (cm_w w144) (by decide) rfl (Nat.le_of_ble_eq_true rfl) dX1_nextLimb_67 (fun r67 M67 h67 => ?_)
  obtain ⟨rfl, rfl⟩ := h67
  rw [← hd0]
  refine k_i2l (pc := 70) C dX1_nextLimb_70 rfl ?_
  refine k_eql (y := lN d0) (nI_l (by omega)) ?_
  refine k_lor (pc := 71) C dX1_nextLimb_71 ?_
  refine k_eql (y := lN (d1 * 65536 + d0)) (g_or (k := 16) (p := 65536) rfl c0 (by omega)) ?_
  refine k_topl (fun dv edv => ?_)
  refine k_lstore (pc := 72) (lv' := [(5, .long (dv)), (3, .long (hv)), (0, .ref (ad (135))), (1, .int (nI j)), (2, .int (nI n))]) C dX1_nextLimb_72 (by decide) rfl ?_
  refine k_lload (pc := 74) C dX1_nextLimb_74 0 rfl ?_
  refine k_lconst (pc := 76) (v := lN 0) C dX1_nextLimb_76 (by decide) ?_
  refine k_lcmp (pc := 77) C dX1_nextLimb_77 ?_
  refine k_if_ne (pc := 78) (tgt := 83) C dX1_nextLimb_78 (by decide) (fun c78 => ?_) (fun c78 => ?_)
  · refine k_lload_n (pc := 83) C dX1_nextLimb_83 rfl 1 rfl ?_
    refine k_lload (pc := 84) C dX1_nextLimb_84 0 rfl ?_
    refine k_ldiv (pc := 86) C dX1_nextLimb_86 (by rw [edv]; exact lN_ne0 g3 (by omega)) ?_
    refine k_eql (y := lN ((a2 * 4294967296 + a1 * 65536 + a0) / (d1 * 65536 + d0))) (by rw [ehv, edv]; exact pk_lDiv (by omega) g3 (by omega)) ?_
    refine k_ldc2 (pc := 87) C kc_X1_75 dX1_nextLimb_87 ?_
    refine k_eql (y := lN 65535) rfl ?_
    refine k_mminL (pc := 90) C E wm_X1_77 wst_Lib_MathLoose_min_long_x wI_Math wc_Lib_MathLoose_min_long_x (by decide) (by decide) (by decide) (by decide) dX1_nextLimb_90 ?_
    refine k_eql (y := lN g) (by
      have h9 : (a2 * 4294967296 + a1 * 65536 + a0) / (d1 * 65536 + d0) < 9223372036854775808 := Nat.lt_of_le_of_lt (Nat.div_le_self _ _) (by omega)
      by_cases h : 65535 < (a2 * 4294967296 + a1 * 65536 + a0) / (d1 * 65536 + d0)
      · rw [if_pos ((pk_lLT (by decide) h9).mpr h)]; exact congrArg lN ((Nat.min_eq_right (Nat.le_of_lt h)).symm.trans (show g = _ from hg).symm)
      · rw [if_neg (fun q => h ((pk_lLT (by decide) h9).mp q))]; exact congrArg lN ((Nat.min_eq_left (Nat.le_of_not_lt h)).symm.trans (show g = _ from hg).symm)) ?_
    refine k_l2i (pc := 93) C dX1_nextLimb_93 rfl ?_
    refine k_eqi (y := nI g) (lN_i _) ?_
    refine k_istore (pc := 94) (lv' := [(7, .int (nI g)), (5, .long (dv)), (3, .long (hv)), (0, .ref (ad (135))), (1, .int (nI j)), (2, .int (nI n))]) C dX1_nextLimb_94 (by decide) rfl ?_
    refine k_aload_n (pc := 96) C dX1_nextLimb_96 rfl 3 rfl ?_
    refine k_iload (pc := 97) C dX1_nextLimb_97 0 rfl ?_
    refine k_iload_n (pc := 99) C dX1_nextLimb_99 rfl 4 rfl ?_
    refine k_iload_n (pc := 100) C dX1_nextLimb_100 rfl 5 rfl ?_
    refine cv_X1_80 (pc := 101) C E (c_take (m := (g : Int)) (by omega) (by omega) hjn hR1 hD2) rfl (by decide) cm_135 (by decide) rfl (Nat.le_of_ble_eq_true rfl) dX1_nextLimb_101 (fun r101 M101 h101 => ?_)
    obtain ⟨rfl, rfl⟩ := h101
    refine k_if_ge (pc := 104) (tgt := 118) C dX1_nextLimb_104 (by decide) (fun c104 => ?_) (fun c104 => ?_)
    · have hqg : g = q := by
        rcases Nat.eq_or_lt_of_le g1 with h | h
        · exact h.symm
        · obtain ⟨-, hneg⟩ := tfr_back (m := (g : Int)) hR1 hD2 hD0 (by omega)
          rw [if_pos hneg] at c104
          exact absurd c104 (by decide)
      refine k_iload (pc := 118) C dX1_nextLimb_118 0 rfl ?_
      exact r_i (pc := 120) C E (⟨by first | (rw [(tfr_ok (m := (g : Int)) hR1 hD2 (by omega)).1]; done) | (rw [bx_uu, ups, upn (by decide), (tfr_back (m := (g : Int)) hR1 hD2 hD0 (by omega)).1]), by congr 1; omega⟩) dX1_nextLimb_120
    · have hqg : g = q + 1 := by
        rcases Nat.eq_or_lt_of_le g1 with h | h
        · obtain ⟨-, hpos⟩ := tfr_ok (m := (g : Int)) hR1 hD2 (by omega)
          rw [if_neg (by omega)] at c104
          exact absurd (by decide) c104
        · omega
      refine k_iinc (pc := 107) (v := nI (g - 1)) (lv' := [(7, .int (nI (g - 1))), (5, .long (dv)), (3, .long (hv)), (0, .ref (ad (135))), (1, .int (nI j)), (2, .int (nI n))]) C dX1_nextLimb_107 (k := 0) rfl (dec1 (by omega)) (by decide) rfl ?_
      refine k_aload_n (pc := 110) C dX1_nextLimb_110 rfl 3 rfl ?_
      refine k_iconst (pc := 111) (v := iz (-1)) C dX1_nextLimb_111 (by decide) ?_
      refine k_iload_n (pc := 112) C dX1_nextLimb_112 rfl 4 rfl ?_
      refine k_iload_n (pc := 113) C dX1_nextLimb_113 rfl 5 rfl ?_
      refine cv_X1_80 (pc := 114) C E (c_take (m := -1) (by decide) (by decide) hjn (by rw [ups]; exact tfr_lt _ _ _ _ _) (by rw [upn (by decide)]; exact hD2)) rfl (by decide) cm_135 (by decide) rfl (Nat.le_of_ble_eq_true rfl) dX1_nextLimb_114 (fun r114 M114 h114 => ?_)
      obtain ⟨rfl, -⟩ := h114
      refine k_pop (pc := 117) C dX1_nextLimb_117 rfl ?_
      refine k_iload (pc := 118) C dX1_nextLimb_118 0 rfl ?_
      exact r_i (pc := 120) C E (⟨by first | (rw [(tfr_ok (m := (g : Int)) hR1 hD2 (by omega)).1]; done) | (rw [bx_uu, ups, upn (by decide), (tfr_back (m := (g : Int)) hR1 hD2 hD0 (by omega)).1]), by congr 1; omega⟩) dX1_nextLimb_120
  · exact absurd ((lg_cmp_eq _ _).mp (c78)) (by rw [edv]; exact lN_ne0 g3 (by omega))
end DB
