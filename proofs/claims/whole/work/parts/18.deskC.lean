section DC
variable {l : Launch} {D : va_G} {ca : Nat → ClassId} {ad : Nat → Nat} {V U : Nat → Nat} {sc : Nat → Int32} {ia : Nat → Nat → Int32} {la : Nat → Nat → Int64}
set_option maxHeartbeats 4000000 in
set_option maxRecDepth 100000 in
/-- Desk.split -/
theorem c_split (hA : V 136 < 65536 ^ 22) (hB : V 138 < 65536 ^ 24) : xV l D (xty ca) yX1_split cX1_split 4 none 3 150 [.ref (ad 135)] ad (cm ad ca (V, U, sc, ia, la)) (fun M' => ∃ d, M' = cm ad ca (wq V (V 136 / V 138) (V 136 % V 138) (d), U, sc, ia, la)) := by
  refine xM.of (by decide) (Nat.le_of_ble_eq_true rfl) (fun z C E => ?_)
  refine k_aload_n (pc := 0) C dX1_split_0 rfl 0 rfl ?_
  refine gf_X1_21 (pc := 1) C (135) (by decide) cm_135 rfl dX1_split_1 ?_
  refine cv_X1_39 (pc := 4) C E (c_clear w140) rfl (by decide) (cm_w w140) (by decide) rfl (Nat.le_of_ble_eq_true rfl) dX1_split_4 (fun M4 h4 => ?_)
  subst h4
  rw [wq_s]
  refine k_aload_n (pc := 7) C dX1_split_7 rfl 0 rfl ?_
  refine gf_X1_24 (pc := 8) C (135) (by decide) cm_135 rfl dX1_split_8 ?_
  refine k_aload_n (pc := 11) C dX1_split_11 rfl 0 rfl ?_
  refine gf_X1_12 (pc := 12) C (135) (by decide) cm_135 rfl dX1_split_12 ?_
  refine cv_X1_42 (pc := 15) C E (c_copy w142 w136 (by decide)) rfl (by decide) (cm_w w142) (by decide) rfl (Nat.le_of_ble_eq_true rfl) dX1_split_15 (fun M15 h15 => ?_)
  subst h15
  rw [wq_u2, wq_o (k := 136) (by decide)]
  refine k_aload_n (pc := 18) C dX1_split_18 rfl 0 rfl ?_
  refine gf_X1_18 (pc := 19) C (135) (by decide) cm_135 rfl dX1_split_19 ?_
  refine cv_X1_46 (pc := 22) C E (c_used w138 (by rw [wq_o (by decide)]; exact hB)) rfl (by decide) (cm_w w138) (by decide) rfl (Nat.le_of_ble_eq_true rfl) dX1_split_22 (fun r22 M22 h22 => ?_)
  obtain ⟨rfl, n, hn, rfl, hn1, hn2⟩ := h22
  rw [wq_o (by decide)] at hn1 hn2
  refine k_istore_n (pc := 25) (lv' := [(1, .int (nI n)), (0, .ref (ad (135)))]) C dX1_split_25 rfl (by decide) rfl ?_
  refine k_iload_n (pc := 26) C dX1_split_26 rfl 0 rfl ?_
  refine k_if_ne (pc := 27) (tgt := 31) C dX1_split_27 (by decide) (fun c27 => ?_) (fun c27 => ?_)
  · rw [q_eq0 (by omega)] at c27
    obtain ⟨n1, n2, n3, n4⟩ := norm2 (by omega) (hn2 (by omega)) hn1
    obtain ⟨tp, htp⟩ : ∃ t, t = V 138 / 65536 ^ (n - 1) % 65536 := ⟨_, rfl⟩
    rw [← htp] at n1 n2 n3 n4
    have htl : tp < 65536 := by rw [htp]; exact Nat.mod_lt _ (by decide)
    obtain ⟨f, hf⟩ : ∃ f, Hid (f = 65536 / (tp + 1)) := ⟨_, rfl⟩
    rw [← show f = _ from hf] at n1 n2 n3 n4
    refine k_ldc (pc := 31) C kc_X1_50 dX1_split_31 ?_
    refine k_eqi (y := nI 65536) rfl ?_
    refine k_aload_n (pc := 33) C dX1_split_33 rfl 1 rfl ?_
    refine gf_X1_18 (pc := 34) C (135) (by decide) cm_135 rfl dX1_split_34 ?_
    refine gf_X1_51 (pc := 37) C (138) (by decide) (cm_w w138) rfl dX1_split_37 ?_
    refine k_iload_n (pc := 40) C dX1_split_40 rfl 0 rfl ?_
    refine k_iconst (pc := 41) (v := nI 1) C dX1_split_41 (by decide) ?_
    refine k_isub (pc := 42) C dX1_split_42 ?_
    refine k_eqi (y := nI (n - 1)) (pk_sub (by omega)) ?_
    refine k_iald (pc := 43) C E (138 + 1) (by decide) (cm_l w138) (n - 1) rfl (by omega) (by decide) dX1_split_43 ?_
    refine k_eqi (y := nI tp) (by rw [dg_lt (by omega), wq_o (by decide), htp]) ?_
    refine k_iconst (pc := 44) (v := nI 1) C dX1_split_44 (by decide) ?_
    refine k_iadd (pc := 45) C dX1_split_45 ?_
    refine k_eqi (y := nI (tp + 1)) (nI_1 _) ?_
    refine k_idiv (pc := 46) C dX1_split_46 (nI_ne0 (by omega) (by omega)) ?_
    refine k_eqi (y := nI f) (by rw [show f = _ from hf]; exact pk_div (by decide) (by omega) (by omega)) ?_
    refine k_istore_n (pc := 47) (lv' := [(2, .int (nI f)), (1, .int (nI n)), (0, .ref (ad (135)))]) C dX1_split_47 rfl (by decide) rfl ?_
    refine k_aload_n (pc := 48) C dX1_split_48 rfl 2 rfl ?_
    refine gf_X1_27 (pc := 49) C (135) (by decide) cm_135 rfl dX1_split_49 ?_
    refine k_aload_n (pc := 52) C dX1_split_52 rfl 2 rfl ?_
    refine gf_X1_18 (pc := 53) C (135) (by decide) cm_135 rfl dX1_split_53 ?_
    refine cv_X1_42 (pc := 56) C E (c_copy w144 w138 (by decide)) rfl (by decide) (cm_w w144) (by decide) rfl (Nat.le_of_ble_eq_true rfl) dX1_split_56 (fun M56 h56 => ?_)
    subst h56
    rw [wq_u4, wq_o (k := 138) (by decide)]
    refine k_aload_n (pc := 59) C dX1_split_59 rfl 2 rfl ?_
    refine gf_X1_27 (pc := 60) C (135) (by decide) cm_135 rfl dX1_split_60 ?_
    refine k_iload_n (pc := 63) C dX1_split_63 rfl 0 rfl ?_
    refine k_iconst (pc := 64) (v := nI 0) C dX1_split_64 (by decide) ?_
    refine cv_X1_55 (pc := 65) C E (c_scale w144 (p := f) (q := 0) (by omega) (by decide)) rfl (by decide) (cm_w w144) (by decide) rfl (Nat.le_of_ble_eq_true rfl) dX1_split_65 (fun M65 h65 => ?_)
    subst h65
    rw [wq_u4, wq_4, Nat.add_zero]
    refine k_aload_n (pc := 68) C dX1_split_68 rfl 2 rfl ?_
    refine gf_X1_24 (pc := 69) C (135) (by decide) cm_135 rfl dX1_split_69 ?_
    refine k_iload_n (pc := 72) C dX1_split_72 rfl 0 rfl ?_
    refine k_iconst (pc := 73) (v := nI 0) C dX1_split_73 (by decide) ?_
    refine cv_X1_55 (pc := 74) C E (c_scale w142 (p := f) (q := 0) (by omega) (by decide)) rfl (by decide) (cm_w w142) (by decide) rfl (Nat.le_of_ble_eq_true rfl) dX1_split_74 (fun M74 h74 => ?_)
    subst h74
    rw [wq_u2, wq_2, Nat.add_zero]
    have hAf : V 136 * f < 65536 ^ 23 := by
      have h := Nat.mul_lt_mul_of_lt_of_le hA (Nat.le_of_lt n4) (by decide)
      rw [← Nat.pow_succ] at h
      exact h
    refine k_aload_n (pc := 77) C dX1_split_77 rfl 2 rfl ?_
    refine gf_X1_24 (pc := 78) C (135) (by decide) cm_135 rfl dX1_split_78 ?_
    refine cv_X1_46 (pc := 81) C E (c_used w142 (by rw [wq_2]; exact Nat.lt_trans hAf (Nat.pow_lt_pow_right (by decide) (by decide)))) rfl (by decide) (cm_w w142) (by decide) rfl (Nat.le_of_ble_eq_true rfl) dX1_split_81 (fun r81 M81 h81 => ?_)
    obtain ⟨rfl, u, hu, rfl, hu1, hu2⟩ := h81
    rw [wq_2] at hu1 hu2
    have hu3 : u ≤ 23 := by
      rcases Nat.lt_or_ge 23 u with h | h
      · have h3 := hu2 (by omega)
        have h4 := pw_le (a := 23) (b := u - 1) (by omega)
        exact absurd (Nat.lt_of_le_of_lt (Nat.le_trans h4 h3) hAf) (Nat.lt_irrefl _)
      · exact h
    refine k_bipush (pc := 84) (v := nI 23) C dX1_split_84 (by decide) ?_
    refine k_mmin (pc := 86) C E wm_X1_59 wst_Lib_Math_min_name wI_Math wc_Lib_Math_min_name (by decide) (by decide) (by decide) (by decide) dX1_split_86 ?_
    refine k_eqi (y := nI u) (by rw [if_neg (by rw [q_lt (by decide) (by omega)]; omega)]) ?_
    refine k_iload_n (pc := 89) C dX1_split_89 rfl 1 rfl ?_
    refine k_isub (pc := 90) C dX1_split_90 ?_
    refine k_eqi (y := iz ((u : Int) - (n : Int))) (iz_sub (u : Int) (n : Int)) ?_
    refine k_istore_n (pc := 91) (lv' := [(3, .int (iz ((u : Int) - (n : Int)))), (2, .int (nI f)), (1, .int (nI n)), (0, .ref (ad (135)))]) C dX1_split_91 rfl (by decide) rfl ?_
    obtain ⟨R0, hR0⟩ : ∃ R, R = V 136 * f := ⟨_, rfl⟩
    obtain ⟨Dv, hDv⟩ : ∃ D, D = V 138 * f := ⟨_, rfl⟩
    rw [← hDv] at n1 n2
    rw [← hR0] at hu1 hu2 hAf
    rw [← hR0, ← hDv]
    have hD0 : 0 < Dv := by have := pw_pos n; omega
    have fin : xK z (xw ad (cm ad ca (wq V (R0 / Dv) (R0 % Dv) (Dv), U, sc, ia, la)) 187) 0 0 117 [(0, .ref (ad 135)), (2, .int (nI f))] [] := by
      refine k_aload_n (pc := 117) C dX1_split_117 rfl 0 rfl ?_
      refine gf_X1_24 (pc := 118) C (135) (by decide) cm_135 rfl dX1_split_118 ?_
      refine k_iload_n (pc := 121) C dX1_split_121 rfl 1 rfl ?_
      refine cv_X1_68 (pc := 122) C E (c_shrink w142 (b := f) (by rw [wq_2]; exact Nat.lt_of_le_of_lt (Nat.mod_le _ _) (Nat.lt_trans hAf (Nat.pow_lt_pow_right (by decide) (by decide)))) n3 n4) rfl (by decide) (cm_w w142) (by decide) rfl (Nat.le_of_ble_eq_true rfl) dX1_split_122 (fun r122 M122 h122 => ?_)
      obtain ⟨rfl, -⟩ := h122
      rw [wq_u2, wq_2]
      refine k_pop (pc := 125) C dX1_split_125 rfl ?_
      exact r_v (pc := 126) C E (⟨Dv, by rw [hR0, hDv, (split_end n3).1, (split_end n3).2]⟩) dX1_split_126
    have loop : ∀ c : Nat, c + n ≤ 24 → xK z (xw ad (cm ad ca (wq V (bl c 0 (R0 / Dv)) (R0 % (Dv * 65536 ^ c)) (Dv), U, sc, ia, la)) 187) 0 0 92 [(3, .int (iz ((c : Int) - 1))), (0, .ref (ad 135)), (1, .int (nI n)), (2, .int (nI f))] [] := by
      intro c
      induction c with
      | zero =>
        intro hc
        rw [bl_0, Nat.pow_zero, Nat.mul_one]
        refine k_iload_n (pc := 92) C dX1_split_92 rfl 0 rfl ?_
        refine k_if_lt (pc := 93) (tgt := 117) C dX1_split_93 (by decide) (fun c93 => ?_) (fun c93 => ?_)
        · rw [iz_lt0 (by omega) (by omega)] at c93
          refine k_sub [1, 3] rfl ?_
          exact fin
        · rw [iz_lt0 (by omega) (by omega)] at c93
          exact absurd (by decide) c93
      | succ c ih =>
        intro hc
        have hsp := split_step (R0 := R0) (Dv := Dv) (c := c)
        refine k_iload_n (pc := 92) C dX1_split_92 rfl 0 rfl ?_
        refine k_if_lt (pc := 93) (tgt := 117) C dX1_split_93 (by decide) (fun c93 => ?_) (fun c93 => ?_)
        · rw [iz_lt0 (by omega) (by omega)] at c93
          exact absurd c93 (by omega)
        · rw [iz_lt0 (by omega) (by omega)] at c93
          refine k_aload_n (pc := 96) C dX1_split_96 rfl 1 rfl ?_
          refine gf_X1_21 (pc := 97) C (135) (by decide) cm_135 rfl dX1_split_97 ?_
          refine gf_X1_51 (pc := 100) C (140) (by decide) (cm_w w140) rfl dX1_split_100 ?_
          refine k_iload_n (pc := 103) C dX1_split_103 rfl 0 rfl ?_
          refine k_eqi (y := nI c) (iz_pos (t := ((c + 1 : Nat) : Int) - 1) (by omega) |>.trans (congrArg nI (by omega))) ?_
          refine k_aload_n (pc := 104) C dX1_split_104 rfl 1 rfl ?_
          refine k_iload_n (pc := 105) C dX1_split_105 rfl 0 rfl ?_
          refine k_eqi (y := nI c) (iz_pos (t := ((c + 1 : Nat) : Int) - 1) (by omega) |>.trans (congrArg nI (by omega))) ?_
          refine k_iload_n (pc := 106) C dX1_split_106 rfl 2 rfl ?_
          refine cv_X1_65 (pc := 107) C E (c_next (j := c) (n := n) (by omega) (by omega) (by rw [wq_4]; exact n1) (by rw [wq_4]; exact n2) (by rw [wq_2, wq_4]; exact Nat.mod_lt _ (Nat.mul_pos hD0 (pw_pos _)))) rfl (by decide) cm_135 (by decide) rfl (Nat.le_of_ble_eq_true rfl) dX1_split_107 (fun r107 M107 h107 => ?_)
          obtain ⟨rfl, rfl⟩ := h107
          rw [wq_u2, wq_2, wq_4, hsp.1, hsp.2]
          refine k_iast (pc := 110) C E (140 + 1) (by decide) (cm_l w140) (c) rfl (by omega) (by decide) dX1_split_110 ?_
          refine k_w (w' := xw ad (cm ad ca (wq V (bl c 0 (R0 / Dv)) (R0 % (Dv * 65536 ^ c)) (Dv), U, sc, ia, la)) 187) (by rw [wq_0, bl_dnd (by omega) rfl, cm_upV w140, wq_u0]) ?_
          refine k_iinc (pc := 111) (v := iz ((c : Int) - 1)) (lv' := [(3, .int (iz ((c : Int) - 1))), (0, .ref (ad (135))), (1, .int (nI n)), (2, .int (nI f))]) C dX1_split_111 (k := 0) rfl (show iz (((c + 1 : Nat) : Int) - 1) + iz (-1) = _ by rw [iz_add]; congr 1; omega) (by decide) rfl ?_
          refine k_goto (pc := 114) (tgt := 92) C dX1_split_114 (by decide) ?_
          refine k_sub [0, 1, 2, 3] rfl ?_
          exact ih (by omega)
    rcases Nat.lt_or_ge u n with hun | hun
    · refine k_iload_n (pc := 92) C dX1_split_92 rfl 0 rfl ?_
      refine k_if_lt (pc := 93) (tgt := 117) C dX1_split_93 (by decide) (fun c93 => ?_) (fun c93 => ?_)
      · rw [iz_lt0 (by omega) (by omega)] at c93
        refine k_sub [3, 1] rfl ?_
        have hlt : R0 < Dv := by
          have h3 := Nat.lt_of_lt_of_le hu1 (pw_le (show u ≤ n - 1 by omega))
          have h4 : 65536 ^ n = 65536 ^ (n - 1) * 65536 := by rw [← Nat.pow_succ]; congr 1; omega
          omega
        have h9 := fin
        rw [Nat.div_eq_of_lt hlt, Nat.mod_eq_of_lt hlt] at h9
        exact h9
      · rw [iz_lt0 (by omega) (by omega)] at c93
        exact absurd (by omega) c93
    · have h9 := loop (u - n + 1) (by omega)
      have hlt : R0 < Dv * 65536 ^ (u - n + 1) := by
        have h4 : 65536 ^ n = 65536 ^ (n - 1) * 65536 := by rw [← Nat.pow_succ]; congr 1; omega
        have h5 : 65536 ^ (n - 1) ≤ Dv := by omega
        have h6 : 65536 ^ u = 65536 ^ (n - 1) * 65536 ^ (u - n + 1) := by rw [← Nat.pow_add]; congr 1; omega
        rw [h6] at hu1
        exact Nat.lt_of_lt_of_le hu1 (Nat.mul_le_mul_right _ h5)
      rw [Nat.mod_eq_of_lt hlt, show bl (u - n + 1) 0 (R0 / Dv) = 0 by unfold bl; rw [Nat.zero_mod, Nat.div_eq_of_lt (Nat.div_lt_of_lt_mul hlt), Nat.zero_mul], show (((u - n + 1 : Nat) : Int) - 1) = (u : Int) - (n : Int) by omega] at h9
      refine k_sub [0, 3, 2, 1] rfl ?_
      exact h9
  · rw [q_eq0 (by omega)] at c27
    exact r_v (pc := 30) C E (by
      have h0 : V 138 = 0 := by rw [c27] at hn1; simpa using hn1
      exact ⟨V 144, by rw [h0, Nat.div_zero, Nat.mod_zero]⟩) dX1_split_30
end DC
