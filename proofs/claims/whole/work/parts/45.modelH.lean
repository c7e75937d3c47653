section MH
variable {l : Launch} {D : va_G} {ca : Nat → ClassId} {ad : Nat → Nat} {V U : Nat → Nat} {sc : Nat → Int32} {ia : Nat → Nat → Int32} {la : Nat → Nat → Int64}
set_option maxHeartbeats 4000000 in
set_option maxRecDepth 100000 in
/-- side -/
theorem c7_side {p s : Nat} (hp : p < 4) (hs : s < 3) : xI l D (xty ca) yX7_side cX7_side 2 (some .int) 0 0 [.int (nI p), .int (nI s)] ad (cm ad ca (V, U, sc, ia, la)) (fun r M' => M' = cm ad ca (V, U, sc, ia, la) ∧ r = nI (16 + 3 * p + s)) := by
  refine xM.of (by decide) (Nat.le_of_ble_eq_true rfl) (fun z C E => ?_)
  refine k_bipush (pc := 0) (v := nI 16) C dX7_side_0 (by decide) ?_
  refine k_iconst (pc := 2) (v := nI 3) C dX7_side_2 (by decide) ?_
  refine k_iload_n (pc := 3) C dX7_side_3 rfl 0 rfl ?_
  refine k_imul (pc := 4) C dX7_side_4 ?_
  refine k_eqi (y := nI (3 * p)) (pk_mul _ _) ?_
  refine k_iadd (pc := 5) C dX7_side_5 ?_
  refine k_eqi (y := nI (16 + 3 * p)) (nI_add _ _) ?_
  refine k_iload_n (pc := 6) C dX7_side_6 rfl 1 rfl ?_
  refine k_iadd (pc := 7) C dX7_side_7 ?_
  refine k_eqi (y := nI (16 + 3 * p + s)) (nI_add _ _) ?_
  exact r_i (pc := 8) C E (⟨rfl, rfl⟩) dX7_side_8
set_option maxHeartbeats 4000000 in
set_option maxRecDepth 100000 in
/-- root -/
theorem c7_root {a : Nat} (ha : a < 80) (a2 : 32 ≠ a) (a3 : 33 ≠ a) (a4 : 34 ≠ a) (hA : U a < 2 ^ 200) : xV l D (xty ca) yX7_root cX7_root 3 none 2 80 [.ref (ad 174), .int (nI a)] ad (cm ad ca (V, U, sc, ia, la)) (fun M' => ∃ U', M' = cm ad ca (V, U', sc, ia, la) ∧ U' 32 = isq (U a) ∧ ∀ k, 32 ≠ k → 33 ≠ k → 34 ≠ k → U' k = U k) := by
  refine xM.of (by decide) (Nat.le_of_ble_eq_true rfl) (fun z C E => ?_)
  have loop : ∀ (c m : Nat) (W : Nat → Nat), c ≤ 100 → W 32 = m * 2 ^ c → m * 2 ^ c * (m * 2 ^ c) ≤ U a → U a < (m * 2 ^ c + 2 ^ c) * (m * 2 ^ c + 2 ^ c) → m * 2 ^ c + 2 ^ c ≤ 2 ^ 100 → (∀ k, 32 ≠ k → 33 ≠ k → 34 ≠ k → W k = U k) → xK z (xw ad (cm ad ca (V, W, sc, ia, la)) 187) 0 0 10 [(2, .int (iz ((c : Int) - 1))), (0, .ref (ad 174)), (1, .int (nI a))] [] := by
    intro c
    induction c with
    | zero =>
      intro m W hc w1 w2 w3 w4 wf
      rw [Nat.pow_zero, Nat.mul_one] at w1 w2 w3
      refine k_iload_n (pc := 10) C dX7_root_10 rfl 0 rfl ?_
      refine k_if_lt (pc := 11) (tgt := 88) C dX7_root_11 (by decide) (fun c11 => ?_) (fun c11 => ?_)
      · rw [iz_lt0 (by omega) (by omega)] at c11
        exact r_v (pc := 88) C E (⟨W, rfl, by rw [w1]; exact isq_u w2 w3, wf⟩) dX7_root_88
      · rw [iz_lt0 (by omega) (by omega)] at c11
        exact absurd (by decide) c11
    | succ c ih =>
      intro m W hc w1 w2 w3 w4 wf
      have hp2 : 2 ^ (c + 1) = 2 * 2 ^ c := by rw [Nat.pow_succ, Nat.mul_comm]
      obtain ⟨P, hP⟩ : ∃ P, P = 2 ^ c := ⟨_, rfl⟩
      obtain ⟨Qv, hQv⟩ : ∃ Q, Q = m * 2 ^ (c + 1) := ⟨_, rfl⟩
      have hQ2 : Qv = 2 * m * P := by rw [hQv, hp2, hP, ← Nat.mul_assoc, Nat.mul_comm m 2]
      have hQ3 : Qv + P = (2 * m + 1) * P := by rw [hQ2, Nat.add_mul, Nat.one_mul]
      have w2' := w2
      have w3' := w3
      have w4' := w4
      rw [← hQv] at w2' w3' w4'
      rw [hp2, ← hP] at w3' w4'
      have hsq : (Qv + P) * (Qv + P) < 2 ^ 201 := by
        have h := Nat.mul_le_mul (show Qv + P ≤ 2 ^ 100 by omega) (show Qv + P ≤ 2 ^ 100 by omega)
        omega
      refine k_iload_n (pc := 10) C dX7_root_10 rfl 0 rfl ?_
      refine k_if_lt (pc := 11) (tgt := 88) C dX7_root_11 (by decide) (fun c11 => ?_) (fun c11 => ?_)
      · rw [iz_lt0 (by omega) (by omega)] at c11
        exact absurd c11 (by omega)
      · rw [iz_lt0 (by omega) (by omega)] at c11
        refine k_aload_n (pc := 14) C dX7_root_14 rfl 1 rfl ?_
        refine gf_X7_7 (pc := 15) C (174) (by decide) cm_174 rfl dX7_root_15 ?_
        refine k_sipush (pc := 18) (v := nI 384) C dX7_root_18 (by decide) ?_
        refine k_iload_n (pc := 21) C dX7_root_21 rfl 0 rfl ?_
        refine k_eqi (y := nI c) (iz_pos (t := ((c + 1 : Nat) : Int) - 1) (by omega) |>.trans (congrArg nI (by omega))) ?_
        refine k_bipush (pc := 22) (v := nI 32) C dX7_root_22 (by decide) ?_
        refine k_idiv (pc := 24) C dX7_root_24 (by decide) ?_
        refine k_eqi (y := nI (c / 32)) (pk_div (by omega) (by decide) (by decide)) ?_
        refine k_iadd (pc := 25) C dX7_root_25 ?_
        refine k_eqi (y := nI (12 * 32 + c / 32)) (nI_add _ _) ?_
        refine k_dup2_11 (pc := 26) C dX7_root_26 rfl rfl ?_
        refine k_lald (pc := 27) C E (175) (by decide) cm_175 (12 * 32 + c / 32) rfl (by omega) (by decide) dX7_root_27 ?_
        refine k_eql (y := lN (m * 2 ^ (c + 1) / 4294967296 ^ (c / 32) % 4294967296)) (by rw [mw_at _ (by decide) (by omega), w1]) ?_
        refine k_lconst (pc := 28) (v := lN 1) C dX7_root_28 (by decide) ?_
        refine k_iload_n (pc := 29) C dX7_root_29 rfl 0 rfl ?_
        refine k_eqi (y := nI c) (iz_pos (t := ((c + 1 : Nat) : Int) - 1) (by omega) |>.trans (congrArg nI (by omega))) ?_
        refine k_bipush (pc := 30) (v := nI 32) C dX7_root_30 (by decide) ?_
        refine k_irem (pc := 32) C dX7_root_32 (by decide) ?_
        refine k_eqi (y := nI (c % 32)) (pk_rem (by omega) (by decide) (by decide)) ?_
        refine k_lshl (pc := 33) C dX7_root_33 rfl ?_
        refine k_eql (y := lN (2 ^ (c % 32))) (by rw [wb_shl 1 (k := c % 32) (by omega), Nat.one_mul]) ?_
        refine k_lor (pc := 34) C dX7_root_34 ?_
        refine k_eql (y := lN (m * 2 ^ (c + 1) / 4294967296 ^ (c / 32) % 4294967296 + 2 ^ (c % 32))) (q_orbit m c) ?_
        refine k_last (pc := 35) C E (175) (by decide) cm_175 (12 * 32 + c / 32) rfl (by omega) (by decide) dX7_root_35 ?_
        refine k_w (w' := xw ad (cm ad ca (V, va_up W 32 (Qv + P), sc, ia, la)) 187) (by rw [mw_up (v := m * 2 ^ (c + 1) + 2 ^ c) (by decide) (by omega) (by rw [add_bit, if_pos rfl]) (fun j hj hj0 => by rw [add_bit, if_neg hj0, w1]), cm_upU, ← hQv, ← hP]) ?_
        obtain ⟨U1, hU1⟩ : ∃ W9, W9 = va_up W (32) (Qv + P) := ⟨_, rfl⟩
        rw [← hU1]
        have v1 : U1 (32) = Qv + P := by rw [hU1, ups]
        have f1 : ∀ k, 32 ≠ k → U1 k = W k := fun k hk => by rw [hU1, upn hk]
        refine k_aload_n (pc := 36) C dX7_root_36 rfl 1 rfl ?_
        refine k_bipush (pc := 37) (v := nI 33) C dX7_root_37 (by decide) ?_
        refine k_bipush (pc := 39) (v := nI 32) C dX7_root_39 (by decide) ?_
        refine k_bipush (pc := 41) (v := nI 32) C dX7_root_41 (by decide) ?_
        refine cv_X7_108 (pc := 43) C E (c7_product (t := 33) (a := 32) (b := 32) (by decide) (by decide) (by decide) (by decide) (by decide) (by rw [v1]; omega)) rfl (by decide) cm_174 (by decide) rfl (Nat.le_of_ble_eq_true rfl) dX7_root_43 (fun M43 h43 => ?_)
        subst h43
        rw [v1]
        obtain ⟨U2, hU2⟩ : ∃ W9, W9 = va_up (va_up U1 34 ((Qv + P) * (Qv + P))) (33) ((Qv + P) * (Qv + P)) := ⟨_, rfl⟩
        rw [← hU2]
        have v2 : U2 (33) = (Qv + P) * (Qv + P) := by rw [hU2, ups]
        have f2 : ∀ k, 34 ≠ k → 33 ≠ k → U2 k = U1 k := fun k h1 h2 => by rw [hU2, upn h2, upn h1]
        refine k_aload_n (pc := 46) C dX7_root_46 rfl 1 rfl ?_
        refine k_bipush (pc := 47) (v := nI 33) C dX7_root_47 (by decide) ?_
        refine k_iload_n (pc := 49) C dX7_root_49 rfl 2 rfl ?_
        refine cv_X7_76 (pc := 50) C E (c7_compare (a := 33) (b := a) (by decide) ha (by rw [v2]; omega) (by rw [f2 a a4 a3, f1 a a2, wf a a2 a3 a4]; omega)) rfl (by decide) cm_174 (by decide) rfl (Nat.le_of_ble_eq_true rfl) dX7_root_50 (fun r50 M50 h50 => ?_)
        obtain ⟨rfl, rfl⟩ := h50
        rw [v2, f2 a a4 a3, f1 a a2, wf a a2 a3 a4]
        refine k_if_le (pc := 53) (tgt := 82) C dX7_root_53 (by decide) (fun c53 => ?_) (fun c53 => ?_)
        · rw [cmp_le0] at c53
          refine k_iinc (pc := 82) (v := iz ((c : Int) - 1)) (lv' := [(2, .int (iz ((c : Int) - 1))), (0, .ref (ad (174))), (1, .int (nI a))]) C dX7_root_82 (k := 0) rfl (show iz (((c + 1 : Nat) : Int) - 1) + iz (-1) = _ by rw [iz_add]; congr 1; omega) (by decide) rfl ?_
          refine k_goto (pc := 85) (tgt := 10) C dX7_root_85 (by decide) ?_
          refine k_sub [0, 1, 2] rfl ?_
          first
            | exact ih (2 * m + 1) U2 (by omega) (by rw [f2 32 (by decide) (by decide), v1, ← hP, hQ3]) (by rw [← hP, ← hQ3]; exact c53) (by rw [← hP, ← hQ3, show Qv + P + P = Qv + 2 * P by omega]; exact w3') (by rw [← hP, ← hQ3]; omega) (fun k h1 h2 h3 => by rw [f2 k h3 h2, f1 k h1, wf k h1 h2 h3])
            | exact ih (2 * m) U3 (by omega) (by rw [v3, ← hP, hQ2]) (by rw [← hP, ← hQ2]; exact w2') (by rw [← hP, ← hQ2]; omega) (by rw [← hP, ← hQ2]; omega) (fun k h1 h2 h3 => by rw [f3 k h1, f2 k h3 h2, f1 k h1, wf k h1 h2 h3])
        · rw [cmp_le0] at c53
          refine k_aload_n (pc := 56) C dX7_root_56 rfl 1 rfl ?_
          refine gf_X7_7 (pc := 57) C (174) (by decide) cm_174 rfl dX7_root_57 ?_
          refine k_sipush (pc := 60) (v := nI 384) C dX7_root_60 (by decide) ?_
          refine k_iload_n (pc := 63) C dX7_root_63 rfl 0 rfl ?_
          refine k_eqi (y := nI c) (iz_pos (t := ((c + 1 : Nat) : Int) - 1) (by omega) |>.trans (congrArg nI (by omega))) ?_
          refine k_bipush (pc := 64) (v := nI 32) C dX7_root_64 (by decide) ?_
          refine k_idiv (pc := 66) C dX7_root_66 (by decide) ?_
          refine k_eqi (y := nI (c / 32)) (pk_div (by omega) (by decide) (by decide)) ?_
          refine k_iadd (pc := 67) C dX7_root_67 ?_
          refine k_eqi (y := nI (12 * 32 + c / 32)) (nI_add _ _) ?_
          refine k_dup2_11 (pc := 68) C dX7_root_68 rfl rfl ?_
          refine k_lald (pc := 69) C E (175) (by decide) cm_175 (12 * 32 + c / 32) rfl (by omega) (by decide) dX7_root_69 ?_
          refine k_eql (y := lN (m * 2 ^ (c + 1) / 4294967296 ^ (c / 32) % 4294967296 + 2 ^ (c % 32))) (by rw [mw_at _ (by decide) (by omega), f2 32 (by decide) (by decide), v1, hQv, hP, add_bit, if_pos rfl]) ?_
          refine k_lconst (pc := 70) (v := lN 1) C dX7_root_70 (by decide) ?_
          refine k_iload_n (pc := 71) C dX7_root_71 rfl 0 rfl ?_
          refine k_eqi (y := nI c) (iz_pos (t := ((c + 1 : Nat) : Int) - 1) (by omega) |>.trans (congrArg nI (by omega))) ?_
          refine k_bipush (pc := 72) (v := nI 32) C dX7_root_72 (by decide) ?_
          refine k_irem (pc := 74) C dX7_root_74 (by decide) ?_
          refine k_eqi (y := nI (c % 32)) (pk_rem (by omega) (by decide) (by decide)) ?_
          refine k_lshl (pc := 75) C dX7_root_75 rfl ?_
          refine k_eql (y := lN (2 ^ (c % 32))) (by rw [wb_shl 1 (k := c % 32) (by omega), Nat.one_mul]) ?_
          refine k_ldc2 (pc := 76) C kc_X7_91 dX7_root_76 ?_
          refine k_lxor (pc := 79) C dX7_root_79 ?_
          refine k_land (pc := 80) C dX7_root_80 ?_
          refine k_eql (y := lN (m * 2 ^ (c + 1) / 4294967296 ^ (c / 32) % 4294967296)) (clr (by omega) (rbit m c) (Nat.mod_lt _ (by decide))) ?_
          refine k_last (pc := 81) C E (175) (by decide) cm_175 (12 * 32 + c / 32) rfl (by omega) (by decide) dX7_root_81 ?_
          refine k_w (w' := xw ad (cm ad ca (V, va_up U2 32 Qv, sc, ia, la)) 187) (by rw [mw_up (v := m * 2 ^ (c + 1)) (by decide) (by omega) rfl (fun j hj hj0 => by rw [f2 32 (by decide) (by decide), v1, hQv, hP, add_bit, if_neg hj0]), cm_upU, ← hQv]) ?_
          obtain ⟨U3, hU3⟩ : ∃ W, W = va_up U2 (32) (Qv) := ⟨_, rfl⟩
          rw [← hU3]
          have v3 : U3 (32) = Qv := by rw [hU3, ups]
          have f3 : ∀ k, 32 ≠ k → U3 k = U2 k := fun k hk => by rw [hU3, upn hk]
          refine k_iinc (pc := 82) (v := iz ((c : Int) - 1)) (lv' := [(2, .int (iz ((c : Int) - 1))), (0, .ref (ad (174))), (1, .int (nI a))]) C dX7_root_82 (k := 0) rfl (show iz (((c + 1 : Nat) : Int) - 1) + iz (-1) = _ by rw [iz_add]; congr 1; omega) (by decide) rfl ?_
          refine k_goto (pc := 85) (tgt := 10) C dX7_root_85 (by decide) ?_
          refine k_sub [0, 1, 2] rfl ?_
          first
            | exact ih (2 * m + 1) U2 (by omega) (by rw [f2 32 (by decide) (by decide), v1, ← hP, hQ3]) (by rw [← hP, ← hQ3]; exact c53) (by rw [← hP, ← hQ3, show Qv + P + P = Qv + 2 * P by omega]; exact w3') (by rw [← hP, ← hQ3]; omega) (fun k h1 h2 h3 => by rw [f2 k h3 h2, f1 k h1, wf k h1 h2 h3])
            | exact ih (2 * m) U3 (by omega) (by rw [v3, ← hP, hQ2]) (by rw [← hP, ← hQ2]; exact w2') (by rw [← hP, ← hQ2]; omega) (by rw [← hP, ← hQ2]; omega) (fun k h1 h2 h3 => by rw [f3 k h1, f2 k h3 h2, f1 k h1, wf k h1 h2 h3])
  refine k_aload_n (pc := 0) C dX7_root_0 rfl 0 rfl ?_
  refine k_bipush (pc := 1) (v := nI 32) C dX7_root_1 (by decide) ?_
  refine k_lconst (pc := 3) (v := lN 0) C dX7_root_3 (by decide) ?_
  refine cv_X7_62 (pc := 4) C E (c7_set (t := 32) (a := 0) (by decide) (by decide)) rfl (by decide) cm_174 (by decide) rfl (Nat.le_of_ble_eq_true rfl) dX7_root_4 (fun M4 h4 => ?_)
  subst h4
  refine k_bipush (pc := 7) (v := iz (((100 : Nat) : Int) - 1)) C dX7_root_7 (by decide) ?_
  refine k_istore_n (pc := 9) (lv' := [(2, .int (iz (((100 : Nat) : Int) - 1))), (0, .ref (ad (174))), (1, .int (nI a))]) C dX7_root_9 rfl (by decide) rfl ?_
  exact loop 100 0 _ (by decide) (by rw [ups, Nat.zero_mul]) (by rw [Nat.zero_mul]; omega) (by rw [Nat.zero_mul, Nat.zero_add, ← Nat.pow_add]; exact hA) (by rw [Nat.zero_mul, Nat.zero_add]; exact Nat.le_refl _) (fun k h1 _ _ => upn h1)
end MH
