section MK
variable {l : Launch} {D : va_G} {ca : Nat → ClassId} {ad : Nat → Nat} {V U : Nat → Nat} {sc : Nat → Int32} {ia : Nat → Nat → Int32} {la : Nat → Nat → Int64}
theorem tup3_0 {T : Nat → Nat} {p j : Nat} : tup3 T p 0 0 0 j = if 16 + 3 * p ≤ j ∧ j < 16 + 3 * p + 3 then 0 else T j := by
  unfold tup3 va_up
  by_cases h0 : j = 16 + 3 * p
  · rw [if_neg (by omega), if_neg (by omega), if_pos h0, if_pos (by omega)]
  · by_cases h1 : j = 16 + 3 * p + 1
    · rw [if_neg (by omega), if_pos h1, if_pos (by omega)]
    · by_cases h2 : j = 16 + 3 * p + 2
      · rw [if_pos h2, if_pos (by omega)]
      · rw [if_neg h2, if_neg h1, if_neg h0, if_neg (by omega)]
abbrev okW (x : Int32) (v : Int64) : Prop := inR x 12 ∧ 0 ≤ v.toInt ∧ v.toInt ≤ 1000000000000
theorem in_rz {x : Int32} {n : Nat} (hn : n < 2147483648) : (lN 0 ≤ x.toInt64 ∧ x.toInt64 ≤ (iz ((n : Int) - 1)).toInt64) = inR x n := by
  apply propext
  unfold inR
  rw [Int64.le_iff_toInt_le, Int64.le_iff_toInt_le, Int32.toInt_toInt64, Int32.toInt_toInt64, pk_lT (by decide), iz_toInt (by omega) (by omega)]
  omega
theorem in_l {v : Int64} : (lN 0 ≤ v ∧ v ≤ lN 1000000000000) = (0 ≤ v.toInt ∧ v.toInt ≤ 1000000000000) := by
  apply propext
  rw [Int64.le_iff_toInt_le, Int64.le_iff_toInt_le, pk_lT (by decide), pk_lT (by decide)]
  rfl
theorem sub1z {n : Nat} : nI n - nI 1 = iz ((n : Int) - 1) := iz_sub (n : Int) ((1 : Nat) : Int)
theorem isDg {x : Int32} : (lN 48 ≤ x.toInt64 ∧ x.toInt64 ≤ lN 57) = (48 ≤ x.toInt ∧ x.toInt ≤ 57) := by
  apply propext
  rw [Int64.le_iff_toInt_le, Int64.le_iff_toInt_le, Int32.toInt_toInt64, pk_lT (by decide), pk_lT (by decide)]
  rfl
set_option maxHeartbeats 4000000 in
set_option maxRecDepth 100000 in
/-- fee -/
theorem c7_fee {T : Nat → Nat} (hT : RM U T) (hB : TB T) {x0 p0 q0 : Int32} : xI l D (xty ca) yX7_fee cX7_fee 6 (some .int) 3 120 [.ref (ad 174), .int x0, .int p0, .int q0] ad (cm ad ca (V, U, sc, ia, la)) (fun r M' => ∃ U' ia', M' = cm ad ca (V, U', sc, ia', la) ∧ r = (sFee T x0 p0 q0).1 ∧ RM U' (sFee T x0 p0 q0).2 ∧ (∀ fp fq, FM ia fp fq → FM ia' (fUp fp x0 p0 q0 p0) (fUp fq x0 p0 q0 q0)) ∧ ∀ k, k ≠ 177 → k ≠ 178 → ia' k = ia k) := by
  refine xM.of (by decide) (Nat.le_of_ble_eq_true rfl) (fun z C E => ?_)
  refine k_iload_n (pc := 0) C dX7_fee_0 rfl 1 rfl ?_
  refine cs_X7_168 (pc := 1) C E (c7_isPool) rfl (by decide) rfl (Nat.le_of_ble_eq_true rfl) dX7_fee_1 (fun r1 M1 h1 => ?_)
  obtain ⟨rfl, rfl⟩ := h1
  refine k_if_eq (pc := 4) (tgt := 22) C dX7_fee_4 (by decide) (fun c4 => ?_) (fun c4 => ?_)
  · simp only [b01, Decidable.not_not] at c4
    refine k_iconst (pc := 22) (v := (-1)) C dX7_fee_22 (by decide) ?_
    exact r_i (pc := 23) C E (⟨U, ia, rfl, by unfold sFee; rw [if_neg (fun h => by first | exact c4 h.1 | (have := h.2.1; have := h.2.2.1; have := h.2.2.2; omega))], by unfold sFee; rw [if_neg (fun h => by first | exact c4 h.1 | (have := h.2.1; have := h.2.2.1; have := h.2.2.2; omega))]; exact hT, fun fp fq hf => by unfold fUp; rw [if_neg (fun h => by first | exact c4 h.1 | (have := h.2.1; have := h.2.2.1; have := h.2.2.2; omega)), if_neg (fun h => by first | exact c4 h.1 | (have := h.2.1; have := h.2.2.1; have := h.2.2.2; omega))]; exact hf, fun _ _ _ => rfl⟩) dX7_fee_23
  · simp only [b01, Decidable.not_not] at c4
    refine k_iload_n (pc := 7) C dX7_fee_7 rfl 2 rfl ?_
    refine k_if_lt (pc := 8) (tgt := 22) C dX7_fee_8 (by decide) (fun c8 => ?_) (fun c8 => ?_)
    · rw [Int32.lt_iff_toInt_lt, show (0 : Int32).toInt = 0 from rfl] at c8
      refine k_iconst (pc := 22) (v := (-1)) C dX7_fee_22 (by decide) ?_
      exact r_i (pc := 23) C E (⟨U, ia, rfl, by unfold sFee; rw [if_neg (fun h => by first | exact c4 h.1 | (have := h.2.1; have := h.2.2.1; have := h.2.2.2; omega))], by unfold sFee; rw [if_neg (fun h => by first | exact c4 h.1 | (have := h.2.1; have := h.2.2.1; have := h.2.2.2; omega))]; exact hT, fun fp fq hf => by unfold fUp; rw [if_neg (fun h => by first | exact c4 h.1 | (have := h.2.1; have := h.2.2.1; have := h.2.2.2; omega)), if_neg (fun h => by first | exact c4 h.1 | (have := h.2.1; have := h.2.2.1; have := h.2.2.2; omega))]; exact hf, fun _ _ _ => rfl⟩) dX7_fee_23
    · rw [Int32.lt_iff_toInt_lt, show (0 : Int32).toInt = 0 from rfl] at c8
      refine k_iload_n (pc := 11) C dX7_fee_11 rfl 3 rfl ?_
      refine k_iload_n (pc := 12) C dX7_fee_12 rfl 2 rfl ?_
      refine k_icmp_le (pc := 13) (tgt := 22) C dX7_fee_13 (by decide) (fun c13 => ?_) (fun c13 => ?_)
      · rw [Int32.le_iff_toInt_le] at c13
        refine k_iconst (pc := 22) (v := (-1)) C dX7_fee_22 (by decide) ?_
        exact r_i (pc := 23) C E (⟨U, ia, rfl, by unfold sFee; rw [if_neg (fun h => by first | exact c4 h.1 | (have := h.2.1; have := h.2.2.1; have := h.2.2.2; omega))], by unfold sFee; rw [if_neg (fun h => by first | exact c4 h.1 | (have := h.2.1; have := h.2.2.1; have := h.2.2.2; omega))]; exact hT, fun fp fq hf => by unfold fUp; rw [if_neg (fun h => by first | exact c4 h.1 | (have := h.2.1; have := h.2.2.1; have := h.2.2.2; omega)), if_neg (fun h => by first | exact c4 h.1 | (have := h.2.1; have := h.2.2.1; have := h.2.2.2; omega))]; exact hf, fun _ _ _ => rfl⟩) dX7_fee_23
      · rw [Int32.le_iff_toInt_le] at c13
        refine k_iload_n (pc := 16) C dX7_fee_16 rfl 3 rfl ?_
        refine k_ldc (pc := 17) C kc_X7_171 dX7_fee_17 ?_
        refine k_eqi (y := nI 1000000) rfl ?_
        refine k_icmp_le (pc := 19) (tgt := 24) C dX7_fee_19 (by decide) (fun c19 => ?_) (fun c19 => ?_)
        · rw [Int32.le_iff_toInt_le, nI_toInt (by decide)] at c19
          have c6 : okF x0 p0 q0 := ⟨c4, by omega, by omega, c19⟩
          obtain ⟨p, hp, rfl⟩ := inR_k c4
          have t2 := hT (16 + 3 * p + 2) (by omega)
          have k2 := hB.2.1 (16 + 3 * p + 2) (by omega) (by omega)
          obtain ⟨pn, hpn, rfl⟩ := inR_k (x := p0) (n := 1000001) (by constructor <;> omega)
          obtain ⟨qn, hqn, rfl⟩ := inR_k (x := q0) (n := 1000001) (by constructor <;> omega)
          refine k_aload_n (pc := 24) C dX7_fee_24 rfl 0 rfl ?_
          refine k_iload_n (pc := 25) C dX7_fee_25 rfl 1 rfl ?_
          refine k_iconst (pc := 26) (v := nI 2) C dX7_fee_26 (by decide) ?_
          refine cs_X7_172 (pc := 27) C E (c7_side hp (s := 2) (by decide)) rfl (by decide) rfl (Nat.le_of_ble_eq_true rfl) dX7_fee_27 (fun r27 M27 h27 => ?_)
          obtain ⟨rfl, rfl⟩ := h27
          refine cv_X7_99 (pc := 30) C E (c7_isZero (a := 16 + 3 * p + 2) (by omega) (by rw [t2]; omega)) rfl (by decide) cm_174 (by decide) rfl (Nat.le_of_ble_eq_true rfl) dX7_fee_30 (fun r30 M30 h30 => ?_)
          obtain ⟨rfl, rfl⟩ := h30
          refine k_if_eq (pc := 33) (tgt := 40) C dX7_fee_33 (by decide) (fun c33 => ?_) (fun c33 => ?_)
          · simp only [b01, Decidable.not_not, t2] at c33
            refine k_iconst (pc := 40) (v := nI 1) C dX7_fee_40 (by decide) ?_
            refine k_istore (pc := 41) (lv' := [(4, .int (nI 1)), (0, .ref (ad (174))), (1, .int (nI p)), (2, .int (nI pn)), (3, .int (nI qn))]) C dX7_fee_41 (by decide) rfl ?_
            refine k_iconst (pc := 43) (v := nI 0) C dX7_fee_43 (by decide) ?_
            refine k_istore (pc := 44) (lv' := [(5, .int (nI 0)), (4, .int (nI 1)), (0, .ref (ad (174))), (1, .int (nI p)), (2, .int (nI pn)), (3, .int (nI qn))]) C dX7_fee_44 (by decide) rfl ?_
            have loop : ∀ (n k : Nat) (W : Nat → Nat), 3 - k < n → k ≤ 3 → (∀ j, 16 + 3 * p ≤ j → j < 16 + 3 * p + k → W j = 0) → (∀ j, j < 16 + 3 * p ∨ 16 + 3 * p + k ≤ j → W j = U j) → xK z (xw ad (cm ad ca (V, W, sc, ia, la)) 187) 0 0 46 [(5, .int (nI k)), (4, .int (nI 1)), (0, .ref (ad 174)), (1, .int (nI p)), (2, .int (nI pn)), (3, .int (nI qn))] [] := by
              intro n
              induction n with
              | zero => intro k W h; exact absurd h (Nat.not_lt_zero _)
              | succ n ih =>
                intro k W hn hk w0 w1
                refine k_iload (pc := 46) C dX7_fee_46 0 rfl ?_
                refine k_iconst (pc := 48) (v := nI 3) C dX7_fee_48 (by decide) ?_
                refine k_icmp_ge (pc := 49) (tgt := 69) C dX7_fee_49 (by decide) (fun c49 => ?_) (fun c49 => ?_)
                · rw [q_le (by decide) (by omega)] at c49
                  refine k_aload_n (pc := 69) C dX7_fee_69 rfl 2 rfl ?_
                  refine gf_X7_16 (pc := 70) C (174) (by decide) cm_174 rfl dX7_fee_70 ?_
                  refine k_iload_n (pc := 73) C dX7_fee_73 rfl 3 rfl ?_
                  refine k_iload_n (pc := 74) C dX7_fee_74 rfl 4 rfl ?_
                  refine k_iast (pc := 75) C E (177) (by decide) cm_177 (p) rfl (by omega) (by decide) dX7_fee_75 ?_
                  rw [cm_a177]
                  refine k_aload_n (pc := 76) C dX7_fee_76 rfl 2 rfl ?_
                  refine gf_X7_20 (pc := 77) C (174) (by decide) cm_174 rfl dX7_fee_77 ?_
                  refine k_iload_n (pc := 80) C dX7_fee_80 rfl 3 rfl ?_
                  refine k_iload_n (pc := 81) C dX7_fee_81 rfl 5 rfl ?_
                  refine k_iast (pc := 82) C E (178) (by decide) cm_178 (p) rfl (by omega) (by decide) dX7_fee_82 ?_
                  rw [cm_a178]
                  refine k_iload (pc := 83) C dX7_fee_83 1 rfl ?_
                  exact r_i (pc := 85) C E (by
              refine ⟨W, _, rfl, ?_, ?_, ?_, ?_⟩
              · unfold sFee
                rw [if_pos c6]
                simp only [rI_n (show p < 2147483648 by omega)]
                first | (rw [if_pos c33]; rfl) | (rw [if_neg c33]; rfl)
              · unfold sFee
                rw [if_pos c6]
                simp only [rI_n (show p < 2147483648 by omega)]
                intro j hj
                rw [tup3_0]
                split
                · exact w0 j (by omega) (by omega)
                · rw [w1 j (by omega)]; exact hT j hj
              · intro fp fq hf j hj
                unfold fUp
                rw [if_pos c6, if_pos c6]
                simp only [rI_n (show p < 2147483648 by omega), rI_n (show pn < 2147483648 by omega), rI_n (show qn < 2147483648 by omega)]
                have h8 := hf j hj
                by_cases e : p = j
                · subst e
                  rw [ups, ups]
                  exact ⟨by simp [va_up, upd], by simp [va_up, upd]⟩
                · rw [upn e, upn e]
                  exact ⟨by simp [va_up, upd, Ne.symm e, h8.1], by simp [va_up, upd, Ne.symm e, h8.2]⟩
              · intro k h1 h2
                simp [va_up, h1, h2]) dX7_fee_85
                · rw [q_le (by decide) (by omega)] at c49
                  refine k_aload_n (pc := 52) C dX7_fee_52 rfl 2 rfl ?_
                  refine k_iload_n (pc := 53) C dX7_fee_53 rfl 3 rfl ?_
                  refine k_iload (pc := 54) C dX7_fee_54 0 rfl ?_
                  refine cs_X7_172 (pc := 56) C E (c7_side hp (s := k) (by omega)) rfl (by decide) rfl (Nat.le_of_ble_eq_true rfl) dX7_fee_56 (fun r56 M56 h56 => ?_)
                  obtain ⟨rfl, rfl⟩ := h56
                  refine k_lconst (pc := 59) (v := lN 0) C dX7_fee_59 (by decide) ?_
                  refine cv_X7_62 (pc := 60) C E (c7_set (t := 16 + 3 * p + k) (a := 0) (by omega) (by decide)) rfl (by decide) cm_174 (by decide) rfl (Nat.le_of_ble_eq_true rfl) dX7_fee_60 (fun M60 h60 => ?_)
                  subst h60
                  refine k_iinc (pc := 63) (v := nI (k + 1)) (lv' := [(5, .int (nI (k + 1))), (4, .int (nI 1)), (0, .ref (ad (174))), (1, .int (nI p)), (2, .int (nI pn)), (3, .int (nI qn))]) C dX7_fee_63 (k := 0) rfl (nI_1 _) (by decide) rfl ?_
                  refine k_goto (pc := 66) (tgt := 46) C dX7_fee_66 (by decide) ?_
                  refine k_sub [0, 1, 2, 3, 4, 5] rfl ?_
                  exact ih (k + 1) _ (by omega) (by omega) (fun j h1 h2 => by
                    by_cases e : 16 + 3 * p + k = j
                    · subst e; rw [ups]
                    · rw [upn e]; exact w0 j h1 (by omega)) (fun j h => by rw [upn (by omega)]; exact w1 j (by omega))
            refine k_sub [0, 1, 2, 3, 4, 5] rfl ?_
            exact loop 4 0 U (by decide) (by decide) (fun j h1 h2 => absurd h1 (by omega)) (fun _ _ => rfl)
          · simp only [b01, Decidable.not_not, t2] at c33
            refine k_iconst (pc := 36) (v := nI 0) C dX7_fee_36 (by decide) ?_
            refine k_goto (pc := 37) (tgt := 41) C dX7_fee_37 (by decide) ?_
            refine k_istore (pc := 41) (lv' := [(4, .int (nI 0)), (0, .ref (ad (174))), (1, .int (nI p)), (2, .int (nI pn)), (3, .int (nI qn))]) C dX7_fee_41 (by decide) rfl ?_
            refine k_iconst (pc := 43) (v := nI 0) C dX7_fee_43 (by decide) ?_
            refine k_istore (pc := 44) (lv' := [(5, .int (nI 0)), (4, .int (nI 0)), (0, .ref (ad (174))), (1, .int (nI p)), (2, .int (nI pn)), (3, .int (nI qn))]) C dX7_fee_44 (by decide) rfl ?_
            have loop : ∀ (n k : Nat) (W : Nat → Nat), 3 - k < n → k ≤ 3 → (∀ j, 16 + 3 * p ≤ j → j < 16 + 3 * p + k → W j = 0) → (∀ j, j < 16 + 3 * p ∨ 16 + 3 * p + k ≤ j → W j = U j) → xK z (xw ad (cm ad ca (V, W, sc, ia, la)) 187) 0 0 46 [(5, .int (nI k)), (4, .int (nI 0)), (0, .ref (ad 174)), (1, .int (nI p)), (2, .int (nI pn)), (3, .int (nI qn))] [] := by
              intro n
              induction n with
              | zero => intro k W h; exact absurd h (Nat.not_lt_zero _)
              | succ n ih =>
                intro k W hn hk w0 w1
                refine k_iload (pc := 46) C dX7_fee_46 0 rfl ?_
                refine k_iconst (pc := 48) (v := nI 3) C dX7_fee_48 (by decide) ?_
                refine k_icmp_ge (pc := 49) (tgt := 69) C dX7_fee_49 (by decide) (fun c49 => ?_) (fun c49 => ?_)
                · rw [q_le (by decide) (by omega)] at c49
                  refine k_aload_n (pc := 69) C dX7_fee_69 rfl 2 rfl ?_
                  refine gf_X7_16 (pc := 70) C (174) (by decide) cm_174 rfl dX7_fee_70 ?_
                  refine k_iload_n (pc := 73) C dX7_fee_73 rfl 3 rfl ?_
                  refine k_iload_n (pc := 74) C dX7_fee_74 rfl 4 rfl ?_
                  refine k_iast (pc := 75) C E (177) (by decide) cm_177 (p) rfl (by omega) (by decide) dX7_fee_75 ?_
                  rw [cm_a177]
                  refine k_aload_n (pc := 76) C dX7_fee_76 rfl 2 rfl ?_
                  refine gf_X7_20 (pc := 77) C (174) (by decide) cm_174 rfl dX7_fee_77 ?_
                  refine k_iload_n (pc := 80) C dX7_fee_80 rfl 3 rfl ?_
                  refine k_iload_n (pc := 81) C dX7_fee_81 rfl 5 rfl ?_
                  refine k_iast (pc := 82) C E (178) (by decide) cm_178 (p) rfl (by omega) (by decide) dX7_fee_82 ?_
                  rw [cm_a178]
                  refine k_iload (pc := 83) C dX7_fee_83 1 rfl ?_
                  exact r_i (pc := 85) C E (by
              refine ⟨W, _, rfl, ?_, ?_, ?_, ?_⟩
              · unfold sFee
                rw [if_pos c6]
                simp only [rI_n (show p < 2147483648 by omega)]
                first | (rw [if_pos c33]; rfl) | (rw [if_neg c33]; rfl)
              · unfold sFee
                rw [if_pos c6]
                simp only [rI_n (show p < 2147483648 by omega)]
                intro j hj
                rw [tup3_0]
                split
                · exact w0 j (by omega) (by omega)
                · rw [w1 j (by omega)]; exact hT j hj
              · intro fp fq hf j hj
                unfold fUp
                rw [if_pos c6, if_pos c6]
                simp only [rI_n (show p < 2147483648 by omega), rI_n (show pn < 2147483648 by omega), rI_n (show qn < 2147483648 by omega)]
                have h8 := hf j hj
                by_cases e : p = j
                · subst e
                  rw [ups, ups]
                  exact ⟨by simp [va_up, upd], by simp [va_up, upd]⟩
                · rw [upn e, upn e]
                  exact ⟨by simp [va_up, upd, Ne.symm e, h8.1], by simp [va_up, upd, Ne.symm e, h8.2]⟩
              · intro k h1 h2
                simp [va_up, h1, h2]) dX7_fee_85
                · rw [q_le (by decide) (by omega)] at c49
                  refine k_aload_n (pc := 52) C dX7_fee_52 rfl 2 rfl ?_
                  refine k_iload_n (pc := 53) C dX7_fee_53 rfl 3 rfl ?_
                  refine k_iload (pc := 54) C dX7_fee_54 0 rfl ?_
                  refine cs_X7_172 (pc := 56) C E (c7_side hp (s := k) (by omega)) rfl (by decide) rfl (Nat.le_of_ble_eq_true rfl) dX7_fee_56 (fun r56 M56 h56 => ?_)
                  obtain ⟨rfl, rfl⟩ := h56
                  refine k_lconst (pc := 59) (v := lN 0) C dX7_fee_59 (by decide) ?_
                  refine cv_X7_62 (pc := 60) C E (c7_set (t := 16 + 3 * p + k) (a := 0) (by omega) (by decide)) rfl (by decide) cm_174 (by decide) rfl (Nat.le_of_ble_eq_true rfl) dX7_fee_60 (fun M60 h60 => ?_)
                  subst h60
                  refine k_iinc (pc := 63) (v := nI (k + 1)) (lv' := [(5, .int (nI (k + 1))), (4, .int (nI 0)), (0, .ref (ad (174))), (1, .int (nI p)), (2, .int (nI pn)), (3, .int (nI qn))]) C dX7_fee_63 (k := 0) rfl (nI_1 _) (by decide) rfl ?_
                  refine k_goto (pc := 66) (tgt := 46) C dX7_fee_66 (by decide) ?_
                  refine k_sub [0, 1, 2, 3, 4, 5] rfl ?_
                  exact ih (k + 1) _ (by omega) (by omega) (fun j h1 h2 => by
                    by_cases e : 16 + 3 * p + k = j
                    · subst e; rw [ups]
                    · rw [upn e]; exact w0 j h1 (by omega)) (fun j h => by rw [upn (by omega)]; exact w1 j (by omega))
            refine k_sub [0, 1, 2, 3, 4, 5] rfl ?_
            exact loop 4 0 U (by decide) (by decide) (fun j h1 h2 => absurd h1 (by omega)) (fun _ _ => rfl)
        · rw [Int32.le_iff_toInt_le, nI_toInt (by decide)] at c19
          refine k_iconst (pc := 22) (v := (-1)) C dX7_fee_22 (by decide) ?_
          exact r_i (pc := 23) C E (⟨U, ia, rfl, by unfold sFee; rw [if_neg (fun h => by first | exact c4 h.1 | (have := h.2.1; have := h.2.2.1; have := h.2.2.2; omega))], by unfold sFee; rw [if_neg (fun h => by first | exact c4 h.1 | (have := h.2.1; have := h.2.2.1; have := h.2.2.2; omega))]; exact hT, fun fp fq hf => by unfold fUp; rw [if_neg (fun h => by first | exact c4 h.1 | (have := h.2.1; have := h.2.2.1; have := h.2.2.2; omega)), if_neg (fun h => by first | exact c4 h.1 | (have := h.2.1; have := h.2.2.1; have := h.2.2.2; omega))]; exact hf, fun _ _ _ => rfl⟩) dX7_fee_23
set_option maxHeartbeats 4000000 in
set_option maxRecDepth 100000 in
/-- weight -/
theorem c7_weight {x0 : Int32} {v0 : Int64} : xI l D (xty ca) yX7_weight cX7_weight 4 (some .int) 1 50 [.ref (ad 174), .int x0, .long v0] ad (cm ad ca (V, U, sc, ia, la)) (fun r M' => if okW x0 v0 then r = 1 ∧ M' = cm ad ca (V, U, sc, ia, va_up la 176 (vp_updL (la 176) (rI x0) v0)) else r = -1 ∧ M' = cm ad ca (V, U, sc, ia, la)) := by
  refine xM.of (by decide) (Nat.le_of_ble_eq_true rfl) (fun z C E => ?_)
  refine k_iload_n (pc := 0) C dX7_weight_0 rfl 1 rfl ?_
  refine k_i2l (pc := 1) C dX7_weight_1 rfl ?_
  refine k_lconst (pc := 2) (v := lN 0) C dX7_weight_2 (by decide) ?_
  refine k_ldc2 (pc := 3) C kc_X7_125 dX7_weight_3 ?_
  refine k_eql (y := lN 11) rfl ?_
  refine cs_X7_56 (pc := 6) C E (c7_in) rfl (by decide) rfl (Nat.le_of_ble_eq_true rfl) dX7_weight_6 (fun r6 M6 h6 => ?_)
  obtain ⟨rfl, rfl⟩ := h6
  simp only [in_r (show 11 < 2147483648 by decide)]
  refine k_if_eq (pc := 9) (tgt := 23) C dX7_weight_9 (by decide) (fun c9 => ?_) (fun c9 => ?_)
  · simp only [b01, Decidable.not_not] at c9
    refine k_iconst (pc := 23) (v := (-1)) C dX7_weight_23 (by decide) ?_
    exact r_i (pc := 24) C E (by rw [if_neg (fun h => by first | exact c9 h.1 | exact c20 h.2)]; exact ⟨rfl, rfl⟩) dX7_weight_24
  · simp only [b01, Decidable.not_not] at c9
    refine k_lload_n (pc := 12) C dX7_weight_12 rfl 2 rfl ?_
    refine k_lconst (pc := 13) (v := lN 0) C dX7_weight_13 (by decide) ?_
    refine k_ldc2 (pc := 14) C kc_X7_127 dX7_weight_14 ?_
    refine k_eql (y := lN 1000000000000) rfl ?_
    refine cs_X7_56 (pc := 17) C E (c7_in) rfl (by decide) rfl (Nat.le_of_ble_eq_true rfl) dX7_weight_17 (fun r17 M17 h17 => ?_)
    obtain ⟨rfl, rfl⟩ := h17
    simp only [in_l]
    refine k_if_ne (pc := 20) (tgt := 25) C dX7_weight_20 (by decide) (fun c20 => ?_) (fun c20 => ?_)
    · simp only [b01, Decidable.not_not] at c20
      have c6 : okW x0 v0 := ⟨c9, c20⟩
      obtain ⟨x, hx, rfl⟩ := inR_k c9
      refine k_aload_n (pc := 25) C dX7_weight_25 rfl 0 rfl ?_
      refine gf_X7_13 (pc := 26) C (174) (by decide) cm_174 rfl dX7_weight_26 ?_
      refine k_iload_n (pc := 29) C dX7_weight_29 rfl 1 rfl ?_
      refine k_lload_n (pc := 30) C dX7_weight_30 rfl 2 rfl ?_
      refine k_last (pc := 31) C E (176) (by decide) cm_176 (x) rfl (by omega) (by decide) dX7_weight_31 ?_
      rw [cm_a176]
      refine k_iconst (pc := 32) (v := nI 1) C dX7_weight_32 (by decide) ?_
      exact r_i (pc := 33) C E (by rw [if_pos c6, rI_n (show x < 2147483648 by omega)]; exact ⟨rfl, rfl⟩) dX7_weight_33
    · simp only [b01, Decidable.not_not] at c20
      refine k_iconst (pc := 23) (v := (-1)) C dX7_weight_23 (by decide) ?_
      exact r_i (pc := 24) C E (by rw [if_neg (fun h => by first | exact c9 h.1 | exact c20 h.2)]; exact ⟨rfl, rfl⟩) dX7_weight_24
set_option maxHeartbeats 4000000 in
set_option maxRecDepth 100000 in
/-- unit -/
theorem c7_unit {x0 : Int32} : xI l D (xty ca) yX7_unit cX7_unit 3 (some .int) 1 50 [.ref (ad 174), .int x0] ad (cm ad ca (V, U, sc, ia, la)) (fun r M' => if inR x0 13 then r = sc 31 ∧ M' = cm ad ca (V, U, va_up sc 31 x0, ia, la) else r = -1 ∧ M' = cm ad ca (V, U, sc, ia, la)) := by
  refine xM.of (by decide) (Nat.le_of_ble_eq_true rfl) (fun z C E => ?_)
  refine k_iload_n (pc := 0) C dX7_unit_0 rfl 1 rfl ?_
  refine k_i2l (pc := 1) C dX7_unit_1 rfl ?_
  refine k_lconst (pc := 2) (v := lN 0) C dX7_unit_2 (by decide) ?_
  refine k_ldc2 (pc := 3) C kc_X7_129 dX7_unit_3 ?_
  refine k_eql (y := lN 12) rfl ?_
  refine cs_X7_56 (pc := 6) C E (c7_in) rfl (by decide) rfl (Nat.le_of_ble_eq_true rfl) dX7_unit_6 (fun r6 M6 h6 => ?_)
  obtain ⟨rfl, rfl⟩ := h6
  simp only [in_r (show 12 < 2147483648 by decide)]
  refine k_if_ne (pc := 9) (tgt := 14) C dX7_unit_9 (by decide) (fun c9 => ?_) (fun c9 => ?_)
  · simp only [b01, Decidable.not_not] at c9
    refine k_aload_n (pc := 14) C dX7_unit_14 rfl 0 rfl ?_
    refine gf_X7_23 (pc := 15) C (174) (by decide) cm_174 rfl dX7_unit_15 ?_
    refine k_topi (fun x18 ex18 => ?_)
    refine k_istore_n (pc := 18) (lv' := [(2, .int (x18)), (0, .ref (ad (174))), (1, .int (x0))]) C dX7_unit_18 rfl (by decide) rfl ?_
    refine k_aload_n (pc := 19) C dX7_unit_19 rfl 1 rfl ?_
    refine k_iload_n (pc := 20) C dX7_unit_20 rfl 2 rfl ?_
    refine pf_X7_23 (pc := 21) C (174) (by decide) cm_174 (Nat.le_of_ble_eq_true rfl) dX7_unit_21 ?_
    rw [cm_s31]
    refine k_iload_n (pc := 24) C dX7_unit_24 rfl 0 rfl ?_
    exact r_i (pc := 25) C E (by rw [if_pos c9]; exact ⟨by assumption, rfl⟩) dX7_unit_25
  · simp only [b01, Decidable.not_not] at c9
    refine k_iconst (pc := 12) (v := (-1)) C dX7_unit_12 (by decide) ?_
    exact r_i (pc := 13) C E (by rw [if_neg c9]; exact ⟨rfl, rfl⟩) dX7_unit_13
set_option maxHeartbeats 4000000 in
set_option maxRecDepth 100000 in
/-- thrown -/
theorem c7_thrown  : xI l D (xty ca) yX7_thrown cX7_thrown 1 (some .int) 0 0 [.ref (ad 174)] ad (cm ad ca (V, U, sc, ia, la)) (fun r M' => r = sc 30 ∧ M' = cm ad ca (V, U, sc, ia, la)) := by
  refine xM.of (by decide) (Nat.le_of_ble_eq_true rfl) (fun z C E => ?_)
  refine k_aload_n (pc := 0) C dX7_thrown_0 rfl 0 rfl ?_
  refine gf_X7_51 (pc := 1) C (174) (by decide) cm_174 rfl dX7_thrown_1 ?_
  exact r_i (pc := 4) C E (⟨rfl, rfl⟩) dX7_thrown_4
set_option maxHeartbeats 4000000 in
set_option maxRecDepth 100000 in
/-- tries -/
theorem c7_tries  : xI l D (xty ca) yX7_tries cX7_tries 1 (some .int) 0 0 [.ref (ad 174)] ad (cm ad ca (V, U, sc, ia, la)) (fun r M' => r = sc 36 ∧ M' = cm ad ca (V, U, sc, ia, la)) := by
  refine xM.of (by decide) (Nat.le_of_ble_eq_true rfl) (fun z C E => ?_)
  refine k_aload_n (pc := 0) C dX7_tries_0 rfl 0 rfl ?_
  refine gf_X7_207 (pc := 1) C (174) (by decide) cm_174 rfl dX7_tries_1 ?_
  exact r_i (pc := 4) C E (⟨rfl, rfl⟩) dX7_tries_4
set_option maxHeartbeats 4000000 in
set_option maxRecDepth 100000 in
/-- why -/
theorem c7_why  : xI l D (xty ca) yX7_why cX7_why 1 (some .int) 0 0 [.ref (ad 174)] ad (cm ad ca (V, U, sc, ia, la)) (fun r M' => r = sc 37 ∧ M' = cm ad ca (V, U, sc, ia, la)) := by
  refine xM.of (by decide) (Nat.le_of_ble_eq_true rfl) (fun z C E => ?_)
  refine k_aload_n (pc := 0) C dX7_why_0 rfl 0 rfl ?_
  refine gf_X7_204 (pc := 1) C (174) (by decide) cm_174 rfl dX7_why_1 ?_
  exact r_i (pc := 4) C E (⟨rfl, rfl⟩) dX7_why_4
set_option maxHeartbeats 4000000 in
set_option maxRecDepth 100000 in
/-- place -/
theorem c7_place  : xI l D (xty ca) yX7_place cX7_place 1 (some .int) 0 0 [.ref (ad 174)] ad (cm ad ca (V, U, sc, ia, la)) (fun r M' => r = sc 33 ∧ M' = cm ad ca (V, U, sc, ia, la)) := by
  refine xM.of (by decide) (Nat.le_of_ble_eq_true rfl) (fun z C E => ?_)
  refine k_aload_n (pc := 0) C dX7_place_0 rfl 0 rfl ?_
  refine gf_X7_30 (pc := 1) C (174) (by decide) cm_174 rfl dX7_place_1 ?_
  exact r_i (pc := 4) C E (⟨rfl, rfl⟩) dX7_place_4
set_option maxHeartbeats 4000000 in
set_option maxRecDepth 100000 in
/-- say -/
theorem c7_say {n : Nat} {x0 : Int32} (hn : sc 34 = nI n) (hb : n < 200) : xV l D (xty ca) yX7_say cX7_say 2 none 0 0 [.ref (ad 174), .int x0] ad (cm ad ca (V, U, sc, ia, la)) (fun M' => M' = cm ad ca (V, U, va_up sc 34 (nI (n + 1)), va_up ia 180 (upd (ia 180) n x0), la)) := by
  refine xM.of (by decide) (Nat.le_of_ble_eq_true rfl) (fun z C E => ?_)
  refine k_aload_n (pc := 0) C dX7_say_0 rfl 0 rfl ?_
  refine gf_X7_33 (pc := 1) C (174) (by decide) cm_174 rfl dX7_say_1 ?_
  refine k_aload_n (pc := 4) C dX7_say_4 rfl 0 rfl ?_
  refine gf_X7_137 (pc := 5) C (174) (by decide) cm_174 rfl dX7_say_5 ?_
  refine k_eqi (y := nI n) (hn) ?_
  refine k_iload_n (pc := 8) C dX7_say_8 rfl 1 rfl ?_
  refine k_iast (pc := 9) C E (180) (by decide) cm_180 (n) rfl hb (by decide) dX7_say_9 ?_
  rw [cm_a180]
  refine k_aload_n (pc := 10) C dX7_say_10 rfl 0 rfl ?_
  refine k_dup (pc := 11) C dX7_say_11 rfl ?_
  refine gf_X7_137 (pc := 12) C (174) (by decide) cm_174 rfl dX7_say_12 ?_
  refine k_eqi (y := nI n) (hn) ?_
  refine k_iconst (pc := 15) (v := nI 1) C dX7_say_15 (by decide) ?_
  refine k_iadd (pc := 16) C dX7_say_16 ?_
  refine k_eqi (y := nI (n + 1)) (nI_add _ _) ?_
  refine pf_X7_137 (pc := 17) C (174) (by decide) cm_174 (Nat.le_of_ble_eq_true rfl) dX7_say_17 ?_
  rw [cm_s34]
  exact r_v (pc := 20) C E (rfl) dX7_say_20
set_option maxHeartbeats 4000000 in
set_option maxRecDepth 100000 in
/-- feed -/
theorem c7_feed {n : Nat} {x0 : Int32} (hn : sc 32 = nI n) (hb : n ≤ 120) : xI l D (xty ca) yX7_feed cX7_feed 2 (some .int) 1 50 [.ref (ad 174), .int x0] ad (cm ad ca (V, U, sc, ia, la)) (fun r M' => if inR x0 256 then (if n = 120 then r = -2 ∧ M' = cm ad ca (V, U, sc, ia, la) else r = nI (n + 1) ∧ M' = cm ad ca (V, U, va_up sc 32 (nI (n + 1)), va_up ia 179 (upd (ia 179) n x0), la)) else r = -1 ∧ M' = cm ad ca (V, U, sc, ia, la)) := by
  refine xM.of (by decide) (Nat.le_of_ble_eq_true rfl) (fun z C E => ?_)
  refine k_iload_n (pc := 0) C dX7_feed_0 rfl 1 rfl ?_
  refine k_i2l (pc := 1) C dX7_feed_1 rfl ?_
  refine k_lconst (pc := 2) (v := lN 0) C dX7_feed_2 (by decide) ?_
  refine k_ldc2 (pc := 3) C kc_X7_143 dX7_feed_3 ?_
  refine k_eql (y := lN 255) rfl ?_
  refine cs_X7_56 (pc := 6) C E (c7_in) rfl (by decide) rfl (Nat.le_of_ble_eq_true rfl) dX7_feed_6 (fun r6 M6 h6 => ?_)
  obtain ⟨rfl, rfl⟩ := h6
  simp only [in_r (show 255 < 2147483648 by decide)]
  refine k_if_ne (pc := 9) (tgt := 14) C dX7_feed_9 (by decide) (fun c9 => ?_) (fun c9 => ?_)
  · simp only [b01, Decidable.not_not] at c9
    refine k_aload_n (pc := 14) C dX7_feed_14 rfl 0 rfl ?_
    refine gf_X7_145 (pc := 15) C (174) (by decide) cm_174 rfl dX7_feed_15 ?_
    refine k_eqi (y := nI n) (hn) ?_
    refine k_bipush (pc := 18) (v := nI 120) C dX7_feed_18 (by decide) ?_
    refine k_icmp_ne (pc := 20) (tgt := 26) C dX7_feed_20 (by decide) (fun c20 => ?_) (fun c20 => ?_)
    · rw [q_eq (by omega) (by decide)] at c20
      refine k_aload_n (pc := 26) C dX7_feed_26 rfl 0 rfl ?_
      refine gf_X7_27 (pc := 27) C (174) (by decide) cm_174 rfl dX7_feed_27 ?_
      refine k_aload_n (pc := 30) C dX7_feed_30 rfl 0 rfl ?_
      refine gf_X7_145 (pc := 31) C (174) (by decide) cm_174 rfl dX7_feed_31 ?_
      refine k_eqi (y := nI n) (hn) ?_
      refine k_iload_n (pc := 34) C dX7_feed_34 rfl 1 rfl ?_
      refine k_iast (pc := 35) C E (179) (by decide) cm_179 (n) rfl (by omega) (by decide) dX7_feed_35 ?_
      rw [cm_a179]
      refine k_aload_n (pc := 36) C dX7_feed_36 rfl 0 rfl ?_
      refine k_dup (pc := 37) C dX7_feed_37 rfl ?_
      refine gf_X7_145 (pc := 38) C (174) (by decide) cm_174 rfl dX7_feed_38 ?_
      refine k_eqi (y := nI n) (hn) ?_
      refine k_iconst (pc := 41) (v := nI 1) C dX7_feed_41 (by decide) ?_
      refine k_iadd (pc := 42) C dX7_feed_42 ?_
      refine k_eqi (y := nI (n + 1)) (nI_add _ _) ?_
      refine pf_X7_145 (pc := 43) C (174) (by decide) cm_174 (Nat.le_of_ble_eq_true rfl) dX7_feed_43 ?_
      rw [cm_s32]
      refine k_aload_n (pc := 46) C dX7_feed_46 rfl 0 rfl ?_
      refine gf_X7_145 (pc := 47) C (174) (by decide) cm_174 rfl dX7_feed_47 ?_
      refine k_eqi (y := nI (n + 1)) (upIs) ?_
      exact r_i (pc := 50) C E (by rw [if_pos c9, if_neg c20]; exact ⟨rfl, rfl⟩) dX7_feed_50
    · rw [q_eq (by omega) (by decide)] at c20
      refine k_bipush (pc := 23) (v := (-2)) C dX7_feed_23 (by decide) ?_
      exact r_i (pc := 25) C E (by rw [if_pos c9, if_pos c20]; exact ⟨rfl, rfl⟩) dX7_feed_25
  · simp only [b01, Decidable.not_not] at c9
    refine k_iconst (pc := 12) (v := (-1)) C dX7_feed_12 (by decide) ?_
    exact r_i (pc := 13) C E (by rw [if_neg c9]; exact ⟨rfl, rfl⟩) dX7_feed_13
set_option maxHeartbeats 4000000 in
set_option maxRecDepth 100000 in
/-- later -/
theorem c7_later {n : Nat} {x0 r0 a0 b0 : Int32} (hn : sc 35 = nI n) (hb : n ≤ 12) : xI l D (xty ca) yX7_later cX7_later 5 (some .int) 1 50 [.ref (ad 174), .int x0, .int r0, .int a0, .int b0] ad (cm ad ca (V, U, sc, ia, la)) (fun r M' => if inR x0 5 then (if n = 12 then r = -2 ∧ M' = cm ad ca (V, U, sc, ia, la) else r = nI (n + 1) ∧ ∃ ia', M' = cm ad ca (V, U, va_up sc 35 (nI (n + 1)), ia', la) ∧ ia' 181 = upd (ia 181) n x0 ∧ ia' 182 = upd (ia 182) n r0 ∧ ia' 183 = upd (ia 183) n a0 ∧ ia' 184 = upd (ia 184) n b0 ∧ ∀ k, (k < 181 ∨ 184 < k) → ia' k = ia k) else r = -1 ∧ M' = cm ad ca (V, U, sc, ia, la)) := by
  refine xM.of (by decide) (Nat.le_of_ble_eq_true rfl) (fun z C E => ?_)
  refine k_iload_n (pc := 0) C dX7_later_0 rfl 1 rfl ?_
  refine k_i2l (pc := 1) C dX7_later_1 rfl ?_
  refine k_lconst (pc := 2) (v := lN 0) C dX7_later_2 (by decide) ?_
  refine k_ldc2 (pc := 3) C kc_X7_106 dX7_later_3 ?_
  refine k_eql (y := lN 4) rfl ?_
  refine cs_X7_56 (pc := 6) C E (c7_in) rfl (by decide) rfl (Nat.le_of_ble_eq_true rfl) dX7_later_6 (fun r6 M6 h6 => ?_)
  obtain ⟨rfl, rfl⟩ := h6
  simp only [in_r (show 4 < 2147483648 by decide)]
  refine k_if_ne (pc := 9) (tgt := 14) C dX7_later_9 (by decide) (fun c9 => ?_) (fun c9 => ?_)
  · simp only [b01, Decidable.not_not] at c9
    refine k_aload_n (pc := 14) C dX7_later_14 rfl 0 rfl ?_
    refine gf_X7_183 (pc := 15) C (174) (by decide) cm_174 rfl dX7_later_15 ?_
    refine k_eqi (y := nI n) (hn) ?_
    refine k_bipush (pc := 18) (v := nI 12) C dX7_later_18 (by decide) ?_
    refine k_icmp_ne (pc := 20) (tgt := 26) C dX7_later_20 (by decide) (fun c20 => ?_) (fun c20 => ?_)
    · rw [q_eq (by omega) (by decide)] at c20
      refine k_aload_n (pc := 26) C dX7_later_26 rfl 0 rfl ?_
      refine gf_X7_36 (pc := 27) C (174) (by decide) cm_174 rfl dX7_later_27 ?_
      refine k_aload_n (pc := 30) C dX7_later_30 rfl 0 rfl ?_
      refine gf_X7_183 (pc := 31) C (174) (by decide) cm_174 rfl dX7_later_31 ?_
      refine k_eqi (y := nI n) (hn) ?_
      refine k_iload_n (pc := 34) C dX7_later_34 rfl 1 rfl ?_
      refine k_iast (pc := 35) C E (181) (by decide) cm_181 (n) rfl (by omega) (by decide) dX7_later_35 ?_
      rw [cm_a181]
      refine k_aload_n (pc := 36) C dX7_later_36 rfl 0 rfl ?_
      refine gf_X7_39 (pc := 37) C (174) (by decide) cm_174 rfl dX7_later_37 ?_
      refine k_aload_n (pc := 40) C dX7_later_40 rfl 0 rfl ?_
      refine gf_X7_183 (pc := 41) C (174) (by decide) cm_174 rfl dX7_later_41 ?_
      refine k_eqi (y := nI n) (hn) ?_
      refine k_iload_n (pc := 44) C dX7_later_44 rfl 2 rfl ?_
      refine k_iast (pc := 45) C E (182) (by decide) cm_182 (n) rfl (by omega) (by decide) dX7_later_45 ?_
      rw [cm_a182]
      refine k_aload_n (pc := 46) C dX7_later_46 rfl 0 rfl ?_
      refine gf_X7_42 (pc := 47) C (174) (by decide) cm_174 rfl dX7_later_47 ?_
      refine k_aload_n (pc := 50) C dX7_later_50 rfl 0 rfl ?_
      refine gf_X7_183 (pc := 51) C (174) (by decide) cm_174 rfl dX7_later_51 ?_
      refine k_eqi (y := nI n) (hn) ?_
      refine k_iload_n (pc := 54) C dX7_later_54 rfl 3 rfl ?_
      refine k_iast (pc := 55) C E (183) (by decide) cm_183 (n) rfl (by omega) (by decide) dX7_later_55 ?_
      rw [cm_a183]
      refine k_aload_n (pc := 56) C dX7_later_56 rfl 0 rfl ?_
      refine gf_X7_45 (pc := 57) C (174) (by decide) cm_174 rfl dX7_later_57 ?_
      refine k_aload_n (pc := 60) C dX7_later_60 rfl 0 rfl ?_
      refine gf_X7_183 (pc := 61) C (174) (by decide) cm_174 rfl dX7_later_61 ?_
      refine k_eqi (y := nI n) (hn) ?_
      refine k_iload (pc := 64) C dX7_later_64 4 rfl ?_
      refine k_iast (pc := 66) C E (184) (by decide) cm_184 (n) rfl (by omega) (by decide) dX7_later_66 ?_
      rw [cm_a184]
      refine k_aload_n (pc := 67) C dX7_later_67 rfl 0 rfl ?_
      refine k_dup (pc := 68) C dX7_later_68 rfl ?_
      refine gf_X7_183 (pc := 69) C (174) (by decide) cm_174 rfl dX7_later_69 ?_
      refine k_eqi (y := nI n) (hn) ?_
      refine k_iconst (pc := 72) (v := nI 1) C dX7_later_72 (by decide) ?_
      refine k_iadd (pc := 73) C dX7_later_73 ?_
      refine k_eqi (y := nI (n + 1)) (nI_add _ _) ?_
      refine pf_X7_183 (pc := 74) C (174) (by decide) cm_174 (Nat.le_of_ble_eq_true rfl) dX7_later_74 ?_
      rw [cm_s35]
      refine k_aload_n (pc := 77) C dX7_later_77 rfl 0 rfl ?_
      refine gf_X7_183 (pc := 78) C (174) (by decide) cm_174 rfl dX7_later_78 ?_
      refine k_eqi (y := nI (n + 1)) (upIs) ?_
      exact r_i (pc := 81) C E (by rw [if_pos c9, if_neg c20]; exact ⟨rfl, _, rfl, by simp [va_up], by simp [va_up], by simp [va_up], by simp [va_up], fun k hk => by simp [va_up, show ¬ k = 181 by omega, show ¬ k = 182 by omega, show ¬ k = 183 by omega, show ¬ k = 184 by omega]⟩) dX7_later_81
    · rw [q_eq (by omega) (by decide)] at c20
      refine k_bipush (pc := 23) (v := (-2)) C dX7_later_23 (by decide) ?_
      exact r_i (pc := 25) C E (by rw [if_pos c9, if_pos c20]; exact ⟨rfl, rfl⟩) dX7_later_25
  · simp only [b01, Decidable.not_not] at c9
    refine k_iconst (pc := 12) (v := (-1)) C dX7_later_12 (by decide) ?_
    exact r_i (pc := 13) C E (by rw [if_neg c9]; exact ⟨rfl, rfl⟩) dX7_later_13
set_option maxHeartbeats 4000000 in
set_option maxRecDepth 100000 in
/-- out -/
theorem c7_out {n : Nat} {x0 : Int32} (hn : sc 34 = nI n) (hb : n ≤ 200) : xI l D (xty ca) yX7_out cX7_out 2 (some .int) 1 50 [.ref (ad 174), .int x0] ad (cm ad ca (V, U, sc, ia, la)) (fun r M' => if inR x0 n then r = ia 180 (rI x0) ∧ M' = cm ad ca (V, U, va_up sc 30 0, ia, la) else r = 0 ∧ M' = cm ad ca (V, U, va_up sc 30 1, ia, la)) := by
  refine xM.of (by decide) (Nat.le_of_ble_eq_true rfl) (fun z C E => ?_)
  refine k_aload_n (pc := 0) C dX7_out_0 rfl 0 rfl ?_
  refine k_iload_n (pc := 1) C dX7_out_1 rfl 1 rfl ?_
  refine k_i2l (pc := 2) C dX7_out_2 rfl ?_
  refine k_lconst (pc := 3) (v := lN 0) C dX7_out_3 (by decide) ?_
  refine k_aload_n (pc := 4) C dX7_out_4 rfl 0 rfl ?_
  refine gf_X7_137 (pc := 5) C (174) (by decide) cm_174 rfl dX7_out_5 ?_
  refine k_eqi (y := nI n) (hn) ?_
  refine k_iconst (pc := 8) (v := nI 1) C dX7_out_8 (by decide) ?_
  refine k_isub (pc := 9) C dX7_out_9 ?_
  refine k_eqi (y := iz ((n : Int) - 1)) (sub1z) ?_
  refine k_i2l (pc := 10) C dX7_out_10 rfl ?_
  refine cs_X7_56 (pc := 11) C E (c7_in) rfl (by decide) rfl (Nat.le_of_ble_eq_true rfl) dX7_out_11 (fun r11 M11 h11 => ?_)
  obtain ⟨rfl, rfl⟩ := h11
  simp only [in_rz (show n < 2147483648 by omega)]
  refine k_if_eq (pc := 14) (tgt := 21) C dX7_out_14 (by decide) (fun c14 => ?_) (fun c14 => ?_)
  · simp only [b01, Decidable.not_not] at c14
    refine k_iconst (pc := 21) (v := nI 1) C dX7_out_21 (by decide) ?_
    refine pf_X7_51 (pc := 22) C (174) (by decide) cm_174 (Nat.le_of_ble_eq_true rfl) dX7_out_22 ?_
    rw [cm_s30]
    refine k_aload_n (pc := 25) C dX7_out_25 rfl 0 rfl ?_
    refine gf_X7_51 (pc := 26) C (174) (by decide) cm_174 rfl dX7_out_26 ?_
    refine k_if_le (pc := 29) (tgt := 36) C dX7_out_29 (by decide) (fun c29 => ?_) (fun c29 => ?_)
    · rw [upIs] at c29; exact absurd c29 (by decide)
    · skip
      refine k_iconst (pc := 32) (v := nI 0) C dX7_out_32 (by decide) ?_
      refine k_goto (pc := 33) (tgt := 42) C dX7_out_33 (by decide) ?_
      exact r_i (pc := 42) C E (by first | (rw [if_pos c14, rI_n (show x < 2147483648 by omega)]; exact ⟨rfl, rfl⟩) | (rw [if_neg c14]; exact ⟨rfl, rfl⟩)) dX7_out_42
  · simp only [b01, Decidable.not_not] at c14
    obtain ⟨x, hx, rfl⟩ := inR_k c14
    refine k_iconst (pc := 17) (v := nI 0) C dX7_out_17 (by decide) ?_
    refine k_goto (pc := 18) (tgt := 22) C dX7_out_18 (by decide) ?_
    refine pf_X7_51 (pc := 22) C (174) (by decide) cm_174 (Nat.le_of_ble_eq_true rfl) dX7_out_22 ?_
    rw [cm_s30]
    refine k_aload_n (pc := 25) C dX7_out_25 rfl 0 rfl ?_
    refine gf_X7_51 (pc := 26) C (174) (by decide) cm_174 rfl dX7_out_26 ?_
    refine k_if_le (pc := 29) (tgt := 36) C dX7_out_29 (by decide) (fun c29 => ?_) (fun c29 => ?_)
    · skip
      refine k_aload_n (pc := 36) C dX7_out_36 rfl 0 rfl ?_
      refine gf_X7_33 (pc := 37) C (174) (by decide) cm_174 rfl dX7_out_37 ?_
      refine k_iload_n (pc := 40) C dX7_out_40 rfl 1 rfl ?_
      refine k_iald (pc := 41) C E (180) (by decide) cm_180 (x) rfl (by omega) (by decide) dX7_out_41 ?_
      exact r_i (pc := 42) C E (by first | (rw [if_pos c14, rI_n (show x < 2147483648 by omega)]; exact ⟨rfl, rfl⟩) | (rw [if_neg c14]; exact ⟨rfl, rfl⟩)) dX7_out_42
    · rw [upIs] at c29; exact absurd (by decide) c29
def byA (b : Nat → Int32) (n k : Nat) : Int32 := if k < n then b k else -1
abbrev dgt (x : Int32) : Prop := 48 ≤ x.toInt ∧ x.toInt ≤ 57
set_option maxHeartbeats 4000000 in
set_option maxRecDepth 100000 in
/-- byteAt -/
theorem c7_byteAt {n k : Nat} (hn : sc 32 = nI n) (hb : n ≤ 120) (hk : k < 100000) : xI l D (xty ca) yX7_byteAt cX7_byteAt 2 (some .int) 0 0 [.ref (ad 174), .int (nI k)] ad (cm ad ca (V, U, sc, ia, la)) (fun r M' => M' = cm ad ca (V, U, sc, ia, la) ∧ r = byA (ia 179) n k) := by
  refine xM.of (by decide) (Nat.le_of_ble_eq_true rfl) (fun z C E => ?_)
  refine k_iload_n (pc := 0) C dX7_byteAt_0 rfl 1 rfl ?_
  refine k_aload_n (pc := 1) C dX7_byteAt_1 rfl 0 rfl ?_
  refine gf_X7_145 (pc := 2) C (174) (by decide) cm_174 rfl dX7_byteAt_2 ?_
  refine k_eqi (y := nI n) (hn) ?_
  refine k_icmp_ge (pc := 5) (tgt := 17) C dX7_byteAt_5 (by decide) (fun c5 => ?_) (fun c5 => ?_)
  · rw [q_le (by omega) (by omega)] at c5
    refine k_iconst (pc := 17) (v := (-1)) C dX7_byteAt_17 (by decide) ?_
    exact r_i (pc := 18) C E (⟨rfl, by unfold byA; first | (rw [if_pos (by omega)]; done) | (rw [if_neg (by omega)])⟩) dX7_byteAt_18
  · rw [q_le (by omega) (by omega)] at c5
    refine k_aload_n (pc := 8) C dX7_byteAt_8 rfl 0 rfl ?_
    refine gf_X7_27 (pc := 9) C (174) (by decide) cm_174 rfl dX7_byteAt_9 ?_
    refine k_iload_n (pc := 12) C dX7_byteAt_12 rfl 1 rfl ?_
    refine k_iald (pc := 13) C E (179) (by decide) cm_179 (k) rfl (by omega) (by decide) dX7_byteAt_13 ?_
    refine k_goto (pc := 14) (tgt := 18) C dX7_byteAt_14 (by decide) ?_
    exact r_i (pc := 18) C E (⟨rfl, by unfold byA; first | (rw [if_pos (by omega)]; done) | (rw [if_neg (by omega)])⟩) dX7_byteAt_18
set_option maxHeartbeats 4000000 in
set_option maxRecDepth 100000 in
/-- isDigit -/
theorem c7_isDigit {x : Int32} : xI l D (xty ca) yX7_isDigit cX7_isDigit 1 (some .boolean) 1 30 [.int x] ad (cm ad ca (V, U, sc, ia, la)) (fun r M' => M' = cm ad ca (V, U, sc, ia, la) ∧ r = if dgt x then 1 else 0) := by
  refine xM.of (by decide) (Nat.le_of_ble_eq_true rfl) (fun z C E => ?_)
  refine k_iload_n (pc := 0) C dX7_isDigit_0 rfl 0 rfl ?_
  refine k_i2l (pc := 1) C dX7_isDigit_1 rfl ?_
  refine k_ldc2 (pc := 2) C kc_X7_148 dX7_isDigit_2 ?_
  refine k_eql (y := lN 48) rfl ?_
  refine k_ldc2 (pc := 5) C kc_X7_150 dX7_isDigit_5 ?_
  refine k_eql (y := lN 57) rfl ?_
  refine cs_X7_56 (pc := 8) C E (c7_in) rfl (by decide) rfl (Nat.le_of_ble_eq_true rfl) dX7_isDigit_8 (fun r8 M8 h8 => ?_)
  obtain ⟨rfl, rfl⟩ := h8
  simp only [isDg]
  exact r_z (pc := 11) C E (⟨rfl, rfl⟩) (b01') dX7_isDigit_11
end MK
