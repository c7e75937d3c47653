section MO9
variable {l : Launch} {D : va_G} {ca : Nat → ClassId} {ad : Nat → Nat} {V U : Nat → Nat} {sc : Nat → Int32} {ia : Nat → Nat → Int32} {la : Nat → Nat → Int64}
theorem ahd_z {n u : Nat} {b : Nat → Int32} (h : ¬ dgt (byA b n 0)) : mrun u n b n 0 mS0 = nI 0 := by
  have h9 := mrun_f (u := u) (i := 0) (g := 0) (h := false) (z := false) (Nat.zero_le n) (byA_not h) (Or.inr (Or.inl rfl)) (by decide)
  exact h9
theorem nIne {f : Nat} {c : Int32} (hf : f < 2147483648) (hc : c.toInt < 0) : ¬ nI f = c := fun e => by
  have := nI_toInt hf
  rw [e] at this
  omega
set_option maxHeartbeats 4000000 in
set_option maxRecDepth 100000 in
/-- ahead -/
theorem c7_ahead {n u : Nat} {b : Nat → Int32} (hn : sc 32 = nI n) (hn9 : n ≤ 120) (hb : ∀ i, i < n → ia 179 i = b i) : xI l D (xty ca) yX7_ahead cX7_ahead 4 (some .int) 2 80 [.ref (ad 174)] ad (cm ad ca (V, U, sc, ia, la)) (fun r M' => M' = cm ad ca (V, U, sc, ia, la) ∧ ((∃ f, f ≤ n ∧ r = iz ((f : Int) - 1000) ∧ mrun u n b n 0 mS0 = nI f) ∨ (∃ at1 g h z9, at1 ≤ n ∧ r = nI at1 ∧ mrun u n b n 0 mS0 = mrun u n b (n - at1) at1 (g, h, z9, false, 0) ∧ ends u n b at1 g h z9))) := by
  refine xM.of (by decide) (Nat.le_of_ble_eq_true rfl) (fun z C E => ?_)
  refine k_aload_n (pc := 0) C dX7_ahead_0 rfl 0 rfl ?_
  refine k_iconst (pc := 1) (v := nI 0) C dX7_ahead_1 (by decide) ?_
  refine cv_X7_152 (pc := 2) C E (c7_byteAt hn hn9 (k := 0) (by omega)) rfl (by decide) cm_174 (by decide) rfl (Nat.le_of_ble_eq_true rfl) dX7_ahead_2 (fun r2 M2 h2 => ?_)
  obtain ⟨rfl, rfl⟩ := h2
  rw [byA_c hb]
  refine cs_X7_156 (pc := 5) C E (c7_isDigit) rfl (by decide) rfl (Nat.le_of_ble_eq_true rfl) dX7_ahead_5 (fun r5 M5 h5 => ?_)
  obtain ⟨rfl, rfl⟩ := h5
  refine k_if_ne (pc := 8) (tgt := 15) C dX7_ahead_8 (by decide) (fun c8 => ?_) (fun c8 => ?_)
  · simp only [b01, Decidable.not_not] at c8
    refine k_aload_n (pc := 15) C dX7_ahead_15 rfl 0 rfl ?_
    refine k_iconst (pc := 16) (v := nI 0) C dX7_ahead_16 (by decide) ?_
    refine cv_X7_152 (pc := 17) C E (c7_byteAt hn hn9 (k := 0) (by omega)) rfl (by decide) cm_174 (by decide) rfl (Nat.le_of_ble_eq_true rfl) dX7_ahead_17 (fun r17 M17 h17 => ?_)
    obtain ⟨rfl, rfl⟩ := h17
    rw [byA_c hb]
    refine k_bipush (pc := 20) (v := nI 48) C dX7_ahead_20 (by decide) ?_
    refine k_icmp_ne (pc := 22) (tgt := 27) C dX7_ahead_22 (by decide) (fun c22 => ?_) (fun c22 => ?_)
    · rw [show nI 48 = (48 : Int32) from rfl] at c22
      refine k_iconst (pc := 27) (v := nI 0) C dX7_ahead_27 (by decide) ?_
      refine k_istore_n (pc := 28) (lv' := [(1, .int (nI 0)), (0, .ref (ad (174)))]) C dX7_ahead_28 rfl (by decide) rfl ?_
      have loop2 : ∀ (m at1 g : Nat) (h : Bool), n - at1 < m → at1 ≤ n → mrun u n b n 0 mS0 = mrun u n b (n - at1) at1 (g, h, false, false, 0) → (h = false → 1 ≤ g ∧ g ≤ 3) → (h = true → g = 3) → (at1 < n → dgt (b at1) → badF g h false) → xK z (xw ad (cm ad ca (V, U, sc, ia, la)) 187) 0 0 57 [(2, .int (nI 1)), (1, .int (nI at1)), (0, .ref (ad 174))] [] := by
        intro m
        induction m with
        | zero => intro at1 g h q; exact absurd q (Nat.not_lt_zero _)
        | succ m im =>
          intro at1 g h hm9 ha hm h1 h2 h3
          have haw : aw g h := by
            unfold aw
            cases h with
            | true => rw [if_pos rfl]; exact h2 rfl
            | false => rw [if_neg (by decide)]; exact (h1 rfl).1
          have hnb : ¬ badC g h false := fun q => by
            rcases q with q | q | q | q
            · exact absurd q (by decide)
            · cases h with
              | true => have := h2 rfl; omega
              | false => have := h1 rfl; omega
            · cases h with
              | true => have := h2 rfl; omega
              | false => have := h1 rfl; omega
            · exact q.2 (h2 q.1)
          refine k_iload_n (pc := 57) C dX7_ahead_57 rfl 0 rfl ?_
          refine k_if_eq (pc := 58) (tgt := 111) C dX7_ahead_58 (by decide) (fun c58 => ?_) (fun c58 => ?_)
          · exact absurd c58 (by decide)
          · skip
            refine k_aload_n (pc := 61) C dX7_ahead_61 rfl 2 rfl ?_
            refine k_iload_n (pc := 62) C dX7_ahead_62 rfl 1 rfl ?_
            refine cv_X7_152 (pc := 63) C E (c7_byteAt hn hn9 (k := at1) (by omega)) rfl (by decide) cm_174 (by decide) rfl (Nat.le_of_ble_eq_true rfl) dX7_ahead_63 (fun r63 M63 h63 => ?_)
            obtain ⟨rfl, rfl⟩ := h63
            rw [byA_c hb]
            refine k_bipush (pc := 66) (v := nI 44) C dX7_ahead_66 (by decide) ?_
            refine k_icmp_ne (pc := 68) (tgt := 111) C dX7_ahead_68 (by decide) (fun c68 => ?_) (fun c68 => ?_)
            · rw [show nI 44 = (44 : Int32) from rfl] at c68
              refine k_iload_n (pc := 111) C dX7_ahead_111 rfl 1 rfl ?_
              exact r_i (pc := 112) C E (⟨rfl, Or.inr ⟨at1, g, h, false, by omega, rfl, hm, haw, h3, fun l1 l2 => absurd l2 (byA_ne c68 l1)⟩⟩) dX7_ahead_112
            · rw [show nI 44 = (44 : Int32) from rfl] at c68
              refine k_iconst (pc := 71) (v := nI (0 + 1)) C dX7_ahead_71 (by decide) ?_
              refine k_istore_n (pc := 72) (lv' := [(3, .int (nI (0 + 1))), (2, .int (nI 1)), (1, .int (nI at1)), (0, .ref (ad (174)))]) C dX7_ahead_72 rfl (by decide) rfl ?_
              obtain ⟨l1, l2⟩ := byA_eq (by decide) c68
              have loop3 : ∀ (q j : Nat), 3 - j < q → j ≤ 3 → at1 + (j + 1) ≤ n → mrun u n b n 0 mS0 = mrun u n b (n - (at1 + (j + 1))) (at1 + (j + 1)) (j, true, false, false, 0) → xK z (xw ad (cm ad ca (V, U, sc, ia, la)) 187) 0 0 73 [(3, .int (nI (j + 1))), (2, .int (nI 1)), (1, .int (nI at1)), (0, .ref (ad 174))] [] := by
                intro q
                induction q with
                | zero => intro j q; exact absurd q (Nat.not_lt_zero _)
                | succ q iq =>
                  intro j hq hj hjn hm3
                  refine k_iload_n (pc := 73) C dX7_ahead_73 rfl 0 rfl ?_
                  refine k_iconst (pc := 74) (v := nI 3) C dX7_ahead_74 (by decide) ?_
                  refine k_icmp_gt (pc := 75) (tgt := 105) C dX7_ahead_75 (by decide) (fun c75 => ?_) (fun c75 => ?_)
                  · rw [q_lt (by omega) (by omega)] at c75
                    refine k_iinc (pc := 105) (v := nI (at1 + 4)) (lv' := [(1, .int (nI (at1 + 4))), (3, .int (nI (j + 1))), (2, .int (nI 1)), (0, .ref (ad (174)))]) C dX7_ahead_105 (k := 2) rfl (show nI at1 + nI 4 = _ from nI_add _ _) (by decide) rfl ?_
                    refine k_goto (pc := 108) (tgt := 57) C dX7_ahead_108 (by decide) ?_
                    refine k_sub [2, 0, 3] rfl ?_
                    have e3 : j = 3 := by omega
                    subst e3
                    exact im (at1 + 4) 3 true (by omega) (by omega) hm3 (fun t => absurd t (by decide)) (fun _ => rfl) (fun _ _ => Or.inr ⟨rfl, rfl⟩)
                  · rw [q_lt (by omega) (by omega)] at c75
                    refine k_aload_n (pc := 78) C dX7_ahead_78 rfl 3 rfl ?_
                    refine k_iload_n (pc := 79) C dX7_ahead_79 rfl 2 rfl ?_
                    refine k_iload_n (pc := 80) C dX7_ahead_80 rfl 0 rfl ?_
                    refine k_iadd (pc := 81) C dX7_ahead_81 ?_
                    refine k_eqi (y := nI (at1 + (j + 1))) (nI_add _ _) ?_
                    refine cv_X7_152 (pc := 82) C E (c7_byteAt hn hn9 (k := at1 + (j + 1)) (by omega)) rfl (by decide) cm_174 (by decide) rfl (Nat.le_of_ble_eq_true rfl) dX7_ahead_82 (fun r82 M82 h82 => ?_)
                    obtain ⟨rfl, rfl⟩ := h82
                    rw [byA_c hb]
                    refine cs_X7_156 (pc := 85) C E (c7_isDigit) rfl (by decide) rfl (Nat.le_of_ble_eq_true rfl) dX7_ahead_85 (fun r85 M85 h85 => ?_)
                    obtain ⟨rfl, rfl⟩ := h85
                    refine k_if_ne (pc := 88) (tgt := 99) C dX7_ahead_88 (by decide) (fun c88 => ?_) (fun c88 => ?_)
                    · simp only [b01, Decidable.not_not] at c88
                      refine k_iinc (pc := 99) (v := nI (j + 1 + 1)) (lv' := [(3, .int (nI (j + 1 + 1))), (2, .int (nI 1)), (1, .int (nI at1)), (0, .ref (ad (174)))]) C dX7_ahead_99 (k := 0) rfl (nI_1 _) (by decide) rfl ?_
                      refine k_goto (pc := 102) (tgt := 73) C dX7_ahead_102 (by decide) ?_
                      refine k_sub [0, 1, 2, 3] rfl ?_
                      obtain ⟨l1, l2⟩ := byA_lt c88
                      exact iq (j + 1) (by omega) (by omega) (by omega) (by rw [hm3]; exact mrun_s l1 (fig_s l2 (fun t => t.elim (fun q9 => absurd q9 (by decide)) (fun q9 => by have := q9.2; omega)) (fun t => absurd t.2.2 (by decide))))
                    · simp only [b01, Decidable.not_not] at c88
                      refine k_iload_n (pc := 91) C dX7_ahead_91 rfl 2 rfl ?_
                      refine k_iload_n (pc := 92) C dX7_ahead_92 rfl 0 rfl ?_
                      refine k_iadd (pc := 93) C dX7_ahead_93 ?_
                      refine k_eqi (y := nI (at1 + (j + 1))) (nI_add _ _) ?_
                      refine k_sipush (pc := 94) (v := nI 1000) C dX7_ahead_94 (by decide) ?_
                      refine k_isub (pc := 97) C dX7_ahead_97 ?_
                      refine k_eqi (y := iz (((at1 + (j + 1) : Nat) : Int) - 1000)) (iz_sub ((at1 + (j + 1) : Nat) : Int) ((1000 : Nat) : Int)) ?_
                      exact r_i (pc := 98) C E (⟨rfl, Or.inl ⟨at1 + (j + 1), hjn, rfl, by rw [hm3]; exact mrun_f hjn (byA_not c88) (Or.inr (Or.inr (Or.inr ⟨rfl, by omega⟩))) (by unfold aw; rw [if_pos rfl]; omega)⟩⟩) dX7_ahead_98
              refine k_sub [0, 1, 2, 3] rfl ?_
              exact loop3 4 0 (by decide) (by decide) (by omega) (by rw [hm]; exact mrun_s l1 (by rw [l2]; exact com_s hnb))
      have loop1 : ∀ (m at1 : Nat), n - at1 < m → at1 ≤ n → mrun u n b n 0 mS0 = mrun u n b (n - at1) at1 (at1, false, false, false, 0) → xK z (xw ad (cm ad ca (V, U, sc, ia, la)) 187) 0 0 29 [(1, .int (nI at1)), (0, .ref (ad 174))] [] := by
        intro m
        induction m with
        | zero => intro at1 q; exact absurd q (Nat.not_lt_zero _)
        | succ m im =>
          intro at1 hm9 ha hm
          refine k_aload_n (pc := 29) C dX7_ahead_29 rfl 1 rfl ?_
          refine k_iload_n (pc := 30) C dX7_ahead_30 rfl 0 rfl ?_
          refine cv_X7_152 (pc := 31) C E (c7_byteAt hn hn9 (k := at1) (by omega)) rfl (by decide) cm_174 (by decide) rfl (Nat.le_of_ble_eq_true rfl) dX7_ahead_31 (fun r31 M31 h31 => ?_)
          obtain ⟨rfl, rfl⟩ := h31
          rw [byA_c hb]
          refine cs_X7_156 (pc := 34) C E (c7_isDigit) rfl (by decide) rfl (Nat.le_of_ble_eq_true rfl) dX7_ahead_34 (fun r34 M34 h34 => ?_)
          obtain ⟨rfl, rfl⟩ := h34
          refine k_if_eq (pc := 37) (tgt := 46) C dX7_ahead_37 (by decide) (fun c37 => ?_) (fun c37 => ?_)
          · simp only [b01, Decidable.not_not] at c37
            have hat0 : 1 ≤ at1 := by
              rcases Nat.eq_zero_or_pos at1 with q | q
              · rw [q] at c37; exact absurd c8 c37
              · exact q
            refine k_iload_n (pc := 46) C dX7_ahead_46 rfl 0 rfl ?_
            refine k_iconst (pc := 47) (v := nI 3) C dX7_ahead_47 (by decide) ?_
            refine k_icmp_gt (pc := 48) (tgt := 55) C dX7_ahead_48 (by decide) (fun c48 => ?_) (fun c48 => ?_)
            · rw [q_lt (by decide) (by omega)] at c48
              refine k_iconst (pc := 55) (v := nI 0) C dX7_ahead_55 (by decide) ?_
              refine k_istore_n (pc := 56) (lv' := [(2, .int (nI 0)), (1, .int (nI at1)), (0, .ref (ad (174)))]) C dX7_ahead_56 rfl (by decide) rfl ?_
              refine k_iload_n (pc := 57) C dX7_ahead_57 rfl 0 rfl ?_
              refine k_if_eq (pc := 58) (tgt := 111) C dX7_ahead_58 (by decide) (fun c58 => ?_) (fun c58 => ?_)
              · skip
                refine k_iload_n (pc := 111) C dX7_ahead_111 rfl 1 rfl ?_
                exact r_i (pc := 112) C E (⟨rfl, Or.inr ⟨at1, at1, false, false, by omega, rfl, hm, by unfold aw; rw [if_neg (by decide)]; omega, fun l1 l2 => absurd l2 (byA_not c37 l1), fun _ _ => Or.inr (Or.inr (Or.inl c48))⟩⟩) dX7_ahead_112
              · exact absurd c58 (by decide)
            · rw [q_lt (by decide) (by omega)] at c48
              refine k_iconst (pc := 51) (v := nI 1) C dX7_ahead_51 (by decide) ?_
              refine k_goto (pc := 52) (tgt := 56) C dX7_ahead_52 (by decide) ?_
              refine k_istore_n (pc := 56) (lv' := [(2, .int (nI 1)), (1, .int (nI at1)), (0, .ref (ad (174)))]) C dX7_ahead_56 rfl (by decide) rfl ?_
              refine k_sub [0, 1, 2] rfl ?_
              exact loop2 (n + 1) at1 at1 false (by omega) ha hm (fun _ => ⟨hat0, by omega⟩) (fun t => absurd t (by decide)) (fun l1 l2 => absurd l2 (byA_not c37 l1))
          · simp only [b01, Decidable.not_not] at c37
            refine k_iinc (pc := 40) (v := nI (at1 + 1)) (lv' := [(1, .int (nI (at1 + 1))), (0, .ref (ad (174)))]) C dX7_ahead_40 (k := 0) rfl (nI_1 _) (by decide) rfl ?_
            refine k_goto (pc := 43) (tgt := 29) C dX7_ahead_43 (by decide) ?_
            refine k_sub [0, 1] rfl ?_
            obtain ⟨l1, l2⟩ := byA_lt c37
            exact im (at1 + 1) (by omega) (by omega) (by rw [hm]; exact mrun_s l1 (fig_s l2 (fun t => by
              rcases t with t | t
              · exact absurd t (by decide)
              · exact absurd t.1 (by decide)) (fun t => by
              have e0 := t.2.1
              subst e0
              exact byA_ne c22 l1 t.1)))
      refine k_sub [0, 1] rfl ?_
      exact loop1 (n + 1) 0 (by omega) (Nat.zero_le _) rfl
    · rw [show nI 48 = (48 : Int32) from rfl] at c22
      refine k_iconst (pc := 25) (v := nI 1) C dX7_ahead_25 (by decide) ?_
      exact r_i (pc := 26) C E (by
  obtain ⟨l1, l2⟩ := byA_eq (by decide) c22
  refine ⟨rfl, Or.inr ⟨1, 1, false, true, by omega, rfl, ?_, by decide, fun _ _ => Or.inl rfl, fun _ _ => Or.inl rfl⟩⟩
  exact mrun_s (i := 0) l1 (zero_s l2)) dX7_ahead_26
  · simp only [b01, Decidable.not_not] at c8
    refine k_sipush (pc := 11) (v := (-1000)) C dX7_ahead_11 (by decide) ?_
    exact r_i (pc := 14) C E (⟨rfl, Or.inl ⟨0, Nat.zero_le _, by decide, ahd_z c8⟩⟩) dX7_ahead_14
set_option maxHeartbeats 4000000 in
set_option maxRecDepth 100000 in
/-- wrongAt -/
theorem c7_wrongAt {n u : Nat} {b : Nat → Int32} (hn : sc 32 = nI n) (hn9 : n ≤ 120) (hb : ∀ i, i < n → ia 179 i = b i) (hu : sc 31 = nI u) (hu9 : u ≤ 12) : xI l D (xty ca) yX7_wrongAt cX7_wrongAt 3 (some .int) 3 120 [.ref (ad 174)] ad (cm ad ca (V, U, sc, ia, la)) (fun r M' => M' = cm ad ca (V, U, sc, ia, la) ∧ ((∃ f, f ≤ n ∧ r = nI f ∧ mrun u n b n 0 mS0 = nI f) ∨ (r = -1 ∧ mrun u n b n 0 mS0 = -4))) := by
  refine xM.of (by decide) (Nat.le_of_ble_eq_true rfl) (fun z C E => ?_)
  refine k_aload_n (pc := 0) C dX7_wrongAt_0 rfl 0 rfl ?_
  refine cv_X7_159 (pc := 1) C E (c7_ahead (u := u) hn hn9 hb) rfl (by decide) cm_174 (by decide) rfl (Nat.le_of_ble_eq_true rfl) dX7_wrongAt_1 (fun r1 M1 h1 => ?_)
  obtain ⟨rfl, hcase⟩ := h1
  rcases hcase with ⟨f, hf, rfl, hm⟩ | ⟨at1, g, h, z9, ha, rfl, hm, hen⟩
  · refine k_istore_n (pc := 4) (lv' := [(1, .int (iz ((f : Int) - 1000))), (0, .ref (ad (174)))]) C dX7_wrongAt_4 rfl (by decide) rfl ?_
    refine k_iload_n (pc := 5) C dX7_wrongAt_5 rfl 0 rfl ?_
    refine k_if_ge (pc := 6) (tgt := 15) C dX7_wrongAt_6 (by decide) (fun c6 => ?_) (fun c6 => ?_)
    · rw [Int32.le_iff_toInt_le, iz_toInt (by omega) (by omega)] at c6
      exact absurd c6 (by rw [show (0 : Int32).toInt = 0 from rfl]; omega)
    · skip
      refine k_iload_n (pc := 9) C dX7_wrongAt_9 rfl 0 rfl ?_
      refine k_sipush (pc := 10) (v := nI 1000) C dX7_wrongAt_10 (by decide) ?_
      refine k_iadd (pc := 13) C dX7_wrongAt_13 ?_
      refine k_eqi (y := nI f) (by rw [show nI 1000 = iz 1000 from rfl, iz_add, iz_n]; congr 1; omega) ?_
      exact r_i (pc := 14) C E (⟨rfl, Or.inl ⟨f, hf, rfl, hm⟩⟩) dX7_wrongAt_14
  · refine k_istore_n (pc := 4) (lv' := [(1, .int (nI at1)), (0, .ref (ad (174)))]) C dX7_wrongAt_4 rfl (by decide) rfl ?_
    refine k_iload_n (pc := 5) C dX7_wrongAt_5 rfl 0 rfl ?_
    refine k_if_ge (pc := 6) (tgt := 15) C dX7_wrongAt_6 (by decide) (fun c6 => ?_) (fun c6 => ?_)
    · skip
      refine k_aload_n (pc := 15) C dX7_wrongAt_15 rfl 1 rfl ?_
      refine gf_X7_23 (pc := 16) C (174) (by decide) cm_174 rfl dX7_wrongAt_16 ?_
      refine k_eqi (y := nI u) (hu) ?_
      refine k_if_le (pc := 19) (tgt := 69) C dX7_wrongAt_19 (by decide) (fun c19 => ?_) (fun c19 => ?_)
      · rw [q_le0 (by omega)] at c19
        refine k_iload_n (pc := 69) C dX7_wrongAt_69 rfl 0 rfl ?_
        refine k_aload_n (pc := 70) C dX7_wrongAt_70 rfl 1 rfl ?_
        refine gf_X7_145 (pc := 71) C (174) (by decide) cm_174 rfl dX7_wrongAt_71 ?_
        refine k_eqi (y := nI n) (hn) ?_
        refine k_icmp_ge (pc := 74) (tgt := 81) C dX7_wrongAt_74 (by decide) (fun c74 => ?_) (fun c74 => ?_)
        · rw [q_le (by omega) (by omega)] at c74
          refine k_iconst (pc := 81) (v := (-1)) C dX7_wrongAt_81 (by decide) ?_
          exact r_i (pc := 82) C E (by
  first
    | exact ⟨rfl, Or.inl ⟨at1, ha, rfl, by rw [hm]; exact mrun_n (by omega) (ends_bad hen (by omega) (Or.inl c19))⟩⟩
    | exact ⟨rfl, Or.inr ⟨rfl, by
        rw [hm, mrun_e (by omega), whl_q]
        unfold whQ
        rw [if_pos c19, decide_eq_true hen.1]
        rfl⟩⟩) dX7_wrongAt_82
        · rw [q_le (by omega) (by omega)] at c74
          refine k_iload_n (pc := 77) C dX7_wrongAt_77 rfl 0 rfl ?_
          refine k_goto (pc := 78) (tgt := 82) C dX7_wrongAt_78 (by decide) ?_
          exact r_i (pc := 82) C E (by
  first
    | exact ⟨rfl, Or.inl ⟨at1, ha, rfl, by rw [hm]; exact mrun_n (by omega) (ends_bad hen (by omega) (Or.inl c19))⟩⟩
    | exact ⟨rfl, Or.inr ⟨rfl, by
        rw [hm, mrun_e (by omega), whl_q]
        unfold whQ
        rw [if_pos c19, decide_eq_true hen.1]
        rfl⟩⟩) dX7_wrongAt_82
      · rw [q_le0 (by omega)] at c19
        refine k_aload_n (pc := 22) C dX7_wrongAt_22 rfl 1 rfl ?_
        refine k_iload_n (pc := 23) C dX7_wrongAt_23 rfl 0 rfl ?_
        refine cv_X7_152 (pc := 24) C E (c7_byteAt hn hn9 (k := at1) (by omega)) rfl (by decide) cm_174 (by decide) rfl (Nat.le_of_ble_eq_true rfl) dX7_wrongAt_24 (fun r24 M24 h24 => ?_)
        obtain ⟨rfl, rfl⟩ := h24
        rw [byA_c hb]
        refine k_bipush (pc := 27) (v := nI 46) C dX7_wrongAt_27 (by decide) ?_
        refine k_icmp_eq (pc := 29) (tgt := 34) C dX7_wrongAt_29 (by decide) (fun c29 => ?_) (fun c29 => ?_)
        · rw [show nI 46 = (46 : Int32) from rfl] at c29
          refine k_iinc (pc := 34) (v := nI (at1 + 1)) (lv' := [(1, .int (nI (at1 + 1))), (0, .ref (ad (174)))]) C dX7_wrongAt_34 (k := 0) rfl (nI_1 _) (by decide) rfl ?_
          refine k_iconst (pc := 37) (v := nI 0) C dX7_wrongAt_37 (by decide) ?_
          refine k_istore_n (pc := 38) (lv' := [(2, .int (nI 0)), (1, .int (nI (at1 + 1))), (0, .ref (ad (174)))]) C dX7_wrongAt_38 rfl (by decide) rfl ?_
          obtain ⟨l1, l2⟩ := byA_eq (by decide) c29
          have loop : ∀ (m k : Nat), u - k < m → k ≤ u → at1 + 1 + k ≤ n → mrun u n b n 0 mS0 = mrun u n b (n - (at1 + 1 + k)) (at1 + 1 + k) (g, h, z9, true, k) → xK z (xw ad (cm ad ca (V, U, sc, ia, la)) 187) 0 0 39 [(2, .int (nI k)), (1, .int (nI (at1 + 1 + k))), (0, .ref (ad 174))] [] := by
            intro m
            induction m with
            | zero => intro k q; exact absurd q (Nat.not_lt_zero _)
            | succ m im =>
              intro k hm9 hk ha9 hm2
              refine k_iload_n (pc := 39) C dX7_wrongAt_39 rfl 0 rfl ?_
              refine k_aload_n (pc := 40) C dX7_wrongAt_40 rfl 2 rfl ?_
              refine gf_X7_23 (pc := 41) C (174) (by decide) cm_174 rfl dX7_wrongAt_41 ?_
              refine k_eqi (y := nI u) (hu) ?_
              refine k_icmp_ge (pc := 44) (tgt := 69) C dX7_wrongAt_44 (by decide) (fun c44 => ?_) (fun c44 => ?_)
              · rw [q_le (by omega) (by omega)] at c44
                refine k_iload_n (pc := 69) C dX7_wrongAt_69 rfl 1 rfl ?_
                refine k_aload_n (pc := 70) C dX7_wrongAt_70 rfl 2 rfl ?_
                refine gf_X7_145 (pc := 71) C (174) (by decide) cm_174 rfl dX7_wrongAt_71 ?_
                refine k_eqi (y := nI n) (hn) ?_
                refine k_icmp_ge (pc := 74) (tgt := 81) C dX7_wrongAt_74 (by decide) (fun c74 => ?_) (fun c74 => ?_)
                · rw [q_le (by omega) (by omega)] at c74
                  refine k_iconst (pc := 81) (v := (-1)) C dX7_wrongAt_81 (by decide) ?_
                  exact r_i (pc := 82) C E (by
            have ek : k = u := by omega
            first
              | exact ⟨rfl, Or.inl ⟨at1 + 1 + k, ha9, rfl, by rw [hm2]; exact mrun_n (by omega) (past_n (fun t => by have := t.2; omega))⟩⟩
              | exact ⟨rfl, Or.inr ⟨rfl, by
                  rw [hm2, mrun_e (by omega), whl_q]
                  unfold whQ
                  rw [if_neg (show ¬ u = 0 by omega), decide_eq_true ek]
                  rfl⟩⟩) dX7_wrongAt_82
                · rw [q_le (by omega) (by omega)] at c74
                  refine k_iload_n (pc := 77) C dX7_wrongAt_77 rfl 1 rfl ?_
                  refine k_goto (pc := 78) (tgt := 82) C dX7_wrongAt_78 (by decide) ?_
                  exact r_i (pc := 82) C E (by
            have ek : k = u := by omega
            first
              | exact ⟨rfl, Or.inl ⟨at1 + 1 + k, ha9, rfl, by rw [hm2]; exact mrun_n (by omega) (past_n (fun t => by have := t.2; omega))⟩⟩
              | exact ⟨rfl, Or.inr ⟨rfl, by
                  rw [hm2, mrun_e (by omega), whl_q]
                  unfold whQ
                  rw [if_neg (show ¬ u = 0 by omega), decide_eq_true ek]
                  rfl⟩⟩) dX7_wrongAt_82
              · rw [q_le (by omega) (by omega)] at c44
                refine k_aload_n (pc := 47) C dX7_wrongAt_47 rfl 2 rfl ?_
                refine k_iload_n (pc := 48) C dX7_wrongAt_48 rfl 1 rfl ?_
                refine cv_X7_152 (pc := 49) C E (c7_byteAt hn hn9 (k := at1 + 1 + k) (by omega)) rfl (by decide) cm_174 (by decide) rfl (Nat.le_of_ble_eq_true rfl) dX7_wrongAt_49 (fun r49 M49 h49 => ?_)
                obtain ⟨rfl, rfl⟩ := h49
                rw [byA_c hb]
                refine cs_X7_156 (pc := 52) C E (c7_isDigit) rfl (by decide) rfl (Nat.le_of_ble_eq_true rfl) dX7_wrongAt_52 (fun r52 M52 h52 => ?_)
                obtain ⟨rfl, rfl⟩ := h52
                refine k_if_ne (pc := 55) (tgt := 60) C dX7_wrongAt_55 (by decide) (fun c55 => ?_) (fun c55 => ?_)
                · simp only [b01, Decidable.not_not] at c55
                  refine k_iinc (pc := 60) (v := nI (at1 + 1 + k + 1)) (lv' := [(1, .int (nI (at1 + 1 + k + 1))), (2, .int (nI k)), (0, .ref (ad (174)))]) C dX7_wrongAt_60 (k := 1) rfl (nI_1 _) (by decide) rfl ?_
                  refine k_iinc (pc := 63) (v := nI (k + 1)) (lv' := [(2, .int (nI (k + 1))), (1, .int (nI (at1 + 1 + k + 1))), (0, .ref (ad (174)))]) C dX7_wrongAt_63 (k := 1) rfl (nI_1 _) (by decide) rfl ?_
                  refine k_goto (pc := 66) (tgt := 39) C dX7_wrongAt_66 (by decide) ?_
                  refine k_sub [0, 1, 2] rfl ?_
                  obtain ⟨l1, l2⟩ := byA_lt c55
                  exact im (k + 1) (by omega) (by omega) (by omega) (by rw [hm2]; exact mrun_s l1 (past_f l2 (by omega)))
                · simp only [b01, Decidable.not_not] at c55
                  refine k_iload_n (pc := 58) C dX7_wrongAt_58 rfl 1 rfl ?_
                  exact r_i (pc := 59) C E (⟨rfl, Or.inl ⟨at1 + 1 + k, ha9, rfl, by
            rw [hm2]
            by_cases q : at1 + 1 + k < n
            · exact mrun_n q (past_n (fun t => byA_not c55 q t.1))
            · rw [mrun_e (by omega), whl_q]
              unfold whQ
              rw [if_neg (show ¬ u = 0 by omega), decide_eq_false (show ¬ k = u by omega), Bool.and_false, if_neg (by decide), show at1 + 1 + k = n by omega]⟩⟩) dX7_wrongAt_59
          refine k_sub [0, 1, 2] rfl ?_
          exact loop (u + 1) 0 (by omega) (Nat.zero_le _) (by omega) (by rw [hm]; exact mrun_s l1 (ends_pt hen (by omega) l2))
        · rw [show nI 46 = (46 : Int32) from rfl] at c29
          refine k_iload_n (pc := 32) C dX7_wrongAt_32 rfl 0 rfl ?_
          exact r_i (pc := 33) C E (⟨rfl, Or.inl ⟨at1, ha, rfl, by
  rw [hm]
  by_cases q : at1 < n
  · exact mrun_n q (ends_bad hen q (Or.inr (byA_ne c29 q)))
  · rw [mrun_e (by omega), whl_q]
    unfold whQ
    rw [if_neg c19, Bool.false_and, if_neg (by decide), show at1 = n by omega]⟩⟩) dX7_wrongAt_33
    · exact absurd (by rw [Int32.le_iff_toInt_le, nI_toInt (by omega), show (0 : Int32).toInt = 0 from rfl]; omega) c6
set_option maxHeartbeats 4000000 in
set_option maxRecDepth 100000 in
/-- read -/
theorem c7_read {T : Nat → Nat} (hT : RM U T) (hB : TB T) {n u : Nat} {b : Nat → Int32} (hn : sc 32 = nI n) (hn9 : n ≤ 120) (hb : ∀ i, i < n → ia 179 i = b i) (hu : sc 31 = nI u) (hu9 : u ≤ 12) {x0 : Int32} : xI l D (xty ca) yX7_read cX7_read 6 (some .int) 4 160 [.ref (ad 174), .int x0] ad (cm ad ca (V, U, sc, ia, la)) (fun r M' => ∃ U' sc', M' = cm ad ca (V, U', sc', ia, la) ∧ (∀ k, k ≠ 32 → k ≠ 33 → sc' k = sc k) ∧ (if inR x0 16 then sc' 32 = 0 ∧ (if mrun u n b n 0 mS0 = -4 then (if rdv b n < 2 ^ 256 then r = 1 ∧ sc' 33 = -4 ∧ RM U' (va_up T (rI x0) (rdv b n)) else r = -12 ∧ sc' 33 = nI n ∧ RM U' T) else r = -11 ∧ sc' 33 = mrun u n b n 0 mS0 ∧ RM U' T) else r = -1 ∧ sc' 32 = sc 32 ∧ sc' 33 = sc 33 ∧ RM U' T)) := by
  refine xM.of (by decide) (Nat.le_of_ble_eq_true rfl) (fun z C E => ?_)
  refine k_iload_n (pc := 0) C dX7_read_0 rfl 1 rfl ?_
  refine cs_X7_85 (pc := 1) C E (c7_isRegister) rfl (by decide) rfl (Nat.le_of_ble_eq_true rfl) dX7_read_1 (fun r1 M1 h1 => ?_)
  obtain ⟨rfl, rfl⟩ := h1
  refine k_if_ne (pc := 4) (tgt := 9) C dX7_read_4 (by decide) (fun c4 => ?_) (fun c4 => ?_)
  · simp only [b01, Decidable.not_not] at c4
    obtain ⟨x, hx, rfl⟩ := inR_k c4
    refine k_aload_n (pc := 9) C dX7_read_9 rfl 0 rfl ?_
    refine cv_X7_163 (pc := 10) C E (c7_wrongAt (u := u) hn hn9 hb hu hu9) rfl (by decide) cm_174 (by decide) rfl (Nat.le_of_ble_eq_true rfl) dX7_read_10 (fun r10 M10 h10 => ?_)
    obtain ⟨rfl, hcase⟩ := h10
    rcases hcase with ⟨f, hf, rfl, hm⟩ | ⟨rfl, hm⟩
    · refine k_istore_n (pc := 13) (lv' := [(2, .int (nI f)), (0, .ref (ad (174))), (1, .int (nI x))]) C dX7_read_13 rfl (by decide) rfl ?_
      refine k_aload_n (pc := 14) C dX7_read_14 rfl 1 rfl ?_
      refine gf_X7_145 (pc := 15) C (174) (by decide) cm_174 rfl dX7_read_15 ?_
      refine k_eqi (y := nI n) (hn) ?_
      refine k_istore_n (pc := 18) (lv' := [(3, .int (nI n)), (2, .int (nI f)), (0, .ref (ad (174))), (1, .int (nI x))]) C dX7_read_18 rfl (by decide) rfl ?_
      refine k_aload_n (pc := 19) C dX7_read_19 rfl 2 rfl ?_
      refine k_iconst (pc := 20) (v := nI 0) C dX7_read_20 (by decide) ?_
      refine pf_X7_145 (pc := 21) C (174) (by decide) cm_174 (Nat.le_of_ble_eq_true rfl) dX7_read_21 ?_
      rw [cm_s32]
      refine k_aload_n (pc := 24) C dX7_read_24 rfl 2 rfl ?_
      refine k_bipush (pc := 25) (v := (-4)) C dX7_read_25 (by decide) ?_
      refine pf_X7_30 (pc := 27) C (174) (by decide) cm_174 (Nat.le_of_ble_eq_true rfl) dX7_read_27 ?_
      rw [cm_s33]
      refine k_iload_n (pc := 30) C dX7_read_30 rfl 1 rfl ?_
      refine k_if_lt (pc := 31) (tgt := 42) C dX7_read_31 (by decide) (fun c31 => ?_) (fun c31 => ?_)
      · rw [q_lt0 (by omega)] at c31; exact c31.elim
      · skip
        refine k_aload_n (pc := 34) C dX7_read_34 rfl 2 rfl ?_
        refine k_iload_n (pc := 35) C dX7_read_35 rfl 1 rfl ?_
        refine pf_X7_30 (pc := 36) C (174) (by decide) cm_174 (Nat.le_of_ble_eq_true rfl) dX7_read_36 ?_
        rw [cm_s33, bx_uu]
        refine k_bipush (pc := 39) (v := (-11)) C dX7_read_39 (by decide) ?_
        exact r_i (pc := 41) C E (by
  refine ⟨U, _, rfl, fun k h1 h2 => by rw [upIn h2, upIn h1], ?_⟩
  rw [if_pos c4, hm, if_neg (nIne (by omega) (by decide))]
  exact ⟨by rw [upIn (by decide), upIs]; rfl, rfl, upIs, hT⟩) dX7_read_41
    · refine k_istore_n (pc := 13) (lv' := [(2, .int (-1)), (0, .ref (ad (174))), (1, .int (nI x))]) C dX7_read_13 rfl (by decide) rfl ?_
      refine k_aload_n (pc := 14) C dX7_read_14 rfl 1 rfl ?_
      refine gf_X7_145 (pc := 15) C (174) (by decide) cm_174 rfl dX7_read_15 ?_
      refine k_eqi (y := nI n) (hn) ?_
      refine k_istore_n (pc := 18) (lv' := [(3, .int (nI n)), (2, .int (-1)), (0, .ref (ad (174))), (1, .int (nI x))]) C dX7_read_18 rfl (by decide) rfl ?_
      refine k_aload_n (pc := 19) C dX7_read_19 rfl 2 rfl ?_
      refine k_iconst (pc := 20) (v := nI 0) C dX7_read_20 (by decide) ?_
      refine pf_X7_145 (pc := 21) C (174) (by decide) cm_174 (Nat.le_of_ble_eq_true rfl) dX7_read_21 ?_
      rw [cm_s32]
      refine k_aload_n (pc := 24) C dX7_read_24 rfl 2 rfl ?_
      refine k_bipush (pc := 25) (v := (-4)) C dX7_read_25 (by decide) ?_
      refine pf_X7_30 (pc := 27) C (174) (by decide) cm_174 (Nat.le_of_ble_eq_true rfl) dX7_read_27 ?_
      rw [cm_s33]
      refine k_iload_n (pc := 30) C dX7_read_30 rfl 1 rfl ?_
      refine k_if_lt (pc := 31) (tgt := 42) C dX7_read_31 (by decide) (fun c31 => ?_) (fun c31 => ?_)
      · skip
        refine k_aload_n (pc := 42) C dX7_read_42 rfl 2 rfl ?_
        refine k_bipush (pc := 43) (v := nI 28) C dX7_read_43 (by decide) ?_
        refine k_lconst (pc := 45) (v := lN 0) C dX7_read_45 (by decide) ?_
        refine cv_X7_62 (pc := 46) C E (c7_set (t := 28) (a := 0) (by decide) (by decide)) rfl (by decide) cm_174 (by decide) rfl (Nat.le_of_ble_eq_true rfl) dX7_read_46 (fun M46 h46 => ?_)
        subst h46
        obtain ⟨U1, hU1⟩ : ∃ W9, W9 = va_up U (28) (0) := ⟨_, rfl⟩
        rw [← hU1]
        have v1 : U1 (28) = 0 := by rw [hU1, ups]
        have f1 : ∀ q9, 28 ≠ q9 → U1 q9 = U q9 := fun q9 hk => by rw [hU1, upn hk]
        refine k_aload_n (pc := 49) C dX7_read_49 rfl 2 rfl ?_
        refine k_bipush (pc := 50) (v := nI 29) C dX7_read_50 (by decide) ?_
        refine k_ldc2 (pc := 52) C kc_X7_117 dX7_read_52 ?_
        refine k_eql (y := lN 10) rfl ?_
        refine cv_X7_62 (pc := 55) C E (c7_set (t := 29) (a := 10) (by decide) (by decide)) rfl (by decide) cm_174 (by decide) rfl (Nat.le_of_ble_eq_true rfl) dX7_read_55 (fun M55 h55 => ?_)
        subst h55
        obtain ⟨U2, hU2⟩ : ∃ W9, W9 = va_up U1 (29) (10) := ⟨_, rfl⟩
        rw [← hU2]
        have v2 : U2 (29) = 10 := by rw [hU2, ups]
        have f2 : ∀ q9, 29 ≠ q9 → U2 q9 = U1 q9 := fun q9 hk => by rw [hU2, upn hk]
        refine k_iconst (pc := 58) (v := nI 0) C dX7_read_58 (by decide) ?_
        refine k_istore (pc := 59) (lv' := [(4, .int (nI 0)), (3, .int (nI n)), (2, .int (-1)), (0, .ref (ad (174))), (1, .int (nI x))]) C dX7_read_59 (by decide) rfl ?_
        refine k_iconst (pc := 61) (v := nI 0) C dX7_read_61 (by decide) ?_
        refine k_istore (pc := 62) (lv' := [(5, .int (nI 0)), (4, .int (nI 0)), (3, .int (nI n)), (2, .int (-1)), (0, .ref (ad (174))), (1, .int (nI x))]) C dX7_read_62 (by decide) rfl ?_
        have s2f : ∀ k, k ≠ 32 → k ≠ 33 → (va_up (va_up sc 32 (nI 0)) 33 (-4)) k = sc k := fun k h1 h2 => by rw [upIn h2, upIn h1]
        obtain ⟨s2, hs2⟩ : ∃ s9, s9 = va_up (va_up sc 32 (nI 0)) 33 (-4) := ⟨_, rfl⟩
        rw [← hs2] at s2f ⊢
        have loop : ∀ (m k : Nat) (W : Nat → Nat), k + m = n → W 28 = rdv b k → rdv b k < 2 ^ 256 → W 29 = 10 → (∀ j, j < 28 → W j = U j) → xK z (xw ad (cm ad ca (V, W, s2, ia, la)) 187) 0 0 64 [(5, .int (nI k)), (4, .int (nI 0)), (3, .int (nI n)), (1, .int (nI x)), (0, .ref (ad 174))] [] := by
          intro m
          induction m with
          | zero =>
            intro k W hk w28 wv w29 wf
            refine k_iload (pc := 64) C dX7_read_64 0 rfl ?_
            refine k_iload_n (pc := 66) C dX7_read_66 rfl 2 rfl ?_
            refine k_icmp_ge (pc := 67) (tgt := 147) C dX7_read_67 (by decide) (fun c67 => ?_) (fun c67 => ?_)
            · rw [q_le (by omega) (by omega)] at c67
              refine k_iload (pc := 147) C dX7_read_147 1 rfl ?_
              refine k_if_eq (pc := 149) (tgt := 160) C dX7_read_149 (by decide) (fun c149 => ?_) (fun c149 => ?_)
              · skip
                refine k_aload_n (pc := 160) C dX7_read_160 rfl 4 rfl ?_
                refine k_iload_n (pc := 161) C dX7_read_161 rfl 3 rfl ?_
                refine k_bipush (pc := 162) (v := nI 28) C dX7_read_162 (by decide) ?_
                refine cv_X7_72 (pc := 164) C E (c7_copy (t := x) (a := 28) (by omega) (by decide)) rfl (by decide) cm_174 (by decide) rfl (Nat.le_of_ble_eq_true rfl) dX7_read_164 (fun M164 h164 => ?_)
                subst h164
                rw [w28]
                refine k_iconst (pc := 167) (v := nI 1) C dX7_read_167 (by decide) ?_
                exact r_i (pc := 168) C E (by
          have ek : k = n := by omega
          subst ek
          refine ⟨_, s2, rfl, s2f, ?_⟩
          rw [if_pos c4, if_pos hm, if_pos wv, rI_n (show x < 2147483648 by omega)]
          exact ⟨by rw [hs2, upIn (by decide), upIs]; rfl, rfl, by rw [hs2, upIs], RM.up (hT.o wf)⟩) dX7_read_168
              · exact absurd c149 (by decide)
            · rw [q_le (by omega) (by omega)] at c67
              exact absurd (by omega) c67
          | succ m ih =>
            intro k W hk w28 wv w29 wf
            have hs : rdv b (k + 1) = if dgt (b k) then rdv b k * 10 + ((b k).toInt - 48).toNat else rdv b k := rfl
            have hmo := rdv_mono b (show k + 1 ≤ n by omega)
            refine k_iload (pc := 64) C dX7_read_64 0 rfl ?_
            refine k_iload_n (pc := 66) C dX7_read_66 rfl 2 rfl ?_
            refine k_icmp_ge (pc := 67) (tgt := 147) C dX7_read_67 (by decide) (fun c67 => ?_) (fun c67 => ?_)
            · rw [q_le (by omega) (by omega)] at c67
              exact absurd c67 (by omega)
            · rw [q_le (by omega) (by omega)] at c67
              refine k_iload (pc := 70) C dX7_read_70 1 rfl ?_
              refine k_if_ne (pc := 72) (tgt := 147) C dX7_read_72 (by decide) (fun c72 => ?_) (fun c72 => ?_)
              · exact absurd c72 (by decide)
              · skip
                refine k_aload_n (pc := 75) C dX7_read_75 rfl 4 rfl ?_
                refine gf_X7_27 (pc := 76) C (174) (by decide) cm_174 rfl dX7_read_76 ?_
                refine k_iload (pc := 79) C dX7_read_79 0 rfl ?_
                refine k_iald (pc := 81) C E (179) (by decide) cm_179 (k) rfl (by omega) (by decide) dX7_read_81 ?_
                refine k_eqi (y := b k) (hb k (by omega)) ?_
                refine cs_X7_156 (pc := 82) C E (c7_isDigit) rfl (by decide) rfl (Nat.le_of_ble_eq_true rfl) dX7_read_82 (fun r82 M82 h82 => ?_)
                obtain ⟨rfl, rfl⟩ := h82
                refine k_if_eq (pc := 85) (tgt := 141) C dX7_read_85 (by decide) (fun c85 => ?_) (fun c85 => ?_)
                · simp only [b01, Decidable.not_not] at c85
                  rw [if_neg c85] at hs
                  refine k_iinc (pc := 141) (v := nI (k + 1)) (lv' := [(5, .int (nI (k + 1))), (4, .int (nI 0)), (3, .int (nI n)), (1, .int (nI x)), (0, .ref (ad (174)))]) C dX7_read_141 (k := 0) rfl (nI_1 _) (by decide) rfl ?_
                  refine k_goto (pc := 144) (tgt := 64) C dX7_read_144 (by decide) ?_
                  refine k_sub [0, 1, 2, 3, 4] rfl ?_
                  first
                    | exact ih (k + 1) U3 (by omega) v3 c131 g29 gf
                    | exact ih (k + 1) W (by omega) (by rw [hs]; exact w28) (by rw [hs]; exact wv) w29 wf
                · simp only [b01, Decidable.not_not] at c85
                  rw [if_pos c85] at hs
                  obtain ⟨d, hd, hd2⟩ : ∃ d, d < 10 ∧ b k - nI 48 = nI d ∧ ((b k).toInt - 48).toNat = d := dg48 c85
                  rw [hd2.2] at hs
                  refine k_aload_n (pc := 88) C dX7_read_88 rfl 4 rfl ?_
                  refine k_bipush (pc := 89) (v := nI 28) C dX7_read_89 (by decide) ?_
                  refine k_bipush (pc := 91) (v := nI 28) C dX7_read_91 (by decide) ?_
                  refine k_bipush (pc := 93) (v := nI 29) C dX7_read_93 (by decide) ?_
                  refine cv_X7_108 (pc := 95) C E (c7_product (t := 28) (a := 28) (b := 29) (by decide) (by decide) (by decide) (by decide) (by decide) (by rw [w28]; omega)) rfl (by decide) cm_174 (by decide) rfl (Nat.le_of_ble_eq_true rfl) dX7_read_95 (fun M95 h95 => ?_)
                  subst h95
                  rw [w28, w29]
                  obtain ⟨U1, hU1⟩ : ∃ W9, W9 = va_up (va_up W 34 (rdv b k * 10)) (28) (rdv b k * 10) := ⟨_, rfl⟩
                  rw [← hU1]
                  have v1 : U1 (28) = rdv b k * 10 := by rw [hU1, ups]
                  have f1 : ∀ k, 34 ≠ k → 28 ≠ k → U1 k = W k := fun k h1 h2 => by rw [hU1, upn h2, upn h1]
                  refine k_aload_n (pc := 98) C dX7_read_98 rfl 4 rfl ?_
                  refine k_bipush (pc := 99) (v := nI 30) C dX7_read_99 (by decide) ?_
                  refine k_aload_n (pc := 101) C dX7_read_101 rfl 4 rfl ?_
                  refine gf_X7_27 (pc := 102) C (174) (by decide) cm_174 rfl dX7_read_102 ?_
                  refine k_iload (pc := 105) C dX7_read_105 0 rfl ?_
                  refine k_iald (pc := 107) C E (179) (by decide) cm_179 (k) rfl (by omega) (by decide) dX7_read_107 ?_
                  refine k_eqi (y := b k) (hb k (by omega)) ?_
                  refine k_bipush (pc := 108) (v := nI 48) C dX7_read_108 (by decide) ?_
                  refine k_isub (pc := 110) C dX7_read_110 ?_
                  refine k_eqi (y := nI d) (hd2.1) ?_
                  refine k_i2l (pc := 111) C dX7_read_111 rfl ?_
                  refine k_eql (y := lN d) (nI_l (by omega)) ?_
                  refine cv_X7_62 (pc := 112) C E (c7_set (t := 30) (a := d) (by decide) (by omega)) rfl (by decide) cm_174 (by decide) rfl (Nat.le_of_ble_eq_true rfl) dX7_read_112 (fun M112 h112 => ?_)
                  subst h112
                  obtain ⟨U2, hU2⟩ : ∃ W9, W9 = va_up U1 (30) (d) := ⟨_, rfl⟩
                  rw [← hU2]
                  have v2 : U2 (30) = d := by rw [hU2, ups]
                  have f2 : ∀ q9, 30 ≠ q9 → U2 q9 = U1 q9 := fun q9 hk => by rw [hU2, upn hk]
                  refine k_aload_n (pc := 115) C dX7_read_115 rfl 4 rfl ?_
                  refine k_bipush (pc := 116) (v := nI 28) C dX7_read_116 (by decide) ?_
                  refine k_bipush (pc := 118) (v := nI 28) C dX7_read_118 (by decide) ?_
                  refine k_bipush (pc := 120) (v := nI 30) C dX7_read_120 (by decide) ?_
                  refine cv_X7_66 (pc := 122) C E (c7_plus (t := 28) (a := 28) (b := 30) (by decide) (by decide) (by decide)) rfl (by decide) cm_174 (by decide) rfl (Nat.le_of_ble_eq_true rfl) dX7_read_122 (fun M122 h122 => ?_)
                  subst h122
                  rw [f2 28 (by decide), v1, v2, ← hs]
                  obtain ⟨U3, hU3⟩ : ∃ W9, W9 = va_up U2 (28) (rdv b (k + 1)) := ⟨_, rfl⟩
                  rw [← hU3]
                  have v3 : U3 (28) = rdv b (k + 1) := by rw [hU3, ups]
                  have f3 : ∀ q9, 28 ≠ q9 → U3 q9 = U2 q9 := fun q9 hk => by rw [hU3, upn hk]
                  have g29 : U3 29 = 10 := by rw [f3 29 (by decide), f2 29 (by decide), f1 29 (by decide) (by decide), w29]
                  have gf : ∀ j, j < 28 → U3 j = U j := fun j hj => by rw [f3 j (by omega), f2 j (by omega), f1 j (by omega) (by omega)]; exact wf j hj
                  refine k_aload_n (pc := 125) C dX7_read_125 rfl 4 rfl ?_
                  refine k_bipush (pc := 126) (v := nI 28) C dX7_read_126 (by decide) ?_
                  refine cv_X7_93 (pc := 128) C E (c7_isSum (a := 28) (by decide) (by rw [v3]; omega)) rfl (by decide) cm_174 (by decide) rfl (Nat.le_of_ble_eq_true rfl) dX7_read_128 (fun r128 M128 h128 => ?_)
                  obtain ⟨rfl, rfl⟩ := h128
                  rw [v3]
                  refine k_if_ne (pc := 131) (tgt := 138) C dX7_read_131 (by decide) (fun c131 => ?_) (fun c131 => ?_)
                  · simp only [b01, Decidable.not_not] at c131
                    refine k_iconst (pc := 138) (v := nI 0) C dX7_read_138 (by decide) ?_
                    refine k_istore (pc := 139) (lv' := [(4, .int (nI 0)), (5, .int (nI k)), (3, .int (nI n)), (1, .int (nI x)), (0, .ref (ad (174)))]) C dX7_read_139 (by decide) rfl ?_
                    refine k_iinc (pc := 141) (v := nI (k + 1)) (lv' := [(5, .int (nI (k + 1))), (4, .int (nI 0)), (3, .int (nI n)), (1, .int (nI x)), (0, .ref (ad (174)))]) C dX7_read_141 (k := 1) rfl (nI_1 _) (by decide) rfl ?_
                    refine k_goto (pc := 144) (tgt := 64) C dX7_read_144 (by decide) ?_
                    refine k_sub [0, 1, 2, 3, 4] rfl ?_
                    first
                      | exact ih (k + 1) U3 (by omega) v3 c131 g29 gf
                      | exact ih (k + 1) W (by omega) (by rw [hs]; exact w28) (by rw [hs]; exact wv) w29 wf
                  · simp only [b01, Decidable.not_not] at c131
                    refine k_iconst (pc := 134) (v := nI 1) C dX7_read_134 (by decide) ?_
                    refine k_goto (pc := 135) (tgt := 139) C dX7_read_135 (by decide) ?_
                    refine k_istore (pc := 139) (lv' := [(4, .int (nI 1)), (5, .int (nI k)), (3, .int (nI n)), (1, .int (nI x)), (0, .ref (ad (174)))]) C dX7_read_139 (by decide) rfl ?_
                    refine k_iinc (pc := 141) (v := nI (k + 1)) (lv' := [(5, .int (nI (k + 1))), (4, .int (nI 1)), (3, .int (nI n)), (1, .int (nI x)), (0, .ref (ad (174)))]) C dX7_read_141 (k := 1) rfl (nI_1 _) (by decide) rfl ?_
                    refine k_goto (pc := 144) (tgt := 64) C dX7_read_144 (by decide) ?_
                    refine k_iload (pc := 64) C dX7_read_64 0 rfl ?_
                    refine k_iload_n (pc := 66) C dX7_read_66 rfl 2 rfl ?_
                    refine k_icmp_ge (pc := 67) (tgt := 147) C dX7_read_67 (by decide) (fun c67 => ?_) (fun c67 => ?_)
                    · rw [q_le (by omega) (by omega)] at c67
                      refine k_iload (pc := 147) C dX7_read_147 1 rfl ?_
                      refine k_if_eq (pc := 149) (tgt := 160) C dX7_read_149 (by decide) (fun c149 => ?_) (fun c149 => ?_)
                      · exact absurd c149 (by decide)
                      · skip
                        refine k_aload_n (pc := 152) C dX7_read_152 rfl 4 rfl ?_
                        refine k_iload_n (pc := 153) C dX7_read_153 rfl 2 rfl ?_
                        refine pf_X7_30 (pc := 154) C (174) (by decide) cm_174 (Nat.le_of_ble_eq_true rfl) dX7_read_154 ?_
                        rw [cm_s33]
                        refine k_bipush (pc := 157) (v := (-12)) C dX7_read_157 (by decide) ?_
                        exact r_i (pc := 159) C E (by
                      refine ⟨U3, _, rfl, fun j h1 h2 => by rw [upIn h2]; exact s2f j h1 h2, ?_⟩
                      rw [if_pos c4, if_pos hm, if_neg (by omega)]
                      exact ⟨by rw [upIn (by decide), hs2, upIn (by decide), upIs]; rfl, rfl, upIs, hT.o gf⟩) dX7_read_159
                    · rw [q_le (by omega) (by omega)] at c67
                      refine k_iload (pc := 70) C dX7_read_70 1 rfl ?_
                      refine k_if_ne (pc := 72) (tgt := 147) C dX7_read_72 (by decide) (fun c72 => ?_) (fun c72 => ?_)
                      · skip
                        refine k_iload (pc := 147) C dX7_read_147 1 rfl ?_
                        refine k_if_eq (pc := 149) (tgt := 160) C dX7_read_149 (by decide) (fun c149 => ?_) (fun c149 => ?_)
                        · exact absurd c149 (by decide)
                        · skip
                          refine k_aload_n (pc := 152) C dX7_read_152 rfl 4 rfl ?_
                          refine k_iload_n (pc := 153) C dX7_read_153 rfl 2 rfl ?_
                          refine pf_X7_30 (pc := 154) C (174) (by decide) cm_174 (Nat.le_of_ble_eq_true rfl) dX7_read_154 ?_
                          rw [cm_s33]
                          refine k_bipush (pc := 157) (v := (-12)) C dX7_read_157 (by decide) ?_
                          exact r_i (pc := 159) C E (by
                      refine ⟨U3, _, rfl, fun j h1 h2 => by rw [upIn h2]; exact s2f j h1 h2, ?_⟩
                      rw [if_pos c4, if_pos hm, if_neg (by omega)]
                      exact ⟨by rw [upIn (by decide), hs2, upIn (by decide), upIs]; rfl, rfl, upIs, hT.o gf⟩) dX7_read_159
                      · exact absurd c72 (by decide)
        refine k_sub [0, 1, 2, 5, 4] rfl ?_
        exact loop n 0 U2 (by omega) (by rw [f2 28 (by decide), v1]; rfl) (show (0 : Nat) < 2 ^ 256 by decide) v2 (fun j hj => by rw [f2 j (by omega), f1 j (by omega)])
      · exact absurd (by decide) c31
  · simp only [b01, Decidable.not_not] at c4
    refine k_iconst (pc := 7) (v := (-1)) C dX7_read_7 (by decide) ?_
    exact r_i (pc := 8) C E (⟨U, sc, rfl, fun _ _ _ => rfl, by rw [if_neg c4]; exact ⟨rfl, rfl, rfl, hT⟩⟩) dX7_read_8
end MO9
