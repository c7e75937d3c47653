section DD
variable {l : Launch} {D : va_G} {ca : Nat → ClassId} {ad : Nat → Nat} {V U : Nat → Nat} {sc : Nat → Int32} {ia : Nat → Nat → Int32} {la : Nat → Nat → Int64}
set_option maxHeartbeats 4000000 in
set_option maxRecDepth 100000 in
/-- Desk.goesUp -/
theorem c_goesUp {w : Nat} (hw : w ≤ 4) (hR : V 142 < 65536 ^ 23) (hB : V 138 < 65536 ^ 24) : xI l D (xty ca) yX1_goesUp cX1_goesUp 3 (some .boolean) 3 150 [.ref (ad 135), .int (nI w)] ad (cm ad ca (V, U, sc, ia, la)) (fun r M' => (∃ s, M' = cm ad ca (va_up V 146 s, U, sc, ia, la)) ∧ r = if gU w (V 140) (V 142) (V 138) = true then 1 else 0) := by
  refine xM.of (by decide) (Nat.le_of_ble_eq_true rfl) (fun z C E => ?_)
  have hR24 : V 142 + V 142 < 65536 ^ 24 := by omega
  refine k_iload_n (pc := 0) C dX1_goesUp_0 rfl 1 rfl ?_
  refine k_if_eq (pc := 1) (tgt := 14) C dX1_goesUp_1 (by decide) (fun c1 => ?_) (fun c1 => ?_)
  · rw [q_eq0 (by omega)] at c1
    refine k_iconst (pc := 14) (v := nI 0) C dX1_goesUp_14 (by decide) ?_
    exact r_z (pc := 15) C E (⟨⟨V 146, by rw [up_self]⟩, by rw [show gU w (V 140) (V 142) (V 138) = false by unfold gU; rw [if_pos (by omega)]]; rfl⟩) (by decide) dX1_goesUp_15
  · rw [q_eq0 (by omega)] at c1
    refine k_aload_n (pc := 4) C dX1_goesUp_4 rfl 0 rfl ?_
    refine gf_X1_24 (pc := 5) C (135) (by decide) cm_135 rfl dX1_goesUp_5 ?_
    refine cv_X1_92 (pc := 8) C E (c_isZero w142 (by omega)) rfl (by decide) (cm_w w142) (by decide) rfl (Nat.le_of_ble_eq_true rfl) dX1_goesUp_8 (fun r8 M8 h8 => ?_)
    obtain ⟨rfl, rfl⟩ := h8
    refine k_if_eq (pc := 11) (tgt := 16) C dX1_goesUp_11 (by decide) (fun c11 => ?_) (fun c11 => ?_)
    · simp only [b01, Decidable.not_not] at c11
      refine k_iload_n (pc := 16) C dX1_goesUp_16 rfl 1 rfl ?_
      refine k_iconst (pc := 17) (v := nI 1) C dX1_goesUp_17 (by decide) ?_
      refine k_icmp_ne (pc := 18) (tgt := 23) C dX1_goesUp_18 (by decide) (fun c18 => ?_) (fun c18 => ?_)
      · rw [q_eq (by omega) (by decide)] at c18
        refine k_aload_n (pc := 23) C dX1_goesUp_23 rfl 0 rfl ?_
        refine gf_X1_30 (pc := 24) C (135) (by decide) cm_135 rfl dX1_goesUp_24 ?_
        refine k_aload_n (pc := 27) C dX1_goesUp_27 rfl 0 rfl ?_
        refine gf_X1_24 (pc := 28) C (135) (by decide) cm_135 rfl dX1_goesUp_28 ?_
        refine cv_X1_42 (pc := 31) C E (c_copy w146 w142 (by decide)) rfl (by decide) (cm_w w146) (by decide) rfl (Nat.le_of_ble_eq_true rfl) dX1_goesUp_31 (fun M31 h31 => ?_)
        subst h31
        refine k_aload_n (pc := 34) C dX1_goesUp_34 rfl 0 rfl ?_
        refine gf_X1_30 (pc := 35) C (135) (by decide) cm_135 rfl dX1_goesUp_35 ?_
        refine k_aload_n (pc := 38) C dX1_goesUp_38 rfl 0 rfl ?_
        refine gf_X1_24 (pc := 39) C (135) (by decide) cm_135 rfl dX1_goesUp_39 ?_
        refine cv_X1_96 (pc := 42) C E (c_plus w146 w142 (by decide)) rfl (by decide) (cm_w w146) (by decide) rfl (Nat.le_of_ble_eq_true rfl) dX1_goesUp_42 (fun M42 h42 => ?_)
        subst h42
        rw [bx_uu, ups, upn (i := 146) (j := 142) (by decide)]
        refine k_aload_n (pc := 45) C dX1_goesUp_45 rfl 0 rfl ?_
        refine gf_X1_30 (pc := 46) C (135) (by decide) cm_135 rfl dX1_goesUp_46 ?_
        refine k_aload_n (pc := 49) C dX1_goesUp_49 rfl 0 rfl ?_
        refine gf_X1_18 (pc := 50) C (135) (by decide) cm_135 rfl dX1_goesUp_50 ?_
        refine cv_X1_99 (pc := 53) C E (c_compare w146 w138 (by rw [ups]; exact hR24) (by rw [upn (by decide)]; exact hB)) rfl (by decide) (cm_w w146) (by decide) rfl (Nat.le_of_ble_eq_true rfl) dX1_goesUp_53 (fun r53 M53 h53 => ?_)
        obtain ⟨rfl, rfl⟩ := h53
        rw [ups, upn (i := 146) (j := 138) (by decide)]
        refine k_topi (fun hf ehf => ?_)
        refine k_istore_n (pc := 56) (lv' := [(2, .int (hf)), (0, .ref (ad (135))), (1, .int (nI w))]) C dX1_goesUp_56 rfl (by decide) rfl ?_
        refine k_iload_n (pc := 57) C dX1_goesUp_57 rfl 0 rfl ?_
        refine k_if_eq (pc := 58) (tgt := 71) C dX1_goesUp_58 (by decide) (fun c58 => ?_) (fun c58 => ?_)
        · rw [ehf, cmp_e0] at c58
          refine k_iload_n (pc := 71) C dX1_goesUp_71 rfl 2 rfl ?_
          refine k_iconst (pc := 72) (v := nI 2) C dX1_goesUp_72 (by decide) ?_
          refine k_icmp_eq (pc := 73) (tgt := 91) C dX1_goesUp_73 (by decide) (fun c73 => ?_) (fun c73 => ?_)
          · rw [q_eq (by omega) (by decide)] at c73
            refine k_iconst (pc := 91) (v := nI 1) C dX1_goesUp_91 (by decide) ?_
            refine k_goto (pc := 92) (tgt := 96) C dX1_goesUp_92 (by decide) ?_
            exact r_z (pc := 96) C E (by first | exact ⟨⟨_, rfl⟩, by rw [show gU w (V 140) (V 142) (V 138) = true by unfold gU; rw [if_neg (by omega), if_neg (by omega), if_neg (by omega), if_neg (by omega)]; simp [*]]; rfl⟩ | exact ⟨⟨_, rfl⟩, by rw [show gU w (V 140) (V 142) (V 138) = false by unfold gU; rw [if_neg (by omega), if_neg (by omega), if_neg (by omega), if_neg (by omega)]; simp [*]]; rfl⟩) (by decide) dX1_goesUp_96
          · rw [q_eq (by omega) (by decide)] at c73
            refine k_iload_n (pc := 76) C dX1_goesUp_76 rfl 2 rfl ?_
            refine k_iconst (pc := 77) (v := nI 4) C dX1_goesUp_77 (by decide) ?_
            refine k_icmp_ne (pc := 78) (tgt := 95) C dX1_goesUp_78 (by decide) (fun c78 => ?_) (fun c78 => ?_)
            · rw [q_eq (by omega) (by decide)] at c78
              refine k_iconst (pc := 95) (v := nI 0) C dX1_goesUp_95 (by decide) ?_
              exact r_z (pc := 96) C E (by first | exact ⟨⟨_, rfl⟩, by rw [show gU w (V 140) (V 142) (V 138) = true by unfold gU; rw [if_neg (by omega), if_neg (by omega), if_neg (by omega), if_neg (by omega)]; simp [*]]; rfl⟩ | exact ⟨⟨_, rfl⟩, by rw [show gU w (V 140) (V 142) (V 138) = false by unfold gU; rw [if_neg (by omega), if_neg (by omega), if_neg (by omega), if_neg (by omega)]; simp [*]]; rfl⟩) (by decide) dX1_goesUp_96
            · rw [q_eq (by omega) (by decide)] at c78
              refine k_aload_n (pc := 81) C dX1_goesUp_81 rfl 1 rfl ?_
              refine gf_X1_21 (pc := 82) C (135) (by decide) cm_135 rfl dX1_goesUp_82 ?_
              refine cv_X1_103 (pc := 85) C E (c_isOdd w140) rfl (by decide) (cm_w w140) (by decide) rfl (Nat.le_of_ble_eq_true rfl) dX1_goesUp_85 (fun r85 M85 h85 => ?_)
              obtain ⟨rfl, rfl⟩ := h85
              rw [upn (i := 146) (j := 140) (by decide)]
              refine k_if_eq (pc := 88) (tgt := 95) C dX1_goesUp_88 (by decide) (fun c88 => ?_) (fun c88 => ?_)
              · simp only [b01, Decidable.not_not] at c88
                refine k_iconst (pc := 95) (v := nI 0) C dX1_goesUp_95 (by decide) ?_
                exact r_z (pc := 96) C E (by first | exact ⟨⟨_, rfl⟩, by rw [show gU w (V 140) (V 142) (V 138) = true by unfold gU; rw [if_neg (by omega), if_neg (by omega), if_neg (by omega), if_neg (by omega)]; simp [*]]; rfl⟩ | exact ⟨⟨_, rfl⟩, by rw [show gU w (V 140) (V 142) (V 138) = false by unfold gU; rw [if_neg (by omega), if_neg (by omega), if_neg (by omega), if_neg (by omega)]; simp [*]]; rfl⟩) (by decide) dX1_goesUp_96
              · simp only [b01, Decidable.not_not] at c88
                refine k_iconst (pc := 91) (v := nI 1) C dX1_goesUp_91 (by decide) ?_
                refine k_goto (pc := 92) (tgt := 96) C dX1_goesUp_92 (by decide) ?_
                exact r_z (pc := 96) C E (by first | exact ⟨⟨_, rfl⟩, by rw [show gU w (V 140) (V 142) (V 138) = true by unfold gU; rw [if_neg (by omega), if_neg (by omega), if_neg (by omega), if_neg (by omega)]; simp [*]]; rfl⟩ | exact ⟨⟨_, rfl⟩, by rw [show gU w (V 140) (V 142) (V 138) = false by unfold gU; rw [if_neg (by omega), if_neg (by omega), if_neg (by omega), if_neg (by omega)]; simp [*]]; rfl⟩) (by decide) dX1_goesUp_96
        · rw [ehf, cmp_e0] at c58
          refine k_iload_n (pc := 61) C dX1_goesUp_61 rfl 0 rfl ?_
          refine k_if_le (pc := 62) (tgt := 69) C dX1_goesUp_62 (by decide) (fun c62 => ?_) (fun c62 => ?_)
          · rw [ehf, cmp_le0] at c62
            refine k_iconst (pc := 69) (v := nI 0) C dX1_goesUp_69 (by decide) ?_
            exact r_z (pc := 70) C E (by first | exact ⟨⟨_, rfl⟩, by rw [show gU w (V 140) (V 142) (V 138) = true by unfold gU; rw [if_neg (by omega), if_neg (by omega), if_pos (by omega)]]; rfl⟩ | exact ⟨⟨_, rfl⟩, by rw [show gU w (V 140) (V 142) (V 138) = false by unfold gU; rw [if_neg (by omega), if_neg (by omega), if_neg (by omega), if_pos (by omega)]]; rfl⟩) (by decide) dX1_goesUp_70
          · rw [ehf, cmp_le0] at c62
            refine k_iconst (pc := 65) (v := nI 1) C dX1_goesUp_65 (by decide) ?_
            refine k_goto (pc := 66) (tgt := 70) C dX1_goesUp_66 (by decide) ?_
            exact r_z (pc := 70) C E (by first | exact ⟨⟨_, rfl⟩, by rw [show gU w (V 140) (V 142) (V 138) = true by unfold gU; rw [if_neg (by omega), if_neg (by omega), if_pos (by omega)]]; rfl⟩ | exact ⟨⟨_, rfl⟩, by rw [show gU w (V 140) (V 142) (V 138) = false by unfold gU; rw [if_neg (by omega), if_neg (by omega), if_neg (by omega), if_pos (by omega)]]; rfl⟩) (by decide) dX1_goesUp_70
      · rw [q_eq (by omega) (by decide)] at c18
        refine k_iconst (pc := 21) (v := nI 1) C dX1_goesUp_21 (by decide) ?_
        exact r_z (pc := 22) C E (⟨⟨V 146, by rw [up_self]⟩, by rw [show gU w (V 140) (V 142) (V 138) = true by unfold gU; rw [if_neg (by omega), if_pos (by omega)]]; rfl⟩) (by decide) dX1_goesUp_22
    · simp only [b01, Decidable.not_not] at c11
      refine k_iconst (pc := 14) (v := nI 0) C dX1_goesUp_14 (by decide) ?_
      exact r_z (pc := 15) C E (⟨⟨V 146, by rw [up_self]⟩, by rw [show gU w (V 140) (V 142) (V 138) = false by unfold gU; rw [if_pos (by omega)]]; rfl⟩) (by decide) dX1_goesUp_15
set_option maxHeartbeats 4000000 in
set_option maxRecDepth 100000 in
/-- Desk.settle -/
theorem c_settle {w : Nat} (hw : w ≤ 4) (hR : V 142 < 65536 ^ 23) (hB : V 138 < 65536 ^ 24) : xV l D (xty ca) yX1_settle cX1_settle 2 none 4 250 [.ref (ad 135), .int (nI w)] ad (cm ad ca (V, U, sc, ia, la)) (fun M' => ∃ s, M' = cm ad ca (va_up (va_up V 146 s) 140 (V 140 + if gU w (V 140) (V 142) (V 138) = true then 1 else 0), U, sc, ia, la)) := by
  refine xM.of (by decide) (Nat.le_of_ble_eq_true rfl) (fun z C E => ?_)
  refine k_aload_n (pc := 0) C dX1_settle_0 rfl 0 rfl ?_
  refine k_iload_n (pc := 1) C dX1_settle_1 rfl 1 rfl ?_
  refine cv_X1_85 (pc := 2) C E (c_goesUp hw hR hB) rfl (by decide) cm_135 (by decide) rfl (Nat.le_of_ble_eq_true rfl) dX1_settle_2 (fun r2 M2 h2 => ?_)
  obtain ⟨⟨s, rfl⟩, rfl⟩ := h2
  refine k_if_eq (pc := 5) (tgt := 15) C dX1_settle_5 (by decide) (fun c5 => ?_) (fun c5 => ?_)
  · simp only [b01, Decidable.not_not] at c5
    exact r_v (pc := 15) C E (⟨s, by first | (rw [if_pos c5, upn (i := 146) (j := 140) (by decide)]; done) | (rw [if_neg c5, Nat.add_zero, ← upn (V := V) (i := 146) (j := 140) (v := s) (by decide), up_self])⟩) dX1_settle_15
  · simp only [b01, Decidable.not_not] at c5
    refine k_aload_n (pc := 8) C dX1_settle_8 rfl 0 rfl ?_
    refine gf_X1_21 (pc := 9) C (135) (by decide) cm_135 rfl dX1_settle_9 ?_
    refine cv_X1_89 (pc := 12) C E (c_increment w140) rfl (by decide) (cm_w w140) (by decide) rfl (Nat.le_of_ble_eq_true rfl) dX1_settle_12 (fun M12 h12 => ?_)
    subst h12
    exact r_v (pc := 15) C E (⟨s, by first | (rw [if_pos c5, upn (i := 146) (j := 140) (by decide)]; done) | (rw [if_neg c5, Nat.add_zero, ← upn (V := V) (i := 146) (j := 140) (v := s) (by decide), up_self])⟩) dX1_settle_15
set_option maxHeartbeats 4000000 in
set_option maxRecDepth 100000 in
/-- Desk.bothFitPool -/
theorem c_bothFit {ja jb : Nat} (ha : isW ja) (hb : isW jb) (na : 146 ≠ ja) (nb : 146 ≠ jb) (hs : V ja + V jb < 65536 ^ 24) : xI l D (xty ca) yX1_bothFitPool cX1_bothFitPool 3 (some .boolean) 3 150 [.ref (ad 135), .ref (ad ja), .ref (ad jb)] ad (cm ad ca (V, U, sc, ia, la)) (fun r M' => (∃ s, M' = cm ad ca (va_up V 146 s, U, sc, ia, la)) ∧ r = if V ja + V jb < 2 ^ 100 then 1 else 0) := by
  refine xM.of (by decide) (Nat.le_of_ble_eq_true rfl) (fun z C E => ?_)
  refine k_aload_n (pc := 0) C dX1_bothFitPool_0 rfl 0 rfl ?_
  refine gf_X1_30 (pc := 1) C (135) (by decide) cm_135 rfl dX1_bothFitPool_1 ?_
  refine k_aload_n (pc := 4) C dX1_bothFitPool_4 rfl 1 rfl ?_
  refine cv_X1_42 (pc := 5) C E (c_copy w146 ha na) rfl (by decide) (cm_w w146) (by decide) rfl (Nat.le_of_ble_eq_true rfl) dX1_bothFitPool_5 (fun M5 h5 => ?_)
  subst h5
  refine k_aload_n (pc := 8) C dX1_bothFitPool_8 rfl 0 rfl ?_
  refine gf_X1_30 (pc := 9) C (135) (by decide) cm_135 rfl dX1_bothFitPool_9 ?_
  refine k_aload_n (pc := 12) C dX1_bothFitPool_12 rfl 2 rfl ?_
  refine cv_X1_96 (pc := 13) C E (c_plus w146 hb nb) rfl (by decide) (cm_w w146) (by decide) rfl (Nat.le_of_ble_eq_true rfl) dX1_bothFitPool_13 (fun M13 h13 => ?_)
  subst h13
  rw [bx_uu, ups, upn nb]
  refine k_aload_n (pc := 16) C dX1_bothFitPool_16 rfl 0 rfl ?_
  refine gf_X1_30 (pc := 17) C (135) (by decide) cm_135 rfl dX1_bothFitPool_17 ?_
  refine cv_X1_117 (pc := 20) C E (c_fitsPool w146 (by rw [ups]; exact hs)) rfl (by decide) (cm_w w146) (by decide) rfl (Nat.le_of_ble_eq_true rfl) dX1_bothFitPool_20 (fun r20 M20 h20 => ?_)
  obtain ⟨rfl, rfl⟩ := h20
  rw [ups]
  exact r_z (pc := 23) C E (⟨⟨_, rfl⟩, rfl⟩) (b01') dX1_bothFitPool_23
/-- the same but for cells lo .. hi -/
def agr (lo hi : Nat) (V V' : Nat → Nat) : Prop := ∀ k, (k < lo ∨ hi < k) → V' k = V k
set_option maxHeartbeats 4000000 in
set_option maxRecDepth 100000 in
/-- Desk.proportion -/
theorem c_proportion {ja jb jc : Nat} (ha : isW ja) (hb : isW jb) (hc : isW jc) (na : ja < 135) (nb : jb < 135) (nc : jc < 135) (h1 : V ja < 65536 ^ 24) (h2 : V jb < 65536 ^ 24) (h3 : V ja * V jb < 65536 ^ 22) (h4 : V jc < 65536 ^ 24) : xV l D (xty ca) yX1_proportion cX1_proportion 4 none 4 250 [.ref (ad 135), .ref (ad ja), .ref (ad jb), .ref (ad jc)] ad (cm ad ca (V, U, sc, ia, la)) (fun M' => ∃ V', M' = cm ad ca (V', U, sc, ia, la) ∧ V' 140 = V ja * V jb / V jc ∧ agr 136 144 V V') := by
  refine xM.of (by decide) (Nat.le_of_ble_eq_true rfl) (fun z C E => ?_)
  refine k_aload_n (pc := 0) C dX1_proportion_0 rfl 0 rfl ?_
  refine gf_X1_12 (pc := 1) C (135) (by decide) cm_135 rfl dX1_proportion_1 ?_
  refine k_aload_n (pc := 4) C dX1_proportion_4 rfl 1 rfl ?_
  refine k_aload_n (pc := 5) C dX1_proportion_5 rfl 2 rfl ?_
  refine cv_X1_106 (pc := 6) C E (c_product w136 ha hb (by omega) (by omega) h1 h2) rfl (by decide) (cm_w w136) (by decide) rfl (Nat.le_of_ble_eq_true rfl) dX1_proportion_6 (fun M6 h6 => ?_)
  subst h6
  refine k_aload_n (pc := 9) C dX1_proportion_9 rfl 0 rfl ?_
  refine gf_X1_18 (pc := 10) C (135) (by decide) cm_135 rfl dX1_proportion_10 ?_
  refine k_aload_n (pc := 13) C dX1_proportion_13 rfl 3 rfl ?_
  refine cv_X1_42 (pc := 14) C E (c_copy w138 hc (by omega)) rfl (by decide) (cm_w w138) (by decide) rfl (Nat.le_of_ble_eq_true rfl) dX1_proportion_14 (fun M14 h14 => ?_)
  subst h14
  rw [upn (i := 136) (j := jc) (by omega)]
  refine k_aload_n (pc := 17) C dX1_proportion_17 rfl 0 rfl ?_
  refine cv_X1_110 (pc := 18) C E (c_split (by rw [upn (by decide), ups]; exact h3) (by rw [ups]; exact h4)) rfl (by decide) cm_135 (by decide) rfl (Nat.le_of_ble_eq_true rfl) dX1_proportion_18 (fun M18 h18 => ?_)
  obtain ⟨d, rfl⟩ := h18
  exact r_v (pc := 21) C E (⟨_, rfl, by rw [wq_0, upn (i := 138) (j := 136) (by decide), ups, ups], fun k hk => by rw [wq_o (by omega), upn (by omega), upn (by omega)]⟩) dX1_proportion_21
end DD
