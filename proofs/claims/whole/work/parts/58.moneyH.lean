section EH
variable {l : Launch} {D : va_G} {ca : Nat → ClassId} {ad : Nat → Nat} {V U : Nat → Nat} {sc : Nat → Int32} {ia : Nat → Nat → Int32} {la : Nat → Nat → Int64}
def encS (sc : Nat → Int32) (S : mS) : Prop := sc 21 = nI S.1 ∧ sc 22 = bI S.2.1 ∧ sc 23 = bI S.2.2.1 ∧ sc 24 = bI S.2.2.2.1 ∧ sc 25 = nI S.2.2.2.2 ∧ S.1 ≤ 200 ∧ S.2.2.2.2 ≤ 200
theorem dg48 {c : Int32} (h : dgt c) : ∃ d, d < 10 ∧ c - nI 48 = nI d ∧ (c.toInt - 48).toNat = d := by
  obtain ⟨h1, h2⟩ := h
  obtain ⟨k, hk, rfl⟩ := inR_k (x := c) (n := 58) ⟨by omega, by omega⟩
  rw [nI_toInt (by omega)] at h1 h2 ⊢
  exact ⟨k - 48, by omega, pk_sub (by omega), by omega⟩
set_option maxHeartbeats 4000000 in
set_option maxRecDepth 100000 in
/-- isFigure -/
theorem c4_isFigure {x : Int32} : xI l D (xty ca) yX4_isFigure cX4_isFigure 1 (some .boolean) 0 0 [.int x] ad (cm ad ca (V, U, sc, ia, la)) (fun r M' => M' = cm ad ca (V, U, sc, ia, la) ∧ r = if dgt x then 1 else 0) := by
  refine xM.of (by decide) (Nat.le_of_ble_eq_true rfl) (fun z C E => ?_)
  refine k_iload_n (pc := 0) C dX4_isFigure_0 rfl 0 rfl ?_
  refine k_bipush (pc := 1) (v := nI 48) C dX4_isFigure_1 (by decide) ?_
  refine k_icmp_lt (pc := 3) (tgt := 16) C dX4_isFigure_3 (by decide) (fun c3 => ?_) (fun c3 => ?_)
  · rw [Int32.lt_iff_toInt_lt, nI_toInt (by decide)] at c3
    refine k_iconst (pc := 16) (v := nI 0) C dX4_isFigure_16 (by decide) ?_
    exact r_z (pc := 17) C E (⟨rfl, by first | (rw [if_pos ⟨by omega, by omega⟩]; rfl) | (rw [if_neg (fun q => by have := q.1; have := q.2; omega)]; rfl)⟩) (by decide) dX4_isFigure_17
  · rw [Int32.lt_iff_toInt_lt, nI_toInt (by decide)] at c3
    refine k_iload_n (pc := 6) C dX4_isFigure_6 rfl 0 rfl ?_
    refine k_bipush (pc := 7) (v := nI 57) C dX4_isFigure_7 (by decide) ?_
    refine k_icmp_gt (pc := 9) (tgt := 16) C dX4_isFigure_9 (by decide) (fun c9 => ?_) (fun c9 => ?_)
    · rw [Int32.lt_iff_toInt_lt, nI_toInt (by decide)] at c9
      refine k_iconst (pc := 16) (v := nI 0) C dX4_isFigure_16 (by decide) ?_
      exact r_z (pc := 17) C E (⟨rfl, by first | (rw [if_pos ⟨by omega, by omega⟩]; rfl) | (rw [if_neg (fun q => by have := q.1; have := q.2; omega)]; rfl)⟩) (by decide) dX4_isFigure_17
    · rw [Int32.lt_iff_toInt_lt, nI_toInt (by decide)] at c9
      refine k_iconst (pc := 12) (v := nI 1) C dX4_isFigure_12 (by decide) ?_
      refine k_goto (pc := 13) (tgt := 17) C dX4_isFigure_13 (by decide) ?_
      exact r_z (pc := 17) C E (⟨rfl, by first | (rw [if_pos ⟨by omega, by omega⟩]; rfl) | (rw [if_neg (fun q => by have := q.1; have := q.2; omega)]; rfl)⟩) (by decide) dX4_isFigure_17
set_option maxHeartbeats 4000000 in
set_option maxRecDepth 100000 in
/-- isAheadWhole -/
theorem c4_isAheadWhole {g : Nat} {h : Bool} (s1 : sc 21 = nI g) (s2 : sc 22 = bI h) (hg : g ≤ 200) : xI l D (xty ca) yX4_isAheadWhole cX4_isAheadWhole 1 (some .boolean) 0 0 [.ref (ad 157)] ad (cm ad ca (V, U, sc, ia, la)) (fun r M' => M' = cm ad ca (V, U, sc, ia, la) ∧ r = if aw g h then 1 else 0) := by
  refine xM.of (by decide) (Nat.le_of_ble_eq_true rfl) (fun z C E => ?_)
  refine k_aload_n (pc := 0) C dX4_isAheadWhole_0 rfl 0 rfl ?_
  refine gf_X4_22 (pc := 1) C (157) (by decide) cm_157 rfl dX4_isAheadWhole_1 ?_
  refine k_eqi (y := bI h) (s2) ?_
  refine k_if_eq (pc := 4) (tgt := 23) C dX4_isAheadWhole_4 (by decide) (fun c4 => ?_) (fun c4 => ?_)
  · simp only [bI0, Bool.not_eq_false] at c4
    refine k_aload_n (pc := 23) C dX4_isAheadWhole_23 rfl 0 rfl ?_
    refine gf_X4_19 (pc := 24) C (157) (by decide) cm_157 rfl dX4_isAheadWhole_24 ?_
    refine k_eqi (y := nI g) (s1) ?_
    refine k_if_le (pc := 27) (tgt := 34) C dX4_isAheadWhole_27 (by decide) (fun c27 => ?_) (fun c27 => ?_)
    · rw [q_le0 (by omega)] at c27
      refine k_iconst (pc := 34) (v := nI 0) C dX4_isAheadWhole_34 (by decide) ?_
      exact r_z (pc := 35) C E (⟨rfl, by unfold aw; first | (rw [if_pos (by rw [c4, if_neg (by decide)]; omega)]; rfl) | (rw [if_neg (by rw [c4, if_neg (by decide)]; omega)]; rfl) | (rw [if_pos (by rw [c4, if_pos rfl]; omega)]; rfl) | (rw [if_neg (by rw [c4, if_pos rfl]; omega)]; rfl)⟩) (by decide) dX4_isAheadWhole_35
    · rw [q_le0 (by omega)] at c27
      refine k_iconst (pc := 30) (v := nI 1) C dX4_isAheadWhole_30 (by decide) ?_
      refine k_goto (pc := 31) (tgt := 35) C dX4_isAheadWhole_31 (by decide) ?_
      exact r_z (pc := 35) C E (⟨rfl, by unfold aw; first | (rw [if_pos (by rw [c4, if_neg (by decide)]; omega)]; rfl) | (rw [if_neg (by rw [c4, if_neg (by decide)]; omega)]; rfl) | (rw [if_pos (by rw [c4, if_pos rfl]; omega)]; rfl) | (rw [if_neg (by rw [c4, if_pos rfl]; omega)]; rfl)⟩) (by decide) dX4_isAheadWhole_35
  · simp only [bI0, Bool.not_eq_false] at c4
    refine k_aload_n (pc := 7) C dX4_isAheadWhole_7 rfl 0 rfl ?_
    refine gf_X4_19 (pc := 8) C (157) (by decide) cm_157 rfl dX4_isAheadWhole_8 ?_
    refine k_eqi (y := nI g) (s1) ?_
    refine k_iconst (pc := 11) (v := nI 3) C dX4_isAheadWhole_11 (by decide) ?_
    refine k_icmp_ne (pc := 12) (tgt := 19) C dX4_isAheadWhole_12 (by decide) (fun c12 => ?_) (fun c12 => ?_)
    · rw [q_eq (by omega) (by decide)] at c12
      refine k_iconst (pc := 19) (v := nI 0) C dX4_isAheadWhole_19 (by decide) ?_
      refine k_goto (pc := 20) (tgt := 35) C dX4_isAheadWhole_20 (by decide) ?_
      exact r_z (pc := 35) C E (⟨rfl, by unfold aw; first | (rw [if_pos (by rw [c4, if_neg (by decide)]; omega)]; rfl) | (rw [if_neg (by rw [c4, if_neg (by decide)]; omega)]; rfl) | (rw [if_pos (by rw [c4, if_pos rfl]; omega)]; rfl) | (rw [if_neg (by rw [c4, if_pos rfl]; omega)]; rfl)⟩) (by decide) dX4_isAheadWhole_35
    · rw [q_eq (by omega) (by decide)] at c12
      refine k_iconst (pc := 15) (v := nI 1) C dX4_isAheadWhole_15 (by decide) ?_
      refine k_goto (pc := 16) (tgt := 35) C dX4_isAheadWhole_16 (by decide) ?_
      exact r_z (pc := 35) C E (⟨rfl, by unfold aw; first | (rw [if_pos (by rw [c4, if_neg (by decide)]; omega)]; rfl) | (rw [if_neg (by rw [c4, if_neg (by decide)]; omega)]; rfl) | (rw [if_pos (by rw [c4, if_pos rfl]; omega)]; rfl) | (rw [if_neg (by rw [c4, if_pos rfl]; omega)]; rfl)⟩) (by decide) dX4_isAheadWhole_35
set_option maxHeartbeats 4000000 in
set_option maxRecDepth 100000 in
/-- canFigureStand -/
theorem c4_canFigureStand {c0 : Int32} {g : Nat} {h zo : Bool} (s1 : sc 21 = nI g) (s2 : sc 22 = bI h) (s3 : sc 23 = bI zo) (hg : g ≤ 200) : xI l D (xty ca) yX4_canFigureStand cX4_canFigureStand 2 (some .boolean) 0 0 [.ref (ad 157), .int c0] ad (cm ad ca (V, U, sc, ia, la)) (fun r M' => if badF g h zo then r = 0 ∧ M' = cm ad ca (V, U, sc, ia, la) else r = 1 ∧ M' = cm ad ca (V, U, va_up (va_up sc 23 (bI (decide (c0 = 48 ∧ g = 0 ∧ h = false)))) 21 (nI (g + 1)), ia, la)) := by
  refine xM.of (by decide) (Nat.le_of_ble_eq_true rfl) (fun z C E => ?_)
  refine k_aload_n (pc := 0) C dX4_canFigureStand_0 rfl 0 rfl ?_
  refine gf_X4_26 (pc := 1) C (157) (by decide) cm_157 rfl dX4_canFigureStand_1 ?_
  refine k_eqi (y := bI zo) (s3) ?_
  refine k_if_ne (pc := 4) (tgt := 22) C dX4_canFigureStand_4 (by decide) (fun c4 => ?_) (fun c4 => ?_)
  · simp only [bI0, Bool.not_eq_false] at c4
    refine k_iconst (pc := 22) (v := nI 0) C dX4_canFigureStand_22 (by decide) ?_
    exact r_z (pc := 23) C E (by first | (rw [if_pos (Or.inl c4)]; exact ⟨rfl, rfl⟩) | (rw [if_pos (Or.inr ⟨c11, c19⟩)]; exact ⟨rfl, rfl⟩)) (by decide) dX4_canFigureStand_23
  · simp only [bI0, Bool.not_eq_false] at c4
    refine k_aload_n (pc := 7) C dX4_canFigureStand_7 rfl 0 rfl ?_
    refine gf_X4_22 (pc := 8) C (157) (by decide) cm_157 rfl dX4_canFigureStand_8 ?_
    refine k_eqi (y := bI h) (s2) ?_
    refine k_if_eq (pc := 11) (tgt := 24) C dX4_canFigureStand_11 (by decide) (fun c11 => ?_) (fun c11 => ?_)
    · simp only [bI0, Bool.not_eq_false] at c11
      refine k_aload_n (pc := 24) C dX4_canFigureStand_24 rfl 0 rfl ?_
      refine k_iload_n (pc := 25) C dX4_canFigureStand_25 rfl 1 rfl ?_
      refine k_bipush (pc := 26) (v := nI 48) C dX4_canFigureStand_26 (by decide) ?_
      refine k_icmp_ne (pc := 28) (tgt := 49) C dX4_canFigureStand_28 (by decide) (fun c28 => ?_) (fun c28 => ?_)
      · rw [show nI 48 = (48 : Int32) from rfl] at c28
        refine k_iconst (pc := 49) (v := nI 0) C dX4_canFigureStand_49 (by decide) ?_
        refine pf_X4_26 (pc := 50) C (157) (by decide) cm_157 (by decide) (Nat.le_of_ble_eq_true rfl) dX4_canFigureStand_50 ?_
        rw [cm_s23]
        refine k_aload_n (pc := 53) C dX4_canFigureStand_53 rfl 0 rfl ?_
        refine k_dup (pc := 54) C dX4_canFigureStand_54 rfl ?_
        refine gf_X4_19 (pc := 55) C (157) (by decide) cm_157 rfl dX4_canFigureStand_55 ?_
        refine k_eqi (y := nI g) (by rw [upIn (by decide)]; exact s1) ?_
        refine k_iconst (pc := 58) (v := nI 1) C dX4_canFigureStand_58 (by decide) ?_
        refine k_iadd (pc := 59) C dX4_canFigureStand_59 ?_
        refine k_eqi (y := nI (g + 1)) (nI_add _ _) ?_
        refine pf_X4_19 (pc := 60) C (157) (by decide) cm_157 (Nat.le_of_ble_eq_true rfl) dX4_canFigureStand_60 ?_
        rw [cm_s21]
        refine k_iconst (pc := 63) (v := nI 1) C dX4_canFigureStand_63 (by decide) ?_
        exact r_z (pc := 64) C E (by
  have nb : ¬ badF g h zo := fun q => by
    rcases q with q | q
    · rw [q] at c4; exact absurd c4 (by decide)
    · first | (rw [q.1] at c11; exact absurd c11 (by decide)) | exact c19 q.2
  rw [if_neg nb]
  refine ⟨rfl, ?_⟩
  first
    | (rw [decide_eq_true (show c0 = 48 ∧ g = 0 ∧ h = false from ⟨c28, c35, c42⟩)]; rfl)
    | (rw [decide_eq_false (show ¬ (c0 = 48 ∧ g = 0 ∧ h = false) from fun q => by first | exact c28 q.1 | exact c35 q.2.1 | (rw [q.2.2] at c42; exact absurd c42 (by decide)))]; rfl)) (by decide) dX4_canFigureStand_64
      · rw [show nI 48 = (48 : Int32) from rfl] at c28
        refine k_aload_n (pc := 31) C dX4_canFigureStand_31 rfl 0 rfl ?_
        refine gf_X4_19 (pc := 32) C (157) (by decide) cm_157 rfl dX4_canFigureStand_32 ?_
        refine k_eqi (y := nI g) (s1) ?_
        refine k_if_ne (pc := 35) (tgt := 49) C dX4_canFigureStand_35 (by decide) (fun c35 => ?_) (fun c35 => ?_)
        · rw [q_eq0 (by omega)] at c35
          refine k_iconst (pc := 49) (v := nI 0) C dX4_canFigureStand_49 (by decide) ?_
          refine pf_X4_26 (pc := 50) C (157) (by decide) cm_157 (by decide) (Nat.le_of_ble_eq_true rfl) dX4_canFigureStand_50 ?_
          rw [cm_s23]
          refine k_aload_n (pc := 53) C dX4_canFigureStand_53 rfl 0 rfl ?_
          refine k_dup (pc := 54) C dX4_canFigureStand_54 rfl ?_
          refine gf_X4_19 (pc := 55) C (157) (by decide) cm_157 rfl dX4_canFigureStand_55 ?_
          refine k_eqi (y := nI g) (by rw [upIn (by decide)]; exact s1) ?_
          refine k_iconst (pc := 58) (v := nI 1) C dX4_canFigureStand_58 (by decide) ?_
          refine k_iadd (pc := 59) C dX4_canFigureStand_59 ?_
          refine k_eqi (y := nI (g + 1)) (nI_add _ _) ?_
          refine pf_X4_19 (pc := 60) C (157) (by decide) cm_157 (Nat.le_of_ble_eq_true rfl) dX4_canFigureStand_60 ?_
          rw [cm_s21]
          refine k_iconst (pc := 63) (v := nI 1) C dX4_canFigureStand_63 (by decide) ?_
          exact r_z (pc := 64) C E (by
  have nb : ¬ badF g h zo := fun q => by
    rcases q with q | q
    · rw [q] at c4; exact absurd c4 (by decide)
    · first | (rw [q.1] at c11; exact absurd c11 (by decide)) | exact c19 q.2
  rw [if_neg nb]
  refine ⟨rfl, ?_⟩
  first
    | (rw [decide_eq_true (show c0 = 48 ∧ g = 0 ∧ h = false from ⟨c28, c35, c42⟩)]; rfl)
    | (rw [decide_eq_false (show ¬ (c0 = 48 ∧ g = 0 ∧ h = false) from fun q => by first | exact c28 q.1 | exact c35 q.2.1 | (rw [q.2.2] at c42; exact absurd c42 (by decide)))]; rfl)) (by decide) dX4_canFigureStand_64
        · rw [q_eq0 (by omega)] at c35
          refine k_aload_n (pc := 38) C dX4_canFigureStand_38 rfl 0 rfl ?_
          refine gf_X4_22 (pc := 39) C (157) (by decide) cm_157 rfl dX4_canFigureStand_39 ?_
          refine k_eqi (y := bI h) (s2) ?_
          refine k_if_ne (pc := 42) (tgt := 49) C dX4_canFigureStand_42 (by decide) (fun c42 => ?_) (fun c42 => ?_)
          · simp only [bI0, Bool.not_eq_false] at c42
            refine k_iconst (pc := 49) (v := nI 0) C dX4_canFigureStand_49 (by decide) ?_
            refine pf_X4_26 (pc := 50) C (157) (by decide) cm_157 (by decide) (Nat.le_of_ble_eq_true rfl) dX4_canFigureStand_50 ?_
            rw [cm_s23]
            refine k_aload_n (pc := 53) C dX4_canFigureStand_53 rfl 0 rfl ?_
            refine k_dup (pc := 54) C dX4_canFigureStand_54 rfl ?_
            refine gf_X4_19 (pc := 55) C (157) (by decide) cm_157 rfl dX4_canFigureStand_55 ?_
            refine k_eqi (y := nI g) (by rw [upIn (by decide)]; exact s1) ?_
            refine k_iconst (pc := 58) (v := nI 1) C dX4_canFigureStand_58 (by decide) ?_
            refine k_iadd (pc := 59) C dX4_canFigureStand_59 ?_
            refine k_eqi (y := nI (g + 1)) (nI_add _ _) ?_
            refine pf_X4_19 (pc := 60) C (157) (by decide) cm_157 (Nat.le_of_ble_eq_true rfl) dX4_canFigureStand_60 ?_
            rw [cm_s21]
            refine k_iconst (pc := 63) (v := nI 1) C dX4_canFigureStand_63 (by decide) ?_
            exact r_z (pc := 64) C E (by
  have nb : ¬ badF g h zo := fun q => by
    rcases q with q | q
    · rw [q] at c4; exact absurd c4 (by decide)
    · first | (rw [q.1] at c11; exact absurd c11 (by decide)) | exact c19 q.2
  rw [if_neg nb]
  refine ⟨rfl, ?_⟩
  first
    | (rw [decide_eq_true (show c0 = 48 ∧ g = 0 ∧ h = false from ⟨c28, c35, c42⟩)]; rfl)
    | (rw [decide_eq_false (show ¬ (c0 = 48 ∧ g = 0 ∧ h = false) from fun q => by first | exact c28 q.1 | exact c35 q.2.1 | (rw [q.2.2] at c42; exact absurd c42 (by decide)))]; rfl)) (by decide) dX4_canFigureStand_64
          · simp only [bI0, Bool.not_eq_false] at c42
            refine k_iconst (pc := 45) (v := nI 1) C dX4_canFigureStand_45 (by decide) ?_
            refine k_goto (pc := 46) (tgt := 50) C dX4_canFigureStand_46 (by decide) ?_
            refine pf_X4_26 (pc := 50) C (157) (by decide) cm_157 (by decide) (Nat.le_of_ble_eq_true rfl) dX4_canFigureStand_50 ?_
            rw [cm_s23]
            refine k_aload_n (pc := 53) C dX4_canFigureStand_53 rfl 0 rfl ?_
            refine k_dup (pc := 54) C dX4_canFigureStand_54 rfl ?_
            refine gf_X4_19 (pc := 55) C (157) (by decide) cm_157 rfl dX4_canFigureStand_55 ?_
            refine k_eqi (y := nI g) (by rw [upIn (by decide)]; exact s1) ?_
            refine k_iconst (pc := 58) (v := nI 1) C dX4_canFigureStand_58 (by decide) ?_
            refine k_iadd (pc := 59) C dX4_canFigureStand_59 ?_
            refine k_eqi (y := nI (g + 1)) (nI_add _ _) ?_
            refine pf_X4_19 (pc := 60) C (157) (by decide) cm_157 (Nat.le_of_ble_eq_true rfl) dX4_canFigureStand_60 ?_
            rw [cm_s21]
            refine k_iconst (pc := 63) (v := nI 1) C dX4_canFigureStand_63 (by decide) ?_
            exact r_z (pc := 64) C E (by
  have nb : ¬ badF g h zo := fun q => by
    rcases q with q | q
    · rw [q] at c4; exact absurd c4 (by decide)
    · first | (rw [q.1] at c11; exact absurd c11 (by decide)) | exact c19 q.2
  rw [if_neg nb]
  refine ⟨rfl, ?_⟩
  first
    | (rw [decide_eq_true (show c0 = 48 ∧ g = 0 ∧ h = false from ⟨c28, c35, c42⟩)]; rfl)
    | (rw [decide_eq_false (show ¬ (c0 = 48 ∧ g = 0 ∧ h = false) from fun q => by first | exact c28 q.1 | exact c35 q.2.1 | (rw [q.2.2] at c42; exact absurd c42 (by decide)))]; rfl)) (by decide) dX4_canFigureStand_64
    · simp only [bI0, Bool.not_eq_false] at c11
      refine k_aload_n (pc := 14) C dX4_canFigureStand_14 rfl 0 rfl ?_
      refine gf_X4_19 (pc := 15) C (157) (by decide) cm_157 rfl dX4_canFigureStand_15 ?_
      refine k_eqi (y := nI g) (s1) ?_
      refine k_iconst (pc := 18) (v := nI 3) C dX4_canFigureStand_18 (by decide) ?_
      refine k_icmp_ne (pc := 19) (tgt := 24) C dX4_canFigureStand_19 (by decide) (fun c19 => ?_) (fun c19 => ?_)
      · rw [q_eq (by omega) (by decide)] at c19
        refine k_aload_n (pc := 24) C dX4_canFigureStand_24 rfl 0 rfl ?_
        refine k_iload_n (pc := 25) C dX4_canFigureStand_25 rfl 1 rfl ?_
        refine k_bipush (pc := 26) (v := nI 48) C dX4_canFigureStand_26 (by decide) ?_
        refine k_icmp_ne (pc := 28) (tgt := 49) C dX4_canFigureStand_28 (by decide) (fun c28 => ?_) (fun c28 => ?_)
        · rw [show nI 48 = (48 : Int32) from rfl] at c28
          refine k_iconst (pc := 49) (v := nI 0) C dX4_canFigureStand_49 (by decide) ?_
          refine pf_X4_26 (pc := 50) C (157) (by decide) cm_157 (by decide) (Nat.le_of_ble_eq_true rfl) dX4_canFigureStand_50 ?_
          rw [cm_s23]
          refine k_aload_n (pc := 53) C dX4_canFigureStand_53 rfl 0 rfl ?_
          refine k_dup (pc := 54) C dX4_canFigureStand_54 rfl ?_
          refine gf_X4_19 (pc := 55) C (157) (by decide) cm_157 rfl dX4_canFigureStand_55 ?_
          refine k_eqi (y := nI g) (by rw [upIn (by decide)]; exact s1) ?_
          refine k_iconst (pc := 58) (v := nI 1) C dX4_canFigureStand_58 (by decide) ?_
          refine k_iadd (pc := 59) C dX4_canFigureStand_59 ?_
          refine k_eqi (y := nI (g + 1)) (nI_add _ _) ?_
          refine pf_X4_19 (pc := 60) C (157) (by decide) cm_157 (Nat.le_of_ble_eq_true rfl) dX4_canFigureStand_60 ?_
          rw [cm_s21]
          refine k_iconst (pc := 63) (v := nI 1) C dX4_canFigureStand_63 (by decide) ?_
          exact r_z (pc := 64) C E (by
  have nb : ¬ badF g h zo := fun q => by
    rcases q with q | q
    · rw [q] at c4; exact absurd c4 (by decide)
    · first | (rw [q.1] at c11; exact absurd c11 (by decide)) | exact c19 q.2
  rw [if_neg nb]
  refine ⟨rfl, ?_⟩
  first
    | (rw [decide_eq_true (show c0 = 48 ∧ g = 0 ∧ h = false from ⟨c28, c35, c42⟩)]; rfl)
    | (rw [decide_eq_false (show ¬ (c0 = 48 ∧ g = 0 ∧ h = false) from fun q => by first | exact c28 q.1 | exact c35 q.2.1 | (rw [q.2.2] at c42; exact absurd c42 (by decide)))]; rfl)) (by decide) dX4_canFigureStand_64
        · rw [show nI 48 = (48 : Int32) from rfl] at c28
          refine k_aload_n (pc := 31) C dX4_canFigureStand_31 rfl 0 rfl ?_
          refine gf_X4_19 (pc := 32) C (157) (by decide) cm_157 rfl dX4_canFigureStand_32 ?_
          refine k_eqi (y := nI g) (s1) ?_
          refine k_if_ne (pc := 35) (tgt := 49) C dX4_canFigureStand_35 (by decide) (fun c35 => ?_) (fun c35 => ?_)
          · rw [q_eq0 (by omega)] at c35
            refine k_iconst (pc := 49) (v := nI 0) C dX4_canFigureStand_49 (by decide) ?_
            refine pf_X4_26 (pc := 50) C (157) (by decide) cm_157 (by decide) (Nat.le_of_ble_eq_true rfl) dX4_canFigureStand_50 ?_
            rw [cm_s23]
            refine k_aload_n (pc := 53) C dX4_canFigureStand_53 rfl 0 rfl ?_
            refine k_dup (pc := 54) C dX4_canFigureStand_54 rfl ?_
            refine gf_X4_19 (pc := 55) C (157) (by decide) cm_157 rfl dX4_canFigureStand_55 ?_
            refine k_eqi (y := nI g) (by rw [upIn (by decide)]; exact s1) ?_
            refine k_iconst (pc := 58) (v := nI 1) C dX4_canFigureStand_58 (by decide) ?_
            refine k_iadd (pc := 59) C dX4_canFigureStand_59 ?_
            refine k_eqi (y := nI (g + 1)) (nI_add _ _) ?_
            refine pf_X4_19 (pc := 60) C (157) (by decide) cm_157 (Nat.le_of_ble_eq_true rfl) dX4_canFigureStand_60 ?_
            rw [cm_s21]
            refine k_iconst (pc := 63) (v := nI 1) C dX4_canFigureStand_63 (by decide) ?_
            exact r_z (pc := 64) C E (by
  have nb : ¬ badF g h zo := fun q => by
    rcases q with q | q
    · rw [q] at c4; exact absurd c4 (by decide)
    · first | (rw [q.1] at c11; exact absurd c11 (by decide)) | exact c19 q.2
  rw [if_neg nb]
  refine ⟨rfl, ?_⟩
  first
    | (rw [decide_eq_true (show c0 = 48 ∧ g = 0 ∧ h = false from ⟨c28, c35, c42⟩)]; rfl)
    | (rw [decide_eq_false (show ¬ (c0 = 48 ∧ g = 0 ∧ h = false) from fun q => by first | exact c28 q.1 | exact c35 q.2.1 | (rw [q.2.2] at c42; exact absurd c42 (by decide)))]; rfl)) (by decide) dX4_canFigureStand_64
          · rw [q_eq0 (by omega)] at c35
            refine k_aload_n (pc := 38) C dX4_canFigureStand_38 rfl 0 rfl ?_
            refine gf_X4_22 (pc := 39) C (157) (by decide) cm_157 rfl dX4_canFigureStand_39 ?_
            refine k_eqi (y := bI h) (s2) ?_
            refine k_if_ne (pc := 42) (tgt := 49) C dX4_canFigureStand_42 (by decide) (fun c42 => ?_) (fun c42 => ?_)
            · simp only [bI0, Bool.not_eq_false] at c42
              refine k_iconst (pc := 49) (v := nI 0) C dX4_canFigureStand_49 (by decide) ?_
              refine pf_X4_26 (pc := 50) C (157) (by decide) cm_157 (by decide) (Nat.le_of_ble_eq_true rfl) dX4_canFigureStand_50 ?_
              rw [cm_s23]
              refine k_aload_n (pc := 53) C dX4_canFigureStand_53 rfl 0 rfl ?_
              refine k_dup (pc := 54) C dX4_canFigureStand_54 rfl ?_
              refine gf_X4_19 (pc := 55) C (157) (by decide) cm_157 rfl dX4_canFigureStand_55 ?_
              refine k_eqi (y := nI g) (by rw [upIn (by decide)]; exact s1) ?_
              refine k_iconst (pc := 58) (v := nI 1) C dX4_canFigureStand_58 (by decide) ?_
              refine k_iadd (pc := 59) C dX4_canFigureStand_59 ?_
              refine k_eqi (y := nI (g + 1)) (nI_add _ _) ?_
              refine pf_X4_19 (pc := 60) C (157) (by decide) cm_157 (Nat.le_of_ble_eq_true rfl) dX4_canFigureStand_60 ?_
              rw [cm_s21]
              refine k_iconst (pc := 63) (v := nI 1) C dX4_canFigureStand_63 (by decide) ?_
              exact r_z (pc := 64) C E (by
  have nb : ¬ badF g h zo := fun q => by
    rcases q with q | q
    · rw [q] at c4; exact absurd c4 (by decide)
    · first | (rw [q.1] at c11; exact absurd c11 (by decide)) | exact c19 q.2
  rw [if_neg nb]
  refine ⟨rfl, ?_⟩
  first
    | (rw [decide_eq_true (show c0 = 48 ∧ g = 0 ∧ h = false from ⟨c28, c35, c42⟩)]; rfl)
    | (rw [decide_eq_false (show ¬ (c0 = 48 ∧ g = 0 ∧ h = false) from fun q => by first | exact c28 q.1 | exact c35 q.2.1 | (rw [q.2.2] at c42; exact absurd c42 (by decide)))]; rfl)) (by decide) dX4_canFigureStand_64
            · simp only [bI0, Bool.not_eq_false] at c42
              refine k_iconst (pc := 45) (v := nI 1) C dX4_canFigureStand_45 (by decide) ?_
              refine k_goto (pc := 46) (tgt := 50) C dX4_canFigureStand_46 (by decide) ?_
              refine pf_X4_26 (pc := 50) C (157) (by decide) cm_157 (by decide) (Nat.le_of_ble_eq_true rfl) dX4_canFigureStand_50 ?_
              rw [cm_s23]
              refine k_aload_n (pc := 53) C dX4_canFigureStand_53 rfl 0 rfl ?_
              refine k_dup (pc := 54) C dX4_canFigureStand_54 rfl ?_
              refine gf_X4_19 (pc := 55) C (157) (by decide) cm_157 rfl dX4_canFigureStand_55 ?_
              refine k_eqi (y := nI g) (by rw [upIn (by decide)]; exact s1) ?_
              refine k_iconst (pc := 58) (v := nI 1) C dX4_canFigureStand_58 (by decide) ?_
              refine k_iadd (pc := 59) C dX4_canFigureStand_59 ?_
              refine k_eqi (y := nI (g + 1)) (nI_add _ _) ?_
              refine pf_X4_19 (pc := 60) C (157) (by decide) cm_157 (Nat.le_of_ble_eq_true rfl) dX4_canFigureStand_60 ?_
              rw [cm_s21]
              refine k_iconst (pc := 63) (v := nI 1) C dX4_canFigureStand_63 (by decide) ?_
              exact r_z (pc := 64) C E (by
  have nb : ¬ badF g h zo := fun q => by
    rcases q with q | q
    · rw [q] at c4; exact absurd c4 (by decide)
    · first | (rw [q.1] at c11; exact absurd c11 (by decide)) | exact c19 q.2
  rw [if_neg nb]
  refine ⟨rfl, ?_⟩
  first
    | (rw [decide_eq_true (show c0 = 48 ∧ g = 0 ∧ h = false from ⟨c28, c35, c42⟩)]; rfl)
    | (rw [decide_eq_false (show ¬ (c0 = 48 ∧ g = 0 ∧ h = false) from fun q => by first | exact c28 q.1 | exact c35 q.2.1 | (rw [q.2.2] at c42; exact absurd c42 (by decide)))]; rfl)) (by decide) dX4_canFigureStand_64
      · rw [q_eq (by omega) (by decide)] at c19
        refine k_iconst (pc := 22) (v := nI 0) C dX4_canFigureStand_22 (by decide) ?_
        exact r_z (pc := 23) C E (by first | (rw [if_pos (Or.inl c4)]; exact ⟨rfl, rfl⟩) | (rw [if_pos (Or.inr ⟨c11, c19⟩)]; exact ⟨rfl, rfl⟩)) (by decide) dX4_canFigureStand_23
set_option maxHeartbeats 4000000 in
set_option maxRecDepth 100000 in
/-- canCommaStand -/
theorem c4_canCommaStand {g : Nat} {h zo : Bool} (s1 : sc 21 = nI g) (s2 : sc 22 = bI h) (s3 : sc 23 = bI zo) (hg : g ≤ 200) : xI l D (xty ca) yX4_canCommaStand cX4_canCommaStand 1 (some .boolean) 0 0 [.ref (ad 157)] ad (cm ad ca (V, U, sc, ia, la)) (fun r M' => if badC g h zo then r = 0 ∧ M' = cm ad ca (V, U, sc, ia, la) else r = 1 ∧ M' = cm ad ca (V, U, va_up (va_up sc 22 (bI true)) 21 (nI 0), ia, la)) := by
  refine xM.of (by decide) (Nat.le_of_ble_eq_true rfl) (fun z C E => ?_)
  refine k_aload_n (pc := 0) C dX4_canCommaStand_0 rfl 0 rfl ?_
  refine gf_X4_26 (pc := 1) C (157) (by decide) cm_157 rfl dX4_canCommaStand_1 ?_
  refine k_eqi (y := bI zo) (s3) ?_
  refine k_if_ne (pc := 4) (tgt := 37) C dX4_canCommaStand_4 (by decide) (fun c4 => ?_) (fun c4 => ?_)
  · simp only [bI0, Bool.not_eq_false] at c4
    refine k_iconst (pc := 37) (v := nI 0) C dX4_canCommaStand_37 (by decide) ?_
    exact r_z (pc := 38) C E (by
  have q : badC g h zo := by first | exact Or.inl c4 | exact Or.inr (Or.inl c11) | exact Or.inr (Or.inr (Or.inl c19)) | exact Or.inr (Or.inr (Or.inr ⟨c26, c34⟩))
  rw [if_pos q]
  exact ⟨rfl, rfl⟩) (by decide) dX4_canCommaStand_38
  · simp only [bI0, Bool.not_eq_false] at c4
    refine k_aload_n (pc := 7) C dX4_canCommaStand_7 rfl 0 rfl ?_
    refine gf_X4_19 (pc := 8) C (157) (by decide) cm_157 rfl dX4_canCommaStand_8 ?_
    refine k_eqi (y := nI g) (s1) ?_
    refine k_if_eq (pc := 11) (tgt := 37) C dX4_canCommaStand_11 (by decide) (fun c11 => ?_) (fun c11 => ?_)
    · rw [q_eq0 (by omega)] at c11
      refine k_iconst (pc := 37) (v := nI 0) C dX4_canCommaStand_37 (by decide) ?_
      exact r_z (pc := 38) C E (by
  have q : badC g h zo := by first | exact Or.inl c4 | exact Or.inr (Or.inl c11) | exact Or.inr (Or.inr (Or.inl c19)) | exact Or.inr (Or.inr (Or.inr ⟨c26, c34⟩))
  rw [if_pos q]
  exact ⟨rfl, rfl⟩) (by decide) dX4_canCommaStand_38
    · rw [q_eq0 (by omega)] at c11
      refine k_aload_n (pc := 14) C dX4_canCommaStand_14 rfl 0 rfl ?_
      refine gf_X4_19 (pc := 15) C (157) (by decide) cm_157 rfl dX4_canCommaStand_15 ?_
      refine k_eqi (y := nI g) (s1) ?_
      refine k_iconst (pc := 18) (v := nI 3) C dX4_canCommaStand_18 (by decide) ?_
      refine k_icmp_gt (pc := 19) (tgt := 37) C dX4_canCommaStand_19 (by decide) (fun c19 => ?_) (fun c19 => ?_)
      · rw [q_lt (by decide) (by omega)] at c19
        refine k_iconst (pc := 37) (v := nI 0) C dX4_canCommaStand_37 (by decide) ?_
        exact r_z (pc := 38) C E (by
  have q : badC g h zo := by first | exact Or.inl c4 | exact Or.inr (Or.inl c11) | exact Or.inr (Or.inr (Or.inl c19)) | exact Or.inr (Or.inr (Or.inr ⟨c26, c34⟩))
  rw [if_pos q]
  exact ⟨rfl, rfl⟩) (by decide) dX4_canCommaStand_38
      · rw [q_lt (by decide) (by omega)] at c19
        refine k_aload_n (pc := 22) C dX4_canCommaStand_22 rfl 0 rfl ?_
        refine gf_X4_22 (pc := 23) C (157) (by decide) cm_157 rfl dX4_canCommaStand_23 ?_
        refine k_eqi (y := bI h) (s2) ?_
        refine k_if_eq (pc := 26) (tgt := 39) C dX4_canCommaStand_26 (by decide) (fun c26 => ?_) (fun c26 => ?_)
        · simp only [bI0, Bool.not_eq_false] at c26
          refine k_aload_n (pc := 39) C dX4_canCommaStand_39 rfl 0 rfl ?_
          refine k_iconst (pc := 40) (v := nI 1) C dX4_canCommaStand_40 (by decide) ?_
          refine pf_X4_22 (pc := 41) C (157) (by decide) cm_157 (by decide) (Nat.le_of_ble_eq_true rfl) dX4_canCommaStand_41 ?_
          rw [cm_s22]
          refine k_aload_n (pc := 44) C dX4_canCommaStand_44 rfl 0 rfl ?_
          refine k_iconst (pc := 45) (v := nI 0) C dX4_canCommaStand_45 (by decide) ?_
          refine pf_X4_19 (pc := 46) C (157) (by decide) cm_157 (Nat.le_of_ble_eq_true rfl) dX4_canCommaStand_46 ?_
          rw [cm_s21]
          refine k_iconst (pc := 49) (v := nI 1) C dX4_canCommaStand_49 (by decide) ?_
          exact r_z (pc := 50) C E (by
  have nb : ¬ badC g h zo := fun q => by
    rcases q with q | q | q | q
    · rw [q] at c4; exact absurd c4 (by decide)
    · omega
    · omega
    · first | (rw [q.1] at c26; exact absurd c26 (by decide)) | exact q.2 c34
  rw [if_neg nb]
  exact ⟨rfl, rfl⟩) (by decide) dX4_canCommaStand_50
        · simp only [bI0, Bool.not_eq_false] at c26
          refine k_aload_n (pc := 29) C dX4_canCommaStand_29 rfl 0 rfl ?_
          refine gf_X4_19 (pc := 30) C (157) (by decide) cm_157 rfl dX4_canCommaStand_30 ?_
          refine k_eqi (y := nI g) (s1) ?_
          refine k_iconst (pc := 33) (v := nI 3) C dX4_canCommaStand_33 (by decide) ?_
          refine k_icmp_eq (pc := 34) (tgt := 39) C dX4_canCommaStand_34 (by decide) (fun c34 => ?_) (fun c34 => ?_)
          · rw [q_eq (by omega) (by decide)] at c34
            refine k_aload_n (pc := 39) C dX4_canCommaStand_39 rfl 0 rfl ?_
            refine k_iconst (pc := 40) (v := nI 1) C dX4_canCommaStand_40 (by decide) ?_
            refine pf_X4_22 (pc := 41) C (157) (by decide) cm_157 (by decide) (Nat.le_of_ble_eq_true rfl) dX4_canCommaStand_41 ?_
            rw [cm_s22]
            refine k_aload_n (pc := 44) C dX4_canCommaStand_44 rfl 0 rfl ?_
            refine k_iconst (pc := 45) (v := nI 0) C dX4_canCommaStand_45 (by decide) ?_
            refine pf_X4_19 (pc := 46) C (157) (by decide) cm_157 (Nat.le_of_ble_eq_true rfl) dX4_canCommaStand_46 ?_
            rw [cm_s21]
            refine k_iconst (pc := 49) (v := nI 1) C dX4_canCommaStand_49 (by decide) ?_
            exact r_z (pc := 50) C E (by
  have nb : ¬ badC g h zo := fun q => by
    rcases q with q | q | q | q
    · rw [q] at c4; exact absurd c4 (by decide)
    · omega
    · omega
    · first | (rw [q.1] at c26; exact absurd c26 (by decide)) | exact q.2 c34
  rw [if_neg nb]
  exact ⟨rfl, rfl⟩) (by decide) dX4_canCommaStand_50
          · rw [q_eq (by omega) (by decide)] at c34
            refine k_iconst (pc := 37) (v := nI 0) C dX4_canCommaStand_37 (by decide) ?_
            exact r_z (pc := 38) C E (by
  have q : badC g h zo := by first | exact Or.inl c4 | exact Or.inr (Or.inl c11) | exact Or.inr (Or.inr (Or.inl c19)) | exact Or.inr (Or.inr (Or.inr ⟨c26, c34⟩))
  rw [if_pos q]
  exact ⟨rfl, rfl⟩) (by decide) dX4_canCommaStand_38
set_option maxHeartbeats 4000000 in
set_option maxRecDepth 100000 in
/-- canStand -/
theorem c4_canStand {c0 : Int32} {u : Nat} (hu : u ≤ 12) {g e : Nat} {h zo p : Bool} (s1 : sc 21 = nI g) (s2 : sc 22 = bI h) (s3 : sc 23 = bI zo) (s4 : sc 24 = bI p) (s5 : sc 25 = nI e) (hg : g ≤ 200) (he : e ≤ 200) : xI l D (xty ca) yX4_canStand cX4_canStand 3 (some .boolean) 1 40 [.ref (ad 157), .int c0, .int (nI u)] ad (cm ad ca (V, U, sc, ia, la)) (fun r M' => ∃ sc', M' = cm ad ca (V, U, sc', ia, la) ∧ (∀ k, (k < 21 ∨ 25 < k) → sc' k = sc k) ∧ ((r = 0 ∧ canQ u g h zo p e c0 = none) ∨ (r = 1 ∧ ∃ g2 h2 z2 p2 e2, canQ u g h zo p e c0 = some (g2, h2, z2, p2, e2) ∧ sc' 21 = nI g2 ∧ sc' 22 = bI h2 ∧ sc' 23 = bI z2 ∧ sc' 24 = bI p2 ∧ sc' 25 = nI e2 ∧ g2 ≤ g + 1 ∧ e2 ≤ e + 1))) := by
  refine xM.of (by decide) (Nat.le_of_ble_eq_true rfl) (fun z C E => ?_)
  refine k_aload_n (pc := 0) C dX4_canStand_0 rfl 0 rfl ?_
  refine gf_X4_29 (pc := 1) C (157) (by decide) cm_157 rfl dX4_canStand_1 ?_
  refine k_eqi (y := bI p) (s4) ?_
  refine k_if_eq (pc := 4) (tgt := 38) C dX4_canStand_4 (by decide) (fun c4 => ?_) (fun c4 => ?_)
  · simp only [bI0, Bool.not_eq_false] at c4
    refine k_iload_n (pc := 38) C dX4_canStand_38 rfl 1 rfl ?_
    refine cs_X4_46 (pc := 39) C E (c4_isFigure) rfl (by decide) rfl (Nat.le_of_ble_eq_true rfl) dX4_canStand_39 (fun r39 M39 h39 => ?_)
    obtain ⟨rfl, rfl⟩ := h39
    refine k_if_eq (pc := 42) (tgt := 51) C dX4_canStand_42 (by decide) (fun c42 => ?_) (fun c42 => ?_)
    · simp only [b01, Decidable.not_not] at c42
      refine k_iload_n (pc := 51) C dX4_canStand_51 rfl 1 rfl ?_
      refine k_bipush (pc := 52) (v := nI 44) C dX4_canStand_52 (by decide) ?_
      refine k_icmp_ne (pc := 54) (tgt := 62) C dX4_canStand_54 (by decide) (fun c54 => ?_) (fun c54 => ?_)
      · rw [show nI 44 = (44 : Int32) from rfl] at c54
        refine k_aload_n (pc := 62) C dX4_canStand_62 rfl 0 rfl ?_
        refine k_iconst (pc := 63) (v := nI 1) C dX4_canStand_63 (by decide) ?_
        refine pf_X4_29 (pc := 64) C (157) (by decide) cm_157 (by decide) (Nat.le_of_ble_eq_true rfl) dX4_canStand_64 ?_
        rw [cm_s24]
        refine k_iload_n (pc := 67) C dX4_canStand_67 rfl 1 rfl ?_
        refine k_bipush (pc := 68) (v := nI 46) C dX4_canStand_68 (by decide) ?_
        refine k_icmp_ne (pc := 70) (tgt := 88) C dX4_canStand_70 (by decide) (fun c70 => ?_) (fun c70 => ?_)
        · rw [show nI 46 = (46 : Int32) from rfl] at c70
          refine k_iconst (pc := 88) (v := nI 0) C dX4_canStand_88 (by decide) ?_
          exact r_z (pc := 89) C E (by
  refine ⟨_, rfl, fun k hk => upIn (by omega), ?_⟩
  unfold canQ
  rw [if_neg (by rw [c4]; decide), if_neg c42, if_neg c54]
  first
    | (rw [if_pos ⟨c70, by omega, c81⟩]
       exact Or.inr ⟨rfl, g, h, zo, true, e, rfl, by rw [upIn (by decide)]; exact s1, by rw [upIn (by decide)]; exact s2, by rw [upIn (by decide)]; exact s3, upIs, by rw [upIn (by decide)]; exact s5, by omega, by omega⟩)
    | (rw [if_neg (fun q => by first | exact c70 q.1 | exact c81 q.2.2 | (have := q.2.1; omega))]
       exact Or.inl ⟨rfl, rfl⟩)) (by decide) dX4_canStand_89
        · rw [show nI 46 = (46 : Int32) from rfl] at c70
          refine k_iload_n (pc := 73) C dX4_canStand_73 rfl 2 rfl ?_
          refine k_if_le (pc := 74) (tgt := 88) C dX4_canStand_74 (by decide) (fun c74 => ?_) (fun c74 => ?_)
          · rw [q_le0 (by omega)] at c74
            refine k_iconst (pc := 88) (v := nI 0) C dX4_canStand_88 (by decide) ?_
            exact r_z (pc := 89) C E (by
  refine ⟨_, rfl, fun k hk => upIn (by omega), ?_⟩
  unfold canQ
  rw [if_neg (by rw [c4]; decide), if_neg c42, if_neg c54]
  first
    | (rw [if_pos ⟨c70, by omega, c81⟩]
       exact Or.inr ⟨rfl, g, h, zo, true, e, rfl, by rw [upIn (by decide)]; exact s1, by rw [upIn (by decide)]; exact s2, by rw [upIn (by decide)]; exact s3, upIs, by rw [upIn (by decide)]; exact s5, by omega, by omega⟩)
    | (rw [if_neg (fun q => by first | exact c70 q.1 | exact c81 q.2.2 | (have := q.2.1; omega))]
       exact Or.inl ⟨rfl, rfl⟩)) (by decide) dX4_canStand_89
          · rw [q_le0 (by omega)] at c74
            refine k_aload_n (pc := 77) C dX4_canStand_77 rfl 0 rfl ?_
            refine cv_X4_43 (pc := 78) C E (c4_isAheadWhole (g := g) (h := h) (by rw [upIn (by decide)]; exact s1) (by rw [upIn (by decide)]; exact s2) hg) rfl (by decide) cm_157 (by decide) rfl (Nat.le_of_ble_eq_true rfl) dX4_canStand_78 (fun r78 M78 h78 => ?_)
            obtain ⟨rfl, rfl⟩ := h78
            refine k_if_eq (pc := 81) (tgt := 88) C dX4_canStand_81 (by decide) (fun c81 => ?_) (fun c81 => ?_)
            · simp only [b01, Decidable.not_not] at c81
              refine k_iconst (pc := 88) (v := nI 0) C dX4_canStand_88 (by decide) ?_
              exact r_z (pc := 89) C E (by
  refine ⟨_, rfl, fun k hk => upIn (by omega), ?_⟩
  unfold canQ
  rw [if_neg (by rw [c4]; decide), if_neg c42, if_neg c54]
  first
    | (rw [if_pos ⟨c70, by omega, c81⟩]
       exact Or.inr ⟨rfl, g, h, zo, true, e, rfl, by rw [upIn (by decide)]; exact s1, by rw [upIn (by decide)]; exact s2, by rw [upIn (by decide)]; exact s3, upIs, by rw [upIn (by decide)]; exact s5, by omega, by omega⟩)
    | (rw [if_neg (fun q => by first | exact c70 q.1 | exact c81 q.2.2 | (have := q.2.1; omega))]
       exact Or.inl ⟨rfl, rfl⟩)) (by decide) dX4_canStand_89
            · simp only [b01, Decidable.not_not] at c81
              refine k_iconst (pc := 84) (v := nI 1) C dX4_canStand_84 (by decide) ?_
              refine k_goto (pc := 85) (tgt := 89) C dX4_canStand_85 (by decide) ?_
              exact r_z (pc := 89) C E (by
  refine ⟨_, rfl, fun k hk => upIn (by omega), ?_⟩
  unfold canQ
  rw [if_neg (by rw [c4]; decide), if_neg c42, if_neg c54]
  first
    | (rw [if_pos ⟨c70, by omega, c81⟩]
       exact Or.inr ⟨rfl, g, h, zo, true, e, rfl, by rw [upIn (by decide)]; exact s1, by rw [upIn (by decide)]; exact s2, by rw [upIn (by decide)]; exact s3, upIs, by rw [upIn (by decide)]; exact s5, by omega, by omega⟩)
    | (rw [if_neg (fun q => by first | exact c70 q.1 | exact c81 q.2.2 | (have := q.2.1; omega))]
       exact Or.inl ⟨rfl, rfl⟩)) (by decide) dX4_canStand_89
      · rw [show nI 44 = (44 : Int32) from rfl] at c54
        refine k_aload_n (pc := 57) C dX4_canStand_57 rfl 0 rfl ?_
        refine cv_X4_53 (pc := 58) C E (c4_canCommaStand s1 s2 s3 hg) rfl (by decide) cm_157 (by decide) rfl (Nat.le_of_ble_eq_true rfl) dX4_canStand_58 (fun r58 M58 h58 => ?_)
        exact r_z (pc := 61) C E (by
  unfold canQ
  rw [if_neg (by rw [c4]; decide), if_neg c42, if_pos c54]
  by_cases q : badC g h zo
  · rw [if_pos q] at h58
    obtain ⟨rfl, rfl⟩ := h58
    exact ⟨sc, rfl, fun _ _ => rfl, Or.inl ⟨rfl, by rw [if_pos q]⟩⟩
  · rw [if_neg q] at h58
    obtain ⟨rfl, rfl⟩ := h58
    exact ⟨_, rfl, fun k hk => by rw [upIn (by omega), upIn (by omega)], Or.inr ⟨rfl, 0, true, zo, false, e, by rw [if_neg q], upIs, by rw [upIn (by decide), upIs], by rw [upIn (by decide), upIn (by decide)]; exact s3, by rw [upIn (by decide), upIn (by decide), s4, c4], by rw [upIn (by decide), upIn (by decide)]; exact s5, by omega, by omega⟩⟩) (by
  by_cases q : badC g h zo
  · rw [if_pos q] at h58; exact Or.inl h58.1
  · rw [if_neg q] at h58; exact Or.inr h58.1) dX4_canStand_61
    · simp only [b01, Decidable.not_not] at c42
      refine k_aload_n (pc := 45) C dX4_canStand_45 rfl 0 rfl ?_
      refine k_iload_n (pc := 46) C dX4_canStand_46 rfl 1 rfl ?_
      refine cv_X4_50 (pc := 47) C E (c4_canFigureStand s1 s2 s3 hg) rfl (by decide) cm_157 (by decide) rfl (Nat.le_of_ble_eq_true rfl) dX4_canStand_47 (fun r47 M47 h47 => ?_)
      exact r_z (pc := 50) C E (by
  unfold canQ
  rw [if_neg (by rw [c4]; decide), if_pos c42]
  by_cases q : badF g h zo
  · rw [if_pos q] at h47
    obtain ⟨rfl, rfl⟩ := h47
    exact ⟨sc, rfl, fun _ _ => rfl, Or.inl ⟨rfl, by rw [if_pos q]⟩⟩
  · rw [if_neg q] at h47
    obtain ⟨rfl, rfl⟩ := h47
    exact ⟨_, rfl, fun k hk => by rw [upIn (by omega), upIn (by omega)], Or.inr ⟨rfl, g + 1, h, _, false, e, by rw [if_neg q], upIs, by rw [upIn (by decide), upIn (by decide)]; exact s2, by rw [upIn (by decide), upIs], by rw [upIn (by decide), upIn (by decide), s4, c4], by rw [upIn (by decide), upIn (by decide)]; exact s5, by omega, by omega⟩⟩) (by
  by_cases q : badF g h zo
  · rw [if_pos q] at h47; exact Or.inl h47.1
  · rw [if_neg q] at h47; exact Or.inr h47.1) dX4_canStand_50
  · simp only [bI0, Bool.not_eq_false] at c4
    refine k_aload_n (pc := 7) C dX4_canStand_7 rfl 0 rfl ?_
    refine k_dup (pc := 8) C dX4_canStand_8 rfl ?_
    refine gf_X4_32 (pc := 9) C (157) (by decide) cm_157 rfl dX4_canStand_9 ?_
    refine k_eqi (y := nI e) (s5) ?_
    refine k_iconst (pc := 12) (v := nI 1) C dX4_canStand_12 (by decide) ?_
    refine k_iadd (pc := 13) C dX4_canStand_13 ?_
    refine k_eqi (y := nI (e + 1)) (nI_add _ _) ?_
    refine pf_X4_32 (pc := 14) C (157) (by decide) cm_157 (Nat.le_of_ble_eq_true rfl) dX4_canStand_14 ?_
    rw [cm_s25]
    refine k_iload_n (pc := 17) C dX4_canStand_17 rfl 1 rfl ?_
    refine cs_X4_46 (pc := 18) C E (c4_isFigure) rfl (by decide) rfl (Nat.le_of_ble_eq_true rfl) dX4_canStand_18 (fun r18 M18 h18 => ?_)
    obtain ⟨rfl, rfl⟩ := h18
    refine k_if_eq (pc := 21) (tgt := 36) C dX4_canStand_21 (by decide) (fun c21 => ?_) (fun c21 => ?_)
    · simp only [b01, Decidable.not_not] at c21
      refine k_iconst (pc := 36) (v := nI 0) C dX4_canStand_36 (by decide) ?_
      exact r_z (pc := 37) C E (by
  refine ⟨_, rfl, fun k hk => upIn (by omega), ?_⟩
  unfold canQ
  rw [if_pos c4]
  first
    | (rw [if_pos ⟨c21, by omega⟩]
       exact Or.inr ⟨rfl, g, h, zo, true, e + 1, rfl, by rw [upIn (by decide)]; exact s1, by rw [upIn (by decide)]; exact s2, by rw [upIn (by decide)]; exact s3, by rw [upIn (by decide), s4, c4], upIs, by omega, by omega⟩)
    | (rw [if_neg (fun q => by first | exact c21 q.1 | (have := q.2; omega))]
       exact Or.inl ⟨rfl, rfl⟩)) (by decide) dX4_canStand_37
    · simp only [b01, Decidable.not_not] at c21
      refine k_aload_n (pc := 24) C dX4_canStand_24 rfl 0 rfl ?_
      refine gf_X4_32 (pc := 25) C (157) (by decide) cm_157 rfl dX4_canStand_25 ?_
      refine k_eqi (y := nI (e + 1)) (upIs) ?_
      refine k_iload_n (pc := 28) C dX4_canStand_28 rfl 2 rfl ?_
      refine k_icmp_gt (pc := 29) (tgt := 36) C dX4_canStand_29 (by decide) (fun c29 => ?_) (fun c29 => ?_)
      · rw [q_lt (by omega) (by omega)] at c29
        refine k_iconst (pc := 36) (v := nI 0) C dX4_canStand_36 (by decide) ?_
        exact r_z (pc := 37) C E (by
  refine ⟨_, rfl, fun k hk => upIn (by omega), ?_⟩
  unfold canQ
  rw [if_pos c4]
  first
    | (rw [if_pos ⟨c21, by omega⟩]
       exact Or.inr ⟨rfl, g, h, zo, true, e + 1, rfl, by rw [upIn (by decide)]; exact s1, by rw [upIn (by decide)]; exact s2, by rw [upIn (by decide)]; exact s3, by rw [upIn (by decide), s4, c4], upIs, by omega, by omega⟩)
    | (rw [if_neg (fun q => by first | exact c21 q.1 | (have := q.2; omega))]
       exact Or.inl ⟨rfl, rfl⟩)) (by decide) dX4_canStand_37
      · rw [q_lt (by omega) (by omega)] at c29
        refine k_iconst (pc := 32) (v := nI 1) C dX4_canStand_32 (by decide) ?_
        refine k_goto (pc := 33) (tgt := 37) C dX4_canStand_33 (by decide) ?_
        exact r_z (pc := 37) C E (by
  refine ⟨_, rfl, fun k hk => upIn (by omega), ?_⟩
  unfold canQ
  rw [if_pos c4]
  first
    | (rw [if_pos ⟨c21, by omega⟩]
       exact Or.inr ⟨rfl, g, h, zo, true, e + 1, rfl, by rw [upIn (by decide)]; exact s1, by rw [upIn (by decide)]; exact s2, by rw [upIn (by decide)]; exact s3, by rw [upIn (by decide), s4, c4], upIs, by omega, by omega⟩)
    | (rw [if_neg (fun q => by first | exact c21 q.1 | (have := q.2; omega))]
       exact Or.inl ⟨rfl, rfl⟩)) (by decide) dX4_canStand_37
set_option maxHeartbeats 4000000 in
set_option maxRecDepth 100000 in
/-- firstFault -/
theorem c4_firstFault {n u : Nat} {b : Nat → Int32} (hn : sc 20 = nI n) (hn9 : n ≤ 120) (hu : u ≤ 12) (hb : ∀ i, i < n → ia 158 i = b i) : xI l D (xty ca) yX4_firstFault cX4_firstFault 3 (some .int) 2 90 [.ref (ad 157), .int (nI u)] ad (cm ad ca (V, U, sc, ia, la)) (fun r M' => ∃ sc', M' = cm ad ca (V, U, sc', ia, la) ∧ (∀ k, (k < 21 ∨ 25 < k) → sc' k = sc k) ∧ r = mrun u n b n 0 mS0) := by
  refine xM.of (by decide) (Nat.le_of_ble_eq_true rfl) (fun z C E => ?_)
  have loop : ∀ (m i : Nat) (s : Nat → Int32) (g e : Nat) (h z9 p : Bool), i + m = n → s 20 = nI n → (∀ k, (k < 21 ∨ 25 < k) → s k = sc k) → s 21 = nI g → s 22 = bI h → s 23 = bI z9 → s 24 = bI p → s 25 = nI e → g ≤ i → e ≤ i → mrun u n b m i (g, h, z9, p, e) = mrun u n b n 0 mS0 → xK z (xw ad (cm ad ca (V, U, s, ia, la)) 187) 0 0 27 [(2, .int (nI i)), (0, .ref (ad 157)), (1, .int (nI u))] [] := by
    intro m
    induction m with
    | zero =>
      intro i s g e h z9 p hi s0 sf s1 s2 s3 s4 s5 hg he hr
      refine k_iload_n (pc := 27) C dX4_firstFault_27 rfl 0 rfl ?_
      refine k_aload_n (pc := 28) C dX4_firstFault_28 rfl 1 rfl ?_
      refine gf_X4_15 (pc := 29) C (157) (by decide) cm_157 rfl dX4_firstFault_29 ?_
      refine k_eqi (y := nI n) (s0) ?_
      refine k_icmp_ge (pc := 32) (tgt := 57) C dX4_firstFault_32 (by decide) (fun c32 => ?_) (fun c32 => ?_)
      · rw [q_le (by omega) (by omega)] at c32
        refine k_iload_n (pc := 57) C dX4_firstFault_57 rfl 2 rfl ?_
        refine k_if_ne (pc := 58) (tgt := 68) C dX4_firstFault_58 (by decide) (fun c58 => ?_) (fun c58 => ?_)
        · rw [q_eq0 (by omega)] at c58
          refine k_aload_n (pc := 68) C dX4_firstFault_68 rfl 1 rfl ?_
          refine gf_X4_29 (pc := 69) C (157) (by decide) cm_157 rfl dX4_firstFault_69 ?_
          refine k_eqi (y := bI p) (s4) ?_
          refine k_if_eq (pc := 72) (tgt := 87) C dX4_firstFault_72 (by decide) (fun c72 => ?_) (fun c72 => ?_)
          · simp only [bI0, Bool.not_eq_false] at c72
            refine k_iconst (pc := 87) (v := nI 0) C dX4_firstFault_87 (by decide) ?_
            refine k_eqi (y := bI (whQ u g h p e)) (by
              first
                | exact h88
                | (unfold whQ; rw [if_neg c58, c72, decide_eq_true c80]; rfl)
                | (unfold whQ; rw [if_neg c58, c72, decide_eq_false c80]; rfl)
                | (unfold whQ; rw [if_neg c58, c72]; rfl)) ?_
            refine k_istore_n (pc := 88) (lv' := [(2, .int (bI (whQ u g h p e))), (0, .ref (ad (157))), (1, .int (nI u))]) C dX4_firstFault_88 rfl (by decide) rfl ?_
            refine k_iload_n (pc := 89) C dX4_firstFault_89 rfl 0 rfl ?_
            refine k_if_eq (pc := 90) (tgt := 98) C dX4_firstFault_90 (by decide) (fun c90 => ?_) (fun c90 => ?_)
            · simp only [bI0, Bool.not_eq_false] at c90
              refine k_aload_n (pc := 98) C dX4_firstFault_98 rfl 1 rfl ?_
              refine gf_X4_15 (pc := 99) C (157) (by decide) cm_157 rfl dX4_firstFault_99 ?_
              refine k_eqi (y := nI n) (s0) ?_
              exact r_i (pc := 102) C E (by
  refine ⟨s, rfl, sf, ?_⟩
  rw [← hr]
  show _ = if whl u (g, h, z9, p, e) = true then -4 else nI n
  rw [whl_q]
  first
    | (rw [if_pos c90]; done)
    | (rw [if_neg (by rw [c90]; decide)])) dX4_firstFault_102
            · simp only [bI0, Bool.not_eq_false] at c90
              refine k_bipush (pc := 93) (v := (-4)) C dX4_firstFault_93 (by decide) ?_
              refine k_goto (pc := 95) (tgt := 102) C dX4_firstFault_95 (by decide) ?_
              exact r_i (pc := 102) C E (by
  refine ⟨s, rfl, sf, ?_⟩
  rw [← hr]
  show _ = if whl u (g, h, z9, p, e) = true then -4 else nI n
  rw [whl_q]
  first
    | (rw [if_pos c90]; done)
    | (rw [if_neg (by rw [c90]; decide)])) dX4_firstFault_102
          · simp only [bI0, Bool.not_eq_false] at c72
            refine k_aload_n (pc := 75) C dX4_firstFault_75 rfl 1 rfl ?_
            refine gf_X4_32 (pc := 76) C (157) (by decide) cm_157 rfl dX4_firstFault_76 ?_
            refine k_eqi (y := nI e) (s5) ?_
            refine k_iload_n (pc := 79) C dX4_firstFault_79 rfl 2 rfl ?_
            refine k_icmp_ne (pc := 80) (tgt := 87) C dX4_firstFault_80 (by decide) (fun c80 => ?_) (fun c80 => ?_)
            · rw [q_eq (by omega) (by omega)] at c80
              refine k_iconst (pc := 87) (v := nI 0) C dX4_firstFault_87 (by decide) ?_
              refine k_eqi (y := bI (whQ u g h p e)) (by
                first
                  | exact h88
                  | (unfold whQ; rw [if_neg c58, c72, decide_eq_true c80]; rfl)
                  | (unfold whQ; rw [if_neg c58, c72, decide_eq_false c80]; rfl)
                  | (unfold whQ; rw [if_neg c58, c72]; rfl)) ?_
              refine k_istore_n (pc := 88) (lv' := [(2, .int (bI (whQ u g h p e))), (0, .ref (ad (157))), (1, .int (nI u))]) C dX4_firstFault_88 rfl (by decide) rfl ?_
              refine k_iload_n (pc := 89) C dX4_firstFault_89 rfl 0 rfl ?_
              refine k_if_eq (pc := 90) (tgt := 98) C dX4_firstFault_90 (by decide) (fun c90 => ?_) (fun c90 => ?_)
              · simp only [bI0, Bool.not_eq_false] at c90
                refine k_aload_n (pc := 98) C dX4_firstFault_98 rfl 1 rfl ?_
                refine gf_X4_15 (pc := 99) C (157) (by decide) cm_157 rfl dX4_firstFault_99 ?_
                refine k_eqi (y := nI n) (s0) ?_
                exact r_i (pc := 102) C E (by
  refine ⟨s, rfl, sf, ?_⟩
  rw [← hr]
  show _ = if whl u (g, h, z9, p, e) = true then -4 else nI n
  rw [whl_q]
  first
    | (rw [if_pos c90]; done)
    | (rw [if_neg (by rw [c90]; decide)])) dX4_firstFault_102
              · simp only [bI0, Bool.not_eq_false] at c90
                refine k_bipush (pc := 93) (v := (-4)) C dX4_firstFault_93 (by decide) ?_
                refine k_goto (pc := 95) (tgt := 102) C dX4_firstFault_95 (by decide) ?_
                exact r_i (pc := 102) C E (by
  refine ⟨s, rfl, sf, ?_⟩
  rw [← hr]
  show _ = if whl u (g, h, z9, p, e) = true then -4 else nI n
  rw [whl_q]
  first
    | (rw [if_pos c90]; done)
    | (rw [if_neg (by rw [c90]; decide)])) dX4_firstFault_102
            · rw [q_eq (by omega) (by omega)] at c80
              refine k_iconst (pc := 83) (v := nI 1) C dX4_firstFault_83 (by decide) ?_
              refine k_goto (pc := 84) (tgt := 88) C dX4_firstFault_84 (by decide) ?_
              refine k_eqi (y := bI (whQ u g h p e)) (by
                first
                  | exact h88
                  | (unfold whQ; rw [if_neg c58, c72, decide_eq_true c80]; rfl)
                  | (unfold whQ; rw [if_neg c58, c72, decide_eq_false c80]; rfl)
                  | (unfold whQ; rw [if_neg c58, c72]; rfl)) ?_
              refine k_istore_n (pc := 88) (lv' := [(2, .int (bI (whQ u g h p e))), (0, .ref (ad (157))), (1, .int (nI u))]) C dX4_firstFault_88 rfl (by decide) rfl ?_
              refine k_iload_n (pc := 89) C dX4_firstFault_89 rfl 0 rfl ?_
              refine k_if_eq (pc := 90) (tgt := 98) C dX4_firstFault_90 (by decide) (fun c90 => ?_) (fun c90 => ?_)
              · simp only [bI0, Bool.not_eq_false] at c90
                refine k_aload_n (pc := 98) C dX4_firstFault_98 rfl 1 rfl ?_
                refine gf_X4_15 (pc := 99) C (157) (by decide) cm_157 rfl dX4_firstFault_99 ?_
                refine k_eqi (y := nI n) (s0) ?_
                exact r_i (pc := 102) C E (by
  refine ⟨s, rfl, sf, ?_⟩
  rw [← hr]
  show _ = if whl u (g, h, z9, p, e) = true then -4 else nI n
  rw [whl_q]
  first
    | (rw [if_pos c90]; done)
    | (rw [if_neg (by rw [c90]; decide)])) dX4_firstFault_102
              · simp only [bI0, Bool.not_eq_false] at c90
                refine k_bipush (pc := 93) (v := (-4)) C dX4_firstFault_93 (by decide) ?_
                refine k_goto (pc := 95) (tgt := 102) C dX4_firstFault_95 (by decide) ?_
                exact r_i (pc := 102) C E (by
  refine ⟨s, rfl, sf, ?_⟩
  rw [← hr]
  show _ = if whl u (g, h, z9, p, e) = true then -4 else nI n
  rw [whl_q]
  first
    | (rw [if_pos c90]; done)
    | (rw [if_neg (by rw [c90]; decide)])) dX4_firstFault_102
        · rw [q_eq0 (by omega)] at c58
          refine k_aload_n (pc := 61) C dX4_firstFault_61 rfl 1 rfl ?_
          refine cv_X4_43 (pc := 62) C E (c4_isAheadWhole s1 s2 (by omega)) rfl (by decide) cm_157 (by decide) rfl (Nat.le_of_ble_eq_true rfl) dX4_firstFault_62 (fun r62 M62 h62 => ?_)
          obtain ⟨rfl, rfl⟩ := h62
          have h88 : ((if aw g h then 1 else 0 : Int32)) = bI (whQ u g h p e) := by
            unfold whQ
            rw [if_pos c58]
            by_cases q : aw g h
            · rw [if_pos q, decide_eq_true q]; rfl
            · rw [if_neg q, decide_eq_false q]; rfl
          refine k_goto (pc := 65) (tgt := 88) C dX4_firstFault_65 (by decide) ?_
          refine k_eqi (y := bI (whQ u g h p e)) (by
            first
              | exact h88
              | (unfold whQ; rw [if_neg c58, c72, decide_eq_true c80]; rfl)
              | (unfold whQ; rw [if_neg c58, c72, decide_eq_false c80]; rfl)
              | (unfold whQ; rw [if_neg c58, c72]; rfl)) ?_
          refine k_istore_n (pc := 88) (lv' := [(2, .int (bI (whQ u g h p e))), (0, .ref (ad (157))), (1, .int (nI u))]) C dX4_firstFault_88 rfl (by decide) rfl ?_
          refine k_iload_n (pc := 89) C dX4_firstFault_89 rfl 0 rfl ?_
          refine k_if_eq (pc := 90) (tgt := 98) C dX4_firstFault_90 (by decide) (fun c90 => ?_) (fun c90 => ?_)
          · simp only [bI0, Bool.not_eq_false] at c90
            refine k_aload_n (pc := 98) C dX4_firstFault_98 rfl 1 rfl ?_
            refine gf_X4_15 (pc := 99) C (157) (by decide) cm_157 rfl dX4_firstFault_99 ?_
            refine k_eqi (y := nI n) (s0) ?_
            exact r_i (pc := 102) C E (by
  refine ⟨s, rfl, sf, ?_⟩
  rw [← hr]
  show _ = if whl u (g, h, z9, p, e) = true then -4 else nI n
  rw [whl_q]
  first
    | (rw [if_pos c90]; done)
    | (rw [if_neg (by rw [c90]; decide)])) dX4_firstFault_102
          · simp only [bI0, Bool.not_eq_false] at c90
            refine k_bipush (pc := 93) (v := (-4)) C dX4_firstFault_93 (by decide) ?_
            refine k_goto (pc := 95) (tgt := 102) C dX4_firstFault_95 (by decide) ?_
            exact r_i (pc := 102) C E (by
  refine ⟨s, rfl, sf, ?_⟩
  rw [← hr]
  show _ = if whl u (g, h, z9, p, e) = true then -4 else nI n
  rw [whl_q]
  first
    | (rw [if_pos c90]; done)
    | (rw [if_neg (by rw [c90]; decide)])) dX4_firstFault_102
      · rw [q_le (by omega) (by omega)] at c32
        exact absurd (by omega) c32
    | succ m ih =>
      intro i s g e h z9 p hi s0 sf s1 s2 s3 s4 s5 hg he hr
      have hr2 : (match canQ u g h z9 p e (b i) with | none => nI i | some S9 => mrun u n b m (i + 1) S9) = mrun u n b n 0 mS0 := hr
      refine k_iload_n (pc := 27) C dX4_firstFault_27 rfl 0 rfl ?_
      refine k_aload_n (pc := 28) C dX4_firstFault_28 rfl 1 rfl ?_
      refine gf_X4_15 (pc := 29) C (157) (by decide) cm_157 rfl dX4_firstFault_29 ?_
      refine k_eqi (y := nI n) (s0) ?_
      refine k_icmp_ge (pc := 32) (tgt := 57) C dX4_firstFault_32 (by decide) (fun c32 => ?_) (fun c32 => ?_)
      · rw [q_le (by omega) (by omega)] at c32
        exact absurd c32 (by omega)
      · rw [q_le (by omega) (by omega)] at c32
        refine k_aload_n (pc := 35) C dX4_firstFault_35 rfl 1 rfl ?_
        refine k_aload_n (pc := 36) C dX4_firstFault_36 rfl 1 rfl ?_
        refine gf_X4_11 (pc := 37) C (157) (by decide) cm_157 rfl dX4_firstFault_37 ?_
        refine k_iload_n (pc := 40) C dX4_firstFault_40 rfl 0 rfl ?_
        refine k_iald (pc := 41) C E (158) (by decide) cm_158 (i) rfl (by omega) (by decide) dX4_firstFault_41 ?_
        refine k_eqi (y := b i) (hb i (by omega)) ?_
        refine k_iload_n (pc := 42) C dX4_firstFault_42 rfl 2 rfl ?_
        refine cv_X4_39 (pc := 43) C E (c4_canStand hu s1 s2 s3 s4 s5 (by omega) (by omega)) rfl (by decide) cm_157 (by decide) rfl (Nat.le_of_ble_eq_true rfl) dX4_firstFault_43 (fun r43 M43 h43 => ?_)
        obtain ⟨s9, rfl, sf9, hc9⟩ := h43
        refine k_if_ne (pc := 46) (tgt := 51) C dX4_firstFault_46 (by decide) (fun c46 => ?_) (fun c46 => ?_)
        · rcases hc9 with hc9 | hc9
          · exact absurd hc9.1 c46
          obtain ⟨-, g2, h2, z2, p2, e2, q0, q1, q2, q3, q4, q5, q6, q7⟩ := hc9
          rw [q0] at hr2
          refine k_iinc (pc := 51) (v := nI (i + 1)) (lv' := [(2, .int (nI (i + 1))), (0, .ref (ad (157))), (1, .int (nI u))]) C dX4_firstFault_51 (k := 0) rfl (nI_1 _) (by decide) rfl ?_
          refine k_goto (pc := 54) (tgt := 27) C dX4_firstFault_54 (by decide) ?_
          refine k_sub [0, 1, 2] rfl ?_
          exact ih (i + 1) s9 g2 e2 h2 z2 p2 (by omega) (by rw [sf9 20 (by omega)]; exact s0) (fun k hk => by rw [sf9 k hk, sf k hk]) q1 q2 q3 q4 q5 (by omega) (by omega) hr2
        · rcases hc9 with hc9 | hc9
          · rw [hc9.2] at hr2
            refine k_iload_n (pc := 49) C dX4_firstFault_49 rfl 0 rfl ?_
            exact r_i (pc := 50) C E (⟨s9, rfl, fun k hk => by rw [sf9 k hk, sf k hk], hr2⟩) dX4_firstFault_50
          · rw [hc9.1] at c46; exact absurd c46 (by decide)
  refine k_aload_n (pc := 0) C dX4_firstFault_0 rfl 0 rfl ?_
  refine k_iconst (pc := 1) (v := nI 0) C dX4_firstFault_1 (by decide) ?_
  refine pf_X4_19 (pc := 2) C (157) (by decide) cm_157 (Nat.le_of_ble_eq_true rfl) dX4_firstFault_2 ?_
  rw [cm_s21]
  refine k_aload_n (pc := 5) C dX4_firstFault_5 rfl 0 rfl ?_
  refine k_iconst (pc := 6) (v := nI 0) C dX4_firstFault_6 (by decide) ?_
  refine pf_X4_22 (pc := 7) C (157) (by decide) cm_157 (by decide) (Nat.le_of_ble_eq_true rfl) dX4_firstFault_7 ?_
  rw [cm_s22]
  refine k_aload_n (pc := 10) C dX4_firstFault_10 rfl 0 rfl ?_
  refine k_iconst (pc := 11) (v := nI 0) C dX4_firstFault_11 (by decide) ?_
  refine pf_X4_26 (pc := 12) C (157) (by decide) cm_157 (by decide) (Nat.le_of_ble_eq_true rfl) dX4_firstFault_12 ?_
  rw [cm_s23]
  refine k_aload_n (pc := 15) C dX4_firstFault_15 rfl 0 rfl ?_
  refine k_iconst (pc := 16) (v := nI 0) C dX4_firstFault_16 (by decide) ?_
  refine pf_X4_29 (pc := 17) C (157) (by decide) cm_157 (by decide) (Nat.le_of_ble_eq_true rfl) dX4_firstFault_17 ?_
  rw [cm_s24]
  refine k_aload_n (pc := 20) C dX4_firstFault_20 rfl 0 rfl ?_
  refine k_iconst (pc := 21) (v := nI 0) C dX4_firstFault_21 (by decide) ?_
  refine pf_X4_32 (pc := 22) C (157) (by decide) cm_157 (Nat.le_of_ble_eq_true rfl) dX4_firstFault_22 ?_
  rw [cm_s25]
  refine k_iconst (pc := 25) (v := nI 0) C dX4_firstFault_25 (by decide) ?_
  refine k_istore_n (pc := 26) (lv' := [(2, .int (nI 0)), (0, .ref (ad (157))), (1, .int (nI u))]) C dX4_firstFault_26 rfl (by decide) rfl ?_
  refine k_sub [0, 1, 2] rfl ?_
  exact loop n 0 _ 0 0 false false false (by omega) (by simp [va_up]; exact hn) (fun k hk => by simp [va_up, show ¬ k = 21 by omega, show ¬ k = 22 by omega, show ¬ k = 23 by omega, show ¬ k = 24 by omega, show ¬ k = 25 by omega]) (by simp [va_up]) (by simp [va_up]; rfl) (by simp [va_up]; rfl) (by simp [va_up]; rfl) (by simp [va_up]) (by omega) (by omega) rfl
set_option maxHeartbeats 4000000 in
set_option maxRecDepth 100000 in
/-- countTo -/
theorem c4_countTo {n j : Nat} {b : Nat → Int32} (hj : isW j) (hn : sc 20 = nI n) (hn9 : n ≤ 120) (hb : ∀ i, i < n → ia 158 i = b i) : xI l D (xty ca) yX4_countTo cX4_countTo 3 (some .boolean) 2 90 [.ref (ad 157), .ref (ad j)] ad (cm ad ca (V, U, sc, ia, la)) (fun r M' => ∃ x, M' = cm ad ca (va_up V j x, U, sc, ia, la) ∧ (if rdv b n < 2 ^ 256 then r = 1 ∧ x = rdv b n else r = 0)) := by
  refine xM.of (by decide) (Nat.le_of_ble_eq_true rfl) (fun z C E => ?_)
  have loop : ∀ (m i : Nat), i + m = n → rdv b i < 2 ^ 256 → xK z (xw ad (cm ad ca (va_up V j (rdv b i), U, sc, ia, la)) 187) 0 0 6 [(2, .int (nI i)), (0, .ref (ad 157)), (1, .ref (ad j))] [] := by
    intro m
    induction m with
    | zero =>
      intro i hi hv
      refine k_iload_n (pc := 6) C dX4_countTo_6 rfl 0 rfl ?_
      refine k_aload_n (pc := 7) C dX4_countTo_7 rfl 1 rfl ?_
      refine gf_X4_15 (pc := 8) C (157) (by decide) cm_157 rfl dX4_countTo_8 ?_
      refine k_eqi (y := nI n) (hn) ?_
      refine k_icmp_ge (pc := 11) (tgt := 56) C dX4_countTo_11 (by decide) (fun c11 => ?_) (fun c11 => ?_)
      · rw [q_le (by omega) (by omega)] at c11
        refine k_iconst (pc := 56) (v := nI 1) C dX4_countTo_56 (by decide) ?_
        exact r_z (pc := 57) C E (⟨_, rfl, by rw [show i = n by omega] at hv ⊢; rw [if_pos hv]; exact ⟨rfl, rfl⟩⟩) (by decide) dX4_countTo_57
      · rw [q_le (by omega) (by omega)] at c11
        exact absurd (by omega) c11
    | succ m ih =>
      intro i hi hv
      have hs : rdv b (i + 1) = if dgt (b i) then rdv b i * 10 + ((b i).toInt - 48).toNat else rdv b i := rfl
      have hm := rdv_mono b (show i + 1 ≤ n by omega)
      refine k_iload_n (pc := 6) C dX4_countTo_6 rfl 0 rfl ?_
      refine k_aload_n (pc := 7) C dX4_countTo_7 rfl 1 rfl ?_
      refine gf_X4_15 (pc := 8) C (157) (by decide) cm_157 rfl dX4_countTo_8 ?_
      refine k_eqi (y := nI n) (hn) ?_
      refine k_icmp_ge (pc := 11) (tgt := 56) C dX4_countTo_11 (by decide) (fun c11 => ?_) (fun c11 => ?_)
      · rw [q_le (by omega) (by omega)] at c11
        exact absurd c11 (by omega)
      · rw [q_le (by omega) (by omega)] at c11
        refine k_aload_n (pc := 14) C dX4_countTo_14 rfl 1 rfl ?_
        refine gf_X4_11 (pc := 15) C (157) (by decide) cm_157 rfl dX4_countTo_15 ?_
        refine k_iload_n (pc := 18) C dX4_countTo_18 rfl 0 rfl ?_
        refine k_iald (pc := 19) C E (158) (by decide) cm_158 (i) rfl (by omega) (by decide) dX4_countTo_19 ?_
        refine k_eqi (y := b i) (hb i (by omega)) ?_
        refine cs_X4_46 (pc := 20) C E (c4_isFigure) rfl (by decide) rfl (Nat.le_of_ble_eq_true rfl) dX4_countTo_20 (fun r20 M20 h20 => ?_)
        obtain ⟨rfl, rfl⟩ := h20
        refine k_if_eq (pc := 23) (tgt := 41) C dX4_countTo_23 (by decide) (fun c23 => ?_) (fun c23 => ?_)
        · simp only [b01, Decidable.not_not] at c23
          rw [if_neg c23] at hs
          rw [← hs]
          refine k_aload_n (pc := 41) C dX4_countTo_41 rfl 2 rfl ?_
          refine cv_X4_65 (pc := 42) C E (c_isSum hj (by rw [ups]; omega)) rfl (Nat.lt_of_succ_lt (isW_lt hj)) (cm_w hj) (by decide) rfl (Nat.le_of_ble_eq_true rfl) dX4_countTo_42 (fun r42 M42 h42 => ?_)
          obtain ⟨rfl, rfl⟩ := h42
          rw [ups]
          refine k_if_ne (pc := 45) (tgt := 50) C dX4_countTo_45 (by decide) (fun c45 => ?_) (fun c45 => ?_)
          · simp only [b01, Decidable.not_not] at c45
            refine k_iinc (pc := 50) (v := nI (i + 1)) (lv' := [(2, .int (nI (i + 1))), (0, .ref (ad (157))), (1, .ref (ad (j)))]) C dX4_countTo_50 (k := 0) rfl (nI_1 _) (by decide) rfl ?_
            refine k_goto (pc := 53) (tgt := 6) C dX4_countTo_53 (by decide) ?_
            refine k_sub [0, 1, 2] rfl ?_
            exact ih (i + 1) (by omega) (by omega)
          · simp only [b01, Decidable.not_not] at c45
            refine k_iconst (pc := 48) (v := nI 0) C dX4_countTo_48 (by decide) ?_
            exact r_z (pc := 49) C E (⟨_, rfl, by rw [if_neg (by omega)]; rfl⟩) (by decide) dX4_countTo_49
        · simp only [b01, Decidable.not_not] at c23
          rw [if_pos c23] at hs
          obtain ⟨d, hd, hd2⟩ : ∃ d, d < 10 ∧ b i - nI 48 = nI d ∧ ((b i).toInt - 48).toNat = d := dg48 c23
          refine k_aload_n (pc := 26) C dX4_countTo_26 rfl 2 rfl ?_
          refine k_bipush (pc := 27) (v := nI 10) C dX4_countTo_27 (by decide) ?_
          refine k_aload_n (pc := 29) C dX4_countTo_29 rfl 1 rfl ?_
          refine gf_X4_11 (pc := 30) C (157) (by decide) cm_157 rfl dX4_countTo_30 ?_
          refine k_iload_n (pc := 33) C dX4_countTo_33 rfl 0 rfl ?_
          refine k_iald (pc := 34) C E (158) (by decide) cm_158 (i) rfl (by omega) (by decide) dX4_countTo_34 ?_
          refine k_eqi (y := b i) (hb i (by omega)) ?_
          refine k_bipush (pc := 35) (v := nI 48) C dX4_countTo_35 (by decide) ?_
          refine k_isub (pc := 37) C dX4_countTo_37 ?_
          refine k_eqi (y := nI d) (hd2.1) ?_
          refine cv_X4_61 (pc := 38) C E (c_scale hj (p := 10) (q := d) (by decide) (by omega)) rfl (Nat.lt_of_succ_lt (isW_lt hj)) (cm_w hj) (by decide) rfl (Nat.le_of_ble_eq_true rfl) dX4_countTo_38 (fun M38 h38 => ?_)
          subst h38
          rw [bx_uu, ups]
          rw [hd2.2] at hs
          rw [← hs]
          refine k_aload_n (pc := 41) C dX4_countTo_41 rfl 2 rfl ?_
          refine cv_X4_65 (pc := 42) C E (c_isSum hj (by rw [ups]; omega)) rfl (Nat.lt_of_succ_lt (isW_lt hj)) (cm_w hj) (by decide) rfl (Nat.le_of_ble_eq_true rfl) dX4_countTo_42 (fun r42 M42 h42 => ?_)
          obtain ⟨rfl, rfl⟩ := h42
          rw [ups]
          refine k_if_ne (pc := 45) (tgt := 50) C dX4_countTo_45 (by decide) (fun c45 => ?_) (fun c45 => ?_)
          · simp only [b01, Decidable.not_not] at c45
            refine k_iinc (pc := 50) (v := nI (i + 1)) (lv' := [(2, .int (nI (i + 1))), (0, .ref (ad (157))), (1, .ref (ad (j)))]) C dX4_countTo_50 (k := 0) rfl (nI_1 _) (by decide) rfl ?_
            refine k_goto (pc := 53) (tgt := 6) C dX4_countTo_53 (by decide) ?_
            refine k_sub [0, 1, 2] rfl ?_
            exact ih (i + 1) (by omega) (by omega)
          · simp only [b01, Decidable.not_not] at c45
            refine k_iconst (pc := 48) (v := nI 0) C dX4_countTo_48 (by decide) ?_
            exact r_z (pc := 49) C E (⟨_, rfl, by rw [if_neg (by omega)]; rfl⟩) (by decide) dX4_countTo_49
  refine k_aload_n (pc := 0) C dX4_countTo_0 rfl 1 rfl ?_
  refine cv_X4_56 (pc := 1) C E (c_clear hj) rfl (Nat.lt_of_succ_lt (isW_lt hj)) (cm_w hj) (by decide) rfl (Nat.le_of_ble_eq_true rfl) dX4_countTo_1 (fun M1 h1 => ?_)
  subst h1
  refine k_iconst (pc := 4) (v := nI 0) C dX4_countTo_4 (by decide) ?_
  refine k_istore_n (pc := 5) (lv' := [(2, .int (nI 0)), (0, .ref (ad (157))), (1, .ref (ad (j)))]) C dX4_countTo_5 rfl (by decide) rfl ?_
  refine k_sub [0, 1, 2] rfl ?_
  exact loop n 0 (by omega) (show (0 : Nat) < 2 ^ 256 by decide)
set_option maxHeartbeats 4000000 in
set_option maxRecDepth 100000 in
/-- read -/
theorem c6_read {T : Nat → Nat} (hT : RC V T) (hB : TB T) {n u : Nat} {b : Nat → Int32} (hn : sc 20 = nI n) (hn9 : n ≤ 120) (hu : sc 1 = nI u) (hu9 : u ≤ 12) (hb : ∀ i, i < n → ia 158 i = b i) {x0 : Int32} : xI l D (xty ca) yX6_read cX6_read 4 (some .int) 3 150 [.ref (ad 0), .int x0] ad (cm ad ca (V, U, sc, ia, la)) (fun r M' => ∃ V' sc', M' = cm ad ca (V', U, sc', ia, la) ∧ (∀ k, k ≠ 2 → (k < 20 ∨ 25 < k) → sc' k = sc k) ∧ (if inR x0 16 then sc' 20 = 0 ∧ (if mrun u n b n 0 mS0 = -4 then (if rdv b n < 2 ^ 256 then r = 1 ∧ sc' 2 = -4 ∧ RC V' (va_up T (rI x0) (rdv b n)) else r = -12 ∧ sc' 2 = nI n ∧ RC V' T) else r = -11 ∧ sc' 2 = mrun u n b n 0 mS0 ∧ RC V' T) else r = -1 ∧ sc' 20 = sc 20 ∧ sc' 2 = sc 2 ∧ RC V' T)) := by
  refine xM.of (by decide) (Nat.le_of_ble_eq_true rfl) (fun z C E => ?_)
  refine k_iload_n (pc := 0) C dX6_read_0 rfl 1 rfl ?_
  refine cs_X6_68 (pc := 1) C E (c6_isRegister) rfl (by decide) rfl (Nat.le_of_ble_eq_true rfl) dX6_read_1 (fun r1 M1 h1 => ?_)
  obtain ⟨rfl, rfl⟩ := h1
  refine k_if_ne (pc := 4) (tgt := 9) C dX6_read_4 (by decide) (fun c4 => ?_) (fun c4 => ?_)
  · simp only [b01, Decidable.not_not] at c4
    obtain ⟨x, hx, rfl⟩ := inR_k c4
    refine k_aload_n (pc := 9) C dX6_read_9 rfl 0 rfl ?_
    refine gf_X6_36 (pc := 10) C (0) (by decide) cm_0 rfl dX6_read_10 ?_
    refine gf_X6_218 (pc := 13) C (157) (by decide) cm_157 rfl dX6_read_13 ?_
    refine k_eqi (y := nI n) (hn) ?_
    refine k_istore_n (pc := 16) (lv' := [(2, .int (nI n)), (0, .ref (ad (0))), (1, .int (nI x))]) C dX6_read_16 rfl (by decide) rfl ?_
    refine k_iconst (pc := 17) (v := nI 0) C dX6_read_17 (by decide) ?_
    refine k_istore_n (pc := 18) (lv' := [(3, .int (nI 0)), (2, .int (nI n)), (0, .ref (ad (0))), (1, .int (nI x))]) C dX6_read_18 rfl (by decide) rfl ?_
    refine k_aload_n (pc := 19) C dX6_read_19 rfl 2 rfl ?_
    refine k_aload_n (pc := 20) C dX6_read_20 rfl 2 rfl ?_
    refine gf_X6_36 (pc := 21) C (0) (by decide) cm_0 rfl dX6_read_21 ?_
    refine k_aload_n (pc := 24) C dX6_read_24 rfl 2 rfl ?_
    refine gf_X6_56 (pc := 25) C (0) (by decide) cm_0 rfl dX6_read_25 ?_
    refine k_eqi (y := nI u) (hu) ?_
    refine cv_X6_219 (pc := 28) C E (c4_firstFault hn hn9 hu9 hb) rfl (by decide) cm_157 (by decide) rfl (Nat.le_of_ble_eq_true rfl) dX6_read_28 (fun r28 M28 h28 => ?_)
    obtain ⟨s1, rfl, sf1, hr28⟩ := h28
    refine pf_X6_59 (pc := 31) C (0) (by decide) cm_0 (Nat.le_of_ble_eq_true rfl) dX6_read_31 ?_
    rw [cm_s2]
    obtain ⟨s2, hs2⟩ : ∃ s9, s9 = va_up s1 2 r28 := ⟨_, rfl⟩
    rw [← hs2]
    have s2n : s2 20 = nI n := by rw [hs2, upIn (by decide), sf1 20 (by omega)]; exact hn
    have s22 : s2 2 = r28 := by rw [hs2, upIs]
    have sf2 : ∀ k, k ≠ 2 → (k < 21 ∨ 25 < k) → s2 k = sc k := fun k h1 h2 => by rw [hs2, upIn h1]; exact sf1 k h2
    refine k_aload_n (pc := 34) C dX6_read_34 rfl 2 rfl ?_
    refine gf_X6_59 (pc := 35) C (0) (by decide) cm_0 rfl dX6_read_35 ?_
    refine k_eqi (y := r28) (s22) ?_
    refine k_bipush (pc := 38) (v := (-4)) C dX6_read_38 (by decide) ?_
    refine k_icmp_eq (pc := 40) (tgt := 48) C dX6_read_40 (by decide) (fun c40 => ?_) (fun c40 => ?_)
    · rw [hr28] at c40
      refine k_aload_n (pc := 48) C dX6_read_48 rfl 2 rfl ?_
      refine gf_X6_36 (pc := 49) C (0) (by decide) cm_0 rfl dX6_read_49 ?_
      refine k_aload_n (pc := 52) C dX6_read_52 rfl 2 rfl ?_
      refine gf_X6_22 (pc := 53) C (0) (by decide) cm_0 rfl dX6_read_53 ?_
      refine gf_X6_82 (pc := 56) C (135) (by decide) cm_135 rfl dX6_read_56 ?_
      refine cv_X6_222 (pc := 59) C E (c4_countTo w148 s2n hn9 hb) rfl (by decide) cm_157 (by decide) rfl (Nat.le_of_ble_eq_true rfl) dX6_read_59 (fun r59 M59 h59 => ?_)
      obtain ⟨xv, rfl, hv⟩ := h59
      refine k_if_ne (pc := 62) (tgt := 75) C dX6_read_62 (by decide) (fun c62 => ?_) (fun c62 => ?_)
      · have hlt : rdv b n < 2 ^ 256 := by
          rcases Classical.em (rdv b n < 2 ^ 256) with q | q
          · exact q
          · rw [if_neg q] at hv; exact absurd hv c62
        rw [if_pos hlt] at hv
        refine k_aload_n (pc := 75) C dX6_read_75 rfl 2 rfl ?_
        refine gf_X6_10 (pc := 76) C (0) (by decide) cm_0 rfl dX6_read_76 ?_
        refine gf_X6_72 (pc := 79) C (1) (by decide) cm_1 rfl dX6_read_79 ?_
        refine k_iload_n (pc := 82) C dX6_read_82 rfl 3 rfl ?_
        refine k_aald (pc := 83) C E (2) (by decide) 2 rfl rfl cm_2 (x) rfl (by omega) (by decide) (4 + 2 * x) rfl dX6_read_83 ?_
        refine k_aload_n (pc := 84) C dX6_read_84 rfl 2 rfl ?_
        refine gf_X6_22 (pc := 85) C (0) (by decide) cm_0 rfl dX6_read_85 ?_
        refine gf_X6_82 (pc := 88) C (135) (by decide) cm_135 rfl dX6_read_88 ?_
        refine cv_X6_86 (pc := 91) C E (c_copy (wR hx) w148 (by omega)) rfl (Nat.lt_of_succ_lt (isW_lt (wR hx))) (cm_w (wR hx)) (by decide) rfl (Nat.le_of_ble_eq_true rfl) dX6_read_91 (fun M91 h91 => ?_)
        subst h91
        rw [ups, hv.2]
        refine k_aload_n (pc := 94) C dX6_read_94 rfl 2 rfl ?_
        refine gf_X6_36 (pc := 95) C (0) (by decide) cm_0 rfl dX6_read_95 ?_
        refine k_iconst (pc := 98) (v := nI 0) C dX6_read_98 (by decide) ?_
        refine pf_X6_218 (pc := 99) C (157) (by decide) cm_157 (Nat.le_of_ble_eq_true rfl) dX6_read_99 ?_
        rw [cm_s20]
        refine k_iload_n (pc := 102) C dX6_read_102 rfl 0 rfl ?_
        refine k_if_ne (pc := 103) (tgt := 110) C dX6_read_103 (by decide) (fun c103 => ?_) (fun c103 => ?_)
        · exact absurd c103 (by decide)
        · skip
          refine k_iconst (pc := 106) (v := nI 1) C dX6_read_106 (by decide) ?_
          refine k_goto (pc := 107) (tgt := 114) C dX6_read_107 (by decide) ?_
          exact r_i (pc := 114) C E (by
  first
    | (refine ⟨V, _, rfl, ?_, ?_⟩
       · intro k h1 h2
         rw [upIn (by omega)]; exact sf2 k h1 (by omega)
       · rw [if_pos c4, if_neg c40]
         exact ⟨upIs, rfl, by rw [upIn (by decide), s22, hr28], hT⟩)
    | (refine ⟨_, _, rfl, ?_, ?_⟩
       · intro k h1 h2
         rw [upIn (by omega), upIn h1]; exact sf2 k h1 (by omega)
       · rw [if_pos c4, if_pos c40, if_neg hlt]
         exact ⟨upIs, rfl, by rw [upIn (by decide), upIs], hT.o (fun k hk => upn (by omega))⟩)
    | (refine ⟨_, _, rfl, ?_, ?_⟩
       · intro k h1 h2
         rw [upIn (by omega)]; exact sf2 k h1 (by omega)
       · rw [if_pos c4, if_pos c40, if_pos hlt, rI_n (show x < 2147483648 by omega)]
         exact ⟨upIs, rfl, by rw [upIn (by decide), s22, hr28, c40], (hT.o (fun k hk => upn (by omega))).upr hx⟩)) dX6_read_114
      · have hlt : ¬ rdv b n < 2 ^ 256 := fun q => by rw [if_pos q, c62] at hv; exact absurd hv.1 (by decide)
        refine k_iconst (pc := 65) (v := nI 2) C dX6_read_65 (by decide) ?_
        refine k_istore_n (pc := 66) (lv' := [(3, .int (nI 2)), (2, .int (nI n)), (0, .ref (ad (0))), (1, .int (nI x))]) C dX6_read_66 rfl (by decide) rfl ?_
        refine k_aload_n (pc := 67) C dX6_read_67 rfl 2 rfl ?_
        refine k_iload_n (pc := 68) C dX6_read_68 rfl 1 rfl ?_
        refine pf_X6_59 (pc := 69) C (0) (by decide) cm_0 (Nat.le_of_ble_eq_true rfl) dX6_read_69 ?_
        rw [cm_s2]
        refine k_goto (pc := 72) (tgt := 94) C dX6_read_72 (by decide) ?_
        refine k_aload_n (pc := 94) C dX6_read_94 rfl 2 rfl ?_
        refine gf_X6_36 (pc := 95) C (0) (by decide) cm_0 rfl dX6_read_95 ?_
        refine k_iconst (pc := 98) (v := nI 0) C dX6_read_98 (by decide) ?_
        refine pf_X6_218 (pc := 99) C (157) (by decide) cm_157 (Nat.le_of_ble_eq_true rfl) dX6_read_99 ?_
        rw [cm_s20]
        refine k_iload_n (pc := 102) C dX6_read_102 rfl 0 rfl ?_
        refine k_if_ne (pc := 103) (tgt := 110) C dX6_read_103 (by decide) (fun c103 => ?_) (fun c103 => ?_)
        · skip
          refine k_bipush (pc := 110) (v := (-10)) C dX6_read_110 (by decide) ?_
          refine k_iload_n (pc := 112) C dX6_read_112 rfl 0 rfl ?_
          refine k_isub (pc := 113) C dX6_read_113 ?_
          exact r_i (pc := 114) C E (by
  first
    | (refine ⟨V, _, rfl, ?_, ?_⟩
       · intro k h1 h2
         rw [upIn (by omega)]; exact sf2 k h1 (by omega)
       · rw [if_pos c4, if_neg c40]
         exact ⟨upIs, rfl, by rw [upIn (by decide), s22, hr28], hT⟩)
    | (refine ⟨_, _, rfl, ?_, ?_⟩
       · intro k h1 h2
         rw [upIn (by omega), upIn h1]; exact sf2 k h1 (by omega)
       · rw [if_pos c4, if_pos c40, if_neg hlt]
         exact ⟨upIs, rfl, by rw [upIn (by decide), upIs], hT.o (fun k hk => upn (by omega))⟩)
    | (refine ⟨_, _, rfl, ?_, ?_⟩
       · intro k h1 h2
         rw [upIn (by omega)]; exact sf2 k h1 (by omega)
       · rw [if_pos c4, if_pos c40, if_pos hlt, rI_n (show x < 2147483648 by omega)]
         exact ⟨upIs, rfl, by rw [upIn (by decide), s22, hr28, c40], (hT.o (fun k hk => upn (by omega))).upr hx⟩)) dX6_read_114
        · exact absurd c103 (by decide)
    · rw [hr28] at c40
      refine k_iconst (pc := 43) (v := nI 1) C dX6_read_43 (by decide) ?_
      refine k_istore_n (pc := 44) (lv' := [(3, .int (nI 1)), (2, .int (nI n)), (0, .ref (ad (0))), (1, .int (nI x))]) C dX6_read_44 rfl (by decide) rfl ?_
      refine k_goto (pc := 45) (tgt := 94) C dX6_read_45 (by decide) ?_
      refine k_aload_n (pc := 94) C dX6_read_94 rfl 2 rfl ?_
      refine gf_X6_36 (pc := 95) C (0) (by decide) cm_0 rfl dX6_read_95 ?_
      refine k_iconst (pc := 98) (v := nI 0) C dX6_read_98 (by decide) ?_
      refine pf_X6_218 (pc := 99) C (157) (by decide) cm_157 (Nat.le_of_ble_eq_true rfl) dX6_read_99 ?_
      rw [cm_s20]
      refine k_iload_n (pc := 102) C dX6_read_102 rfl 0 rfl ?_
      refine k_if_ne (pc := 103) (tgt := 110) C dX6_read_103 (by decide) (fun c103 => ?_) (fun c103 => ?_)
      · skip
        refine k_bipush (pc := 110) (v := (-10)) C dX6_read_110 (by decide) ?_
        refine k_iload_n (pc := 112) C dX6_read_112 rfl 0 rfl ?_
        refine k_isub (pc := 113) C dX6_read_113 ?_
        exact r_i (pc := 114) C E (by
  first
    | (refine ⟨V, _, rfl, ?_, ?_⟩
       · intro k h1 h2
         rw [upIn (by omega)]; exact sf2 k h1 (by omega)
       · rw [if_pos c4, if_neg c40]
         exact ⟨upIs, rfl, by rw [upIn (by decide), s22, hr28], hT⟩)
    | (refine ⟨_, _, rfl, ?_, ?_⟩
       · intro k h1 h2
         rw [upIn (by omega), upIn h1]; exact sf2 k h1 (by omega)
       · rw [if_pos c4, if_pos c40, if_neg hlt]
         exact ⟨upIs, rfl, by rw [upIn (by decide), upIs], hT.o (fun k hk => upn (by omega))⟩)
    | (refine ⟨_, _, rfl, ?_, ?_⟩
       · intro k h1 h2
         rw [upIn (by omega)]; exact sf2 k h1 (by omega)
       · rw [if_pos c4, if_pos c40, if_pos hlt, rI_n (show x < 2147483648 by omega)]
         exact ⟨upIs, rfl, by rw [upIn (by decide), s22, hr28, c40], (hT.o (fun k hk => upn (by omega))).upr hx⟩)) dX6_read_114
      · exact absurd c103 (by decide)
  · simp only [b01, Decidable.not_not] at c4
    refine k_iconst (pc := 7) (v := (-1)) C dX6_read_7 (by decide) ?_
    exact r_i (pc := 8) C E (⟨V, sc, rfl, fun _ _ _ => rfl, by rw [if_neg c4]; exact ⟨rfl, rfl, rfl, hT⟩⟩) dX6_read_8
end EH
