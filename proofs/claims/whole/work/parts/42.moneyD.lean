section ED
variable {l : Launch} {D : va_G} {ca : Nat → ClassId} {ad : Nat → Nat} {V U : Nat → Nat} {sc : Nat → Int32} {ia : Nat → Nat → Int32} {la : Nat → Nat → Int64}
set_option maxHeartbeats 4000000 in
set_option maxRecDepth 100000 in
/-- join -/
theorem c6_join {T : Nat → Nat} (hT : RC V T) (hB : TB T) {x0 a0 b0 r0 : Int32} : xI l D (xty ca) yX6_join cX6_join 6 (some .int) 7 550 [.ref (ad 0), .int x0, .int a0, .int b0, .int r0] ad (cm ad ca (V, U, sc, ia, la)) (fun r M' => ∃ V', M' = cm ad ca (V', U, sc, ia, la) ∧ r = (sJoin T x0 a0 b0 r0).1 ∧ RC V' (sJoin T x0 a0 b0 r0).2) := by
  refine xM.of (by decide) (Nat.le_of_ble_eq_true rfl) (fun z C E => ?_)
  refine k_iload_n (pc := 0) C dX6_join_0 rfl 1 rfl ?_
  refine cs_X6_226 (pc := 1) C E (c6_isPool) rfl (by decide) rfl (Nat.le_of_ble_eq_true rfl) dX6_join_1 (fun r1 M1 h1 => ?_)
  obtain ⟨rfl, rfl⟩ := h1
  refine k_if_eq (pc := 4) (tgt := 17) C dX6_join_4 (by decide) (fun c4 => ?_) (fun c4 => ?_)
  · simp only [b01, Decidable.not_not] at c4
    refine k_iconst (pc := 17) (v := (-1)) C dX6_join_17 (by decide) ?_
    exact r_i (pc := 18) C E (⟨V, rfl, by unfold sJoin; rw [if_neg (fun h => by first | exact c4 h.1 | exact c14 ⟨h.2.2.2, h.2.1, h.2.2.1⟩)], by unfold sJoin; rw [if_neg (fun h => by first | exact c4 h.1 | exact c14 ⟨h.2.2.2, h.2.1, h.2.2.1⟩)]; exact hT⟩) dX6_join_18
  · simp only [b01, Decidable.not_not] at c4
    refine k_iload (pc := 7) C dX6_join_7 4 rfl ?_
    refine k_iload_n (pc := 9) C dX6_join_9 rfl 2 rfl ?_
    refine k_iload_n (pc := 10) C dX6_join_10 rfl 3 rfl ?_
    refine cs_X6_106 (pc := 11) C E (c6_areRegisters) rfl (by decide) rfl (Nat.le_of_ble_eq_true rfl) dX6_join_11 (fun r11 M11 h11 => ?_)
    obtain ⟨rfl, rfl⟩ := h11
    refine k_if_ne (pc := 14) (tgt := 19) C dX6_join_14 (by decide) (fun c14 => ?_) (fun c14 => ?_)
    · simp only [b01, Decidable.not_not] at c14
      have c6 : okJ x0 a0 b0 r0 := ⟨c4, c14.2.1, c14.2.2, c14.1⟩
      obtain ⟨p, hp, rfl⟩ := inR_k c6.1
      obtain ⟨a, ha, rfl⟩ := inR_k c6.2.1
      obtain ⟨b, hb, rfl⟩ := inR_k c6.2.2.1
      obtain ⟨x, hx, rfl⟩ := inR_k c6.2.2.2
      have hTa := hT.r ha
      have hTb := hT.r hb
      have ba1 := hB.1 a ha
      have bb1 := hB.1 b hb
      obtain ⟨t0, t1, t2⟩ := hT.q hp
      have k0 := hB.2.1 (16 + 3 * p) (by omega) (by omega)
      have k1 := hB.2.1 (16 + 3 * p + 1) (by omega) (by omega)
      have k2 := hB.2.1 (16 + 3 * p + 2) (by omega) (by omega)
      refine k_aload_n (pc := 19) C dX6_join_19 rfl 0 rfl ?_
      refine gf_X6_10 (pc := 20) C (0) (by decide) cm_0 rfl dX6_join_20 ?_
      refine gf_X6_230 (pc := 23) C (1) (by decide) cm_1 rfl dX6_join_23 ?_
      refine k_iload_n (pc := 26) C dX6_join_26 rfl 1 rfl ?_
      refine k_aald (pc := 27) C E (3) (by decide) 3 rfl rfl cm_3 (p) rfl (by omega) (by decide) (36 + 8 * p) rfl dX6_join_27 ?_
      refine k_aload_n (pc := 28) C dX6_join_28 rfl 0 rfl ?_
      refine gf_X6_10 (pc := 29) C (0) (by decide) cm_0 rfl dX6_join_29 ?_
      refine gf_X6_72 (pc := 32) C (1) (by decide) cm_1 rfl dX6_join_32 ?_
      refine k_iload_n (pc := 35) C dX6_join_35 rfl 2 rfl ?_
      refine k_aald (pc := 36) C E (2) (by decide) 2 rfl rfl cm_2 (a) rfl (by omega) (by decide) (4 + 2 * a) rfl dX6_join_36 ?_
      refine k_aload_n (pc := 37) C dX6_join_37 rfl 0 rfl ?_
      refine gf_X6_10 (pc := 38) C (0) (by decide) cm_0 rfl dX6_join_38 ?_
      refine gf_X6_72 (pc := 41) C (1) (by decide) cm_1 rfl dX6_join_41 ?_
      refine k_iload_n (pc := 44) C dX6_join_44 rfl 3 rfl ?_
      refine k_aald (pc := 45) C E (2) (by decide) 2 rfl rfl cm_2 (b) rfl (by omega) (by decide) (4 + 2 * b) rfl dX6_join_45 ?_
      refine k_aload_n (pc := 46) C dX6_join_46 rfl 0 rfl ?_
      refine gf_X6_22 (pc := 47) C (0) (by decide) cm_0 rfl dX6_join_47 ?_
      refine cv_X6_242 (pc := 50) C E (c3_join (isP_p hp) (by rw [t0]; exact k0) (by rw [t1]; exact k1) (by rw [t2]; exact k2) (wR ha) (wR hb) (by omega) (by omega) (by rw [hTa]; exact ba1) (by rw [hTb]; exact bb1)) rfl (by omega) (cm_pool hp) (by decide) rfl (Nat.le_of_ble_eq_true rfl) dX6_join_50 (fun r50 M50 h50 => ?_)
      obtain ⟨V1, rfl, e1, u1, s1⟩ := h50
      rw [t0, t1, t2, hTa, hTb] at e1 s1
      refine k_istore (pc := 53) (lv' := [(5, .int (r50)), (0, .ref (ad (0))), (1, .int (nI p)), (2, .int (nI a)), (3, .int (nI b)), (4, .int (nI x))]) C dX6_join_53 (by decide) rfl ?_
      refine k_iload (pc := 55) C dX6_join_55 0 rfl ?_
      refine k_iconst (pc := 57) (v := nI 1) C dX6_join_57 (by decide) ?_
      refine k_icmp_ne (pc := 58) (tgt := 77) C dX6_join_58 (by decide) (fun c58 => ?_) (fun c58 => ?_)
      · rw [show nI 1 = (1 : Int32) from rfl] at c58
        refine k_iload (pc := 77) C dX6_join_77 0 rfl ?_
        exact r_i (pc := 79) C E (by
  unfold sJoin
  rw [if_pos c6]
  simp only [rI_n (show p < 2147483648 by omega), rI_n (show a < 2147483648 by omega), rI_n (show b < 2147483648 by omega), rI_n (show x < 2147483648 by omega)]
  first
    | (rw [if_neg (fun h => c58 (e1.trans h))]
       exact ⟨V1, rfl, e1, hT.o (fun k hk => u1 c58 k (by omega))⟩)
    | (obtain ⟨W, rfl, h9⟩ := h71
       have j1 := jR_1 (e1.symm.trans c58)
       rw [if_pos (e1.symm.trans c58)]
       rw [if_pos (by rw [(s1 c58).1]; omega), (s1 c58).1] at h9
       obtain ⟨rfl, rfl⟩ := h9
       exact ⟨_, rfl, rfl, (hT.u3 hp (fun k hk => (s1 c58).2 k (by omega))).upr hx⟩)) dX6_join_79
      · rw [show nI 1 = (1 : Int32) from rfl] at c58
        refine k_aload_n (pc := 61) C dX6_join_61 rfl 1 rfl ?_
        refine k_iload (pc := 62) C dX6_join_62 5 rfl ?_
        refine k_aload_n (pc := 64) C dX6_join_64 rfl 1 rfl ?_
        refine gf_X6_22 (pc := 65) C (0) (by decide) cm_0 rfl dX6_join_65 ?_
        refine gf_X6_82 (pc := 68) C (135) (by decide) cm_135 rfl dX6_join_68 ?_
        refine cv_X6_96 (pc := 71) C E (c6_keep w148 hx (by decide) (by rw [(s1 c58).1]; have := (jR_1 (e1.symm.trans c58)).2.2.1; omega)) rfl (by decide) cm_0 (by decide) rfl (Nat.le_of_ble_eq_true rfl) dX6_join_71 (fun r71 M71 h71 => ?_)
        refine k_goto (pc := 74) (tgt := 79) C dX6_join_74 (by decide) ?_
        exact r_i (pc := 79) C E (by
  unfold sJoin
  rw [if_pos c6]
  simp only [rI_n (show p < 2147483648 by omega), rI_n (show a < 2147483648 by omega), rI_n (show b < 2147483648 by omega), rI_n (show x < 2147483648 by omega)]
  first
    | (rw [if_neg (fun h => c58 (e1.trans h))]
       exact ⟨V1, rfl, e1, hT.o (fun k hk => u1 c58 k (by omega))⟩)
    | (obtain ⟨W, rfl, h9⟩ := h71
       have j1 := jR_1 (e1.symm.trans c58)
       rw [if_pos (e1.symm.trans c58)]
       rw [if_pos (by rw [(s1 c58).1]; omega), (s1 c58).1] at h9
       obtain ⟨rfl, rfl⟩ := h9
       exact ⟨_, rfl, rfl, (hT.u3 hp (fun k hk => (s1 c58).2 k (by omega))).upr hx⟩)) dX6_join_79
    · simp only [b01, Decidable.not_not] at c14
      refine k_iconst (pc := 17) (v := (-1)) C dX6_join_17 (by decide) ?_
      exact r_i (pc := 18) C E (⟨V, rfl, by unfold sJoin; rw [if_neg (fun h => by first | exact c4 h.1 | exact c14 ⟨h.2.2.2, h.2.1, h.2.2.1⟩)], by unfold sJoin; rw [if_neg (fun h => by first | exact c4 h.1 | exact c14 ⟨h.2.2.2, h.2.1, h.2.2.1⟩)]; exact hT⟩) dX6_join_18
set_option maxHeartbeats 4000000 in
set_option maxRecDepth 100000 in
/-- leave -/
theorem c6_leave {T : Nat → Nat} (hT : RC V T) (hB : TB T) {x0 a0 b0 r0 : Int32} : xI l D (xty ca) yX6_leave cX6_leave 6 (some .int) 6 450 [.ref (ad 0), .int x0, .int a0, .int b0, .int r0] ad (cm ad ca (V, U, sc, ia, la)) (fun r M' => ∃ V', M' = cm ad ca (V', U, sc, ia, la) ∧ r = (sLeave T x0 a0 b0 r0).1 ∧ RC V' (sLeave T x0 a0 b0 r0).2) := by
  refine xM.of (by decide) (Nat.le_of_ble_eq_true rfl) (fun z C E => ?_)
  refine k_iload_n (pc := 0) C dX6_leave_0 rfl 1 rfl ?_
  refine cs_X6_226 (pc := 1) C E (c6_isPool) rfl (by decide) rfl (Nat.le_of_ble_eq_true rfl) dX6_leave_1 (fun r1 M1 h1 => ?_)
  obtain ⟨rfl, rfl⟩ := h1
  refine k_if_eq (pc := 4) (tgt := 17) C dX6_leave_4 (by decide) (fun c4 => ?_) (fun c4 => ?_)
  · simp only [b01, Decidable.not_not] at c4
    refine k_iconst (pc := 17) (v := (-1)) C dX6_leave_17 (by decide) ?_
    exact r_i (pc := 18) C E (⟨V, rfl, by unfold sLeave; rw [if_neg (fun h => by first | exact c4 h.1 | exact c14 ⟨h.2.1, h.2.2.1, h.2.2.2⟩)], by unfold sLeave; rw [if_neg (fun h => by first | exact c4 h.1 | exact c14 ⟨h.2.1, h.2.2.1, h.2.2.2⟩)]; exact hT⟩) dX6_leave_18
  · simp only [b01, Decidable.not_not] at c4
    refine k_iload_n (pc := 7) C dX6_leave_7 rfl 2 rfl ?_
    refine k_iload_n (pc := 8) C dX6_leave_8 rfl 3 rfl ?_
    refine k_iload (pc := 9) C dX6_leave_9 4 rfl ?_
    refine cs_X6_106 (pc := 11) C E (c6_areRegisters) rfl (by decide) rfl (Nat.le_of_ble_eq_true rfl) dX6_leave_11 (fun r11 M11 h11 => ?_)
    obtain ⟨rfl, rfl⟩ := h11
    refine k_if_ne (pc := 14) (tgt := 19) C dX6_leave_14 (by decide) (fun c14 => ?_) (fun c14 => ?_)
    · simp only [b01, Decidable.not_not] at c14
      have c6 : okJ x0 a0 b0 r0 := ⟨c4, c14.1, c14.2.1, c14.2.2⟩
      obtain ⟨p, hp, rfl⟩ := inR_k c6.1
      obtain ⟨a, ha, rfl⟩ := inR_k c6.2.1
      obtain ⟨b, hb, rfl⟩ := inR_k c6.2.2.1
      obtain ⟨x, hx, rfl⟩ := inR_k c6.2.2.2
      have hTa := hT.r ha
      have hTb := hT.r hb
      have ba1 := hB.1 a ha
      have bb1 := hB.1 b hb
      obtain ⟨t0, t1, t2⟩ := hT.q hp
      have k0 := hB.2.1 (16 + 3 * p) (by omega) (by omega)
      have k1 := hB.2.1 (16 + 3 * p + 1) (by omega) (by omega)
      have k2 := hB.2.1 (16 + 3 * p + 2) (by omega) (by omega)
      refine k_aload_n (pc := 19) C dX6_leave_19 rfl 0 rfl ?_
      refine gf_X6_10 (pc := 20) C (0) (by decide) cm_0 rfl dX6_leave_20 ?_
      refine gf_X6_230 (pc := 23) C (1) (by decide) cm_1 rfl dX6_leave_23 ?_
      refine k_iload_n (pc := 26) C dX6_leave_26 rfl 1 rfl ?_
      refine k_aald (pc := 27) C E (3) (by decide) 3 rfl rfl cm_3 (p) rfl (by omega) (by decide) (36 + 8 * p) rfl dX6_leave_27 ?_
      refine k_aload_n (pc := 28) C dX6_leave_28 rfl 0 rfl ?_
      refine gf_X6_10 (pc := 29) C (0) (by decide) cm_0 rfl dX6_leave_29 ?_
      refine gf_X6_72 (pc := 32) C (1) (by decide) cm_1 rfl dX6_leave_32 ?_
      refine k_iload_n (pc := 35) C dX6_leave_35 rfl 2 rfl ?_
      refine k_aald (pc := 36) C E (2) (by decide) 2 rfl rfl cm_2 (a) rfl (by omega) (by decide) (4 + 2 * a) rfl dX6_leave_36 ?_
      refine k_aload_n (pc := 37) C dX6_leave_37 rfl 0 rfl ?_
      refine gf_X6_22 (pc := 38) C (0) (by decide) cm_0 rfl dX6_leave_38 ?_
      refine cv_X6_246 (pc := 41) C E (c3_leave (isP_p hp) (by rw [t0]; exact k0) (by rw [t1]; exact k1) (by rw [t2]; exact k2) (wR ha) (by omega) (by rw [hTa]; exact ba1)) rfl (by omega) (cm_pool hp) (by decide) rfl (Nat.le_of_ble_eq_true rfl) dX6_leave_41 (fun r41 M41 h41 => ?_)
      obtain ⟨V1, rfl, e1, u1, s1⟩ := h41
      rw [t0, t1, t2, hTa] at s1
      rw [t2, hTa] at e1
      refine k_istore (pc := 44) (lv' := [(5, .int (r41)), (0, .ref (ad (0))), (1, .int (nI p)), (2, .int (nI a)), (3, .int (nI b)), (4, .int (nI x))]) C dX6_leave_44 (by decide) rfl ?_
      refine k_iload (pc := 46) C dX6_leave_46 0 rfl ?_
      refine k_iconst (pc := 48) (v := nI 1) C dX6_leave_48 (by decide) ?_
      refine k_icmp_ne (pc := 49) (tgt := 91) C dX6_leave_49 (by decide) (fun c49 => ?_) (fun c49 => ?_)
      · rw [show nI 1 = (1 : Int32) from rfl] at c49
        refine k_iload (pc := 91) C dX6_leave_91 0 rfl ?_
        exact r_i (pc := 93) C E (by
  unfold sLeave
  rw [if_pos c6]
  simp only [rI_n (show p < 2147483648 by omega), rI_n (show a < 2147483648 by omega), rI_n (show b < 2147483648 by omega), rI_n (show x < 2147483648 by omega)]
  first
    | (rw [if_neg (fun h => c49 (e1.trans h))]
       exact ⟨V1, rfl, e1, hT.o (fun k hk => u1 c49 k (by omega))⟩)
    | (rw [if_pos (e1.symm.trans c49), hV2]
       exact ⟨_, rfl, c49, ((hT.u3 hp (fun k hk => (s1 c49).2.2 k (by omega))).upr hb).upr hx⟩)) dX6_leave_93
      · rw [show nI 1 = (1 : Int32) from rfl] at c49
        refine k_aload_n (pc := 52) C dX6_leave_52 rfl 1 rfl ?_
        refine gf_X6_10 (pc := 53) C (0) (by decide) cm_0 rfl dX6_leave_53 ?_
        refine gf_X6_72 (pc := 56) C (1) (by decide) cm_1 rfl dX6_leave_56 ?_
        refine k_iload_n (pc := 59) C dX6_leave_59 rfl 4 rfl ?_
        refine k_aald (pc := 60) C E (2) (by decide) 2 rfl rfl cm_2 (b) rfl (by omega) (by decide) (4 + 2 * b) rfl dX6_leave_60 ?_
        refine k_aload_n (pc := 61) C dX6_leave_61 rfl 1 rfl ?_
        refine gf_X6_22 (pc := 62) C (0) (by decide) cm_0 rfl dX6_leave_62 ?_
        refine gf_X6_82 (pc := 65) C (135) (by decide) cm_135 rfl dX6_leave_65 ?_
        refine cv_X6_86 (pc := 68) C E (c_copy (wR hb) w148 (by omega)) rfl (Nat.lt_of_succ_lt (isW_lt (wR hb))) (cm_w (wR hb)) (by decide) rfl (Nat.le_of_ble_eq_true rfl) dX6_leave_68 (fun M68 h68 => ?_)
        subst h68
        rw [(s1 c49).1]
        obtain ⟨V2, hV2⟩ : ∃ W, W = va_up V1 (4 + 2 * b) (T (16 + 3 * p) * T a / T (16 + 3 * p + 2)) := ⟨_, rfl⟩
        rw [← hV2]
        have v2 : V2 (4 + 2 * b) = T (16 + 3 * p) * T a / T (16 + 3 * p + 2) := by rw [hV2, ups]
        have f2 : ∀ k, 4 + 2 * b ≠ k → V2 k = V1 k := fun k hk => by rw [hV2, upn hk]
        refine k_aload_n (pc := 71) C dX6_leave_71 rfl 1 rfl ?_
        refine gf_X6_10 (pc := 72) C (0) (by decide) cm_0 rfl dX6_leave_72 ?_
        refine gf_X6_72 (pc := 75) C (1) (by decide) cm_1 rfl dX6_leave_75 ?_
        refine k_iload (pc := 78) C dX6_leave_78 5 rfl ?_
        refine k_aald (pc := 80) C E (2) (by decide) 2 rfl rfl cm_2 (x) rfl (by omega) (by decide) (4 + 2 * x) rfl dX6_leave_80 ?_
        refine k_aload_n (pc := 81) C dX6_leave_81 rfl 1 rfl ?_
        refine gf_X6_22 (pc := 82) C (0) (by decide) cm_0 rfl dX6_leave_82 ?_
        refine gf_X6_168 (pc := 85) C (135) (by decide) cm_135 rfl dX6_leave_85 ?_
        refine cv_X6_86 (pc := 88) C E (c_copy (wR hx) w150 (by omega)) rfl (Nat.lt_of_succ_lt (isW_lt (wR hx))) (cm_w (wR hx)) (by decide) rfl (Nat.le_of_ble_eq_true rfl) dX6_leave_88 (fun M88 h88 => ?_)
        subst h88
        rw [f2 150 (by omega), (s1 c49).2.1]
        refine k_iload (pc := 91) C dX6_leave_91 0 rfl ?_
        exact r_i (pc := 93) C E (by
  unfold sLeave
  rw [if_pos c6]
  simp only [rI_n (show p < 2147483648 by omega), rI_n (show a < 2147483648 by omega), rI_n (show b < 2147483648 by omega), rI_n (show x < 2147483648 by omega)]
  first
    | (rw [if_neg (fun h => c49 (e1.trans h))]
       exact ⟨V1, rfl, e1, hT.o (fun k hk => u1 c49 k (by omega))⟩)
    | (rw [if_pos (e1.symm.trans c49), hV2]
       exact ⟨_, rfl, c49, ((hT.u3 hp (fun k hk => (s1 c49).2.2 k (by omega))).upr hb).upr hx⟩)) dX6_leave_93
    · simp only [b01, Decidable.not_not] at c14
      refine k_iconst (pc := 17) (v := (-1)) C dX6_leave_17 (by decide) ?_
      exact r_i (pc := 18) C E (⟨V, rfl, by unfold sLeave; rw [if_neg (fun h => by first | exact c4 h.1 | exact c14 ⟨h.2.1, h.2.2.1, h.2.2.2⟩)], by unfold sLeave; rw [if_neg (fun h => by first | exact c4 h.1 | exact c14 ⟨h.2.1, h.2.2.1, h.2.2.2⟩)]; exact hT⟩) dX6_leave_18
set_option maxHeartbeats 4000000 in
set_option maxRecDepth 100000 in
/-- give -/
theorem c6_give {T : Nat → Nat} (hT : RC V T) (hB : TB T) {fp fq : Nat → Nat} (hF : FC sc fp fq) (hFB : FB fp fq) {x0 d0 a0 r0 : Int32} : xI l D (xty ca) yX6_give cX6_give 6 (some .int) 6 450 [.ref (ad 0), .int x0, .int d0, .int a0, .int r0] ad (cm ad ca (V, U, sc, ia, la)) (fun r M' => ∃ V', M' = cm ad ca (V', U, sc, ia, la) ∧ r = (sGive T fp fq x0 d0 a0 r0).1 ∧ RC V' (sGive T fp fq x0 d0 a0 r0).2 ∧ ∀ k, 68 ≤ k → k < 135 → V' k = V k) := by
  refine xM.of (by decide) (Nat.le_of_ble_eq_true rfl) (fun z C E => ?_)
  refine k_iload_n (pc := 0) C dX6_give_0 rfl 1 rfl ?_
  refine cs_X6_226 (pc := 1) C E (c6_isPool) rfl (by decide) rfl (Nat.le_of_ble_eq_true rfl) dX6_give_1 (fun r1 M1 h1 => ?_)
  obtain ⟨rfl, rfl⟩ := h1
  refine k_if_eq (pc := 4) (tgt := 29) C dX6_give_4 (by decide) (fun c4 => ?_) (fun c4 => ?_)
  · simp only [b01, Decidable.not_not] at c4
    refine k_iconst (pc := 29) (v := (-1)) C dX6_give_29 (by decide) ?_
    exact r_i (pc := 30) C E (⟨V, rfl, by unfold sGive; rw [if_neg (fun h => by first | exact c4 h.1 | exact c11 h.2.1 | exact c18 h.2.2.1 | exact c26 h.2.2.2)], by unfold sGive; rw [if_neg (fun h => by first | exact c4 h.1 | exact c11 h.2.1 | exact c18 h.2.2.1 | exact c26 h.2.2.2)]; exact hT, fun _ _ _ => rfl⟩) dX6_give_30
  · simp only [b01, Decidable.not_not] at c4
    refine k_iload_n (pc := 7) C dX6_give_7 rfl 2 rfl ?_
    refine cs_X6_250 (pc := 8) C E (c6_isSide) rfl (by decide) rfl (Nat.le_of_ble_eq_true rfl) dX6_give_8 (fun r8 M8 h8 => ?_)
    obtain ⟨rfl, rfl⟩ := h8
    refine k_if_eq (pc := 11) (tgt := 29) C dX6_give_11 (by decide) (fun c11 => ?_) (fun c11 => ?_)
    · simp only [b01, Decidable.not_not] at c11
      refine k_iconst (pc := 29) (v := (-1)) C dX6_give_29 (by decide) ?_
      exact r_i (pc := 30) C E (⟨V, rfl, by unfold sGive; rw [if_neg (fun h => by first | exact c4 h.1 | exact c11 h.2.1 | exact c18 h.2.2.1 | exact c26 h.2.2.2)], by unfold sGive; rw [if_neg (fun h => by first | exact c4 h.1 | exact c11 h.2.1 | exact c18 h.2.2.1 | exact c26 h.2.2.2)]; exact hT, fun _ _ _ => rfl⟩) dX6_give_30
    · simp only [b01, Decidable.not_not] at c11
      refine k_iload_n (pc := 14) C dX6_give_14 rfl 3 rfl ?_
      refine cs_X6_68 (pc := 15) C E (c6_isRegister) rfl (by decide) rfl (Nat.le_of_ble_eq_true rfl) dX6_give_15 (fun r15 M15 h15 => ?_)
      obtain ⟨rfl, rfl⟩ := h15
      refine k_if_eq (pc := 18) (tgt := 29) C dX6_give_18 (by decide) (fun c18 => ?_) (fun c18 => ?_)
      · simp only [b01, Decidable.not_not] at c18
        refine k_iconst (pc := 29) (v := (-1)) C dX6_give_29 (by decide) ?_
        exact r_i (pc := 30) C E (⟨V, rfl, by unfold sGive; rw [if_neg (fun h => by first | exact c4 h.1 | exact c11 h.2.1 | exact c18 h.2.2.1 | exact c26 h.2.2.2)], by unfold sGive; rw [if_neg (fun h => by first | exact c4 h.1 | exact c11 h.2.1 | exact c18 h.2.2.1 | exact c26 h.2.2.2)]; exact hT, fun _ _ _ => rfl⟩) dX6_give_30
      · simp only [b01, Decidable.not_not] at c18
        refine k_iload (pc := 21) C dX6_give_21 4 rfl ?_
        refine cs_X6_68 (pc := 23) C E (c6_isRegister) rfl (by decide) rfl (Nat.le_of_ble_eq_true rfl) dX6_give_23 (fun r23 M23 h23 => ?_)
        obtain ⟨rfl, rfl⟩ := h23
        refine k_if_ne (pc := 26) (tgt := 31) C dX6_give_26 (by decide) (fun c26 => ?_) (fun c26 => ?_)
        · simp only [b01, Decidable.not_not] at c26
          have c6 : okG x0 d0 a0 r0 := ⟨c4, c11, c18, c26⟩
          obtain ⟨p, hp, rfl⟩ := inR_k c6.1
          obtain ⟨d, hd, rfl⟩ := inR_k c6.2.1
          obtain ⟨a, ha, rfl⟩ := inR_k c6.2.2.1
          obtain ⟨x, hx, rfl⟩ := inR_k c6.2.2.2
          have hTa := hT.r ha
          have ba1 := hB.1 a ha
          have t0 := hT.qs hp hd
          have t1 := hT.qs hp (s := 1 - d) (by omega)
          obtain ⟨-, -, t2⟩ := hT.q hp
          have k0 := hB.2.1 (16 + 3 * p + d) (by omega) (by omega)
          have k1 := hB.2.1 (16 + 3 * p + (1 - d)) (by omega) (by omega)
          have k2 := hB.2.1 (16 + 3 * p + 2) (by omega) (by omega)
          obtain ⟨f1, f2⟩ := hF p hp
          obtain ⟨g1, g2⟩ := hFB p hp
          refine k_aload_n (pc := 31) C dX6_give_31 rfl 0 rfl ?_
          refine gf_X6_10 (pc := 32) C (0) (by decide) cm_0 rfl dX6_give_32 ?_
          refine gf_X6_230 (pc := 35) C (1) (by decide) cm_1 rfl dX6_give_35 ?_
          refine k_iload_n (pc := 38) C dX6_give_38 rfl 1 rfl ?_
          refine k_aald (pc := 39) C E (3) (by decide) 3 rfl rfl cm_3 (p) rfl (by omega) (by decide) (36 + 8 * p) rfl dX6_give_39 ?_
          refine k_iload_n (pc := 40) C dX6_give_40 rfl 2 rfl ?_
          refine k_aload_n (pc := 41) C dX6_give_41 rfl 0 rfl ?_
          refine gf_X6_10 (pc := 42) C (0) (by decide) cm_0 rfl dX6_give_42 ?_
          refine gf_X6_72 (pc := 45) C (1) (by decide) cm_1 rfl dX6_give_45 ?_
          refine k_iload_n (pc := 48) C dX6_give_48 rfl 3 rfl ?_
          refine k_aald (pc := 49) C E (2) (by decide) 2 rfl rfl cm_2 (a) rfl (by omega) (by decide) (4 + 2 * a) rfl dX6_give_49 ?_
          refine k_aload_n (pc := 50) C dX6_give_50 rfl 0 rfl ?_
          refine gf_X6_22 (pc := 51) C (0) (by decide) cm_0 rfl dX6_give_51 ?_
          refine cv_X6_253 (pc := 54) C E (c3_given (isP_p hp) hd (by rw [t0]; exact k0) (by rw [t1]; exact k1) (by rw [t2]; exact k2) f1 f2 g1 g2 (wR ha) (by omega) (by rw [hTa]; exact ba1) (by rw [t2, t0]; intro h; have h8 := hB.2.2 p hp h; rcases (show d = 0 ∨ d = 1 by omega) with e | e <;> subst e <;> first | exact h8.1 | exact h8.2)) rfl (by omega) (cm_pool hp) (by decide) rfl (Nat.le_of_ble_eq_true rfl) dX6_give_54 (fun r54 M54 h54 => ?_)
          obtain ⟨V1, rfl, e1, u1, s1⟩ := h54
          rw [t0, t1, t2, hTa] at e1
          rw [t0, t1, hTa] at s1
          have kc : r54 = 1 → V1 148 < 2 ^ 100 := fun c62 => by
            rw [(s1 c62).1]
            have h8 : gN (T (16 + 3 * p + d)) (T (16 + 3 * p + (1 - d))) (fp p) (fq p) (T a) ≤ T (16 + 3 * p + (1 - d)) := by
              unfold gN
              exact Nat.div_le_of_le_mul (by rw [Nat.mul_comm]; exact Nat.mul_le_mul_right _ (by omega))
            omega
          have kb : r54 = 1 → V1 148 < 65536 ^ 24 := fun c62 => by have := kc c62; omega
          refine k_istore (pc := 57) (lv' := [(5, .int (r54)), (0, .ref (ad (0))), (1, .int (nI p)), (2, .int (nI d)), (3, .int (nI a)), (4, .int (nI x))]) C dX6_give_57 (by decide) rfl ?_
          refine k_iload (pc := 59) C dX6_give_59 0 rfl ?_
          refine k_iconst (pc := 61) (v := nI 1) C dX6_give_61 (by decide) ?_
          refine k_icmp_ne (pc := 62) (tgt := 81) C dX6_give_62 (by decide) (fun c62 => ?_) (fun c62 => ?_)
          · rw [show nI 1 = (1 : Int32) from rfl] at c62
            refine k_iload (pc := 81) C dX6_give_81 0 rfl ?_
            exact r_i (pc := 83) C E (by
  unfold sGive
  rw [if_pos c6]
  simp only [rI_n (show p < 2147483648 by omega), rI_n (show d < 2147483648 by omega), rI_n (show a < 2147483648 by omega), rI_n (show x < 2147483648 by omega)]
  first
    | (rw [if_neg (fun h => c62 (e1.trans h))]
       exact ⟨V1, rfl, e1, hT.o (fun k hk => u1 c62 k (by omega)), fun k h1 h2 => u1 c62 k (by omega)⟩)
    | (obtain ⟨W, rfl, h9⟩ := h75
       rw [if_pos (e1.symm.trans c62)]
       rw [if_pos (by have := kc c62; omega), (s1 c62).1] at h9
       obtain ⟨rfl, rfl⟩ := h9
       exact ⟨_, rfl, rfl, (hT.u2 hp hd (fun k hk => (s1 c62).2 k (by omega))).upr hx, fun k h1 h2 => by rw [upn (by omega), (s1 c62).2 k (by omega), upn (by omega), upn (by omega)]⟩)) dX6_give_83
          · rw [show nI 1 = (1 : Int32) from rfl] at c62
            refine k_aload_n (pc := 65) C dX6_give_65 rfl 1 rfl ?_
            refine k_iload (pc := 66) C dX6_give_66 5 rfl ?_
            refine k_aload_n (pc := 68) C dX6_give_68 rfl 1 rfl ?_
            refine gf_X6_22 (pc := 69) C (0) (by decide) cm_0 rfl dX6_give_69 ?_
            refine gf_X6_82 (pc := 72) C (135) (by decide) cm_135 rfl dX6_give_72 ?_
            refine cv_X6_96 (pc := 75) C E (c6_keep w148 hx (by decide) (kb c62)) rfl (by decide) cm_0 (by decide) rfl (Nat.le_of_ble_eq_true rfl) dX6_give_75 (fun r75 M75 h75 => ?_)
            refine k_goto (pc := 78) (tgt := 83) C dX6_give_78 (by decide) ?_
            exact r_i (pc := 83) C E (by
  unfold sGive
  rw [if_pos c6]
  simp only [rI_n (show p < 2147483648 by omega), rI_n (show d < 2147483648 by omega), rI_n (show a < 2147483648 by omega), rI_n (show x < 2147483648 by omega)]
  first
    | (rw [if_neg (fun h => c62 (e1.trans h))]
       exact ⟨V1, rfl, e1, hT.o (fun k hk => u1 c62 k (by omega)), fun k h1 h2 => u1 c62 k (by omega)⟩)
    | (obtain ⟨W, rfl, h9⟩ := h75
       rw [if_pos (e1.symm.trans c62)]
       rw [if_pos (by have := kc c62; omega), (s1 c62).1] at h9
       obtain ⟨rfl, rfl⟩ := h9
       exact ⟨_, rfl, rfl, (hT.u2 hp hd (fun k hk => (s1 c62).2 k (by omega))).upr hx, fun k h1 h2 => by rw [upn (by omega), (s1 c62).2 k (by omega), upn (by omega), upn (by omega)]⟩)) dX6_give_83
        · simp only [b01, Decidable.not_not] at c26
          refine k_iconst (pc := 29) (v := (-1)) C dX6_give_29 (by decide) ?_
          exact r_i (pc := 30) C E (⟨V, rfl, by unfold sGive; rw [if_neg (fun h => by first | exact c4 h.1 | exact c11 h.2.1 | exact c18 h.2.2.1 | exact c26 h.2.2.2)], by unfold sGive; rw [if_neg (fun h => by first | exact c4 h.1 | exact c11 h.2.1 | exact c18 h.2.2.1 | exact c26 h.2.2.2)]; exact hT, fun _ _ _ => rfl⟩) dX6_give_30
set_option maxHeartbeats 4000000 in
set_option maxRecDepth 100000 in
/-- ask -/
theorem c6_ask {T : Nat → Nat} (hT : RC V T) (hB : TB T) {fp fq : Nat → Nat} (hF : FC sc fp fq) (hFB : FB fp fq) {x0 d0 a0 r0 : Int32} : xI l D (xty ca) yX6_ask cX6_ask 6 (some .int) 6 450 [.ref (ad 0), .int x0, .int d0, .int a0, .int r0] ad (cm ad ca (V, U, sc, ia, la)) (fun r M' => ∃ V', M' = cm ad ca (V', U, sc, ia, la) ∧ r = (sAsk T fp fq x0 d0 a0 r0).1 ∧ RC V' (sAsk T fp fq x0 d0 a0 r0).2) := by
  refine xM.of (by decide) (Nat.le_of_ble_eq_true rfl) (fun z C E => ?_)
  refine k_iload_n (pc := 0) C dX6_ask_0 rfl 1 rfl ?_
  refine cs_X6_226 (pc := 1) C E (c6_isPool) rfl (by decide) rfl (Nat.le_of_ble_eq_true rfl) dX6_ask_1 (fun r1 M1 h1 => ?_)
  obtain ⟨rfl, rfl⟩ := h1
  refine k_if_eq (pc := 4) (tgt := 29) C dX6_ask_4 (by decide) (fun c4 => ?_) (fun c4 => ?_)
  · simp only [b01, Decidable.not_not] at c4
    refine k_iconst (pc := 29) (v := (-1)) C dX6_ask_29 (by decide) ?_
    exact r_i (pc := 30) C E (⟨V, rfl, by unfold sAsk; rw [if_neg (fun h => by first | exact c4 h.1 | exact c11 h.2.1 | exact c18 h.2.2.1 | exact c26 h.2.2.2)], by unfold sAsk; rw [if_neg (fun h => by first | exact c4 h.1 | exact c11 h.2.1 | exact c18 h.2.2.1 | exact c26 h.2.2.2)]; exact hT⟩) dX6_ask_30
  · simp only [b01, Decidable.not_not] at c4
    refine k_iload_n (pc := 7) C dX6_ask_7 rfl 2 rfl ?_
    refine cs_X6_250 (pc := 8) C E (c6_isSide) rfl (by decide) rfl (Nat.le_of_ble_eq_true rfl) dX6_ask_8 (fun r8 M8 h8 => ?_)
    obtain ⟨rfl, rfl⟩ := h8
    refine k_if_eq (pc := 11) (tgt := 29) C dX6_ask_11 (by decide) (fun c11 => ?_) (fun c11 => ?_)
    · simp only [b01, Decidable.not_not] at c11
      refine k_iconst (pc := 29) (v := (-1)) C dX6_ask_29 (by decide) ?_
      exact r_i (pc := 30) C E (⟨V, rfl, by unfold sAsk; rw [if_neg (fun h => by first | exact c4 h.1 | exact c11 h.2.1 | exact c18 h.2.2.1 | exact c26 h.2.2.2)], by unfold sAsk; rw [if_neg (fun h => by first | exact c4 h.1 | exact c11 h.2.1 | exact c18 h.2.2.1 | exact c26 h.2.2.2)]; exact hT⟩) dX6_ask_30
    · simp only [b01, Decidable.not_not] at c11
      refine k_iload_n (pc := 14) C dX6_ask_14 rfl 3 rfl ?_
      refine cs_X6_68 (pc := 15) C E (c6_isRegister) rfl (by decide) rfl (Nat.le_of_ble_eq_true rfl) dX6_ask_15 (fun r15 M15 h15 => ?_)
      obtain ⟨rfl, rfl⟩ := h15
      refine k_if_eq (pc := 18) (tgt := 29) C dX6_ask_18 (by decide) (fun c18 => ?_) (fun c18 => ?_)
      · simp only [b01, Decidable.not_not] at c18
        refine k_iconst (pc := 29) (v := (-1)) C dX6_ask_29 (by decide) ?_
        exact r_i (pc := 30) C E (⟨V, rfl, by unfold sAsk; rw [if_neg (fun h => by first | exact c4 h.1 | exact c11 h.2.1 | exact c18 h.2.2.1 | exact c26 h.2.2.2)], by unfold sAsk; rw [if_neg (fun h => by first | exact c4 h.1 | exact c11 h.2.1 | exact c18 h.2.2.1 | exact c26 h.2.2.2)]; exact hT⟩) dX6_ask_30
      · simp only [b01, Decidable.not_not] at c18
        refine k_iload (pc := 21) C dX6_ask_21 4 rfl ?_
        refine cs_X6_68 (pc := 23) C E (c6_isRegister) rfl (by decide) rfl (Nat.le_of_ble_eq_true rfl) dX6_ask_23 (fun r23 M23 h23 => ?_)
        obtain ⟨rfl, rfl⟩ := h23
        refine k_if_ne (pc := 26) (tgt := 31) C dX6_ask_26 (by decide) (fun c26 => ?_) (fun c26 => ?_)
        · simp only [b01, Decidable.not_not] at c26
          have c6 : okG x0 d0 a0 r0 := ⟨c4, c11, c18, c26⟩
          obtain ⟨p, hp, rfl⟩ := inR_k c6.1
          obtain ⟨d, hd, rfl⟩ := inR_k c6.2.1
          obtain ⟨a, ha, rfl⟩ := inR_k c6.2.2.1
          obtain ⟨x, hx, rfl⟩ := inR_k c6.2.2.2
          have hTa := hT.r ha
          have ba1 := hB.1 a ha
          have t0 := hT.qs hp hd
          have t1 := hT.qs hp (s := 1 - d) (by omega)
          obtain ⟨-, -, t2⟩ := hT.q hp
          have k0 := hB.2.1 (16 + 3 * p + d) (by omega) (by omega)
          have k1 := hB.2.1 (16 + 3 * p + (1 - d)) (by omega) (by omega)
          have k2 := hB.2.1 (16 + 3 * p + 2) (by omega) (by omega)
          obtain ⟨f1, f2⟩ := hF p hp
          obtain ⟨g1, g2⟩ := hFB p hp
          refine k_aload_n (pc := 31) C dX6_ask_31 rfl 0 rfl ?_
          refine gf_X6_10 (pc := 32) C (0) (by decide) cm_0 rfl dX6_ask_32 ?_
          refine gf_X6_230 (pc := 35) C (1) (by decide) cm_1 rfl dX6_ask_35 ?_
          refine k_iload_n (pc := 38) C dX6_ask_38 rfl 1 rfl ?_
          refine k_aald (pc := 39) C E (3) (by decide) 3 rfl rfl cm_3 (p) rfl (by omega) (by decide) (36 + 8 * p) rfl dX6_ask_39 ?_
          refine k_iload_n (pc := 40) C dX6_ask_40 rfl 2 rfl ?_
          refine k_aload_n (pc := 41) C dX6_ask_41 rfl 0 rfl ?_
          refine gf_X6_10 (pc := 42) C (0) (by decide) cm_0 rfl dX6_ask_42 ?_
          refine gf_X6_72 (pc := 45) C (1) (by decide) cm_1 rfl dX6_ask_45 ?_
          refine k_iload_n (pc := 48) C dX6_ask_48 rfl 3 rfl ?_
          refine k_aald (pc := 49) C E (2) (by decide) 2 rfl rfl cm_2 (a) rfl (by omega) (by decide) (4 + 2 * a) rfl dX6_ask_49 ?_
          refine k_aload_n (pc := 50) C dX6_ask_50 rfl 0 rfl ?_
          refine gf_X6_22 (pc := 51) C (0) (by decide) cm_0 rfl dX6_ask_51 ?_
          refine cv_X6_257 (pc := 54) C E (c3_asked (isP_p hp) hd (by rw [t0]; exact k0) (by rw [t1]; exact k1) (by rw [t2]; exact k2) f1 f2 g1 g2 (wR ha) (by omega) (by rw [hTa]; exact ba1)) rfl (by omega) (cm_pool hp) (by decide) rfl (Nat.le_of_ble_eq_true rfl) dX6_ask_54 (fun r54 M54 h54 => ?_)
          obtain ⟨V1, rfl, e1, u1, s1⟩ := h54
          rw [t0, t1, hTa] at e1
          rw [t0, t1, hTa] at s1
          have kc : r54 = 1 → V1 148 < 2 ^ 100 := fun c62 => by
            rw [(s1 c62).1]
            have := aR_1 (e1.symm.trans c62)
            omega
          have kb : r54 = 1 → V1 148 < 65536 ^ 24 := fun c62 => by have := kc c62; omega
          refine k_istore (pc := 57) (lv' := [(5, .int (r54)), (0, .ref (ad (0))), (1, .int (nI p)), (2, .int (nI d)), (3, .int (nI a)), (4, .int (nI x))]) C dX6_ask_57 (by decide) rfl ?_
          refine k_iload (pc := 59) C dX6_ask_59 0 rfl ?_
          refine k_iconst (pc := 61) (v := nI 1) C dX6_ask_61 (by decide) ?_
          refine k_icmp_ne (pc := 62) (tgt := 81) C dX6_ask_62 (by decide) (fun c62 => ?_) (fun c62 => ?_)
          · rw [show nI 1 = (1 : Int32) from rfl] at c62
            refine k_iload (pc := 81) C dX6_ask_81 0 rfl ?_
            exact r_i (pc := 83) C E (by
  unfold sAsk
  rw [if_pos c6]
  simp only [rI_n (show p < 2147483648 by omega), rI_n (show d < 2147483648 by omega), rI_n (show a < 2147483648 by omega), rI_n (show x < 2147483648 by omega)]
  first
    | (rw [if_neg (fun h => c62 (e1.trans h))]
       exact ⟨V1, rfl, e1, hT.o (fun k hk => u1 c62 k (by omega))⟩)
    | (obtain ⟨W, rfl, h9⟩ := h75
       rw [if_pos (e1.symm.trans c62)]
       rw [if_pos (by have := kc c62; omega), (s1 c62).1] at h9
       obtain ⟨rfl, rfl⟩ := h9
       exact ⟨_, rfl, rfl, (hT.u2 hp hd (fun k hk => (s1 c62).2 k (by omega))).upr hx⟩)) dX6_ask_83
          · rw [show nI 1 = (1 : Int32) from rfl] at c62
            refine k_aload_n (pc := 65) C dX6_ask_65 rfl 1 rfl ?_
            refine k_iload (pc := 66) C dX6_ask_66 5 rfl ?_
            refine k_aload_n (pc := 68) C dX6_ask_68 rfl 1 rfl ?_
            refine gf_X6_22 (pc := 69) C (0) (by decide) cm_0 rfl dX6_ask_69 ?_
            refine gf_X6_82 (pc := 72) C (135) (by decide) cm_135 rfl dX6_ask_72 ?_
            refine cv_X6_96 (pc := 75) C E (c6_keep w148 hx (by decide) (kb c62)) rfl (by decide) cm_0 (by decide) rfl (Nat.le_of_ble_eq_true rfl) dX6_ask_75 (fun r75 M75 h75 => ?_)
            refine k_goto (pc := 78) (tgt := 83) C dX6_ask_78 (by decide) ?_
            exact r_i (pc := 83) C E (by
  unfold sAsk
  rw [if_pos c6]
  simp only [rI_n (show p < 2147483648 by omega), rI_n (show d < 2147483648 by omega), rI_n (show a < 2147483648 by omega), rI_n (show x < 2147483648 by omega)]
  first
    | (rw [if_neg (fun h => c62 (e1.trans h))]
       exact ⟨V1, rfl, e1, hT.o (fun k hk => u1 c62 k (by omega))⟩)
    | (obtain ⟨W, rfl, h9⟩ := h75
       rw [if_pos (e1.symm.trans c62)]
       rw [if_pos (by have := kc c62; omega), (s1 c62).1] at h9
       obtain ⟨rfl, rfl⟩ := h9
       exact ⟨_, rfl, rfl, (hT.u2 hp hd (fun k hk => (s1 c62).2 k (by omega))).upr hx⟩)) dX6_ask_83
        · simp only [b01, Decidable.not_not] at c26
          refine k_iconst (pc := 29) (v := (-1)) C dX6_ask_29 (by decide) ?_
          exact r_i (pc := 30) C E (⟨V, rfl, by unfold sAsk; rw [if_neg (fun h => by first | exact c4 h.1 | exact c11 h.2.1 | exact c18 h.2.2.1 | exact c26 h.2.2.2)], by unfold sAsk; rw [if_neg (fun h => by first | exact c4 h.1 | exact c11 h.2.1 | exact c18 h.2.2.1 | exact c26 h.2.2.2)]; exact hT⟩) dX6_ask_30
set_option maxHeartbeats 4000000 in
set_option maxRecDepth 100000 in
/-- see -/
theorem c6_see {T : Nat → Nat} (hT : RC V T) (hB : TB T) {x0 w0 r0 : Int32} : xI l D (xty ca) yX6_see cX6_see 5 (some .int) 3 150 [.ref (ad 0), .int x0, .int w0, .int r0] ad (cm ad ca (V, U, sc, ia, la)) (fun r M' => ∃ V', M' = cm ad ca (V', U, sc, ia, la) ∧ r = (sSee T x0 w0 r0).1 ∧ RC V' (sSee T x0 w0 r0).2) := by
  refine xM.of (by decide) (Nat.le_of_ble_eq_true rfl) (fun z C E => ?_)
  refine k_iload_n (pc := 0) C dX6_see_0 rfl 1 rfl ?_
  refine cs_X6_226 (pc := 1) C E (c6_isPool) rfl (by decide) rfl (Nat.le_of_ble_eq_true rfl) dX6_see_1 (fun r1 M1 h1 => ?_)
  obtain ⟨rfl, rfl⟩ := h1
  refine k_if_eq (pc := 4) (tgt := 23) C dX6_see_4 (by decide) (fun c4 => ?_) (fun c4 => ?_)
  · simp only [b01, Decidable.not_not] at c4
    refine k_iconst (pc := 23) (v := (-1)) C dX6_see_23 (by decide) ?_
    exact r_i (pc := 24) C E (⟨V, rfl, by unfold sSee; rw [if_neg (fun h => by first | exact c4 h.1 | exact c20 h.2.2 | (have := h.2.1.1; have := h.2.1.2; omega))], by unfold sSee; rw [if_neg (fun h => by first | exact c4 h.1 | exact c20 h.2.2 | (have := h.2.1.1; have := h.2.1.2; omega))]; exact hT⟩) dX6_see_24
  · simp only [b01, Decidable.not_not] at c4
    refine k_iload_n (pc := 7) C dX6_see_7 rfl 2 rfl ?_
    refine k_if_lt (pc := 8) (tgt := 23) C dX6_see_8 (by decide) (fun c8 => ?_) (fun c8 => ?_)
    · rw [Int32.lt_iff_toInt_lt, show (0 : Int32).toInt = 0 from rfl] at c8
      refine k_iconst (pc := 23) (v := (-1)) C dX6_see_23 (by decide) ?_
      exact r_i (pc := 24) C E (⟨V, rfl, by unfold sSee; rw [if_neg (fun h => by first | exact c4 h.1 | exact c20 h.2.2 | (have := h.2.1.1; have := h.2.1.2; omega))], by unfold sSee; rw [if_neg (fun h => by first | exact c4 h.1 | exact c20 h.2.2 | (have := h.2.1.1; have := h.2.1.2; omega))]; exact hT⟩) dX6_see_24
    · rw [Int32.lt_iff_toInt_lt, show (0 : Int32).toInt = 0 from rfl] at c8
      refine k_iload_n (pc := 11) C dX6_see_11 rfl 2 rfl ?_
      refine k_iconst (pc := 12) (v := nI 2) C dX6_see_12 (by decide) ?_
      refine k_icmp_gt (pc := 13) (tgt := 23) C dX6_see_13 (by decide) (fun c13 => ?_) (fun c13 => ?_)
      · rw [Int32.lt_iff_toInt_lt, nI_toInt (by decide)] at c13
        refine k_iconst (pc := 23) (v := (-1)) C dX6_see_23 (by decide) ?_
        exact r_i (pc := 24) C E (⟨V, rfl, by unfold sSee; rw [if_neg (fun h => by first | exact c4 h.1 | exact c20 h.2.2 | (have := h.2.1.1; have := h.2.1.2; omega))], by unfold sSee; rw [if_neg (fun h => by first | exact c4 h.1 | exact c20 h.2.2 | (have := h.2.1.1; have := h.2.1.2; omega))]; exact hT⟩) dX6_see_24
      · rw [Int32.lt_iff_toInt_lt, nI_toInt (by decide)] at c13
        refine k_iload_n (pc := 16) C dX6_see_16 rfl 3 rfl ?_
        refine cs_X6_68 (pc := 17) C E (c6_isRegister) rfl (by decide) rfl (Nat.le_of_ble_eq_true rfl) dX6_see_17 (fun r17 M17 h17 => ?_)
        obtain ⟨rfl, rfl⟩ := h17
        refine k_if_ne (pc := 20) (tgt := 25) C dX6_see_20 (by decide) (fun c20 => ?_) (fun c20 => ?_)
        · simp only [b01, Decidable.not_not] at c20
          have c6 : inR x0 4 ∧ inR w0 3 ∧ inR r0 16 := ⟨c4, by constructor <;> omega, c20⟩
          obtain ⟨p, hp, rfl⟩ := inR_k c6.1
          obtain ⟨wv, hw, rfl⟩ := inR_k c6.2.1
          obtain ⟨x, hx, rfl⟩ := inR_k c6.2.2
          refine k_aload_n (pc := 25) C dX6_see_25 rfl 0 rfl ?_
          refine gf_X6_10 (pc := 26) C (0) (by decide) cm_0 rfl dX6_see_26 ?_
          refine gf_X6_230 (pc := 29) C (1) (by decide) cm_1 rfl dX6_see_29 ?_
          refine k_iload_n (pc := 32) C dX6_see_32 rfl 1 rfl ?_
          refine k_aald (pc := 33) C E (3) (by decide) 3 rfl rfl cm_3 (p) rfl (by omega) (by decide) (36 + 8 * p) rfl dX6_see_33 ?_
          refine k_astore (pc := 34) (lv' := [(4, .ref (ad (36 + 8 * p))), (0, .ref (ad (0))), (1, .int (nI p)), (2, .int (nI wv)), (3, .int (nI x))]) C dX6_see_34 (by decide) rfl ?_
          refine k_aload_n (pc := 36) C dX6_see_36 rfl 1 rfl ?_
          refine gf_X6_10 (pc := 37) C (0) (by decide) cm_0 rfl dX6_see_37 ?_
          refine gf_X6_72 (pc := 40) C (1) (by decide) cm_1 rfl dX6_see_40 ?_
          refine k_iload_n (pc := 43) C dX6_see_43 rfl 4 rfl ?_
          refine k_aald (pc := 44) C E (2) (by decide) 2 rfl rfl cm_2 (x) rfl (by omega) (by decide) (4 + 2 * x) rfl dX6_see_44 ?_
          refine k_iload_n (pc := 45) C dX6_see_45 rfl 3 rfl ?_
          refine k_iconst (pc := 46) (v := nI 2) C dX6_see_46 (by decide) ?_
          refine k_icmp_ne (pc := 47) (tgt := 58) C dX6_see_47 (by decide) (fun c47 => ?_) (fun c47 => ?_)
          · rw [q_eq (by omega) (by decide)] at c47
            refine k_aload (pc := 58) C dX6_see_58 0 rfl ?_
            refine gf_X6_263 (pc := 60) C (36 + 8 * p) (by omega) (cm_pool hp) rfl dX6_see_60 ?_
            refine k_iload_n (pc := 63) C dX6_see_63 rfl 3 rfl ?_
            refine k_aald (pc := 64) C E (36 + 8 * p + 1) (by omega) 2 rfl rfl (cm_side hp) (wv) rfl (by omega) (by decide) (36 + 8 * p + 2 + 2 * wv) rfl dX6_see_64 ?_
            refine cv_X6_86 (pc := 65) C E (c_copy (wR hx) (wQs (isP_p hp) (s := wv) (by omega)) (by omega)) rfl (Nat.lt_of_succ_lt (isW_lt (wR hx))) (cm_w (wR hx)) (by decide) rfl (Nat.le_of_ble_eq_true rfl) dX6_see_65 (fun M65 h65 => ?_)
            subst h65
            rw [hT.qs hp (s := wv) (by omega)]
            refine k_iconst (pc := 68) (v := nI 1) C dX6_see_68 (by decide) ?_
            exact r_i (pc := 69) C E (⟨_, rfl, by unfold sSee; rw [if_pos c6]; rfl, by unfold sSee; rw [if_pos c6]; simp only [rI_n (show p < 2147483648 by omega), rI_n (show wv < 2147483648 by omega), rI_n (show x < 2147483648 by omega)]; first | exact hT.upr hx | (rw [show wv = 2 by omega]; exact hT.upr hx)⟩) dX6_see_69
          · rw [q_eq (by omega) (by decide)] at c47
            refine k_aload (pc := 50) C dX6_see_50 0 rfl ?_
            refine gf_X6_260 (pc := 52) C (36 + 8 * p) (by omega) (cm_pool hp) rfl dX6_see_52 ?_
            refine k_goto (pc := 55) (tgt := 65) C dX6_see_55 (by decide) ?_
            refine cv_X6_86 (pc := 65) C E (c_copy (wR hx) (wQ2 (isP_p hp)) (by omega)) rfl (Nat.lt_of_succ_lt (isW_lt (wR hx))) (cm_w (wR hx)) (by decide) rfl (Nat.le_of_ble_eq_true rfl) dX6_see_65 (fun M65 h65 => ?_)
            subst h65
            rw [(hT.q hp).2.2]
            refine k_iconst (pc := 68) (v := nI 1) C dX6_see_68 (by decide) ?_
            exact r_i (pc := 69) C E (⟨_, rfl, by unfold sSee; rw [if_pos c6]; rfl, by unfold sSee; rw [if_pos c6]; simp only [rI_n (show p < 2147483648 by omega), rI_n (show wv < 2147483648 by omega), rI_n (show x < 2147483648 by omega)]; first | exact hT.upr hx | (rw [show wv = 2 by omega]; exact hT.upr hx)⟩) dX6_see_69
        · simp only [b01, Decidable.not_not] at c20
          refine k_iconst (pc := 23) (v := (-1)) C dX6_see_23 (by decide) ?_
          exact r_i (pc := 24) C E (⟨V, rfl, by unfold sSee; rw [if_neg (fun h => by first | exact c4 h.1 | exact c20 h.2.2 | (have := h.2.1.1; have := h.2.1.2; omega))], by unfold sSee; rw [if_neg (fun h => by first | exact c4 h.1 | exact c20 h.2.2 | (have := h.2.1.1; have := h.2.1.2; omega))]; exact hT⟩) dX6_see_24
set_option maxHeartbeats 4000000 in
set_option maxRecDepth 100000 in
/-- fee -/
theorem c6_fee {T : Nat → Nat} (hT : RC V T) (hB : TB T) {x0 p0 q0 : Int32} : xI l D (xty ca) yX6_fee cX6_fee 5 (some .int) 3 150 [.ref (ad 0), .int x0, .int p0, .int q0] ad (cm ad ca (V, U, sc, ia, la)) (fun r M' => ∃ V' sc', M' = cm ad ca (V', U, sc', ia, la) ∧ r = (sFee T x0 p0 q0).1 ∧ RC V' (sFee T x0 p0 q0).2 ∧ (∀ fp fq, FC sc fp fq → FC sc' (fUp fp x0 p0 q0 p0) (fUp fq x0 p0 q0 q0)) ∧ ∀ k, k < 200 → sc' k = sc k) := by
  refine xM.of (by decide) (Nat.le_of_ble_eq_true rfl) (fun z C E => ?_)
  refine k_iload_n (pc := 0) C dX6_fee_0 rfl 1 rfl ?_
  refine cs_X6_226 (pc := 1) C E (c6_isPool) rfl (by decide) rfl (Nat.le_of_ble_eq_true rfl) dX6_fee_1 (fun r1 M1 h1 => ?_)
  obtain ⟨rfl, rfl⟩ := h1
  refine k_if_eq (pc := 4) (tgt := 22) C dX6_fee_4 (by decide) (fun c4 => ?_) (fun c4 => ?_)
  · simp only [b01, Decidable.not_not] at c4
    refine k_iconst (pc := 22) (v := (-1)) C dX6_fee_22 (by decide) ?_
    exact r_i (pc := 23) C E (⟨V, sc, rfl, by unfold sFee; rw [if_neg (fun h => by first | exact c4 h.1 | (have := h.2.1; have := h.2.2.1; have := h.2.2.2; omega))], by unfold sFee; rw [if_neg (fun h => by first | exact c4 h.1 | (have := h.2.1; have := h.2.2.1; have := h.2.2.2; omega))]; exact hT, fun fp fq hf => by unfold fUp; rw [if_neg (fun h => by first | exact c4 h.1 | (have := h.2.1; have := h.2.2.1; have := h.2.2.2; omega)), if_neg (fun h => by first | exact c4 h.1 | (have := h.2.1; have := h.2.2.1; have := h.2.2.2; omega))]; exact hf, fun _ _ => rfl⟩) dX6_fee_23
  · simp only [b01, Decidable.not_not] at c4
    refine k_iload_n (pc := 7) C dX6_fee_7 rfl 2 rfl ?_
    refine k_if_lt (pc := 8) (tgt := 22) C dX6_fee_8 (by decide) (fun c8 => ?_) (fun c8 => ?_)
    · rw [Int32.lt_iff_toInt_lt, show (0 : Int32).toInt = 0 from rfl] at c8
      refine k_iconst (pc := 22) (v := (-1)) C dX6_fee_22 (by decide) ?_
      exact r_i (pc := 23) C E (⟨V, sc, rfl, by unfold sFee; rw [if_neg (fun h => by first | exact c4 h.1 | (have := h.2.1; have := h.2.2.1; have := h.2.2.2; omega))], by unfold sFee; rw [if_neg (fun h => by first | exact c4 h.1 | (have := h.2.1; have := h.2.2.1; have := h.2.2.2; omega))]; exact hT, fun fp fq hf => by unfold fUp; rw [if_neg (fun h => by first | exact c4 h.1 | (have := h.2.1; have := h.2.2.1; have := h.2.2.2; omega)), if_neg (fun h => by first | exact c4 h.1 | (have := h.2.1; have := h.2.2.1; have := h.2.2.2; omega))]; exact hf, fun _ _ => rfl⟩) dX6_fee_23
    · rw [Int32.lt_iff_toInt_lt, show (0 : Int32).toInt = 0 from rfl] at c8
      refine k_iload_n (pc := 11) C dX6_fee_11 rfl 2 rfl ?_
      refine k_iload_n (pc := 12) C dX6_fee_12 rfl 3 rfl ?_
      refine k_icmp_ge (pc := 13) (tgt := 22) C dX6_fee_13 (by decide) (fun c13 => ?_) (fun c13 => ?_)
      · rw [Int32.le_iff_toInt_le] at c13
        refine k_iconst (pc := 22) (v := (-1)) C dX6_fee_22 (by decide) ?_
        exact r_i (pc := 23) C E (⟨V, sc, rfl, by unfold sFee; rw [if_neg (fun h => by first | exact c4 h.1 | (have := h.2.1; have := h.2.2.1; have := h.2.2.2; omega))], by unfold sFee; rw [if_neg (fun h => by first | exact c4 h.1 | (have := h.2.1; have := h.2.2.1; have := h.2.2.2; omega))]; exact hT, fun fp fq hf => by unfold fUp; rw [if_neg (fun h => by first | exact c4 h.1 | (have := h.2.1; have := h.2.2.1; have := h.2.2.2; omega)), if_neg (fun h => by first | exact c4 h.1 | (have := h.2.1; have := h.2.2.1; have := h.2.2.2; omega))]; exact hf, fun _ _ => rfl⟩) dX6_fee_23
      · rw [Int32.le_iff_toInt_le] at c13
        refine k_iload_n (pc := 16) C dX6_fee_16 rfl 3 rfl ?_
        refine k_ldc (pc := 17) C kc_X6_229 dX6_fee_17 ?_
        refine k_eqi (y := nI 1000000) rfl ?_
        refine k_icmp_le (pc := 19) (tgt := 24) C dX6_fee_19 (by decide) (fun c19 => ?_) (fun c19 => ?_)
        · rw [Int32.le_iff_toInt_le, nI_toInt (by decide)] at c19
          have c6 : okF x0 p0 q0 := ⟨c4, by omega, by omega, c19⟩
          obtain ⟨p, hp, rfl⟩ := inR_k c4
          obtain ⟨t0, t1, t2⟩ := hT.q hp
          have k2 := hB.2.1 (16 + 3 * p + 2) (by omega) (by omega)
          obtain ⟨pn, hpn, rfl⟩ := inR_k (x := p0) (n := 1000001) (by constructor <;> omega)
          obtain ⟨qn, hqn, rfl⟩ := inR_k (x := q0) (n := 1000001) (by constructor <;> omega)
          refine k_aload_n (pc := 24) C dX6_fee_24 rfl 0 rfl ?_
          refine gf_X6_10 (pc := 25) C (0) (by decide) cm_0 rfl dX6_fee_25 ?_
          refine gf_X6_230 (pc := 28) C (1) (by decide) cm_1 rfl dX6_fee_28 ?_
          refine k_iload_n (pc := 31) C dX6_fee_31 rfl 1 rfl ?_
          refine k_aald (pc := 32) C E (3) (by decide) 3 rfl rfl cm_3 (p) rfl (by omega) (by decide) (36 + 8 * p) rfl dX6_fee_32 ?_
          refine cv_X6_234 (pc := 33) C E (c3_isOpen (isP_p hp) (by rw [t2]; exact k2)) rfl (by omega) (cm_pool hp) (by decide) rfl (Nat.le_of_ble_eq_true rfl) dX6_fee_33 (fun r33 M33 h33 => ?_)
          obtain ⟨rfl, rfl⟩ := h33
          rw [t2]
          refine k_topi (fun wo ewo => ?_)
          refine k_istore (pc := 36) (lv' := [(4, .int (wo)), (0, .ref (ad (0))), (1, .int (nI p)), (2, .int (nI pn)), (3, .int (nI qn))]) C dX6_fee_36 (by decide) rfl ?_
          refine k_aload_n (pc := 38) C dX6_fee_38 rfl 1 rfl ?_
          refine gf_X6_10 (pc := 39) C (0) (by decide) cm_0 rfl dX6_fee_39 ?_
          refine gf_X6_230 (pc := 42) C (1) (by decide) cm_1 rfl dX6_fee_42 ?_
          refine k_iload_n (pc := 45) C dX6_fee_45 rfl 2 rfl ?_
          refine k_aald (pc := 46) C E (3) (by decide) 3 rfl rfl cm_3 (p) rfl (by omega) (by decide) (36 + 8 * p) rfl dX6_fee_46 ?_
          refine k_iload_n (pc := 47) C dX6_fee_47 rfl 3 rfl ?_
          refine k_iload_n (pc := 48) C dX6_fee_48 rfl 4 rfl ?_
          refine cv_X6_239 (pc := 49) C E (c3_start (isP_p hp)) rfl (by omega) (cm_pool hp) (by decide) rfl (Nat.le_of_ble_eq_true rfl) dX6_fee_49 (fun M49 h49 => ?_)
          subst h49
          refine k_iload (pc := 52) C dX6_fee_52 0 rfl ?_
          refine k_if_eq (pc := 54) (tgt := 61) C dX6_fee_54 (by decide) (fun c54 => ?_) (fun c54 => ?_)
          · rw [ewo, b10] at c54
            refine k_iconst (pc := 61) (v := nI 0) C dX6_fee_61 (by decide) ?_
            exact r_i (pc := 62) C E (by
  refine ⟨_, _, rfl, ?_, ?_, ?_, ?_⟩
  · unfold sFee
    rw [if_pos c6]
    simp only [rI_n (show p < 2147483648 by omega)]
    first | (rw [if_pos c54]; rfl) | (rw [if_neg c54]; rfl)
  · unfold sFee
    rw [if_pos c6]
    simp only [rI_n (show p < 2147483648 by omega)]
    exact hT.u3 hp (fun k hk => rfl)
  · intro fp fq hf j hj
    unfold fUp
    rw [if_pos c6, if_pos c6]
    simp only [rI_n (show p < 2147483648 by omega), rI_n (show pn < 2147483648 by omega), rI_n (show qn < 2147483648 by omega)]
    by_cases e : p = j
    · subst e
      rw [ups, ups]
      exact ⟨by simp [va_up], by simp [va_up]⟩
    · rw [upn e, upn e]
      have h8 := hf j hj
      exact ⟨by rw [upIn (by omega), upIn (by omega)]; exact h8.1, by rw [upIn (by omega), upIn (by omega)]; exact h8.2⟩
  · intro k hk
    simp [va_up, show ¬ k = 400 + (36 + 8 * p) by omega, show ¬ k = 200 + (36 + 8 * p) by omega]) dX6_fee_62
          · rw [ewo, b10] at c54
            refine k_iconst (pc := 57) (v := nI 1) C dX6_fee_57 (by decide) ?_
            refine k_goto (pc := 58) (tgt := 62) C dX6_fee_58 (by decide) ?_
            exact r_i (pc := 62) C E (by
  refine ⟨_, _, rfl, ?_, ?_, ?_, ?_⟩
  · unfold sFee
    rw [if_pos c6]
    simp only [rI_n (show p < 2147483648 by omega)]
    first | (rw [if_pos c54]; rfl) | (rw [if_neg c54]; rfl)
  · unfold sFee
    rw [if_pos c6]
    simp only [rI_n (show p < 2147483648 by omega)]
    exact hT.u3 hp (fun k hk => rfl)
  · intro fp fq hf j hj
    unfold fUp
    rw [if_pos c6, if_pos c6]
    simp only [rI_n (show p < 2147483648 by omega), rI_n (show pn < 2147483648 by omega), rI_n (show qn < 2147483648 by omega)]
    by_cases e : p = j
    · subst e
      rw [ups, ups]
      exact ⟨by simp [va_up], by simp [va_up]⟩
    · rw [upn e, upn e]
      have h8 := hf j hj
      exact ⟨by rw [upIn (by omega), upIn (by omega)]; exact h8.1, by rw [upIn (by omega), upIn (by omega)]; exact h8.2⟩
  · intro k hk
    simp [va_up, show ¬ k = 400 + (36 + 8 * p) by omega, show ¬ k = 200 + (36 + 8 * p) by omega]) dX6_fee_62
        · rw [Int32.le_iff_toInt_le, nI_toInt (by decide)] at c19
          refine k_iconst (pc := 22) (v := (-1)) C dX6_fee_22 (by decide) ?_
          exact r_i (pc := 23) C E (⟨V, sc, rfl, by unfold sFee; rw [if_neg (fun h => by first | exact c4 h.1 | (have := h.2.1; have := h.2.2.1; have := h.2.2.2; omega))], by unfold sFee; rw [if_neg (fun h => by first | exact c4 h.1 | (have := h.2.1; have := h.2.2.1; have := h.2.2.2; omega))]; exact hT, fun fp fq hf => by unfold fUp; rw [if_neg (fun h => by first | exact c4 h.1 | (have := h.2.1; have := h.2.2.1; have := h.2.2.2; omega)), if_neg (fun h => by first | exact c4 h.1 | (have := h.2.1; have := h.2.2.1; have := h.2.2.2; omega))]; exact hf, fun _ _ => rfl⟩) dX6_fee_23
end ED
