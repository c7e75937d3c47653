section MN9
variable {l : Launch} {D : va_G} {ca : Nat → ClassId} {ad : Nat → Nat} {V U : Nat → Nat} {sc : Nat → Int32} {ia : Nat → Nat → Int32} {la : Nat → Nat → Int64}
set_option maxHeartbeats 4000000 in
set_option maxRecDepth 100000 in
/-- acts -/
theorem c7_acts {T : Nat → Nat} (hT : RM U T) (hB : TB T) {fp fq : Nat → Nat} (hF : FM ia fp fq) (hFB : FB fp fq) {k : Nat} (hk : k < 12) (h30 : sc 30 = 0) : xI l D (xty ca) yX7_acts cX7_acts 5 (some .int) 4 180 [.ref (ad 174), .int (nI k)] ad (cm ad ca (V, U, sc, ia, la)) (fun r M' => ∃ U', M' = cm ad ca (V, U', va_up sc 30 (if (sAct T fp fq (ia 181 k) (ia 182 k) (ia 183 k) (ia 184 k)).1 = -5 then 1 else 0), ia, la) ∧ r = (if (sAct T fp fq (ia 181 k) (ia 182 k) (ia 183 k) (ia 184 k)).1 = -5 then 0 else (sAct T fp fq (ia 181 k) (ia 182 k) (ia 183 k) (ia 184 k)).1) ∧ RM U' (sAct T fp fq (ia 181 k) (ia 182 k) (ia 183 k) (ia 184 k)).2 ∧ ∀ k, 36 ≤ k → U' k = U k) := by
  refine xM.of (by decide) (Nat.le_of_ble_eq_true rfl) (fun z C E => ?_)
  obtain ⟨t, ht⟩ : ∃ t, t = ia 181 k := ⟨_, rfl⟩
  obtain ⟨r, hr⟩ : ∃ t, t = ia 182 k := ⟨_, rfl⟩
  obtain ⟨a, ha⟩ : ∃ t, t = ia 183 k := ⟨_, rfl⟩
  obtain ⟨b, hb⟩ : ∃ t, t = ia 184 k := ⟨_, rfl⟩
  refine k_aload_n (pc := 0) C dX7_acts_0 rfl 0 rfl ?_
  refine gf_X7_39 (pc := 1) C (174) (by decide) cm_174 rfl dX7_acts_1 ?_
  refine k_iload_n (pc := 4) C dX7_acts_4 rfl 1 rfl ?_
  refine k_iald (pc := 5) C E (182) (by decide) cm_182 (k) rfl (by omega) (by decide) dX7_acts_5 ?_
  refine k_eqi (y := r) (hr.symm) ?_
  refine k_istore_n (pc := 6) (lv' := [(2, .int (r)), (0, .ref (ad (174))), (1, .int (nI k))]) C dX7_acts_6 rfl (by decide) rfl ?_
  refine k_aload_n (pc := 7) C dX7_acts_7 rfl 1 rfl ?_
  refine gf_X7_42 (pc := 8) C (174) (by decide) cm_174 rfl dX7_acts_8 ?_
  refine k_iload_n (pc := 11) C dX7_acts_11 rfl 2 rfl ?_
  refine k_iald (pc := 12) C E (183) (by decide) cm_183 (k) rfl (by omega) (by decide) dX7_acts_12 ?_
  refine k_eqi (y := a) (ha.symm) ?_
  refine k_istore_n (pc := 13) (lv' := [(3, .int (a)), (2, .int (r)), (0, .ref (ad (174))), (1, .int (nI k))]) C dX7_acts_13 rfl (by decide) rfl ?_
  refine k_aload_n (pc := 14) C dX7_acts_14 rfl 2 rfl ?_
  refine gf_X7_45 (pc := 15) C (174) (by decide) cm_174 rfl dX7_acts_15 ?_
  refine k_iload_n (pc := 18) C dX7_acts_18 rfl 3 rfl ?_
  refine k_iald (pc := 19) C E (184) (by decide) cm_184 (k) rfl (by omega) (by decide) dX7_acts_19 ?_
  refine k_eqi (y := b) (hb.symm) ?_
  refine k_istore (pc := 20) (lv' := [(4, .int (b)), (3, .int (a)), (2, .int (r)), (0, .ref (ad (174))), (1, .int (nI k))]) C dX7_acts_20 (by decide) rfl ?_
  refine k_aload_n (pc := 22) C dX7_acts_22 rfl 3 rfl ?_
  refine gf_X7_36 (pc := 23) C (174) (by decide) cm_174 rfl dX7_acts_23 ?_
  refine k_iload_n (pc := 26) C dX7_acts_26 rfl 4 rfl ?_
  refine k_iald (pc := 27) C E (181) (by decide) cm_181 (k) rfl (by omega) (by decide) dX7_acts_27 ?_
  refine k_eqi (y := t) (ht.symm) ?_
  by_cases n0 : t = 0
  · refine k_eqi (y := 0) n0 ?_
    refine k_tableIn (pc := 28) (tgt := 60) C dX7_acts_28 (by decide) (by decide) rfl (by decide) ?_
    refine k_aload_n (pc := 60) C dX7_acts_60 rfl 3 rfl ?_
    refine k_iload_n (pc := 61) C dX7_acts_61 rfl 2 rfl ?_
    refine k_iload_n (pc := 62) C dX7_acts_62 rfl 1 rfl ?_
    refine k_iload (pc := 63) C dX7_acts_63 0 rfl ?_
    refine cv_X7_186 (pc := 65) C E (c7_add hT hB) rfl (by decide) cm_174 (by decide) rfl (Nat.le_of_ble_eq_true rfl) dX7_acts_65 (fun r65 M65 h65 => ?_)
    exact r_i (pc := 68) C E (by
  rw [← ht, ← hr, ← ha, ← hb]
  have e9 : sAct T fp fq t r a b = sAdd T r a b := by unfold sAct; rw [if_pos n0]
  rw [e9]
  obtain ⟨W, rfl, h1, h2, h3⟩ := h65
  have n5 : ¬ (sAdd T r a b).1 = -5 := fun q => by
    rcases sAdd_A (T := T) (x := r) (y := a) (z := b) with h | h | h <;> rw [q] at h <;> exact absurd h (by decide)
  rw [if_neg n5, if_neg n5]
  have e0 : va_up sc 30 0 = sc := by rw [← h30]; exact upSelf sc 30
  rw [e0]
  exact ⟨W, rfl, h1, h2, h3⟩) dX7_acts_68
  by_cases n1 : t = 1
  · refine k_eqi (y := 1) n1 ?_
    refine k_tableIn (pc := 28) (tgt := 69) C dX7_acts_28 (by decide) (by decide) rfl (by decide) ?_
    refine k_aload_n (pc := 69) C dX7_acts_69 rfl 3 rfl ?_
    refine k_iload_n (pc := 70) C dX7_acts_70 rfl 2 rfl ?_
    refine k_iload_n (pc := 71) C dX7_acts_71 rfl 1 rfl ?_
    refine k_iload (pc := 72) C dX7_acts_72 0 rfl ?_
    refine cv_X7_190 (pc := 74) C E (c7_take hT hB) rfl (by decide) cm_174 (by decide) rfl (Nat.le_of_ble_eq_true rfl) dX7_acts_74 (fun r74 M74 h74 => ?_)
    exact r_i (pc := 77) C E (by
  rw [← ht, ← hr, ← ha, ← hb]
  have e9 : sAct T fp fq t r a b = sTake T r a b := by unfold sAct; rw [if_neg n0, if_pos n1]
  rw [e9]
  obtain ⟨W, rfl, h1, h2, h3⟩ := h74
  have n5 : ¬ (sTake T r a b).1 = -5 := fun q => by
    rcases sTake_A (T := T) (x := r) (y := a) (z := b) with h | h | h <;> rw [q] at h <;> exact absurd h (by decide)
  rw [if_neg n5, if_neg n5]
  have e0 : va_up sc 30 0 = sc := by rw [← h30]; exact upSelf sc 30
  rw [e0]
  exact ⟨W, rfl, h1, h2, h3⟩) dX7_acts_77
  by_cases n2 : t = 2
  · refine k_eqi (y := 2) n2 ?_
    refine k_tableIn (pc := 28) (tgt := 78) C dX7_acts_28 (by decide) (by decide) rfl (by decide) ?_
    refine k_aload_n (pc := 78) C dX7_acts_78 rfl 3 rfl ?_
    refine k_iload (pc := 79) C dX7_acts_79 0 rfl ?_
    refine k_iload_n (pc := 81) C dX7_acts_81 rfl 2 rfl ?_
    refine k_iconst (pc := 82) (v := nI 1) C dX7_acts_82 (by decide) ?_
    refine k_iand (pc := 83) C dX7_acts_83 ?_
    refine k_eqi (y := r &&& 1) (rfl) ?_
    refine k_iload_n (pc := 84) C dX7_acts_84 rfl 1 rfl ?_
    refine k_iload_n (pc := 85) C dX7_acts_85 rfl 2 rfl ?_
    refine cv_X7_193 (pc := 86) C E (c7_give hT hB hF hFB) rfl (by decide) cm_174 (by decide) rfl (Nat.le_of_ble_eq_true rfl) dX7_acts_86 (fun r86 M86 h86 => ?_)
    exact r_i (pc := 89) C E (by
  rw [← ht, ← hr, ← ha, ← hb]
  have e9 : sAct T fp fq t r a b = sGive T fp fq b (r &&& 1) a r := by unfold sAct; rw [if_neg n0, if_neg n1, if_pos n2]
  rw [e9]
  obtain ⟨W, rfl, h1, h2, h3⟩ := h86
  have n5 : ¬ (sGive T fp fq b (r &&& 1) a r).1 = -5 := fun q => by
    rcases sGive_A (T := T) (fp := fp) (fq := fq) (x := b) (d := r &&& 1) (a := a) (r := r) with h | h | h | h <;> rw [q] at h <;> exact absurd h (by decide)
  rw [if_neg n5, if_neg n5]
  have e0 : va_up sc 30 0 = sc := by rw [← h30]; exact upSelf sc 30
  rw [e0]
  exact ⟨W, rfl, h1, h2, h3⟩) dX7_acts_89
  by_cases n3 : t = 3
  · refine k_eqi (y := 3) n3 ?_
    refine k_tableIn (pc := 28) (tgt := 90) C dX7_acts_28 (by decide) (by decide) rfl (by decide) ?_
    refine k_aload_n (pc := 90) C dX7_acts_90 rfl 3 rfl ?_
    refine k_iload_n (pc := 91) C dX7_acts_91 rfl 2 rfl ?_
    refine k_iload_n (pc := 92) C dX7_acts_92 rfl 1 rfl ?_
    refine k_iload (pc := 93) C dX7_acts_93 0 rfl ?_
    refine k_i2l (pc := 95) C dX7_acts_95 rfl ?_
    refine k_ldc2 (pc := 96) C kc_X7_181 dX7_acts_96 ?_
    refine k_eql (y := lN 2) rfl ?_
    refine k_iconst (pc := 99) (v := nI 2) C dX7_acts_99 (by decide) ?_
    refine cv_X7_197 (pc := 100) C E (c7_times hT hB) rfl (by decide) cm_174 (by decide) rfl (Nat.le_of_ble_eq_true rfl) dX7_acts_100 (fun r100 M100 h100 => ?_)
    exact r_i (pc := 103) C E (by
  rw [← ht, ← hr, ← ha, ← hb]
  have e9 : sAct T fp fq t r a b = sTimes T r a b.toInt64 2 2 := by unfold sAct; rw [if_neg n0, if_neg n1, if_neg n2, if_pos n3]
  rw [e9]
  exact h100) dX7_acts_103
  refine k_tableOut (pc := 28) (tgt := 104) C dX7_acts_28 (swOut n0 n1 n2 n3) (by decide) ?_
  refine k_aload_n (pc := 104) C dX7_acts_104 rfl 3 rfl ?_
  refine k_iload_n (pc := 105) C dX7_acts_105 rfl 2 rfl ?_
  refine k_iload_n (pc := 106) C dX7_acts_106 rfl 1 rfl ?_
  refine k_iload (pc := 107) C dX7_acts_107 0 rfl ?_
  refine cv_X7_201 (pc := 109) C E (c7_divide hT hB) rfl (by decide) cm_174 (by decide) rfl (Nat.le_of_ble_eq_true rfl) dX7_acts_109 (fun r109 M109 h109 => ?_)
  exact r_i (pc := 112) C E (by
  rw [← ht, ← hr, ← ha, ← hb]
  have e9 : sAct T fp fq t r a b = sDiv T r a b := by unfold sAct; rw [if_neg n0, if_neg n1, if_neg n2, if_neg n3]
  rw [e9]
  exact h109) dX7_acts_112
set_option maxHeartbeats 4000000 in
set_option maxRecDepth 100000 in
/-- done -/
theorem c7_done {T : Nat → Nat} (hT : RM U T) (hB : TB T) {fp fq : Nat → Nat} (hF : FM ia fp fq) (hFB : FB fp fq) {n : Nat} (hn : sc 35 = nI n) (hn9 : n ≤ 12) {g : Nat → Int32 × Int32 × Int32 × Int32} (hg : ∀ k, k < n → ia 181 k = (g k).1 ∧ ia 182 k = (g k).2.1 ∧ ia 183 k = (g k).2.2.1 ∧ ia 184 k = (g k).2.2.2) : xI l D (xty ca) yX7_done cX7_done 5 (some .int) 5 240 [.ref (ad 174)] ad (cm ad ca (V, U, sc, ia, la)) (fun r M' => ∃ U' sc', M' = cm ad ca (V, U', sc', ia, la) ∧ r = (sRow fp fq T g n n 0 T (sc 36)).1 ∧ RM U' (sRow fp fq T g n n 0 T (sc 36)).2.1 ∧ sc' 36 = (sRow fp fq T g n n 0 T (sc 36)).2.2.1 ∧ sc' 37 = (sRow fp fq T g n n 0 T (sc 36)).2.2.2 ∧ sc' 35 = 0 ∧ ∀ k, k ≠ 30 → k ≠ 35 → k ≠ 36 → k ≠ 37 → sc' k = sc k) := by
  refine xM.of (by decide) (Nat.le_of_ble_eq_true rfl) (fun z C E => ?_)
  obtain ⟨R, hR⟩ : ∃ R, R = sRow fp fq T g n n 0 T (sc 36) := ⟨_, rfl⟩
  have loop : ∀ (m k : Nat) (T9 W : Nat → Nat) (s : Nat → Int32) (c : Int32), k + m = n → RM W T9 → TB T9 → (∀ j, j < 28 → W (50 + j) = T j) → s 36 = c → s 37 = 0 → s 35 = 0 → (∀ j, j ≠ 30 → j ≠ 35 → j ≠ 36 → j ≠ 37 → s j = sc j) → sRow fp fq T g n m k T9 c = R → xK z (xw ad (cm ad ca (V, W, s, ia, la)) 187) 0 0 40 [(2, .int (nI k)), (1, .int (nI n)), (0, .ref (ad 174))] [] := by
    intro m
    induction m with
    | zero =>
      intro k T9 W s c hk wT wB wb s3 s4 s0 sf hr
      refine k_iload_n (pc := 40) C dX7_done_40 rfl 0 rfl ?_
      refine k_iload_n (pc := 41) C dX7_done_41 rfl 1 rfl ?_
      refine k_icmp_ge (pc := 42) (tgt := 136) C dX7_done_42 (by decide) (fun c42 => ?_) (fun c42 => ?_)
      · rw [q_le (by omega) (by omega)] at c42
        refine k_iload_n (pc := 136) C dX7_done_136 rfl 1 rfl ?_
        exact r_i (pc := 137) C E (by
  rw [← hR, ← hr]
  exact ⟨W, s, rfl, rfl, wT, s3, s4, s0, sf⟩) dX7_done_137
      · rw [q_le (by omega) (by omega)] at c42
        exact absurd (by omega) c42
    | succ m ih =>
      intro k T9 W s c hk0 wT wB wb s3 s4 s0 sf hr
      have hk : k < 12 := by omega
      obtain ⟨g1, g2, g3, g4⟩ := hg k (by omega)
      rw [sRow] at hr
      refine k_iload_n (pc := 40) C dX7_done_40 rfl 0 rfl ?_
      refine k_iload_n (pc := 41) C dX7_done_41 rfl 1 rfl ?_
      refine k_icmp_ge (pc := 42) (tgt := 136) C dX7_done_42 (by decide) (fun c42 => ?_) (fun c42 => ?_)
      · rw [q_le (by omega) (by omega)] at c42
        exact absurd c42 (by omega)
      · rw [q_le (by omega) (by omega)] at c42
        refine k_aload_n (pc := 45) C dX7_done_45 rfl 2 rfl ?_
        refine k_dup (pc := 46) C dX7_done_46 rfl ?_
        refine gf_X7_207 (pc := 47) C (174) (by decide) cm_174 rfl dX7_done_47 ?_
        refine k_iconst (pc := 50) (v := nI 1) C dX7_done_50 (by decide) ?_
        refine k_iadd (pc := 51) C dX7_done_51 ?_
        refine k_eqi (y := c + 1) (by rw [s3]; rfl) ?_
        refine pf_X7_207 (pc := 52) C (174) (by decide) cm_174 (Nat.le_of_ble_eq_true rfl) dX7_done_52 ?_
        rw [cm_s36]
        refine k_aload_n (pc := 55) C dX7_done_55 rfl 2 rfl ?_
        refine k_iconst (pc := 56) (v := nI 0) C dX7_done_56 (by decide) ?_
        refine pf_X7_51 (pc := 57) C (174) (by decide) cm_174 (Nat.le_of_ble_eq_true rfl) dX7_done_57 ?_
        rw [cm_s30]
        obtain ⟨s1, hs1⟩ : ∃ s9, s9 = va_up (va_up s 36 (c + 1)) 30 (nI 0) := ⟨_, rfl⟩
        rw [← hs1]
        refine k_aload_n (pc := 60) C dX7_done_60 rfl 2 rfl ?_
        refine k_iload_n (pc := 61) C dX7_done_61 rfl 0 rfl ?_
        refine cv_X7_210 (pc := 62) C E (c7_acts wT wB hF hFB (k := k) hk (by rw [hs1, upIs]; rfl)) rfl (by decide) cm_174 (by decide) rfl (Nat.le_of_ble_eq_true rfl) dX7_done_62 (fun r62 M62 h62 => ?_)
        obtain ⟨W1, rfl, hr1, wT1, wf1⟩ := h62
        rw [g1, g2, g3, g4] at hr1 wT1 ⊢
        have wB1 := sAct_TB (fp := fp) (fq := fq) wB hFB (g k).1 (g k).2.1 (g k).2.2.1 (g k).2.2.2
        have hA := sAct_A (T := T9) (fp := fp) (fq := fq) (t := (g k).1) (r := (g k).2.1) (a := (g k).2.2.1) (b := (g k).2.2.2)
        obtain ⟨A, hAe⟩ : ∃ A, A = (sAct T9 fp fq (g k).1 (g k).2.1 (g k).2.2.1 (g k).2.2.2).1 := ⟨_, rfl⟩
        rw [← hAe] at hr1 hA hr ⊢
        obtain ⟨th, hth⟩ : ∃ t : Int32, t = if A = -5 then 1 else 0 := ⟨_, rfl⟩
        rw [← hth]
        have wb1 : ∀ j, j < 28 → W1 (50 + j) = T j := fun j hj => by rw [wf1 _ (by omega)]; exact wb j hj
        refine k_istore_n (pc := 65) (lv' := [(3, .int (r62)), (2, .int (nI k)), (1, .int (nI n)), (0, .ref (ad (174)))]) C dX7_done_65 rfl (by decide) rfl ?_
        refine k_iload_n (pc := 66) C dX7_done_66 rfl 0 rfl ?_
        refine k_if_lt (pc := 67) (tgt := 77) C dX7_done_67 (by decide) (fun c67 => ?_) (fun c67 => ?_)
        · have n5 : ¬ A = -5 := fun q => by rw [hr1, if_pos q] at c67; exact absurd c67 (by decide)
          rw [if_neg n5] at hr1 hth
          have n1 : ¬ A = 1 := fun q => by rw [hr1, q] at c67; exact absurd c67 (by decide)
          rw [if_neg n1, if_neg n5] at hr
          refine k_aload_n (pc := 77) C dX7_done_77 rfl 3 rfl ?_
          refine k_aload_n (pc := 78) C dX7_done_78 rfl 3 rfl ?_
          refine gf_X7_51 (pc := 79) C (174) (by decide) cm_174 rfl dX7_done_79 ?_
          refine k_eqi (y := th) (upIs) ?_
          refine k_if_le (pc := 82) (tgt := 89) C dX7_done_82 (by decide) (fun c82 => ?_) (fun c82 => ?_)
          · skip
            refine k_iload_n (pc := 89) C dX7_done_89 rfl 0 rfl ?_
            refine pf_X7_204 (pc := 90) C (174) (by decide) cm_174 (Nat.le_of_ble_eq_true rfl) dX7_done_90 ?_
            rw [cm_s37]
            refine k_aload_n (pc := 93) C dX7_done_93 rfl 3 rfl ?_
            refine k_iconst (pc := 94) (v := nI 0) C dX7_done_94 (by decide) ?_
            refine pf_X7_51 (pc := 95) C (174) (by decide) cm_174 (Nat.le_of_ble_eq_true rfl) dX7_done_95 ?_
            rw [cm_s30]
            refine k_iconst (pc := 98) (v := nI 0) C dX7_done_98 (by decide) ?_
            refine k_istore (pc := 99) (lv' := [(4, .int (nI 0)), (3, .int (r62)), (2, .int (nI k)), (1, .int (nI n)), (0, .ref (ad (174)))]) C dX7_done_99 (by decide) rfl ?_
            obtain ⟨s4x, hs4x⟩ : ∃ s9, s9 = va_up (va_up (va_up s1 30 th) 37 (r62)) 30 (nI 0) := ⟨_, rfl⟩
            have hq : va_up (va_up (va_up s1 30 th) 37 (r62)) 30 (nI 0) = s4x := hs4x.symm
            first
              | rw [hq]
              | (rw [show nI 1 = (1 : Int32) from rfl]; rw [hq])
            have x36 : s4x 36 = c + 1 := by rw [hs4x, upIn (by decide), upIn (by decide), upIn (by decide), hs1, upIn (by decide), upIs]
            have x37 : s4x 37 = A := by rw [hs4x, upIn (by decide), upIs]; exact hr1
            have x35 : s4x 35 = 0 := by rw [hs4x, upIn (by decide), upIn (by decide), upIn (by decide), hs1, upIn (by decide), upIn (by decide), s0]
            have xf : ∀ j, j ≠ 30 → j ≠ 35 → j ≠ 36 → j ≠ 37 → s4x j = sc j := fun j j0 j1 j2 j3 => by rw [hs4x, upIn j0, upIn j3, upIn j0, hs1, upIn j0, upIn j2]; exact sf j j0 j1 j2 j3
            have rl : ∀ (q i : Nat) (W2 : Nat → Nat), 28 - i < q → i ≤ 28 → (∀ j, j < i → W2 j = T j) → (∀ j, 28 ≤ j → W2 j = W1 j) → xK z (xw ad (cm ad ca (V, W2, s4x, ia, la)) 187) 0 0 101 [(4, .int (nI i)), (2, .int (nI k)), (0, .ref (ad 174))] [] := by
              intro q
              induction q with
              | zero => intro i W2 h; exact absurd h (Nat.not_lt_zero _)
              | succ q iq =>
                intro i W2 hq hi r1 r2
                refine k_iload (pc := 101) C dX7_done_101 0 rfl ?_
                refine k_bipush (pc := 103) (v := nI 28) C dX7_done_103 (by decide) ?_
                refine k_icmp_ge (pc := 105) (tgt := 125) C dX7_done_105 (by decide) (fun c105 => ?_) (fun c105 => ?_)
                · rw [q_le (by decide) (by omega)] at c105
                  refine k_bipush (pc := 125) (v := (-10)) C dX7_done_125 (by decide) ?_
                  refine k_iload_n (pc := 127) C dX7_done_127 rfl 1 rfl ?_
                  refine k_isub (pc := 128) C dX7_done_128 ?_
                  refine k_eqi (y := iz (-10 - (k : Int))) (by rw [show (-10 : Int32) = iz (-10) by decide, iz_n k, iz_sub]) ?_
                  exact r_i (pc := 129) C E (by
              rw [← hR, ← hr]
              exact ⟨W2, s4x, rfl, rfl, fun j hj => r1 j (by omega), x36, x37, x35, xf⟩) dX7_done_129
                · rw [q_le (by decide) (by omega)] at c105
                  refine k_aload_n (pc := 108) C dX7_done_108 rfl 2 rfl ?_
                  refine k_iload (pc := 109) C dX7_done_109 0 rfl ?_
                  refine k_bipush (pc := 111) (v := nI 50) C dX7_done_111 (by decide) ?_
                  refine k_iload (pc := 113) C dX7_done_113 0 rfl ?_
                  refine k_iadd (pc := 115) C dX7_done_115 ?_
                  refine k_eqi (y := nI (50 + i)) (nI_add _ _) ?_
                  refine cv_X7_72 (pc := 116) C E (c7_copy (t := i) (a := 50 + i) (by omega) (by omega)) rfl (by decide) cm_174 (by decide) rfl (Nat.le_of_ble_eq_true rfl) dX7_done_116 (fun M116 h116 => ?_)
                  subst h116
                  rw [r2 (50 + i) (by omega), wb1 i (by omega)]
                  refine k_iinc (pc := 119) (v := nI (i + 1)) (lv' := [(4, .int (nI (i + 1))), (2, .int (nI k)), (0, .ref (ad (174)))]) C dX7_done_119 (k := 0) rfl (nI_1 _) (by decide) rfl ?_
                  refine k_goto (pc := 122) (tgt := 101) C dX7_done_122 (by decide) ?_
                  refine k_sub [0, 1, 2] rfl ?_
                  exact iq (i + 1) _ (by omega) (by omega) (fun j hj => by
                    by_cases e : i = j
                    · subst e; rw [ups]
                    · rw [upn e]; exact r1 j (by omega)) (fun j hj => by rw [upn (by omega)]; exact r2 j hj)
            refine k_sub [0, 2, 4] rfl ?_
            exact rl 29 0 W1 (by decide) (by decide) (fun j hj => absurd hj (Nat.not_lt_zero _)) (fun _ _ => rfl)
          · rw [hth] at c82; exact absurd (by decide) c82
        · skip
          refine k_aload_n (pc := 70) C dX7_done_70 rfl 3 rfl ?_
          refine gf_X7_51 (pc := 71) C (174) (by decide) cm_174 rfl dX7_done_71 ?_
          refine k_eqi (y := th) (upIs) ?_
          refine k_if_le (pc := 74) (tgt := 130) C dX7_done_74 (by decide) (fun c74 => ?_) (fun c74 => ?_)
          · have n5 : ¬ A = -5 := fun q => by rw [hth, if_pos q] at c74; exact absurd c74 (by decide)
            rw [if_neg n5] at hr1 hth
            have n1 : A = 1 := by
              rw [hr1] at c67
              rcases hA with h | h | h | h | h | h <;> first | exact h | exact absurd h n5 | (rw [h] at c67; exact absurd (by decide) c67)
            rw [if_pos n1] at hr
            refine k_iinc (pc := 130) (v := nI (k + 1)) (lv' := [(2, .int (nI (k + 1))), (3, .int (r62)), (1, .int (nI n)), (0, .ref (ad (174)))]) C dX7_done_130 (k := 1) rfl (nI_1 _) (by decide) rfl ?_
            refine k_goto (pc := 133) (tgt := 40) C dX7_done_133 (by decide) ?_
            refine k_sub [0, 2, 3] rfl ?_
            exact ih (k + 1) _ W1 _ (c + 1) (by omega) wT1 wB1 wb1 (by rw [upIn (by decide), hs1, upIn (by decide), upIs]) (by rw [upIn (by decide), hs1, upIn (by decide), upIn (by decide), s4]) (by rw [upIn (by decide), hs1, upIn (by decide), upIn (by decide), s0]) (fun j j0 j1 j2 j3 => by rw [upIn j0, hs1, upIn j0, upIn j2]; exact sf j j0 j1 j2 j3) hr
          · have n5 : A = -5 := by
              rcases Classical.em (A = -5) with h | h
              · exact h
              · rw [hth, if_neg h] at c74; exact absurd (by decide) c74
            rw [if_pos n5] at hr1 hth
            rw [if_neg (fun q => by rw [n5] at q; exact absurd q (by decide)), if_pos n5] at hr
            refine k_aload_n (pc := 77) C dX7_done_77 rfl 3 rfl ?_
            refine k_aload_n (pc := 78) C dX7_done_78 rfl 3 rfl ?_
            refine gf_X7_51 (pc := 79) C (174) (by decide) cm_174 rfl dX7_done_79 ?_
            refine k_eqi (y := th) (upIs) ?_
            refine k_if_le (pc := 82) (tgt := 89) C dX7_done_82 (by decide) (fun c82 => ?_) (fun c82 => ?_)
            · rw [hth] at c82; exact absurd c82 (by decide)
            · skip
              refine k_iconst (pc := 85) (v := nI 1) C dX7_done_85 (by decide) ?_
              refine k_goto (pc := 86) (tgt := 90) C dX7_done_86 (by decide) ?_
              refine pf_X7_204 (pc := 90) C (174) (by decide) cm_174 (Nat.le_of_ble_eq_true rfl) dX7_done_90 ?_
              rw [cm_s37]
              refine k_aload_n (pc := 93) C dX7_done_93 rfl 3 rfl ?_
              refine k_iconst (pc := 94) (v := nI 0) C dX7_done_94 (by decide) ?_
              refine pf_X7_51 (pc := 95) C (174) (by decide) cm_174 (Nat.le_of_ble_eq_true rfl) dX7_done_95 ?_
              rw [cm_s30]
              refine k_iconst (pc := 98) (v := nI 0) C dX7_done_98 (by decide) ?_
              refine k_istore (pc := 99) (lv' := [(4, .int (nI 0)), (3, .int (r62)), (2, .int (nI k)), (1, .int (nI n)), (0, .ref (ad (174)))]) C dX7_done_99 (by decide) rfl ?_
              obtain ⟨s4x, hs4x⟩ : ∃ s9, s9 = va_up (va_up (va_up s1 30 th) 37 (1)) 30 (nI 0) := ⟨_, rfl⟩
              have hq : va_up (va_up (va_up s1 30 th) 37 (1)) 30 (nI 0) = s4x := hs4x.symm
              first
                | rw [hq]
                | (rw [show nI 1 = (1 : Int32) from rfl]; rw [hq])
              have x36 : s4x 36 = c + 1 := by rw [hs4x, upIn (by decide), upIn (by decide), upIn (by decide), hs1, upIn (by decide), upIs]
              have x37 : s4x 37 = 1 := by rw [hs4x, upIn (by decide), upIs]
              have x35 : s4x 35 = 0 := by rw [hs4x, upIn (by decide), upIn (by decide), upIn (by decide), hs1, upIn (by decide), upIn (by decide), s0]
              have xf : ∀ j, j ≠ 30 → j ≠ 35 → j ≠ 36 → j ≠ 37 → s4x j = sc j := fun j j0 j1 j2 j3 => by rw [hs4x, upIn j0, upIn j3, upIn j0, hs1, upIn j0, upIn j2]; exact sf j j0 j1 j2 j3
              have rl : ∀ (q i : Nat) (W2 : Nat → Nat), 28 - i < q → i ≤ 28 → (∀ j, j < i → W2 j = T j) → (∀ j, 28 ≤ j → W2 j = W1 j) → xK z (xw ad (cm ad ca (V, W2, s4x, ia, la)) 187) 0 0 101 [(4, .int (nI i)), (2, .int (nI k)), (0, .ref (ad 174))] [] := by
                intro q
                induction q with
                | zero => intro i W2 h; exact absurd h (Nat.not_lt_zero _)
                | succ q iq =>
                  intro i W2 hq hi r1 r2
                  refine k_iload (pc := 101) C dX7_done_101 0 rfl ?_
                  refine k_bipush (pc := 103) (v := nI 28) C dX7_done_103 (by decide) ?_
                  refine k_icmp_ge (pc := 105) (tgt := 125) C dX7_done_105 (by decide) (fun c105 => ?_) (fun c105 => ?_)
                  · rw [q_le (by decide) (by omega)] at c105
                    refine k_bipush (pc := 125) (v := (-10)) C dX7_done_125 (by decide) ?_
                    refine k_iload_n (pc := 127) C dX7_done_127 rfl 1 rfl ?_
                    refine k_isub (pc := 128) C dX7_done_128 ?_
                    refine k_eqi (y := iz (-10 - (k : Int))) (by rw [show (-10 : Int32) = iz (-10) by decide, iz_n k, iz_sub]) ?_
                    exact r_i (pc := 129) C E (by
                rw [← hR, ← hr]
                exact ⟨W2, s4x, rfl, rfl, fun j hj => r1 j (by omega), x36, x37, x35, xf⟩) dX7_done_129
                  · rw [q_le (by decide) (by omega)] at c105
                    refine k_aload_n (pc := 108) C dX7_done_108 rfl 2 rfl ?_
                    refine k_iload (pc := 109) C dX7_done_109 0 rfl ?_
                    refine k_bipush (pc := 111) (v := nI 50) C dX7_done_111 (by decide) ?_
                    refine k_iload (pc := 113) C dX7_done_113 0 rfl ?_
                    refine k_iadd (pc := 115) C dX7_done_115 ?_
                    refine k_eqi (y := nI (50 + i)) (nI_add _ _) ?_
                    refine cv_X7_72 (pc := 116) C E (c7_copy (t := i) (a := 50 + i) (by omega) (by omega)) rfl (by decide) cm_174 (by decide) rfl (Nat.le_of_ble_eq_true rfl) dX7_done_116 (fun M116 h116 => ?_)
                    subst h116
                    rw [r2 (50 + i) (by omega), wb1 i (by omega)]
                    refine k_iinc (pc := 119) (v := nI (i + 1)) (lv' := [(4, .int (nI (i + 1))), (2, .int (nI k)), (0, .ref (ad (174)))]) C dX7_done_119 (k := 0) rfl (nI_1 _) (by decide) rfl ?_
                    refine k_goto (pc := 122) (tgt := 101) C dX7_done_122 (by decide) ?_
                    refine k_sub [0, 1, 2] rfl ?_
                    exact iq (i + 1) _ (by omega) (by omega) (fun j hj => by
                      by_cases e : i = j
                      · subst e; rw [ups]
                      · rw [upn e]; exact r1 j (by omega)) (fun j hj => by rw [upn (by omega)]; exact r2 j hj)
              refine k_sub [0, 2, 4] rfl ?_
              exact rl 29 0 W1 (by decide) (by decide) (fun j hj => absurd hj (Nat.not_lt_zero _)) (fun _ _ => rfl)
  have l0 : ∀ (q i : Nat) (W : Nat → Nat), 28 - i < q → i ≤ 28 → (∀ j, j < i → W (50 + j) = T j) → (∀ j, j < 50 → W j = U j) → xK z (xw ad (cm ad ca (V, W, sc, ia, la)) 187) 0 0 2 [(1, .int (nI i)), (0, .ref (ad 174))] [] := by
    intro q
    induction q with
    | zero => intro i W h; exact absurd h (Nat.not_lt_zero _)
    | succ q iq =>
      intro i W hq hi r1 r2
      refine k_iload_n (pc := 2) C dX7_done_2 rfl 0 rfl ?_
      refine k_bipush (pc := 3) (v := nI 28) C dX7_done_3 (by decide) ?_
      refine k_icmp_ge (pc := 5) (tgt := 23) C dX7_done_5 (by decide) (fun c5 => ?_) (fun c5 => ?_)
      · rw [q_le (by decide) (by omega)] at c5
        refine k_aload_n (pc := 23) C dX7_done_23 rfl 1 rfl ?_
        refine gf_X7_183 (pc := 24) C (174) (by decide) cm_174 rfl dX7_done_24 ?_
        refine k_eqi (y := nI n) (hn) ?_
        refine k_istore_n (pc := 27) (lv' := [(1, .int (nI n)), (0, .ref (ad (174)))]) C dX7_done_27 rfl (by decide) rfl ?_
        refine k_aload_n (pc := 28) C dX7_done_28 rfl 1 rfl ?_
        refine k_iconst (pc := 29) (v := nI 0) C dX7_done_29 (by decide) ?_
        refine pf_X7_183 (pc := 30) C (174) (by decide) cm_174 (Nat.le_of_ble_eq_true rfl) dX7_done_30 ?_
        rw [cm_s35]
        refine k_aload_n (pc := 33) C dX7_done_33 rfl 1 rfl ?_
        refine k_iconst (pc := 34) (v := nI 0) C dX7_done_34 (by decide) ?_
        refine pf_X7_204 (pc := 35) C (174) (by decide) cm_174 (Nat.le_of_ble_eq_true rfl) dX7_done_35 ?_
        rw [cm_s37]
        refine k_iconst (pc := 38) (v := nI 0) C dX7_done_38 (by decide) ?_
        refine k_istore_n (pc := 39) (lv' := [(2, .int (nI 0)), (1, .int (nI n)), (0, .ref (ad (174)))]) C dX7_done_39 rfl (by decide) rfl ?_
        refine k_sub [0, 1, 2] rfl ?_
        exact loop n 0 T W _ (sc 36) (by omega) (hT.o (fun j hj => r2 j (by omega))) hB (fun j hj => r1 j (by omega)) (by rw [upIn (by decide), upIn (by decide)]) (by rw [upIs]; rfl) (by rw [upIn (by decide), upIs]; rfl) (fun j j0 j1 j2 j3 => by rw [upIn j3, upIn j1]) hR.symm
      · rw [q_le (by decide) (by omega)] at c5
        refine k_aload_n (pc := 8) C dX7_done_8 rfl 1 rfl ?_
        refine k_bipush (pc := 9) (v := nI 50) C dX7_done_9 (by decide) ?_
        refine k_iload_n (pc := 11) C dX7_done_11 rfl 0 rfl ?_
        refine k_iadd (pc := 12) C dX7_done_12 ?_
        refine k_eqi (y := nI (50 + i)) (nI_add _ _) ?_
        refine k_iload_n (pc := 13) C dX7_done_13 rfl 0 rfl ?_
        refine cv_X7_72 (pc := 14) C E (c7_copy (t := 50 + i) (a := i) (by omega) (by omega)) rfl (by decide) cm_174 (by decide) rfl (Nat.le_of_ble_eq_true rfl) dX7_done_14 (fun M14 h14 => ?_)
        subst h14
        rw [r2 i (by omega), hT i (by omega)]
        refine k_iinc (pc := 17) (v := nI (i + 1)) (lv' := [(1, .int (nI (i + 1))), (0, .ref (ad (174)))]) C dX7_done_17 (k := 0) rfl (nI_1 _) (by decide) rfl ?_
        refine k_goto (pc := 20) (tgt := 2) C dX7_done_20 (by decide) ?_
        refine k_sub [0, 1] rfl ?_
        exact iq (i + 1) _ (by omega) (by omega) (fun j hj => by
          by_cases e : i = j
          · subst e; rw [ups]
          · rw [upn (by omega)]; exact r1 j (by omega)) (fun j hj => by rw [upn (by omega)]; exact r2 j hj)
  refine k_iconst (pc := 0) (v := nI 0) C dX7_done_0 (by decide) ?_
  refine k_istore_n (pc := 1) (lv' := [(1, .int (nI 0)), (0, .ref (ad (174)))]) C dX7_done_1 rfl (by decide) rfl ?_
  refine k_sub [0, 1] rfl ?_
  exact l0 29 0 U (by decide) (by decide) (fun j hj => absurd hj (Nat.not_lt_zero _)) (fun _ _ => rfl)
end MN9
