section DE
variable {l : Launch} {D : va_G} {ca : Nat → ClassId} {ad : Nat → Nat} {V U : Nat → Nat} {sc : Nat → Int32} {ia : Nat → Nat → Int32} {la : Nat → Nat → Int64}
def rt (V : Nat → Nat) (a f b q r d : Nat) : Nat → Nat := va_up (va_up (wq V q r d) 138 b) 148 f |> fun W => va_up W 136 a
section RT
variable {V : Nat → Nat} {a f b q r d x k : Nat}
theorem rt_s : va_up V 136 x = rt V x (V 148) (V 138) (V 140) (V 142) (V 144) := by
  funext k
  by_cases h0 : k = 136 <;> by_cases h1 : k = 138 <;> by_cases h2 : k = 140 <;> by_cases h3 : k = 142 <;> by_cases h4 : k = 144 <;> by_cases h5 : k = 148 <;> simp [rt, wq, va_up, h0, h1, h2, h3, h4, h5]
theorem rt_u1 : va_up (rt V a f b q r d) 138 x = rt V a f x q r d := by
  funext k
  by_cases h0 : k = 136 <;> by_cases h1 : k = 138 <;> by_cases h2 : k = 140 <;> by_cases h3 : k = 142 <;> by_cases h4 : k = 144 <;> by_cases h5 : k = 148 <;> simp [rt, wq, va_up, h0, h1, h2, h3, h4, h5]
theorem rt_u8 : va_up (rt V a f b q r d) 148 x = rt V a x b q r d := by
  funext k
  by_cases h0 : k = 136 <;> by_cases h1 : k = 138 <;> by_cases h2 : k = 140 <;> by_cases h3 : k = 142 <;> by_cases h4 : k = 144 <;> by_cases h5 : k = 148 <;> simp [rt, wq, va_up, h0, h1, h2, h3, h4, h5]
theorem rt_u0 : va_up (rt V a f b q r d) 140 x = rt V a f b x r d := by
  funext k
  by_cases h0 : k = 136 <;> by_cases h1 : k = 138 <;> by_cases h2 : k = 140 <;> by_cases h3 : k = 142 <;> by_cases h4 : k = 144 <;> by_cases h5 : k = 148 <;> simp [rt, wq, va_up, h0, h1, h2, h3, h4, h5]
theorem rt_w {q' r' d' : Nat} : wq (rt V a f b q r d) q' r' d' = rt V a f b q' r' d' := by
  funext k
  by_cases h0 : k = 136 <;> by_cases h1 : k = 138 <;> by_cases h2 : k = 140 <;> by_cases h3 : k = 142 <;> by_cases h4 : k = 144 <;> by_cases h5 : k = 148 <;> simp [rt, wq, va_up, h0, h1, h2, h3, h4, h5]
theorem rt_6 : rt V a f b q r d 136 = a := by simp [rt, wq, va_up]
theorem rt_1 : rt V a f b q r d 138 = b := by simp [rt, wq, va_up]
theorem rt_0 : rt V a f b q r d 140 = q := by simp [rt, wq, va_up]
theorem rt_8 : rt V a f b q r d 148 = f := by simp [rt, wq, va_up]
theorem rt_o (h : k < 136 ∨ 148 < k ∨ k = 146) : rt V a f b q r d k = V k := by
  simp [rt, wq, va_up, show k ≠ 136 by omega, show k ≠ 138 by omega, show k ≠ 140 by omega, show k ≠ 142 by omega, show k ≠ 144 by omega, show k ≠ 148 by omega]
end RT
set_option maxHeartbeats 4000000 in
set_option maxRecDepth 100000 in
/-- Desk.rootOfProduct -/
theorem c_root {ja jb : Nat} (ha : isW ja) (hb : isW jb) (na : ja < 135) (nb : jb < 135) (h1 : V ja < 2 ^ 100) (h2 : V jb < 2 ^ 100) : xV l D (xty ca) yX1_rootOfProduct cX1_rootOfProduct 4 none 4 250 [.ref (ad 135), .ref (ad ja), .ref (ad jb)] ad (cm ad ca (V, U, sc, ia, la)) (fun M' => ∃ V', M' = cm ad ca (V', U, sc, ia, la) ∧ V' 148 * V' 148 ≤ V ja * V jb ∧ V ja * V jb < (V' 148 + 1) * (V' 148 + 1) ∧ agr 136 148 V V') := by
  refine xM.of (by decide) (Nat.le_of_ble_eq_true rfl) (fun z C E => ?_)
  obtain ⟨N, hN⟩ : ∃ N, N = V ja * V jb := ⟨_, rfl⟩
  rw [← hN] at E
  have hN1 : N < 2 ^ 200 := by
    rw [hN]
    have h := Nat.mul_lt_mul_of_lt_of_le h1 (Nat.le_of_lt h2) (by decide)
    omega
  obtain ⟨s, s1, s2⟩ := ex_sqrt N
  have s3 : s < 2 ^ 100 := by
    rcases Nat.lt_or_ge s (2 ^ 100) with h | h
    · exact h
    · have := Nat.mul_le_mul h h
      omega
  have done : ∀ b q r d : Nat, xK z (xw ad (cm ad ca (rt V N (s) (b) (q) (r) (d), U, sc, ia, la)) 187) 0 0 103 [(0, .ref (ad 135))] [] := by
    intro b q r d
    exact r_v (pc := 103) C E (⟨_, rfl, by rw [rt_8]; exact s1, by rw [rt_8]; exact s2, fun k hk => rt_o (by omega)⟩) dX1_rootOfProduct_103
  have loop : ∀ (n k x b q r d : Nat), 64 - k < n → k ≤ 64 → s ≤ x → x < 65536 ^ 14 → Bd k s (x - s) → xK z (xw ad (cm ad ca (rt V N (x) (b) (q) (r) (d), U, sc, ia, la)) 187) 0 0 48 [(3, .int (nI k)), (0, .ref (ad 135))] [] := by
    intro n
    induction n with
    | zero => intro k x b q r d h; exact absurd h (Nat.not_lt_zero _)
    | succ n ih =>
      intro k x b q r d hn hk hx hx9 hb
      obtain ⟨y, hy⟩ : ∃ y, Hid (y = (N / x + x) / 2) := ⟨_, rfl⟩
      have hNx : N / x + x < 65536 ^ 15 := by
        have := Nat.div_le_self N x
        generalize N / x = t at this ⊢
        omega
      have hst : x ≤ y → x = s := fun h => nw_stop s2 hx (by rw [← show y = _ from hy]; exact h)
      have hge : 0 < x → s ≤ y := fun h => by rw [show y = _ from hy]; exact nw_ge s1 hx h
      have hnr : 0 < x → 2 * (s + (x - s)) * (y - s) ≤ (x - s) * (x - s) + 2 * s := fun h => by rw [show y = _ from hy]; exact nw_near s2 hx h (by rw [← show y = _ from hy]; exact hge h)
      have hy9 : y < 65536 ^ 15 := by rw [show y = _ from hy]; exact Nat.lt_of_le_of_lt (Nat.div_le_self _ _) hNx
      refine k_iload_n (pc := 48) C dX1_rootOfProduct_48 rfl 0 rfl ?_
      refine k_bipush (pc := 49) (v := nI 64) C dX1_rootOfProduct_49 (by decide) ?_
      refine k_icmp_ge (pc := 51) (tgt := 121) C dX1_rootOfProduct_51 (by decide) (fun c51 => ?_) (fun c51 => ?_)
      · rw [q_le (by decide) (by omega)] at c51
        exact absurd hb (by unfold Bd; omega)
      · rw [q_le (by decide) (by omega)] at c51
        refine k_aload_n (pc := 54) C dX1_rootOfProduct_54 rfl 1 rfl ?_
        refine gf_X1_18 (pc := 55) C (135) (by decide) cm_135 rfl dX1_rootOfProduct_55 ?_
        refine k_aload_n (pc := 58) C dX1_rootOfProduct_58 rfl 1 rfl ?_
        refine gf_X1_33 (pc := 59) C (135) (by decide) cm_135 rfl dX1_rootOfProduct_59 ?_
        refine cv_X1_42 (pc := 62) C E (c_copy w138 w148 (by decide)) rfl (by decide) (cm_w w138) (by decide) rfl (Nat.le_of_ble_eq_true rfl) dX1_rootOfProduct_62 (fun M62 h62 => ?_)
        subst h62
        rw [rt_u1, rt_8]
        refine k_aload_n (pc := 65) C dX1_rootOfProduct_65 rfl 1 rfl ?_
        refine cv_X1_110 (pc := 66) C E (c_split (by rw [rt_6]; omega) (by rw [rt_1]; omega)) rfl (by decide) cm_135 (by decide) rfl (Nat.le_of_ble_eq_true rfl) dX1_rootOfProduct_66 (fun M66 h66 => ?_)
        obtain ⟨d2, rfl⟩ := h66
        rw [rt_w, rt_6, rt_1]
        refine k_aload_n (pc := 69) C dX1_rootOfProduct_69 rfl 1 rfl ?_
        refine gf_X1_21 (pc := 70) C (135) (by decide) cm_135 rfl dX1_rootOfProduct_70 ?_
        refine k_aload_n (pc := 73) C dX1_rootOfProduct_73 rfl 1 rfl ?_
        refine gf_X1_33 (pc := 74) C (135) (by decide) cm_135 rfl dX1_rootOfProduct_74 ?_
        refine cv_X1_96 (pc := 77) C E (c_plus w140 w148 (by decide)) rfl (by decide) (cm_w w140) (by decide) rfl (Nat.le_of_ble_eq_true rfl) dX1_rootOfProduct_77 (fun M77 h77 => ?_)
        subst h77
        rw [rt_u0, rt_0, rt_8]
        refine k_aload_n (pc := 80) C dX1_rootOfProduct_80 rfl 1 rfl ?_
        refine gf_X1_21 (pc := 81) C (135) (by decide) cm_135 rfl dX1_rootOfProduct_81 ?_
        refine k_iconst (pc := 84) (v := nI 2) C dX1_rootOfProduct_84 (by decide) ?_
        refine cv_X1_68 (pc := 85) C E (c_shrink w140 (b := 2) (by rw [rt_0]; exact Nat.lt_trans hNx (Nat.pow_lt_pow_right (by decide) (by decide))) (by decide) (by decide)) rfl (by decide) (cm_w w140) (by decide) rfl (Nat.le_of_ble_eq_true rfl) dX1_rootOfProduct_85 (fun r85 M85 h85 => ?_)
        obtain ⟨rfl, -⟩ := h85
        rw [rt_u0, rt_0, ← show y = _ from hy]
        refine k_pop (pc := 88) C dX1_rootOfProduct_88 rfl ?_
        refine k_aload_n (pc := 89) C dX1_rootOfProduct_89 rfl 1 rfl ?_
        refine gf_X1_21 (pc := 90) C (135) (by decide) cm_135 rfl dX1_rootOfProduct_90 ?_
        refine k_aload_n (pc := 93) C dX1_rootOfProduct_93 rfl 1 rfl ?_
        refine gf_X1_33 (pc := 94) C (135) (by decide) cm_135 rfl dX1_rootOfProduct_94 ?_
        refine cv_X1_99 (pc := 97) C E (c_compare w140 w148 (by rw [rt_0]; exact Nat.lt_trans hy9 (Nat.pow_lt_pow_right (by decide) (by decide))) (by rw [rt_8]; exact Nat.lt_trans hx9 (Nat.pow_lt_pow_right (by decide) (by decide)))) rfl (by decide) (cm_w w140) (by decide) rfl (Nat.le_of_ble_eq_true rfl) dX1_rootOfProduct_97 (fun r97 M97 h97 => ?_)
        obtain ⟨rfl, rfl⟩ := h97
        rw [rt_0, rt_8]
        refine k_if_lt (pc := 100) (tgt := 104) C dX1_rootOfProduct_100 (by decide) (fun c100 => ?_) (fun c100 => ?_)
        · rw [cmp_l0] at c100
          refine k_aload_n (pc := 104) C dX1_rootOfProduct_104 rfl 1 rfl ?_
          refine gf_X1_33 (pc := 105) C (135) (by decide) cm_135 rfl dX1_rootOfProduct_105 ?_
          refine k_aload_n (pc := 108) C dX1_rootOfProduct_108 rfl 1 rfl ?_
          refine gf_X1_21 (pc := 109) C (135) (by decide) cm_135 rfl dX1_rootOfProduct_109 ?_
          refine cv_X1_42 (pc := 112) C E (c_copy w148 w140 (by decide)) rfl (by decide) (cm_w w148) (by decide) rfl (Nat.le_of_ble_eq_true rfl) dX1_rootOfProduct_112 (fun M112 h112 => ?_)
          subst h112
          rw [rt_u8, rt_0]
          refine k_iinc (pc := 115) (v := nI (k + 1)) (lv' := [(3, .int (nI (k + 1))), (0, .ref (ad (135)))]) C dX1_rootOfProduct_115 (k := 0) rfl (nI_1 _) (by decide) rfl ?_
          refine k_goto (pc := 118) (tgt := 48) C dX1_rootOfProduct_118 (by decide) ?_
          refine k_sub [0, 1] rfl ?_
          have h0 : 0 < x := by omega
          exact ih (k + 1) y _ _ _ _ (by omega) (by omega) (hge h0) (Nat.lt_trans c100 hx9) (bd_step s3 hb (by omega) (by have := hge h0; omega) (hnr h0))
        · rw [cmp_l0] at c100
          refine k_sub [1] rfl ?_
          have e9 := hst (Nat.le_of_not_lt c100)
          rw [e9]
          exact done _ _ _ _
  refine k_aload_n (pc := 0) C dX1_rootOfProduct_0 rfl 0 rfl ?_
  refine gf_X1_12 (pc := 1) C (135) (by decide) cm_135 rfl dX1_rootOfProduct_1 ?_
  refine k_aload_n (pc := 4) C dX1_rootOfProduct_4 rfl 1 rfl ?_
  refine k_aload_n (pc := 5) C dX1_rootOfProduct_5 rfl 2 rfl ?_
  refine cv_X1_106 (pc := 6) C E (c_product w136 ha hb (by omega) (by omega) (by omega) (by omega)) rfl (by decide) (cm_w w136) (by decide) rfl (Nat.le_of_ble_eq_true rfl) dX1_rootOfProduct_6 (fun M6 h6 => ?_)
  subst h6
  rw [← hN, rt_s]
  refine k_aload_n (pc := 9) C dX1_rootOfProduct_9 rfl 0 rfl ?_
  refine gf_X1_33 (pc := 10) C (135) (by decide) cm_135 rfl dX1_rootOfProduct_10 ?_
  refine k_lconst (pc := 13) (v := lN 1) C dX1_rootOfProduct_13 (by decide) ?_
  refine cv_X1_113 (pc := 14) C E (c_setLong w148 (a := 1) (by decide)) rfl (by decide) (cm_w w148) (by decide) rfl (Nat.le_of_ble_eq_true rfl) dX1_rootOfProduct_14 (fun M14 h14 => ?_)
  subst h14
  rw [rt_u8]
  refine k_aload_n (pc := 17) C dX1_rootOfProduct_17 rfl 0 rfl ?_
  refine gf_X1_12 (pc := 18) C (135) (by decide) cm_135 rfl dX1_rootOfProduct_18 ?_
  refine cv_X1_46 (pc := 21) C E (c_used w136 (by rw [rt_6]; omega)) rfl (by decide) (cm_w w136) (by decide) rfl (Nat.le_of_ble_eq_true rfl) dX1_rootOfProduct_21 (fun r21 M21 h21 => ?_)
  obtain ⟨rfl, u, hu, rfl, hu1, hu2⟩ := h21
  rw [rt_6] at hu1 hu2
  have hu3 : u ≤ 13 := by
    rcases Nat.lt_or_ge 13 u with h | h
    · have h3 := hu2 (by omega)
      have h4 := pw_le (a := 13) (b := u - 1) (by omega)
      omega
    · exact h
  obtain ⟨t1, t2⟩ := nw_start s1 s2 hu1 hu2
  refine k_istore_n (pc := 24) (lv' := [(3, .int (nI u)), (0, .ref (ad (135))), (1, .ref (ad (ja))), (2, .ref (ad (jb)))]) C dX1_rootOfProduct_24 rfl (by decide) rfl ?_
  have grow : ∀ h : Nat, h ≤ u → xK z (xw ad (cm ad ca (rt V N (256 ^ (u - h)) (V 138) (V 140) (V 142) (V 144), U, sc, ia, la)) 187) 0 0 25 [(3, .int (nI h)), (0, .ref (ad 135))] [] := by
    intro h
    induction h with
    | zero =>
      intro hh
      refine k_iload_n (pc := 25) C dX1_rootOfProduct_25 rfl 0 rfl ?_
      refine k_if_le (pc := 26) (tgt := 46) C dX1_rootOfProduct_26 (by decide) (fun c26 => ?_) (fun c26 => ?_)
      · rw [q_le0 (by decide)] at c26
        refine k_iconst (pc := 46) (v := nI 0) C dX1_rootOfProduct_46 (by decide) ?_
        refine k_istore_n (pc := 47) (lv' := [(3, .int (nI 0)), (0, .ref (ad (135)))]) C dX1_rootOfProduct_47 rfl (by decide) rfl ?_
        refine k_sub [0, 1] rfl ?_
        exact loop 65 0 _ _ _ _ _ (by decide) (by decide) t1 (by
          have h3 : 256 ^ (u - 0) ≤ 256 ^ 13 := Nat.pow_le_pow_right (by decide) (by omega)
          omega) (Or.inl ⟨by decide, by rw [Nat.sub_zero]; omega⟩)
      · rw [q_le0 (by decide)] at c26
        exact absurd rfl c26
    | succ h ih =>
      intro hh
      refine k_iload_n (pc := 25) C dX1_rootOfProduct_25 rfl 0 rfl ?_
      refine k_if_le (pc := 26) (tgt := 46) C dX1_rootOfProduct_26 (by decide) (fun c26 => ?_) (fun c26 => ?_)
      · rw [q_le0 (by omega)] at c26
        exact absurd c26 (by omega)
      · rw [q_le0 (by omega)] at c26
        refine k_aload_n (pc := 29) C dX1_rootOfProduct_29 rfl 1 rfl ?_
        refine gf_X1_33 (pc := 30) C (135) (by decide) cm_135 rfl dX1_rootOfProduct_30 ?_
        refine k_sipush (pc := 33) (v := nI 256) C dX1_rootOfProduct_33 (by decide) ?_
        refine k_iconst (pc := 36) (v := nI 0) C dX1_rootOfProduct_36 (by decide) ?_
        refine cv_X1_55 (pc := 37) C E (c_scale w148 (p := 256) (q := 0) (by decide) (by decide)) rfl (by decide) (cm_w w148) (by decide) rfl (Nat.le_of_ble_eq_true rfl) dX1_rootOfProduct_37 (fun M37 h37 => ?_)
        subst h37
        rw [rt_u8, rt_8, Nat.add_zero, ← Nat.pow_succ, show (u - (h + 1)).succ = u - h by omega]
        refine k_iinc (pc := 40) (v := nI h) (lv' := [(3, .int (nI h)), (0, .ref (ad (135)))]) C dX1_rootOfProduct_40 (k := 0) rfl (dec1 (by omega)) (by decide) rfl ?_
        refine k_goto (pc := 43) (tgt := 25) C dX1_rootOfProduct_43 (by decide) ?_
        refine k_sub [0, 1] rfl ?_
        exact ih (by omega)
  refine k_sub [0, 1] rfl ?_
  have h9 := grow u (Nat.le_refl u)
  rw [Nat.sub_self, Nat.pow_zero] at h9
  exact h9
end DE
