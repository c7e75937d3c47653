section EF
variable {l : Launch} {D : va_G} {ca : Nat → ClassId} {ad : Nat → Nat} {V U : Nat → Nat} {sc : Nat → Int32} {ia : Nat → Nat → Int32} {la : Nat → Nat → Int64}
def pq (u v : Nat) : Nat → List Int32
  | 0 => []
  | k + 1 => ptx u v k
theorem pq_s (u v k : Nat) : pq u v (k + 1) = nI (48 + v / 10 ^ k % 10) :: ((if u < k ∧ (k - u) % 3 = 0 then [nI 44] else if 0 < k ∧ k = u then [nI 46] else []) ++ pq u v k) := by
  show ptx u v k = _
  cases k with
  | zero => simp [ptx, pq]
  | succ j =>
    simp only [ptx, pq]
    congr 1
    by_cases h : u < j + 1 ∧ (j + 1 - u) % 3 = 0
    · rw [if_pos h, if_pos h]
    · rw [if_neg h, if_neg h]
      by_cases h2 : j + 1 = u
      · rw [if_pos h2, if_pos ⟨by omega, h2⟩]
      · rw [if_neg h2, if_neg (fun q => h2 q.2)]
theorem d4 {x i : Nat} (h : i < 4) : x % 10000 / 10 ^ i % 10 = x / 10 ^ i % 10 := by
  rcases (show i = 0 ∨ i = 1 ∨ i = 2 ∨ i = 3 by omega) with e | e | e | e <;> subst e <;> omega
theorem d4m (v m i : Nat) : v / 10 ^ (4 * m + i) = v / 10 ^ (4 * m) / 10 ^ i := by rw [Nat.pow_add, Nat.div_div_eq_div_mul]
theorem cnt_dn {v c : Nat} (h1 : 1 < c) (h : v < 10 ^ c) (hz : v / 10 ^ (c - 1) % 10 = 0) : v < 10 ^ (c - 1) := by
  have e : 10 ^ c = 10 ^ (c - 1) * 10 := by rw [← Nat.pow_succ]; congr 1; omega
  have h2 : v / 10 ^ (c - 1) < 10 := Nat.div_lt_of_lt_mul (by omega)
  rcases Nat.lt_or_ge v (10 ^ (c - 1)) with q | q
  · exact q
  · have := Nat.div_pos q (p10 (c - 1))
    omega
theorem cnt_up {v c : Nat} (hz : ¬ v / 10 ^ (c - 1) % 10 = 0) : 10 ^ (c - 1) ≤ v := by
  rcases Nat.lt_or_ge v (10 ^ (c - 1)) with q | q
  · exact absurd (by rw [Nat.div_eq_of_lt q]) hz
  · exact q
set_option maxHeartbeats 4000000 in
set_option maxRecDepth 100000 in
/-- weight -/
theorem c6_weight {x0 : Int32} {v0 : Int64} : xI l D (xty ca) yX6_weight cX6_weight 4 (some .int) 0 0 [.ref (ad 0), .int x0, .long v0] ad (cm ad ca (V, U, sc, ia, la)) (fun r M' => if okW x0 v0 then r = 1 ∧ M' = cm ad ca (V, U, sc, ia, va_up la 159 (vp_updL (la 159) (rI x0) v0)) else r = -1 ∧ M' = cm ad ca (V, U, sc, ia, la)) := by
  refine xM.of (by decide) (Nat.le_of_ble_eq_true rfl) (fun z C E => ?_)
  refine k_iload_n (pc := 0) C dX6_weight_0 rfl 1 rfl ?_
  refine k_if_lt (pc := 1) (tgt := 24) C dX6_weight_1 (by decide) (fun c1 => ?_) (fun c1 => ?_)
  · rw [Int32.lt_iff_toInt_lt, show (0 : Int32).toInt = 0 from rfl] at c1
    refine k_iconst (pc := 24) (v := (-1)) C dX6_weight_24 (by decide) ?_
    exact r_i (pc := 25) C E (by rw [if_neg (fun h => by have := h.1.1; have := h.1.2; have := h.2.1; have := h.2.2; omega)]; exact ⟨rfl, rfl⟩) dX6_weight_25
  · rw [Int32.lt_iff_toInt_lt, show (0 : Int32).toInt = 0 from rfl] at c1
    refine k_iload_n (pc := 4) C dX6_weight_4 rfl 1 rfl ?_
    refine k_bipush (pc := 5) (v := nI 12) C dX6_weight_5 (by decide) ?_
    refine k_icmp_ge (pc := 7) (tgt := 24) C dX6_weight_7 (by decide) (fun c7 => ?_) (fun c7 => ?_)
    · rw [Int32.le_iff_toInt_le, nI_toInt (by decide)] at c7
      refine k_iconst (pc := 24) (v := (-1)) C dX6_weight_24 (by decide) ?_
      exact r_i (pc := 25) C E (by rw [if_neg (fun h => by have := h.1.1; have := h.1.2; have := h.2.1; have := h.2.2; omega)]; exact ⟨rfl, rfl⟩) dX6_weight_25
    · rw [Int32.le_iff_toInt_le, nI_toInt (by decide)] at c7
      refine k_lload_n (pc := 10) C dX6_weight_10 rfl 2 rfl ?_
      refine k_lconst (pc := 11) (v := lN 0) C dX6_weight_11 (by decide) ?_
      refine k_lcmp (pc := 12) C dX6_weight_12 ?_
      refine k_if_lt (pc := 13) (tgt := 24) C dX6_weight_13 (by decide) (fun c13 => ?_) (fun c13 => ?_)
      · rw [lg_lt0] at c13
        refine k_iconst (pc := 24) (v := (-1)) C dX6_weight_24 (by decide) ?_
        exact r_i (pc := 25) C E (by rw [if_neg (fun h => by have := h.1.1; have := h.1.2; have := h.2.1; have := h.2.2; omega)]; exact ⟨rfl, rfl⟩) dX6_weight_25
      · rw [lg_lt0] at c13
        refine k_lload_n (pc := 16) C dX6_weight_16 rfl 2 rfl ?_
        refine k_ldc2 (pc := 17) C kc_X6_163 dX6_weight_17 ?_
        refine k_eql (y := lN 1000000000000) rfl ?_
        refine k_lcmp (pc := 20) C dX6_weight_20 ?_
        refine k_if_le (pc := 21) (tgt := 26) C dX6_weight_21 (by decide) (fun c21 => ?_) (fun c21 => ?_)
        · rw [lg_cmp_le, Int64.le_iff_toInt_le, pk_lT (by decide)] at c21
          have c6 : okW x0 v0 := ⟨⟨by omega, by omega⟩, by omega, c21⟩
          obtain ⟨x, hx, rfl⟩ := inR_k c6.1
          refine k_aload_n (pc := 26) C dX6_weight_26 rfl 0 rfl ?_
          refine gf_X6_40 (pc := 27) C (0) (by decide) cm_0 rfl dX6_weight_27 ?_
          refine k_iload_n (pc := 30) C dX6_weight_30 rfl 1 rfl ?_
          refine k_lload_n (pc := 31) C dX6_weight_31 rfl 2 rfl ?_
          refine k_last (pc := 32) C E (159) (by decide) cm_159 (x) rfl (by omega) (by decide) dX6_weight_32 ?_
          rw [cm_a159]
          refine k_iconst (pc := 33) (v := nI 1) C dX6_weight_33 (by decide) ?_
          exact r_i (pc := 34) C E (by rw [if_pos c6, rI_n (show x < 2147483648 by omega)]; exact ⟨rfl, rfl⟩) dX6_weight_34
        · rw [lg_cmp_le, Int64.le_iff_toInt_le, pk_lT (by decide)] at c21
          refine k_iconst (pc := 24) (v := (-1)) C dX6_weight_24 (by decide) ?_
          exact r_i (pc := 25) C E (by rw [if_neg (fun h => by have := h.1.1; have := h.1.2; have := h.2.1; have := h.2.2; omega)]; exact ⟨rfl, rfl⟩) dX6_weight_25
set_option maxHeartbeats 4000000 in
set_option maxRecDepth 100000 in
/-- unit -/
theorem c6_unit {x0 : Int32} : xI l D (xty ca) yX6_unit cX6_unit 3 (some .int) 0 0 [.ref (ad 0), .int x0] ad (cm ad ca (V, U, sc, ia, la)) (fun r M' => if inR x0 13 then r = sc 1 ∧ M' = cm ad ca (V, U, va_up sc 1 x0, ia, la) else r = -1 ∧ M' = cm ad ca (V, U, sc, ia, la)) := by
  refine xM.of (by decide) (Nat.le_of_ble_eq_true rfl) (fun z C E => ?_)
  refine k_iload_n (pc := 0) C dX6_unit_0 rfl 1 rfl ?_
  refine k_if_lt (pc := 1) (tgt := 10) C dX6_unit_1 (by decide) (fun c1 => ?_) (fun c1 => ?_)
  · rw [Int32.lt_iff_toInt_lt, show (0 : Int32).toInt = 0 from rfl] at c1
    refine k_iconst (pc := 10) (v := (-1)) C dX6_unit_10 (by decide) ?_
    exact r_i (pc := 11) C E (by rw [if_neg (fun h => by have := h.1; have := h.2; omega)]; exact ⟨rfl, rfl⟩) dX6_unit_11
  · rw [Int32.lt_iff_toInt_lt, show (0 : Int32).toInt = 0 from rfl] at c1
    refine k_iload_n (pc := 4) C dX6_unit_4 rfl 1 rfl ?_
    refine k_bipush (pc := 5) (v := nI 12) C dX6_unit_5 (by decide) ?_
    refine k_icmp_le (pc := 7) (tgt := 12) C dX6_unit_7 (by decide) (fun c7 => ?_) (fun c7 => ?_)
    · rw [Int32.le_iff_toInt_le, nI_toInt (by decide)] at c7
      refine k_aload_n (pc := 12) C dX6_unit_12 rfl 0 rfl ?_
      refine gf_X6_56 (pc := 13) C (0) (by decide) cm_0 rfl dX6_unit_13 ?_
      refine k_topi (fun x16 ex16 => ?_)
      refine k_istore_n (pc := 16) (lv' := [(2, .int (x16)), (0, .ref (ad (0))), (1, .int (x0))]) C dX6_unit_16 rfl (by decide) rfl ?_
      refine k_aload_n (pc := 17) C dX6_unit_17 rfl 1 rfl ?_
      refine k_iload_n (pc := 18) C dX6_unit_18 rfl 2 rfl ?_
      refine pf_X6_56 (pc := 19) C (0) (by decide) cm_0 (Nat.le_of_ble_eq_true rfl) dX6_unit_19 ?_
      rw [cm_s1]
      refine k_iload_n (pc := 22) C dX6_unit_22 rfl 0 rfl ?_
      exact r_i (pc := 23) C E (by rw [if_pos ⟨by omega, by omega⟩]; exact ⟨by assumption, rfl⟩) dX6_unit_23
    · rw [Int32.le_iff_toInt_le, nI_toInt (by decide)] at c7
      refine k_iconst (pc := 10) (v := (-1)) C dX6_unit_10 (by decide) ?_
      exact r_i (pc := 11) C E (by rw [if_neg (fun h => by have := h.1; have := h.2; omega)]; exact ⟨rfl, rfl⟩) dX6_unit_11
set_option maxHeartbeats 4000000 in
set_option maxRecDepth 100000 in
/-- tries -/
theorem c6_tries  : xI l D (xty ca) yX6_tries cX6_tries 1 (some .int) 0 0 [.ref (ad 0)] ad (cm ad ca (V, U, sc, ia, la)) (fun r M' => r = sc 3 ∧ M' = cm ad ca (V, U, sc, ia, la)) := by
  refine xM.of (by decide) (Nat.le_of_ble_eq_true rfl) (fun z C E => ?_)
  refine k_aload_n (pc := 0) C dX6_tries_0 rfl 0 rfl ?_
  refine gf_X6_62 (pc := 1) C (0) (by decide) cm_0 rfl dX6_tries_1 ?_
  exact r_i (pc := 4) C E (⟨rfl, rfl⟩) dX6_tries_4
set_option maxHeartbeats 4000000 in
set_option maxRecDepth 100000 in
/-- why -/
theorem c6_why  : xI l D (xty ca) yX6_why cX6_why 1 (some .int) 0 0 [.ref (ad 0)] ad (cm ad ca (V, U, sc, ia, la)) (fun r M' => r = sc 4 ∧ M' = cm ad ca (V, U, sc, ia, la)) := by
  refine xM.of (by decide) (Nat.le_of_ble_eq_true rfl) (fun z C E => ?_)
  refine k_aload_n (pc := 0) C dX6_why_0 rfl 0 rfl ?_
  refine gf_X6_65 (pc := 1) C (0) (by decide) cm_0 rfl dX6_why_1 ?_
  exact r_i (pc := 4) C E (⟨rfl, rfl⟩) dX6_why_4
set_option maxHeartbeats 4000000 in
set_option maxRecDepth 100000 in
/-- place -/
theorem c6_place  : xI l D (xty ca) yX6_place cX6_place 1 (some .int) 0 0 [.ref (ad 0)] ad (cm ad ca (V, U, sc, ia, la)) (fun r M' => r = sc 2 ∧ M' = cm ad ca (V, U, sc, ia, la)) := by
  refine xM.of (by decide) (Nat.le_of_ble_eq_true rfl) (fun z C E => ?_)
  refine k_aload_n (pc := 0) C dX6_place_0 rfl 0 rfl ?_
  refine gf_X6_59 (pc := 1) C (0) (by decide) cm_0 rfl dX6_place_1 ?_
  exact r_i (pc := 4) C E (⟨rfl, rfl⟩) dX6_place_4
set_option maxHeartbeats 4000000 in
set_option maxRecDepth 100000 in
/-- isFull -/
theorem c4_isFull {n : Nat} (hn : sc 20 = nI n) (hb : n ≤ 120) : xI l D (xty ca) yX4_isFull cX4_isFull 1 (some .boolean) 0 0 [.ref (ad 157)] ad (cm ad ca (V, U, sc, ia, la)) (fun r M' => M' = cm ad ca (V, U, sc, ia, la) ∧ r = if n = 120 then 1 else 0) := by
  refine xM.of (by decide) (Nat.le_of_ble_eq_true rfl) (fun z C E => ?_)
  refine k_aload_n (pc := 0) C dX4_isFull_0 rfl 0 rfl ?_
  refine gf_X4_15 (pc := 1) C (157) (by decide) cm_157 rfl dX4_isFull_1 ?_
  refine k_eqi (y := nI n) (hn) ?_
  refine k_bipush (pc := 4) (v := nI 120) C dX4_isFull_4 (by decide) ?_
  refine k_icmp_lt (pc := 6) (tgt := 13) C dX4_isFull_6 (by decide) (fun c6 => ?_) (fun c6 => ?_)
  · rw [q_lt (by omega) (by omega)] at c6
    refine k_iconst (pc := 13) (v := nI 0) C dX4_isFull_13 (by decide) ?_
    exact r_z (pc := 14) C E (⟨rfl, by first | (rw [if_pos (by omega)]; rfl) | (rw [if_neg (by omega)]; rfl)⟩) (by decide) dX4_isFull_14
  · rw [q_lt (by omega) (by omega)] at c6
    refine k_iconst (pc := 9) (v := nI 1) C dX4_isFull_9 (by decide) ?_
    refine k_goto (pc := 10) (tgt := 14) C dX4_isFull_10 (by decide) ?_
    exact r_z (pc := 14) C E (⟨rfl, by first | (rw [if_pos (by omega)]; rfl) | (rw [if_neg (by omega)]; rfl)⟩) (by decide) dX4_isFull_14
set_option maxHeartbeats 4000000 in
set_option maxRecDepth 100000 in
/-- append -/
theorem c4_append {n : Nat} {x0 : Int32} (hn : sc 20 = nI n) (hb : n < 120) : xV l D (xty ca) yX4_append cX4_append 2 none 1 30 [.ref (ad 157), .int x0] ad (cm ad ca (V, U, sc, ia, la)) (fun M' => M' = cm ad ca (V, U, va_up sc 20 (nI (n + 1)), va_up ia 158 (upd (ia 158) n x0), la)) := by
  refine xM.of (by decide) (Nat.le_of_ble_eq_true rfl) (fun z C E => ?_)
  refine k_aload_n (pc := 0) C dX4_append_0 rfl 0 rfl ?_
  refine cv_X4_35 (pc := 1) C E (c4_isFull hn (by omega)) rfl (by decide) cm_157 (by decide) rfl (Nat.le_of_ble_eq_true rfl) dX4_append_1 (fun r1 M1 h1 => ?_)
  obtain ⟨rfl, rfl⟩ := h1
  refine k_if_ne (pc := 4) (tgt := 27) C dX4_append_4 (by decide) (fun c4 => ?_) (fun c4 => ?_)
  · simp only [b01, Decidable.not_not] at c4
    exact absurd c4 (by omega)
  · simp only [b01, Decidable.not_not] at c4
    refine k_aload_n (pc := 7) C dX4_append_7 rfl 0 rfl ?_
    refine gf_X4_11 (pc := 8) C (157) (by decide) cm_157 rfl dX4_append_8 ?_
    refine k_aload_n (pc := 11) C dX4_append_11 rfl 0 rfl ?_
    refine gf_X4_15 (pc := 12) C (157) (by decide) cm_157 rfl dX4_append_12 ?_
    refine k_eqi (y := nI n) (hn) ?_
    refine k_iload_n (pc := 15) C dX4_append_15 rfl 1 rfl ?_
    refine k_iast (pc := 16) C E (158) (by decide) cm_158 (n) rfl hb (by decide) dX4_append_16 ?_
    rw [cm_a158]
    refine k_aload_n (pc := 17) C dX4_append_17 rfl 0 rfl ?_
    refine k_dup (pc := 18) C dX4_append_18 rfl ?_
    refine gf_X4_15 (pc := 19) C (157) (by decide) cm_157 rfl dX4_append_19 ?_
    refine k_eqi (y := nI n) (hn) ?_
    refine k_iconst (pc := 22) (v := nI 1) C dX4_append_22 (by decide) ?_
    refine k_iadd (pc := 23) C dX4_append_23 ?_
    refine k_eqi (y := nI (n + 1)) (nI_add _ _) ?_
    refine pf_X4_15 (pc := 24) C (157) (by decide) cm_157 (Nat.le_of_ble_eq_true rfl) dX4_append_24 ?_
    rw [cm_s20]
    exact r_v (pc := 27) C E (rfl) dX4_append_27
set_option maxHeartbeats 4000000 in
set_option maxRecDepth 100000 in
/-- feed -/
theorem c6_feed {n : Nat} {x0 : Int32} (hn : sc 20 = nI n) (hb : n ≤ 120) : xI l D (xty ca) yX6_feed cX6_feed 2 (some .int) 2 80 [.ref (ad 0), .int x0] ad (cm ad ca (V, U, sc, ia, la)) (fun r M' => if inR x0 256 then (if n = 120 then r = -2 ∧ M' = cm ad ca (V, U, sc, ia, la) else r = nI (n + 1) ∧ M' = cm ad ca (V, U, va_up sc 20 (nI (n + 1)), va_up ia 158 (upd (ia 158) n x0), la)) else r = -1 ∧ M' = cm ad ca (V, U, sc, ia, la)) := by
  refine xM.of (by decide) (Nat.le_of_ble_eq_true rfl) (fun z C E => ?_)
  refine k_iload_n (pc := 0) C dX6_feed_0 rfl 1 rfl ?_
  refine k_if_lt (pc := 1) (tgt := 11) C dX6_feed_1 (by decide) (fun c1 => ?_) (fun c1 => ?_)
  · rw [Int32.lt_iff_toInt_lt, show (0 : Int32).toInt = 0 from rfl] at c1
    refine k_iconst (pc := 11) (v := (-1)) C dX6_feed_11 (by decide) ?_
    exact r_i (pc := 12) C E (by rw [if_neg (fun h => by have := h.1; have := h.2; omega)]; exact ⟨rfl, rfl⟩) dX6_feed_12
  · rw [Int32.lt_iff_toInt_lt, show (0 : Int32).toInt = 0 from rfl] at c1
    refine k_iload_n (pc := 4) C dX6_feed_4 rfl 1 rfl ?_
    refine k_sipush (pc := 5) (v := nI 255) C dX6_feed_5 (by decide) ?_
    refine k_icmp_le (pc := 8) (tgt := 13) C dX6_feed_8 (by decide) (fun c8 => ?_) (fun c8 => ?_)
    · rw [Int32.le_iff_toInt_le, nI_toInt (by decide)] at c8
      have c9 : inR x0 256 := ⟨by omega, by omega⟩
      refine k_aload_n (pc := 13) C dX6_feed_13 rfl 0 rfl ?_
      refine gf_X6_36 (pc := 14) C (0) (by decide) cm_0 rfl dX6_feed_14 ?_
      refine cv_X6_211 (pc := 17) C E (c4_isFull hn hb) rfl (by decide) cm_157 (by decide) rfl (Nat.le_of_ble_eq_true rfl) dX6_feed_17 (fun r17 M17 h17 => ?_)
      obtain ⟨rfl, rfl⟩ := h17
      refine k_if_eq (pc := 20) (tgt := 26) C dX6_feed_20 (by decide) (fun c20 => ?_) (fun c20 => ?_)
      · simp only [b01, Decidable.not_not] at c20
        refine k_aload_n (pc := 26) C dX6_feed_26 rfl 0 rfl ?_
        refine gf_X6_36 (pc := 27) C (0) (by decide) cm_0 rfl dX6_feed_27 ?_
        refine k_iload_n (pc := 30) C dX6_feed_30 rfl 1 rfl ?_
        refine cv_X6_215 (pc := 31) C E (c4_append hn (by omega)) rfl (by decide) cm_157 (by decide) rfl (Nat.le_of_ble_eq_true rfl) dX6_feed_31 (fun M31 h31 => ?_)
        subst h31
        refine k_aload_n (pc := 34) C dX6_feed_34 rfl 0 rfl ?_
        refine gf_X6_36 (pc := 35) C (0) (by decide) cm_0 rfl dX6_feed_35 ?_
        refine gf_X6_218 (pc := 38) C (157) (by decide) cm_157 rfl dX6_feed_38 ?_
        refine k_eqi (y := nI (n + 1)) (upIs) ?_
        exact r_i (pc := 41) C E (by rw [if_pos c9, if_neg c20]; exact ⟨rfl, rfl⟩) dX6_feed_41
      · simp only [b01, Decidable.not_not] at c20
        refine k_bipush (pc := 23) (v := (-2)) C dX6_feed_23 (by decide) ?_
        exact r_i (pc := 25) C E (by rw [if_pos c9, if_pos c20]; exact ⟨rfl, rfl⟩) dX6_feed_25
    · rw [Int32.le_iff_toInt_le, nI_toInt (by decide)] at c8
      refine k_iconst (pc := 11) (v := (-1)) C dX6_feed_11 (by decide) ?_
      exact r_i (pc := 12) C E (by rw [if_neg (fun h => by have := h.1; have := h.2; omega)]; exact ⟨rfl, rfl⟩) dX6_feed_12
set_option maxHeartbeats 4000000 in
set_option maxRecDepth 100000 in
/-- later -/
theorem c6_later {n : Nat} {x0 r0 a0 b0 : Int32} (hn : sc 0 = nI n) (hb : n ≤ 12) : xI l D (xty ca) yX6_later cX6_later 5 (some .int) 0 0 [.ref (ad 0), .int x0, .int r0, .int a0, .int b0] ad (cm ad ca (V, U, sc, ia, la)) (fun r M' => if inR x0 5 then (if n = 12 then r = -2 ∧ M' = cm ad ca (V, U, sc, ia, la) else r = nI (n + 1) ∧ ∃ ia', M' = cm ad ca (V, U, va_up sc 0 (nI (n + 1)), ia', la) ∧ ia' (162 + n) 0 = x0 ∧ ia' (162 + n) 1 = r0 ∧ ia' (162 + n) 2 = a0 ∧ ia' (162 + n) 3 = b0 ∧ ∀ k, k ≠ 162 + n → ia' k = ia k) else r = -1 ∧ M' = cm ad ca (V, U, sc, ia, la)) := by
  refine xM.of (by decide) (Nat.le_of_ble_eq_true rfl) (fun z C E => ?_)
  refine k_iload_n (pc := 0) C dX6_later_0 rfl 1 rfl ?_
  refine k_if_lt (pc := 1) (tgt := 9) C dX6_later_1 (by decide) (fun c1 => ?_) (fun c1 => ?_)
  · rw [Int32.lt_iff_toInt_lt, show (0 : Int32).toInt = 0 from rfl] at c1
    refine k_iconst (pc := 9) (v := (-1)) C dX6_later_9 (by decide) ?_
    exact r_i (pc := 10) C E (by rw [if_neg (fun h => by have := h.1; have := h.2; omega)]; exact ⟨rfl, rfl⟩) dX6_later_10
  · rw [Int32.lt_iff_toInt_lt, show (0 : Int32).toInt = 0 from rfl] at c1
    refine k_iload_n (pc := 4) C dX6_later_4 rfl 1 rfl ?_
    refine k_iconst (pc := 5) (v := nI 5) C dX6_later_5 (by decide) ?_
    refine k_icmp_lt (pc := 6) (tgt := 11) C dX6_later_6 (by decide) (fun c6 => ?_) (fun c6 => ?_)
    · rw [Int32.lt_iff_toInt_lt, nI_toInt (by decide)] at c6
      have c9 : inR x0 5 := ⟨by omega, by omega⟩
      refine k_aload_n (pc := 11) C dX6_later_11 rfl 0 rfl ?_
      refine gf_X6_52 (pc := 12) C (0) (by decide) cm_0 rfl dX6_later_12 ?_
      refine k_eqi (y := nI n) (hn) ?_
      refine k_bipush (pc := 15) (v := nI 12) C dX6_later_15 (by decide) ?_
      refine k_icmp_lt (pc := 17) (tgt := 23) C dX6_later_17 (by decide) (fun c17 => ?_) (fun c17 => ?_)
      · rw [q_lt (by omega) (by omega)] at c17
        obtain ⟨k, hk9⟩ : ∃ k, k = n := ⟨_, rfl⟩
        have hk : k < 12 := by omega
        refine k_aload_n (pc := 23) C dX6_later_23 rfl 0 rfl ?_
        refine gf_X6_49 (pc := 24) C (0) (by decide) cm_0 rfl dX6_later_24 ?_
        refine k_aload_n (pc := 27) C dX6_later_27 rfl 0 rfl ?_
        refine gf_X6_52 (pc := 28) C (0) (by decide) cm_0 rfl dX6_later_28 ?_
        refine k_eqi (y := nI k) (by rw [hk9]; exact hn) ?_
        refine k_aald (pc := 31) C E (161) (by decide) 4 rfl rfl cm_161 (k) rfl (by omega) (by decide) (162 + k) rfl dX6_later_31 ?_
        refine k_iconst (pc := 32) (v := nI 0) C dX6_later_32 (by decide) ?_
        refine k_iload_n (pc := 33) C dX6_later_33 rfl 1 rfl ?_
        refine k_iast (pc := 34) C E (162 + k) (by omega) (cm_row hk) (0) rfl (by decide) (by decide) dX6_later_34 ?_
        rw [cm_aR hk]
        refine k_aload_n (pc := 35) C dX6_later_35 rfl 0 rfl ?_
        refine gf_X6_49 (pc := 36) C (0) (by decide) cm_0 rfl dX6_later_36 ?_
        refine k_aload_n (pc := 39) C dX6_later_39 rfl 0 rfl ?_
        refine gf_X6_52 (pc := 40) C (0) (by decide) cm_0 rfl dX6_later_40 ?_
        refine k_eqi (y := nI k) (by rw [hk9]; exact hn) ?_
        refine k_aald (pc := 43) C E (161) (by decide) 4 rfl rfl cm_161 (k) rfl (by omega) (by decide) (162 + k) rfl dX6_later_43 ?_
        refine k_iconst (pc := 44) (v := nI 1) C dX6_later_44 (by decide) ?_
        refine k_iload_n (pc := 45) C dX6_later_45 rfl 2 rfl ?_
        refine k_iast (pc := 46) C E (162 + k) (by omega) (cm_row hk) (1) rfl (by decide) (by decide) dX6_later_46 ?_
        rw [cm_aR hk]
        refine k_aload_n (pc := 47) C dX6_later_47 rfl 0 rfl ?_
        refine gf_X6_49 (pc := 48) C (0) (by decide) cm_0 rfl dX6_later_48 ?_
        refine k_aload_n (pc := 51) C dX6_later_51 rfl 0 rfl ?_
        refine gf_X6_52 (pc := 52) C (0) (by decide) cm_0 rfl dX6_later_52 ?_
        refine k_eqi (y := nI k) (by rw [hk9]; exact hn) ?_
        refine k_aald (pc := 55) C E (161) (by decide) 4 rfl rfl cm_161 (k) rfl (by omega) (by decide) (162 + k) rfl dX6_later_55 ?_
        refine k_iconst (pc := 56) (v := nI 2) C dX6_later_56 (by decide) ?_
        refine k_iload_n (pc := 57) C dX6_later_57 rfl 3 rfl ?_
        refine k_iast (pc := 58) C E (162 + k) (by omega) (cm_row hk) (2) rfl (by decide) (by decide) dX6_later_58 ?_
        rw [cm_aR hk]
        refine k_aload_n (pc := 59) C dX6_later_59 rfl 0 rfl ?_
        refine gf_X6_49 (pc := 60) C (0) (by decide) cm_0 rfl dX6_later_60 ?_
        refine k_aload_n (pc := 63) C dX6_later_63 rfl 0 rfl ?_
        refine gf_X6_52 (pc := 64) C (0) (by decide) cm_0 rfl dX6_later_64 ?_
        refine k_eqi (y := nI k) (by rw [hk9]; exact hn) ?_
        refine k_aald (pc := 67) C E (161) (by decide) 4 rfl rfl cm_161 (k) rfl (by omega) (by decide) (162 + k) rfl dX6_later_67 ?_
        refine k_iconst (pc := 68) (v := nI 3) C dX6_later_68 (by decide) ?_
        refine k_iload (pc := 69) C dX6_later_69 4 rfl ?_
        refine k_iast (pc := 71) C E (162 + k) (by omega) (cm_row hk) (3) rfl (by decide) (by decide) dX6_later_71 ?_
        rw [cm_aR hk]
        refine k_aload_n (pc := 72) C dX6_later_72 rfl 0 rfl ?_
        refine k_dup (pc := 73) C dX6_later_73 rfl ?_
        refine gf_X6_52 (pc := 74) C (0) (by decide) cm_0 rfl dX6_later_74 ?_
        refine k_eqi (y := nI n) (hn) ?_
        refine k_iconst (pc := 77) (v := nI 1) C dX6_later_77 (by decide) ?_
        refine k_iadd (pc := 78) C dX6_later_78 ?_
        refine k_eqi (y := nI (n + 1)) (nI_add _ _) ?_
        refine pf_X6_52 (pc := 79) C (0) (by decide) cm_0 (Nat.le_of_ble_eq_true rfl) dX6_later_79 ?_
        rw [cm_s0]
        refine k_aload_n (pc := 82) C dX6_later_82 rfl 0 rfl ?_
        refine gf_X6_52 (pc := 83) C (0) (by decide) cm_0 rfl dX6_later_83 ?_
        refine k_eqi (y := nI (n + 1)) (upIs) ?_
        exact r_i (pc := 86) C E (by
  rw [if_pos c9, if_neg (by omega)]
  refine ⟨rfl, _, rfl, ?_, ?_, ?_, ?_, ?_⟩
  · rw [← hk9]; simp [va_up, upd]
  · rw [← hk9]; simp [va_up, upd]
  · rw [← hk9]; simp [va_up, upd]
  · rw [← hk9]; simp [va_up, upd]
  · intro q hq
    rw [← hk9] at hq
    simp [va_up, hq]) dX6_later_86
      · rw [q_lt (by omega) (by omega)] at c17
        refine k_bipush (pc := 20) (v := (-2)) C dX6_later_20 (by decide) ?_
        exact r_i (pc := 22) C E (by rw [if_pos c9, if_pos (by omega)]; exact ⟨rfl, rfl⟩) dX6_later_22
    · rw [Int32.lt_iff_toInt_lt, nI_toInt (by decide)] at c6
      refine k_iconst (pc := 9) (v := (-1)) C dX6_later_9 (by decide) ?_
      exact r_i (pc := 10) C E (by rw [if_neg (fun h => by have := h.1; have := h.2; omega)]; exact ⟨rfl, rfl⟩) dX6_later_10
set_option maxHeartbeats 4000000 in
set_option maxRecDepth 100000 in
/-- append -/
theorem c0_append {n : Nat} {x0 : Int32} (hn : sc 11 = nI n) (hb : n < 120) : xV l D (xty ca) yX0_append cX0_append 2 none 0 0 [.ref (ad 152), .int x0] ad (cm ad ca (V, U, sc, ia, la)) (fun M' => M' = cm ad ca (V, U, va_up sc 11 (nI (n + 1)), va_up ia 154 (upd (ia 154) n x0), la)) := by
  refine xM.of (by decide) (Nat.le_of_ble_eq_true rfl) (fun z C E => ?_)
  refine k_aload_n (pc := 0) C dX0_append_0 rfl 0 rfl ?_
  refine gf_X0_27 (pc := 1) C (152) (by decide) cm_152 rfl dX0_append_1 ?_
  refine k_eqi (y := nI n) (hn) ?_
  refine k_bipush (pc := 4) (v := nI 120) C dX0_append_4 (by decide) ?_
  refine k_icmp_ge (pc := 6) (tgt := 29) C dX0_append_6 (by decide) (fun c6 => ?_) (fun c6 => ?_)
  · rw [q_le (by decide) (by omega)] at c6
    exact absurd c6 (by omega)
  · rw [q_le (by decide) (by omega)] at c6
    refine k_aload_n (pc := 9) C dX0_append_9 rfl 0 rfl ?_
    refine gf_X0_13 (pc := 10) C (152) (by decide) cm_152 rfl dX0_append_10 ?_
    refine k_aload_n (pc := 13) C dX0_append_13 rfl 0 rfl ?_
    refine gf_X0_27 (pc := 14) C (152) (by decide) cm_152 rfl dX0_append_14 ?_
    refine k_eqi (y := nI n) (hn) ?_
    refine k_iload_n (pc := 17) C dX0_append_17 rfl 1 rfl ?_
    refine k_iast (pc := 18) C E (154) (by decide) cm_154 (n) rfl hb (by decide) dX0_append_18 ?_
    rw [cm_a154]
    refine k_aload_n (pc := 19) C dX0_append_19 rfl 0 rfl ?_
    refine k_dup (pc := 20) C dX0_append_20 rfl ?_
    refine gf_X0_27 (pc := 21) C (152) (by decide) cm_152 rfl dX0_append_21 ?_
    refine k_eqi (y := nI n) (hn) ?_
    refine k_iconst (pc := 24) (v := nI 1) C dX0_append_24 (by decide) ?_
    refine k_iadd (pc := 25) C dX0_append_25 ?_
    refine k_eqi (y := nI (n + 1)) (nI_add _ _) ?_
    refine pf_X0_27 (pc := 26) C (152) (by decide) cm_152 (Nat.le_of_ble_eq_true rfl) dX0_append_26 ?_
    rw [cm_s11]
    exact r_v (pc := 29) C E (rfl) dX0_append_29
set_option maxHeartbeats 4000000 in
set_option maxRecDepth 100000 in
/-- spell -/
theorem c0_spell {j : Nat} (hj : isW j) (hj5 : 155 ≠ j) (hb : V j < 2 ^ 256) : xV l D (xty ca) yX0_spell cX0_spell 5 none 2 90 [.ref (ad 152), .ref (ad j)] ad (cm ad ca (V, U, sc, ia, la)) (fun M' => ∃ c W f, M' = cm ad ca (W, U, va_up sc 10 (nI c), va_up ia 153 f, la) ∧ isND (V j) c ∧ (∀ k, k < 80 → f k = nI (V j / 10 ^ k % 10)) ∧ ∀ k, 155 ≠ k → W k = V k) := by
  refine xM.of (by decide) (Nat.le_of_ble_eq_true rfl) (fun z C E => ?_)
  obtain ⟨v, hv⟩ : ∃ v, v = V j := ⟨_, rfl⟩
  rw [← hv] at hb
  have cloop : ∀ (W : Nat → Nat) (f : Nat → Int32), (∀ k, k < 80 → f k = nI (v / 10 ^ k % 10)) → (∀ k, 155 ≠ k → W k = V k) → ∀ c, c ≤ 80 → 1 ≤ c → v < 10 ^ c → xK z (xw ad (cm ad ca (W, U, va_up sc 10 (nI c), va_up ia 153 f, la)) 187) 0 0 72 [(0, .ref (ad 152)), (1, .ref (ad j))] [] := by
    intro W f hf hw c
    induction c with
    | zero => intro _ h; exact absurd h (by decide)
    | succ c ih =>
      intro h80 h1 hlt
      refine k_aload_n (pc := 72) C dX0_spell_72 rfl 0 rfl ?_
      refine gf_X0_23 (pc := 73) C (152) (by decide) cm_152 rfl dX0_spell_73 ?_
      refine k_eqi (y := nI (c + 1)) (upIs) ?_
      refine k_iconst (pc := 76) (v := nI 1) C dX0_spell_76 (by decide) ?_
      refine k_icmp_le (pc := 77) (tgt := 107) C dX0_spell_77 (by decide) (fun c77 => ?_) (fun c77 => ?_)
      · rw [q_le (by omega) (by decide)] at c77
        exact r_v (pc := 107) C E (⟨c + 1, W, f, rfl, by rw [← hv]; exact ⟨by omega, hlt, by first | (left; omega) | (right; exact cnt_up (c := c + 1) c91)⟩, fun k hk => by rw [← hv]; exact hf k hk, hw⟩) dX0_spell_107
      · rw [q_le (by omega) (by decide)] at c77
        refine k_aload_n (pc := 80) C dX0_spell_80 rfl 0 rfl ?_
        refine gf_X0_9 (pc := 81) C (152) (by decide) cm_152 rfl dX0_spell_81 ?_
        refine k_aload_n (pc := 84) C dX0_spell_84 rfl 0 rfl ?_
        refine gf_X0_23 (pc := 85) C (152) (by decide) cm_152 rfl dX0_spell_85 ?_
        refine k_eqi (y := nI (c + 1)) (upIs) ?_
        refine k_iconst (pc := 88) (v := nI 1) C dX0_spell_88 (by decide) ?_
        refine k_isub (pc := 89) C dX0_spell_89 ?_
        refine k_eqi (y := nI c) (by rw [pk_sub (by omega)]; congr 1) ?_
        refine k_iald (pc := 90) C E (153) (by decide) cm_153 (c) rfl (by omega) (by decide) dX0_spell_90 ?_
        refine k_eqi (y := nI (v / 10 ^ c % 10)) (by rw [upIs]; exact hf c (by omega)) ?_
        refine k_if_ne (pc := 91) (tgt := 107) C dX0_spell_91 (by decide) (fun c91 => ?_) (fun c91 => ?_)
        · rw [q_eq0 (by omega)] at c91
          exact r_v (pc := 107) C E (⟨c + 1, W, f, rfl, by rw [← hv]; exact ⟨by omega, hlt, by first | (left; omega) | (right; exact cnt_up (c := c + 1) c91)⟩, fun k hk => by rw [← hv]; exact hf k hk, hw⟩) dX0_spell_107
        · rw [q_eq0 (by omega)] at c91
          refine k_aload_n (pc := 94) C dX0_spell_94 rfl 0 rfl ?_
          refine k_dup (pc := 95) C dX0_spell_95 rfl ?_
          refine gf_X0_23 (pc := 96) C (152) (by decide) cm_152 rfl dX0_spell_96 ?_
          refine k_eqi (y := nI (c + 1)) (upIs) ?_
          refine k_iconst (pc := 99) (v := nI 1) C dX0_spell_99 (by decide) ?_
          refine k_isub (pc := 100) C dX0_spell_100 ?_
          refine k_eqi (y := nI c) (by rw [pk_sub (by omega)]; congr 1) ?_
          refine pf_X0_23 (pc := 101) C (152) (by decide) cm_152 (Nat.le_of_ble_eq_true rfl) dX0_spell_101 ?_
          rw [cm_s10, bx_uu]
          refine k_goto (pc := 104) (tgt := 72) C dX0_spell_104 (by decide) ?_
          refine k_sub [0, 1] rfl ?_
          exact ih (by omega) (by omega) (cnt_dn (c := c + 1) (by omega) hlt c91)
  have oloop : ∀ (n m : Nat) (W : Nat → Nat) (f : Nat → Int32), 20 - m < n → m ≤ 20 → W 155 = v / 10 ^ (4 * m) → (∀ k, 155 ≠ k → W k = V k) → (∀ k, k < 4 * m → f k = nI (v / 10 ^ k % 10)) → xK z (xw ad (cm ad ca (W, U, sc, va_up ia 153 f, la)) 187) 0 0 10 [(2, .int (nI (4 * m))), (0, .ref (ad 152)), (1, .ref (ad j))] [] := by
    intro n
    induction n with
    | zero => intro m W f h; exact absurd h (Nat.not_lt_zero _)
    | succ n ih =>
      intro m W f hn hm w1 hw hf
      refine k_iload_n (pc := 10) C dX0_spell_10 rfl 0 rfl ?_
      refine k_bipush (pc := 11) (v := nI 80) C dX0_spell_11 (by decide) ?_
      refine k_icmp_ge (pc := 13) (tgt := 66) C dX0_spell_13 (by decide) (fun c13 => ?_) (fun c13 => ?_)
      · rw [q_le (by decide) (by omega)] at c13
        refine k_aload_n (pc := 66) C dX0_spell_66 rfl 1 rfl ?_
        refine k_bipush (pc := 67) (v := nI 80) C dX0_spell_67 (by decide) ?_
        refine pf_X0_23 (pc := 69) C (152) (by decide) cm_152 (Nat.le_of_ble_eq_true rfl) dX0_spell_69 ?_
        rw [cm_s10]
        refine k_sub [1, 2] rfl ?_
        have e20 : m = 20 := by omega
        rw [e20] at hf
        exact cloop W f (fun k hk => hf k (by omega)) hw 80 (by decide) (by decide) (by omega)
      · rw [q_le (by decide) (by omega)] at c13
        refine k_aload_n (pc := 16) C dX0_spell_16 rfl 1 rfl ?_
        refine gf_X0_19 (pc := 17) C (152) (by decide) cm_152 rfl dX0_spell_17 ?_
        refine k_sipush (pc := 20) (v := nI 10000) C dX0_spell_20 (by decide) ?_
        refine cv_X0_34 (pc := 23) C E (c_shrink w155 (b := 10000) (by rw [w1]; have := Nat.div_le_self v (10 ^ (4 * m)); omega) (by decide) (by decide)) rfl (by decide) (cm_w w155) (by decide) rfl (Nat.le_of_ble_eq_true rfl) dX0_spell_23 (fun r23 M23 h23 => ?_)
        obtain ⟨rfl, hr23⟩ := h23
        subst hr23
        refine k_istore_n (pc := 26) (lv' := [(3, .int (nI (W 155 % 10000))), (2, .int (nI (4 * m))), (0, .ref (ad (152))), (1, .ref (ad (j)))]) C dX0_spell_26 rfl (by decide) rfl ?_
        refine k_iconst (pc := 27) (v := nI 0) C dX0_spell_27 (by decide) ?_
        refine k_istore (pc := 28) (lv' := [(4, .int (nI 0)), (3, .int (nI (W 155 % 10000))), (2, .int (nI (4 * m))), (0, .ref (ad (152))), (1, .ref (ad (j)))]) C dX0_spell_28 (by decide) rfl ?_
        obtain ⟨x, hx⟩ : ∃ x, x = v / 10 ^ (4 * m) := ⟨_, rfl⟩
        rw [w1, ← hx]
        obtain ⟨W1, hW1⟩ : ∃ W9, W9 = va_up W 155 (x / 10000) := ⟨_, rfl⟩
        rw [← hW1]
        have il : ∀ (q i : Nat) (f : Nat → Int32), 4 - i < q → i ≤ 4 → (∀ k, k < 4 * m + i → f k = nI (v / 10 ^ k % 10)) → xK z (xw ad (cm ad ca (W1, U, sc, va_up ia 153 f, la)) 187) 0 0 30 [(4, .int (nI i)), (3, .int (nI (x % 10000 / 10 ^ i))), (2, .int (nI (4 * m))), (0, .ref (ad 152)), (1, .ref (ad j))] [] := by
          intro q
          induction q with
          | zero => intro i f h; exact absurd h (Nat.not_lt_zero _)
          | succ q iq =>
            intro i f hq hi hf2
            have hy : x % 10000 / 10 ^ i < 10000 := Nat.lt_of_le_of_lt (Nat.div_le_self _ _) (Nat.mod_lt _ (by decide))
            refine k_iload (pc := 30) C dX0_spell_30 0 rfl ?_
            refine k_iconst (pc := 32) (v := nI 4) C dX0_spell_32 (by decide) ?_
            refine k_icmp_ge (pc := 33) (tgt := 60) C dX0_spell_33 (by decide) (fun c33 => ?_) (fun c33 => ?_)
            · rw [q_le (by omega) (by omega)] at c33
              refine k_iinc (pc := 60) (v := nI (4 * (m + 1))) (lv' := [(2, .int (nI (4 * (m + 1)))), (4, .int (nI i)), (3, .int (nI (x % 10000 / 10 ^ i))), (0, .ref (ad (152))), (1, .ref (ad (j)))]) C dX0_spell_60 (k := 2) rfl (show nI (4 * m) + nI 4 = nI (4 * m + 4) from nI_add _ _) (by decide) rfl ?_
              refine k_goto (pc := 63) (tgt := 10) C dX0_spell_63 (by decide) ?_
              refine k_sub [0, 3, 4] rfl ?_
              exact ih (m + 1) W1 _ (by omega) (by omega) (by rw [hW1, ups, hx, show 4 * (m + 1) = 4 * m + 4 by omega, d4m]) (fun k hk => by rw [hW1, upn hk]; exact hw k hk) (fun k hk => hf2 k (by omega))
            · rw [q_le (by omega) (by omega)] at c33
              refine k_aload_n (pc := 36) C dX0_spell_36 rfl 3 rfl ?_
              refine gf_X0_9 (pc := 37) C (152) (by decide) cm_152 rfl dX0_spell_37 ?_
              refine k_iload_n (pc := 40) C dX0_spell_40 rfl 2 rfl ?_
              refine k_iload (pc := 41) C dX0_spell_41 0 rfl ?_
              refine k_iadd (pc := 43) C dX0_spell_43 ?_
              refine k_eqi (y := nI (4 * m + i)) (nI_add _ _) ?_
              refine k_iload_n (pc := 44) C dX0_spell_44 rfl 1 rfl ?_
              refine k_bipush (pc := 45) (v := nI 10) C dX0_spell_45 (by decide) ?_
              refine k_irem (pc := 47) C dX0_spell_47 (by decide) ?_
              refine k_eqi (y := nI (x % 10000 / 10 ^ i % 10)) (pk_rem (by omega) (by decide) (by decide)) ?_
              refine k_iast (pc := 48) C E (153) (by decide) cm_153 (4 * m + i) rfl (by omega) (by decide) dX0_spell_48 ?_
              rw [cm_a153, bx_uu, upIs]
              refine k_iload_n (pc := 49) C dX0_spell_49 rfl 1 rfl ?_
              refine k_bipush (pc := 50) (v := nI 10) C dX0_spell_50 (by decide) ?_
              refine k_idiv (pc := 52) C dX0_spell_52 (by decide) ?_
              refine k_eqi (y := nI (x % 10000 / 10 ^ (i + 1))) (by rw [d10_s]; exact pk_div (by omega) (by decide) (by decide)) ?_
              refine k_istore_n (pc := 53) (lv' := [(3, .int (nI (x % 10000 / 10 ^ (i + 1)))), (4, .int (nI i)), (2, .int (nI (4 * m))), (0, .ref (ad (152))), (1, .ref (ad (j)))]) C dX0_spell_53 rfl (by decide) rfl ?_
              refine k_iinc (pc := 54) (v := nI (i + 1)) (lv' := [(4, .int (nI (i + 1))), (3, .int (nI (x % 10000 / 10 ^ (i + 1)))), (2, .int (nI (4 * m))), (0, .ref (ad (152))), (1, .ref (ad (j)))]) C dX0_spell_54 (k := 1) rfl (nI_1 _) (by decide) rfl ?_
              refine k_goto (pc := 57) (tgt := 30) C dX0_spell_57 (by decide) ?_
              refine k_sub [0, 1, 2, 3, 4] rfl ?_
              exact iq (i + 1) _ (by omega) (by omega) (fun k hk => by
                by_cases e : k = 4 * m + i
                · subst e; rw [d4m, ← hx]; simp [upd]; exact congrArg nI (d4 (by omega))
                · rw [show ∀ y, upd f (4 * m + i) y k = f k from fun y => by simp [upd, e]]; exact hf2 k (by omega))
        have h9 := il 5 0 f (by decide) (by decide) (fun k hk => hf k (by omega))
        rw [Nat.pow_zero, Nat.div_one] at h9
        refine k_sub [0, 1, 2, 3, 4] rfl ?_
        exact h9
  refine k_aload_n (pc := 0) C dX0_spell_0 rfl 0 rfl ?_
  refine gf_X0_19 (pc := 1) C (152) (by decide) cm_152 rfl dX0_spell_1 ?_
  refine k_aload_n (pc := 4) C dX0_spell_4 rfl 1 rfl ?_
  refine cv_X0_30 (pc := 5) C E (c_copy w155 hj hj5) rfl (by decide) (cm_w w155) (by decide) rfl (Nat.le_of_ble_eq_true rfl) dX0_spell_5 (fun M5 h5 => ?_)
  subst h5
  rw [← hv]
  refine k_iconst (pc := 8) (v := nI (4 * 0)) C dX0_spell_8 (by decide) ?_
  refine k_istore_n (pc := 9) (lv' := [(2, .int (nI (4 * 0))), (0, .ref (ad (152))), (1, .ref (ad (j)))]) C dX0_spell_9 rfl (by decide) rfl ?_
  have h0 := oloop 21 0 (va_up V 155 v) (ia 153) (by decide) (by decide) (by rw [ups, Nat.mul_zero, Nat.pow_zero, Nat.div_one]) (fun k hk => upn hk) (fun k hk => absurd hk (by omega))
  rw [upSelf] at h0
  exact h0
set_option maxHeartbeats 4000000 in
set_option maxRecDepth 100000 in
/-- write -/
theorem c0_write {u c v : Nat} (hc : sc 10 = nI c) (hc1 : 1 ≤ c) (hc9 : c ≤ 78) (hu9 : u ≤ 12) (hg : ∀ k, k < 80 → ia 153 k = nI (v / 10 ^ k % 10)) : xV l D (xty ca) yX0_write cX0_write 3 none 1 60 [.ref (ad 152), .int (nI u)] ad (cm ad ca (V, U, sc, ia, la)) (fun M' => ∃ a, M' = cm ad ca (V, U, va_up sc 11 (nI (ptx u v (max (c - 1) u)).length), va_up ia 154 a, la) ∧ ∀ j, j < (ptx u v (max (c - 1) u)).length → a j = (ptx u v (max (c - 1) u)).getD j 0) := by
  refine xM.of (by decide) (Nat.le_of_ble_eq_true rfl) (fun z C E => ?_)
  obtain ⟨t, ht⟩ : ∃ t, t = ptx u v (max (c - 1) u) := ⟨_, rfl⟩
  have htl : t.length ≤ 120 := by rw [ht, ptx_len]; split <;> omega
  have loop : ∀ (A : Nat → Int32), (∀ j, j < t.length → A j = t.getD j 0) → ∀ (e n : Nat) (a : Nat → Int32), e ≤ max (c - 1) u + 1 → n + (pq u v e).length = t.length → wr a n (pq u v e) = A → xK z (xw ad (cm ad ca (V, U, va_up sc 11 (nI n), va_up ia 154 a, la)) 187) 0 0 16 [(2, .int (iz ((e : Int) - 1))), (0, .ref (ad 152)), (1, .int (nI u))] [] := by
    intro A hA e
    induction e with
    | zero =>
      intro n a he hn ha
      refine k_iload_n (pc := 16) C dX0_write_16 rfl 0 rfl ?_
      refine k_if_lt (pc := 17) (tgt := 76) C dX0_write_17 (by decide) (fun c17 => ?_) (fun c17 => ?_)
      · rw [iz_lt0 (by omega) (by omega)] at c17
        exact r_v (pc := 76) C E (by
  simp only [pq, List.length_nil, Nat.add_zero] at hn
  rw [← ht, ← hn]
  exact ⟨a, rfl, fun j hj => by rw [hn] at hj; have h8 := hA j hj; rw [← ha] at h8; exact h8⟩) dX0_write_76
      · rw [iz_lt0 (by omega) (by omega)] at c17
        exact absurd (by decide) c17
    | succ k ih =>
      intro n a he hn ha
      rw [pq_s] at hn ha
      refine k_iload_n (pc := 16) C dX0_write_16 rfl 0 rfl ?_
      refine k_if_lt (pc := 17) (tgt := 76) C dX0_write_17 (by decide) (fun c17 => ?_) (fun c17 => ?_)
      · rw [iz_lt0 (by omega) (by omega)] at c17
        exact absurd c17 (by omega)
      · rw [iz_lt0 (by omega) (by omega)] at c17
        refine k_aload_n (pc := 20) C dX0_write_20 rfl 1 rfl ?_
        refine k_bipush (pc := 21) (v := nI 48) C dX0_write_21 (by decide) ?_
        refine k_aload_n (pc := 23) C dX0_write_23 rfl 1 rfl ?_
        refine gf_X0_9 (pc := 24) C (152) (by decide) cm_152 rfl dX0_write_24 ?_
        refine k_iload_n (pc := 27) C dX0_write_27 rfl 0 rfl ?_
        refine k_eqi (y := nI k) (iz_pos (t := ((k + 1 : Nat) : Int) - 1) (by omega) |>.trans (congrArg nI (by omega))) ?_
        refine k_iald (pc := 28) C E (153) (by decide) cm_153 (k) rfl (by omega) (by decide) dX0_write_28 ?_
        refine k_eqi (y := nI (v / 10 ^ k % 10)) (by rw [upIn (by decide)]; exact hg k (by omega)) ?_
        refine k_iadd (pc := 29) C dX0_write_29 ?_
        refine k_eqi (y := nI (48 + v / 10 ^ k % 10)) (nI_add _ _) ?_
        refine cv_X0_44 (pc := 30) C E (c0_append (n := n) (x0 := nI (48 + v / 10 ^ k % 10)) upIs (by simp only [List.length_append, List.length_cons, List.length_nil, List.length_singleton] at hn; omega)) rfl (by decide) cm_152 (by decide) rfl (Nat.le_of_ble_eq_true rfl) dX0_write_30 (fun M30 h30 => ?_)
        subst h30
        rw [bx_uu, bx_uu, upIs]
        refine k_iload_n (pc := 33) C dX0_write_33 rfl 0 rfl ?_
        refine k_eqi (y := nI k) (iz_pos (t := ((k + 1 : Nat) : Int) - 1) (by omega) |>.trans (congrArg nI (by omega))) ?_
        refine k_iload_n (pc := 34) C dX0_write_34 rfl 2 rfl ?_
        refine k_icmp_le (pc := 35) (tgt := 55) C dX0_write_35 (by decide) (fun c35 => ?_) (fun c35 => ?_)
        · rw [q_le (by omega) (by omega)] at c35
          rw [if_neg (show ¬ (u < k ∧ (k - u) % 3 = 0) by omega)] at hn ha
          refine k_iload_n (pc := 55) C dX0_write_55 rfl 0 rfl ?_
          refine k_eqi (y := nI k) (iz_pos (t := ((k + 1 : Nat) : Int) - 1) (by omega) |>.trans (congrArg nI (by omega))) ?_
          refine k_if_le (pc := 56) (tgt := 70) C dX0_write_56 (by decide) (fun c56 => ?_) (fun c56 => ?_)
          · rw [q_le0 (by omega)] at c56
            rw [if_neg (show ¬ (0 < k ∧ k = u) by omega)] at hn ha
            refine k_iinc (pc := 70) (v := iz ((k : Int) - 1)) (lv' := [(2, .int (iz ((k : Int) - 1))), (0, .ref (ad (152))), (1, .int (nI u))]) C dX0_write_70 (k := 0) rfl (show iz (((k + 1 : Nat) : Int) - 1) + iz (-1) = _ by rw [iz_add]; congr 1; omega) (by decide) rfl ?_
            refine k_goto (pc := 73) (tgt := 16) C dX0_write_73 (by decide) ?_
            refine k_sub [0, 1, 2] rfl ?_
            exact ih (n + 1) (upd a n (nI (48 + v / 10 ^ k % 10))) (by omega) (by simp only [List.length_append, List.length_cons, List.length_nil, List.length_singleton] at hn; omega) (by simp only [List.nil_append, List.singleton_append, List.cons_append, wr] at ha; exact ha)
          · rw [q_le0 (by omega)] at c56
            skip
            refine k_iload_n (pc := 59) C dX0_write_59 rfl 0 rfl ?_
            refine k_eqi (y := nI k) (iz_pos (t := ((k + 1 : Nat) : Int) - 1) (by omega) |>.trans (congrArg nI (by omega))) ?_
            refine k_iload_n (pc := 60) C dX0_write_60 rfl 2 rfl ?_
            refine k_icmp_ne (pc := 61) (tgt := 70) C dX0_write_61 (by decide) (fun c61 => ?_) (fun c61 => ?_)
            · rw [q_eq (by omega) (by omega)] at c61
              rw [if_neg (show ¬ (0 < k ∧ k = u) by omega)] at hn ha
              refine k_iinc (pc := 70) (v := iz ((k : Int) - 1)) (lv' := [(2, .int (iz ((k : Int) - 1))), (0, .ref (ad (152))), (1, .int (nI u))]) C dX0_write_70 (k := 0) rfl (show iz (((k + 1 : Nat) : Int) - 1) + iz (-1) = _ by rw [iz_add]; congr 1; omega) (by decide) rfl ?_
              refine k_goto (pc := 73) (tgt := 16) C dX0_write_73 (by decide) ?_
              refine k_sub [0, 1, 2] rfl ?_
              exact ih (n + 1) (upd a n (nI (48 + v / 10 ^ k % 10))) (by omega) (by simp only [List.length_append, List.length_cons, List.length_nil, List.length_singleton] at hn; omega) (by simp only [List.nil_append, List.singleton_append, List.cons_append, wr] at ha; exact ha)
            · rw [q_eq (by omega) (by omega)] at c61
              rw [if_pos (show (0 < k ∧ k = u) by omega)] at hn ha
              refine k_aload_n (pc := 64) C dX0_write_64 rfl 1 rfl ?_
              refine k_bipush (pc := 65) (v := nI 46) C dX0_write_65 (by decide) ?_
              refine cv_X0_44 (pc := 67) C E (c0_append (n := (n + 1)) (x0 := nI 46) upIs (by simp only [List.length_append, List.length_cons, List.length_nil, List.length_singleton] at hn; omega)) rfl (by decide) cm_152 (by decide) rfl (Nat.le_of_ble_eq_true rfl) dX0_write_67 (fun M67 h67 => ?_)
              subst h67
              rw [bx_uu, bx_uu, upIs]
              refine k_iinc (pc := 70) (v := iz ((k : Int) - 1)) (lv' := [(2, .int (iz ((k : Int) - 1))), (0, .ref (ad (152))), (1, .int (nI u))]) C dX0_write_70 (k := 0) rfl (show iz (((k + 1 : Nat) : Int) - 1) + iz (-1) = _ by rw [iz_add]; congr 1; omega) (by decide) rfl ?_
              refine k_goto (pc := 73) (tgt := 16) C dX0_write_73 (by decide) ?_
              refine k_sub [0, 1, 2] rfl ?_
              exact ih ((n + 1) + 1) (upd (upd a n (nI (48 + v / 10 ^ k % 10))) (n + 1) (nI 46)) (by omega) (by simp only [List.length_append, List.length_cons, List.length_nil, List.length_singleton] at hn; omega) (by simp only [List.nil_append, List.singleton_append, List.cons_append, wr] at ha; exact ha)
        · rw [q_le (by omega) (by omega)] at c35
          skip
          refine k_iload_n (pc := 38) C dX0_write_38 rfl 0 rfl ?_
          refine k_eqi (y := nI k) (iz_pos (t := ((k + 1 : Nat) : Int) - 1) (by omega) |>.trans (congrArg nI (by omega))) ?_
          refine k_iload_n (pc := 39) C dX0_write_39 rfl 2 rfl ?_
          refine k_isub (pc := 40) C dX0_write_40 ?_
          refine k_eqi (y := nI (k - u)) (pk_sub (by omega)) ?_
          refine k_iconst (pc := 41) (v := nI 3) C dX0_write_41 (by decide) ?_
          refine k_irem (pc := 42) C dX0_write_42 (by decide) ?_
          refine k_eqi (y := nI ((k - u) % 3)) (pk_rem (by omega) (by decide) (by decide)) ?_
          refine k_if_ne (pc := 43) (tgt := 55) C dX0_write_43 (by decide) (fun c43 => ?_) (fun c43 => ?_)
          · rw [q_eq0 (by omega)] at c43
            rw [if_neg (show ¬ (u < k ∧ (k - u) % 3 = 0) by omega)] at hn ha
            refine k_iload_n (pc := 55) C dX0_write_55 rfl 0 rfl ?_
            refine k_eqi (y := nI k) (iz_pos (t := ((k + 1 : Nat) : Int) - 1) (by omega) |>.trans (congrArg nI (by omega))) ?_
            refine k_if_le (pc := 56) (tgt := 70) C dX0_write_56 (by decide) (fun c56 => ?_) (fun c56 => ?_)
            · rw [q_le0 (by omega)] at c56
              rw [if_neg (show ¬ (0 < k ∧ k = u) by omega)] at hn ha
              refine k_iinc (pc := 70) (v := iz ((k : Int) - 1)) (lv' := [(2, .int (iz ((k : Int) - 1))), (0, .ref (ad (152))), (1, .int (nI u))]) C dX0_write_70 (k := 0) rfl (show iz (((k + 1 : Nat) : Int) - 1) + iz (-1) = _ by rw [iz_add]; congr 1; omega) (by decide) rfl ?_
              refine k_goto (pc := 73) (tgt := 16) C dX0_write_73 (by decide) ?_
              refine k_sub [0, 1, 2] rfl ?_
              exact ih (n + 1) (upd a n (nI (48 + v / 10 ^ k % 10))) (by omega) (by simp only [List.length_append, List.length_cons, List.length_nil, List.length_singleton] at hn; omega) (by simp only [List.nil_append, List.singleton_append, List.cons_append, wr] at ha; exact ha)
            · rw [q_le0 (by omega)] at c56
              skip
              refine k_iload_n (pc := 59) C dX0_write_59 rfl 0 rfl ?_
              refine k_eqi (y := nI k) (iz_pos (t := ((k + 1 : Nat) : Int) - 1) (by omega) |>.trans (congrArg nI (by omega))) ?_
              refine k_iload_n (pc := 60) C dX0_write_60 rfl 2 rfl ?_
              refine k_icmp_ne (pc := 61) (tgt := 70) C dX0_write_61 (by decide) (fun c61 => ?_) (fun c61 => ?_)
              · rw [q_eq (by omega) (by omega)] at c61
                rw [if_neg (show ¬ (0 < k ∧ k = u) by omega)] at hn ha
                refine k_iinc (pc := 70) (v := iz ((k : Int) - 1)) (lv' := [(2, .int (iz ((k : Int) - 1))), (0, .ref (ad (152))), (1, .int (nI u))]) C dX0_write_70 (k := 0) rfl (show iz (((k + 1 : Nat) : Int) - 1) + iz (-1) = _ by rw [iz_add]; congr 1; omega) (by decide) rfl ?_
                refine k_goto (pc := 73) (tgt := 16) C dX0_write_73 (by decide) ?_
                refine k_sub [0, 1, 2] rfl ?_
                exact ih (n + 1) (upd a n (nI (48 + v / 10 ^ k % 10))) (by omega) (by simp only [List.length_append, List.length_cons, List.length_nil, List.length_singleton] at hn; omega) (by simp only [List.nil_append, List.singleton_append, List.cons_append, wr] at ha; exact ha)
              · rw [q_eq (by omega) (by omega)] at c61
                rw [if_pos (show (0 < k ∧ k = u) by omega)] at hn ha
                refine k_aload_n (pc := 64) C dX0_write_64 rfl 1 rfl ?_
                refine k_bipush (pc := 65) (v := nI 46) C dX0_write_65 (by decide) ?_
                refine cv_X0_44 (pc := 67) C E (c0_append (n := (n + 1)) (x0 := nI 46) upIs (by simp only [List.length_append, List.length_cons, List.length_nil, List.length_singleton] at hn; omega)) rfl (by decide) cm_152 (by decide) rfl (Nat.le_of_ble_eq_true rfl) dX0_write_67 (fun M67 h67 => ?_)
                subst h67
                rw [bx_uu, bx_uu, upIs]
                refine k_iinc (pc := 70) (v := iz ((k : Int) - 1)) (lv' := [(2, .int (iz ((k : Int) - 1))), (0, .ref (ad (152))), (1, .int (nI u))]) C dX0_write_70 (k := 0) rfl (show iz (((k + 1 : Nat) : Int) - 1) + iz (-1) = _ by rw [iz_add]; congr 1; omega) (by decide) rfl ?_
                refine k_goto (pc := 73) (tgt := 16) C dX0_write_73 (by decide) ?_
                refine k_sub [0, 1, 2] rfl ?_
                exact ih ((n + 1) + 1) (upd (upd a n (nI (48 + v / 10 ^ k % 10))) (n + 1) (nI 46)) (by omega) (by simp only [List.length_append, List.length_cons, List.length_nil, List.length_singleton] at hn; omega) (by simp only [List.nil_append, List.singleton_append, List.cons_append, wr] at ha; exact ha)
          · rw [q_eq0 (by omega)] at c43
            rw [if_pos (show (u < k ∧ (k - u) % 3 = 0) by omega)] at hn ha
            refine k_aload_n (pc := 46) C dX0_write_46 rfl 1 rfl ?_
            refine k_bipush (pc := 47) (v := nI 44) C dX0_write_47 (by decide) ?_
            refine cv_X0_44 (pc := 49) C E (c0_append (n := (n + 1)) (x0 := nI 44) upIs (by simp only [List.length_append, List.length_cons, List.length_nil, List.length_singleton] at hn; omega)) rfl (by decide) cm_152 (by decide) rfl (Nat.le_of_ble_eq_true rfl) dX0_write_49 (fun M49 h49 => ?_)
            subst h49
            rw [bx_uu, bx_uu, upIs]
            refine k_goto (pc := 52) (tgt := 70) C dX0_write_52 (by decide) ?_
            refine k_iinc (pc := 70) (v := iz ((k : Int) - 1)) (lv' := [(2, .int (iz ((k : Int) - 1))), (0, .ref (ad (152))), (1, .int (nI u))]) C dX0_write_70 (k := 0) rfl (show iz (((k + 1 : Nat) : Int) - 1) + iz (-1) = _ by rw [iz_add]; congr 1; omega) (by decide) rfl ?_
            refine k_goto (pc := 73) (tgt := 16) C dX0_write_73 (by decide) ?_
            refine k_sub [0, 1, 2] rfl ?_
            exact ih ((n + 1) + 1) (upd (upd a n (nI (48 + v / 10 ^ k % 10))) (n + 1) (nI 44)) (by omega) (by simp only [List.length_append, List.length_cons, List.length_nil, List.length_singleton] at hn; omega) (by simp only [List.nil_append, List.singleton_append, List.cons_append, wr] at ha; exact ha)
  refine k_aload_n (pc := 0) C dX0_write_0 rfl 0 rfl ?_
  refine k_iconst (pc := 1) (v := nI 0) C dX0_write_1 (by decide) ?_
  refine pf_X0_27 (pc := 2) C (152) (by decide) cm_152 (Nat.le_of_ble_eq_true rfl) dX0_write_2 ?_
  rw [cm_s11]
  refine k_aload_n (pc := 5) C dX0_write_5 rfl 0 rfl ?_
  refine gf_X0_23 (pc := 6) C (152) (by decide) cm_152 rfl dX0_write_6 ?_
  refine k_eqi (y := nI c) (by rw [upIn (by decide)]; exact hc) ?_
  refine k_iconst (pc := 9) (v := nI 1) C dX0_write_9 (by decide) ?_
  refine k_isub (pc := 10) C dX0_write_10 ?_
  refine k_eqi (y := nI (c - 1)) (pk_sub hc1) ?_
  refine k_iload_n (pc := 11) C dX0_write_11 rfl 1 rfl ?_
  refine k_mmax (pc := 12) C E wm_X0_38 wst_Lib_Math_max_name wI_Math wc_Lib_Math_max_name (by decide) (by decide) (by decide) (by decide) dX0_write_12 ?_
  refine k_eqi (y := iz ((((max (c - 1) u + 1 : Nat)) : Int) - 1)) (by
    rw [iz_pos (by omega), show ((((max (c - 1) u + 1 : Nat)) : Int) - 1).toNat = max (c - 1) u by omega]
    by_cases h : c - 1 < u
    · rw [if_pos (by rw [q_lt (by omega) (by omega)]; exact h)]; congr 1; omega
    · rw [if_neg (by rw [q_lt (by omega) (by omega)]; exact h)]; congr 1; omega) ?_
  refine k_istore_n (pc := 15) (lv' := [(2, .int (iz ((((max (c - 1) u + 1 : Nat)) : Int) - 1))), (0, .ref (ad (152))), (1, .int (nI u))]) C dX0_write_15 rfl (by decide) rfl ?_
  refine k_sub [0, 1, 2] rfl ?_
  have h9 := loop (wr (ia 154) 0 t) (fun j hj => by have h8 := wr_at (a := ia 154) (n := 0) t hj; rw [Nat.zero_add] at h8; exact h8) (max (c - 1) u + 1) 0 (ia 154) (Nat.le_refl _) (by rw [show pq u v (max (c - 1) u + 1) = ptx u v (max (c - 1) u) from rfl, ← ht, Nat.zero_add]) (by rw [show pq u v (max (c - 1) u + 1) = ptx u v (max (c - 1) u) from rfl, ← ht])
  rw [upSelf] at h9
  exact h9
set_option maxHeartbeats 4000000 in
set_option maxRecDepth 100000 in
/-- figures -/
theorem c6_figures {T : Nat → Nat} (hT : RC V T) (hB : TB T) {x0 : Int32} : xI l D (xty ca) yX6_figures cX6_figures 2 (some .int) 3 150 [.ref (ad 0), .int x0] ad (cm ad ca (V, U, sc, ia, la)) (fun r M' => ∃ V' sc' ia', M' = cm ad ca (V', U, sc', ia', la) ∧ RC V' T ∧ (∀ k, k ≠ 10 → sc' k = sc k) ∧ (∀ k, k ≠ 153 → ia' k = ia k) ∧ (if inR x0 16 then ∃ c, r = nI c ∧ isND (T (rI x0)) c else r = -1)) := by
  refine xM.of (by decide) (Nat.le_of_ble_eq_true rfl) (fun z C E => ?_)
  refine k_iload_n (pc := 0) C dX6_figures_0 rfl 1 rfl ?_
  refine cs_X6_68 (pc := 1) C E (c6_isRegister) rfl (by decide) rfl (Nat.le_of_ble_eq_true rfl) dX6_figures_1 (fun r1 M1 h1 => ?_)
  obtain ⟨rfl, rfl⟩ := h1
  refine k_if_ne (pc := 4) (tgt := 9) C dX6_figures_4 (by decide) (fun c4 => ?_) (fun c4 => ?_)
  · simp only [b01, Decidable.not_not] at c4
    obtain ⟨x, hx, rfl⟩ := inR_k c4
    have hTx := hT.r hx
    have bx1 := hB.1 x hx
    refine k_aload_n (pc := 9) C dX6_figures_9 rfl 0 rfl ?_
    refine gf_X6_29 (pc := 10) C (0) (by decide) cm_0 rfl dX6_figures_10 ?_
    refine k_aload_n (pc := 13) C dX6_figures_13 rfl 0 rfl ?_
    refine gf_X6_10 (pc := 14) C (0) (by decide) cm_0 rfl dX6_figures_14 ?_
    refine gf_X6_72 (pc := 17) C (1) (by decide) cm_1 rfl dX6_figures_17 ?_
    refine k_iload_n (pc := 20) C dX6_figures_20 rfl 1 rfl ?_
    refine k_aald (pc := 21) C E (2) (by decide) 2 rfl rfl cm_2 (x) rfl (by omega) (by decide) (4 + 2 * x) rfl dX6_figures_21 ?_
    refine cv_X6_185 (pc := 22) C E (c0_spell (wR hx) (by omega) (by rw [hTx]; exact bx1)) rfl (by decide) cm_152 (by decide) rfl (Nat.le_of_ble_eq_true rfl) dX6_figures_22 (fun M22 h22 => ?_)
    obtain ⟨c, W, f, rfl, hc, hf, hw⟩ := h22
    rw [hTx] at hc hf
    have hc78 := isND_le bx1 hc
    refine k_aload_n (pc := 25) C dX6_figures_25 rfl 0 rfl ?_
    refine gf_X6_29 (pc := 26) C (0) (by decide) cm_0 rfl dX6_figures_26 ?_
    refine gf_X6_188 (pc := 29) C (152) (by decide) cm_152 rfl dX6_figures_29 ?_
    exact r_i (pc := 32) C E (⟨W, _, _, rfl, hT.o (fun k hk => hw k (by omega)), fun k hk => upIn hk, fun k hk => upIn hk, by rw [if_pos c4, rI_n (show x < 2147483648 by omega)]; exact ⟨c, upIs, hc⟩⟩) dX6_figures_32
  · simp only [b01, Decidable.not_not] at c4
    refine k_iconst (pc := 7) (v := (-1)) C dX6_figures_7 (by decide) ?_
    exact r_i (pc := 8) C E (⟨V, sc, ia, rfl, hT, fun _ _ => rfl, fun _ _ => rfl, by rw [if_neg c4]⟩) dX6_figures_8
set_option maxHeartbeats 4000000 in
set_option maxRecDepth 100000 in
/-- print -/
theorem c6_print {T : Nat → Nat} (hT : RC V T) (hB : TB T) {x0 : Int32} {u : Nat} (hu : sc 1 = nI u) (hu9 : u ≤ 12) : xI l D (xty ca) yX6_print cX6_print 2 (some .int) 3 150 [.ref (ad 0), .int x0] ad (cm ad ca (V, U, sc, ia, la)) (fun r M' => ∃ V' sc' ia', M' = cm ad ca (V', U, sc', ia', la) ∧ RC V' T ∧ (∀ k, k ≠ 10 → k ≠ 11 → sc' k = sc k) ∧ (∀ k, k ≠ 153 → k ≠ 154 → ia' k = ia k) ∧ (if inR x0 16 then ∃ c, isND (T (rI x0)) c ∧ r = nI (ptx u (T (rI x0)) (max (c - 1) u)).length ∧ sc' 11 = nI (ptx u (T (rI x0)) (max (c - 1) u)).length ∧ (∀ j, j < (ptx u (T (rI x0)) (max (c - 1) u)).length → ia' 154 j = (ptx u (T (rI x0)) (max (c - 1) u)).getD j 0) else r = -1 ∧ sc' 11 = sc 11 ∧ ia' 154 = ia 154)) := by
  refine xM.of (by decide) (Nat.le_of_ble_eq_true rfl) (fun z C E => ?_)
  refine k_iload_n (pc := 0) C dX6_print_0 rfl 1 rfl ?_
  refine cs_X6_68 (pc := 1) C E (c6_isRegister) rfl (by decide) rfl (Nat.le_of_ble_eq_true rfl) dX6_print_1 (fun r1 M1 h1 => ?_)
  obtain ⟨rfl, rfl⟩ := h1
  refine k_if_ne (pc := 4) (tgt := 9) C dX6_print_4 (by decide) (fun c4 => ?_) (fun c4 => ?_)
  · simp only [b01, Decidable.not_not] at c4
    obtain ⟨x, hx, rfl⟩ := inR_k c4
    have hTx := hT.r hx
    have bx1 := hB.1 x hx
    refine k_aload_n (pc := 9) C dX6_print_9 rfl 0 rfl ?_
    refine gf_X6_29 (pc := 10) C (0) (by decide) cm_0 rfl dX6_print_10 ?_
    refine k_aload_n (pc := 13) C dX6_print_13 rfl 0 rfl ?_
    refine gf_X6_10 (pc := 14) C (0) (by decide) cm_0 rfl dX6_print_14 ?_
    refine gf_X6_72 (pc := 17) C (1) (by decide) cm_1 rfl dX6_print_17 ?_
    refine k_iload_n (pc := 20) C dX6_print_20 rfl 1 rfl ?_
    refine k_aald (pc := 21) C E (2) (by decide) 2 rfl rfl cm_2 (x) rfl (by omega) (by decide) (4 + 2 * x) rfl dX6_print_21 ?_
    refine cv_X6_185 (pc := 22) C E (c0_spell (wR hx) (by omega) (by rw [hTx]; exact bx1)) rfl (by decide) cm_152 (by decide) rfl (Nat.le_of_ble_eq_true rfl) dX6_print_22 (fun M22 h22 => ?_)
    obtain ⟨c, W, f, rfl, hc, hf, hw⟩ := h22
    rw [hTx] at hc hf
    have hc78 := isND_le bx1 hc
    refine k_aload_n (pc := 25) C dX6_print_25 rfl 0 rfl ?_
    refine gf_X6_29 (pc := 26) C (0) (by decide) cm_0 rfl dX6_print_26 ?_
    refine k_aload_n (pc := 29) C dX6_print_29 rfl 0 rfl ?_
    refine gf_X6_56 (pc := 30) C (0) (by decide) cm_0 rfl dX6_print_30 ?_
    refine k_eqi (y := nI u) (by rw [upIn (by decide)]; exact hu) ?_
    refine cv_X6_200 (pc := 33) C E (c0_write (c := c) (v := T x) upIs hc.1 hc78 hu9 (fun k hk => by rw [upIs]; exact hf k hk)) rfl (by decide) cm_152 (by decide) rfl (Nat.le_of_ble_eq_true rfl) dX6_print_33 (fun M33 h33 => ?_)
    obtain ⟨a, rfl, ha⟩ := h33
    refine k_aload_n (pc := 36) C dX6_print_36 rfl 0 rfl ?_
    refine gf_X6_29 (pc := 37) C (0) (by decide) cm_0 rfl dX6_print_37 ?_
    refine gf_X6_203 (pc := 40) C (152) (by decide) cm_152 rfl dX6_print_40 ?_
    exact r_i (pc := 43) C E (by
  refine ⟨W, _, _, rfl, hT.o (fun k hk => hw k (by omega)), fun k h1 h2 => by rw [upIn h2, upIn h1], fun k h1 h2 => by rw [upIn h2, upIn h1], ?_⟩
  rw [if_pos c4, rI_n (show x < 2147483648 by omega)]
  exact ⟨c, hc, upIs, upIs, fun j hj => by rw [upIs]; exact ha j hj⟩) dX6_print_43
  · simp only [b01, Decidable.not_not] at c4
    refine k_iconst (pc := 7) (v := (-1)) C dX6_print_7 (by decide) ?_
    exact r_i (pc := 8) C E (⟨V, sc, ia, rfl, hT, fun _ _ _ => rfl, fun _ _ _ => rfl, by rw [if_neg c4]; exact ⟨rfl, rfl, rfl⟩⟩) dX6_print_8
end EF
