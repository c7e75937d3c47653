section EA
variable {l : Launch} {D : va_G} {ca : Nat → ClassId} {ad : Nat → Nat} {V U : Nat → Nat} {sc : Nat → Int32} {ia : Nat → Nat → Int32} {la : Nat → Nat → Int64}
set_option maxHeartbeats 4000000 in
set_option maxRecDepth 100000 in
/-- isRegister -/
theorem c6_isRegister {x : Int32} : xI l D (xty ca) yX6_isRegister cX6_isRegister 1 (some .boolean) 0 0 [.int x] ad (cm ad ca (V, U, sc, ia, la)) (fun r M' => M' = cm ad ca (V, U, sc, ia, la) ∧ r = if inR x 16 then 1 else 0) := by
  refine xM.of (by decide) (Nat.le_of_ble_eq_true rfl) (fun z C E => ?_)
  refine k_iload_n (pc := 0) C dX6_isRegister_0 rfl 0 rfl ?_
  refine k_if_lt (pc := 1) (tgt := 14) C dX6_isRegister_1 (by decide) (fun c1 => ?_) (fun c1 => ?_)
  · rw [Int32.lt_iff_toInt_lt, show (0 : Int32).toInt = 0 from rfl] at c1
    refine k_iconst (pc := 14) (v := nI 0) C dX6_isRegister_14 (by decide) ?_
    exact r_z (pc := 15) C E (⟨rfl, by first | (rw [if_neg (fun h => by omega)]; rfl) | (rw [if_pos (by constructor <;> omega)]; rfl)⟩) (by decide) dX6_isRegister_15
  · rw [Int32.lt_iff_toInt_lt, show (0 : Int32).toInt = 0 from rfl] at c1
    refine k_iload_n (pc := 4) C dX6_isRegister_4 rfl 0 rfl ?_
    refine k_bipush (pc := 5) (v := nI 16) C dX6_isRegister_5 (by decide) ?_
    refine k_icmp_ge (pc := 7) (tgt := 14) C dX6_isRegister_7 (by decide) (fun c7 => ?_) (fun c7 => ?_)
    · rw [Int32.le_iff_toInt_le, nI_toInt (by decide)] at c7
      refine k_iconst (pc := 14) (v := nI 0) C dX6_isRegister_14 (by decide) ?_
      exact r_z (pc := 15) C E (⟨rfl, by first | (rw [if_neg (fun h => by omega)]; rfl) | (rw [if_pos (by constructor <;> omega)]; rfl)⟩) (by decide) dX6_isRegister_15
    · rw [Int32.le_iff_toInt_le, nI_toInt (by decide)] at c7
      refine k_iconst (pc := 10) (v := nI 1) C dX6_isRegister_10 (by decide) ?_
      refine k_goto (pc := 11) (tgt := 15) C dX6_isRegister_11 (by decide) ?_
      exact r_z (pc := 15) C E (⟨rfl, by first | (rw [if_neg (fun h => by omega)]; rfl) | (rw [if_pos (by constructor <;> omega)]; rfl)⟩) (by decide) dX6_isRegister_15
set_option maxHeartbeats 4000000 in
set_option maxRecDepth 100000 in
/-- isPool -/
theorem c6_isPool {x : Int32} : xI l D (xty ca) yX6_isPool cX6_isPool 1 (some .boolean) 0 0 [.int x] ad (cm ad ca (V, U, sc, ia, la)) (fun r M' => M' = cm ad ca (V, U, sc, ia, la) ∧ r = if inR x 4 then 1 else 0) := by
  refine xM.of (by decide) (Nat.le_of_ble_eq_true rfl) (fun z C E => ?_)
  refine k_iload_n (pc := 0) C dX6_isPool_0 rfl 0 rfl ?_
  refine k_if_lt (pc := 1) (tgt := 13) C dX6_isPool_1 (by decide) (fun c1 => ?_) (fun c1 => ?_)
  · rw [Int32.lt_iff_toInt_lt, show (0 : Int32).toInt = 0 from rfl] at c1
    refine k_iconst (pc := 13) (v := nI 0) C dX6_isPool_13 (by decide) ?_
    exact r_z (pc := 14) C E (⟨rfl, by first | (rw [if_neg (fun h => by omega)]; rfl) | (rw [if_pos (by constructor <;> omega)]; rfl)⟩) (by decide) dX6_isPool_14
  · rw [Int32.lt_iff_toInt_lt, show (0 : Int32).toInt = 0 from rfl] at c1
    refine k_iload_n (pc := 4) C dX6_isPool_4 rfl 0 rfl ?_
    refine k_iconst (pc := 5) (v := nI 4) C dX6_isPool_5 (by decide) ?_
    refine k_icmp_ge (pc := 6) (tgt := 13) C dX6_isPool_6 (by decide) (fun c6 => ?_) (fun c6 => ?_)
    · rw [Int32.le_iff_toInt_le, nI_toInt (by decide)] at c6
      refine k_iconst (pc := 13) (v := nI 0) C dX6_isPool_13 (by decide) ?_
      exact r_z (pc := 14) C E (⟨rfl, by first | (rw [if_neg (fun h => by omega)]; rfl) | (rw [if_pos (by constructor <;> omega)]; rfl)⟩) (by decide) dX6_isPool_14
    · rw [Int32.le_iff_toInt_le, nI_toInt (by decide)] at c6
      refine k_iconst (pc := 9) (v := nI 1) C dX6_isPool_9 (by decide) ?_
      refine k_goto (pc := 10) (tgt := 14) C dX6_isPool_10 (by decide) ?_
      exact r_z (pc := 14) C E (⟨rfl, by first | (rw [if_neg (fun h => by omega)]; rfl) | (rw [if_pos (by constructor <;> omega)]; rfl)⟩) (by decide) dX6_isPool_14
set_option maxHeartbeats 4000000 in
set_option maxRecDepth 100000 in
/-- isWay -/
theorem c6_isWay {x : Int32} : xI l D (xty ca) yX6_isWay cX6_isWay 1 (some .boolean) 0 0 [.int x] ad (cm ad ca (V, U, sc, ia, la)) (fun r M' => M' = cm ad ca (V, U, sc, ia, la) ∧ r = if inR x 5 then 1 else 0) := by
  refine xM.of (by decide) (Nat.le_of_ble_eq_true rfl) (fun z C E => ?_)
  refine k_iload_n (pc := 0) C dX6_isWay_0 rfl 0 rfl ?_
  refine k_if_lt (pc := 1) (tgt := 13) C dX6_isWay_1 (by decide) (fun c1 => ?_) (fun c1 => ?_)
  · rw [Int32.lt_iff_toInt_lt, show (0 : Int32).toInt = 0 from rfl] at c1
    refine k_iconst (pc := 13) (v := nI 0) C dX6_isWay_13 (by decide) ?_
    exact r_z (pc := 14) C E (⟨rfl, by first | (rw [if_neg (fun h => by omega)]; rfl) | (rw [if_pos (by constructor <;> omega)]; rfl)⟩) (by decide) dX6_isWay_14
  · rw [Int32.lt_iff_toInt_lt, show (0 : Int32).toInt = 0 from rfl] at c1
    refine k_iload_n (pc := 4) C dX6_isWay_4 rfl 0 rfl ?_
    refine k_iconst (pc := 5) (v := nI 5) C dX6_isWay_5 (by decide) ?_
    refine k_icmp_ge (pc := 6) (tgt := 13) C dX6_isWay_6 (by decide) (fun c6 => ?_) (fun c6 => ?_)
    · rw [Int32.le_iff_toInt_le, nI_toInt (by decide)] at c6
      refine k_iconst (pc := 13) (v := nI 0) C dX6_isWay_13 (by decide) ?_
      exact r_z (pc := 14) C E (⟨rfl, by first | (rw [if_neg (fun h => by omega)]; rfl) | (rw [if_pos (by constructor <;> omega)]; rfl)⟩) (by decide) dX6_isWay_14
    · rw [Int32.le_iff_toInt_le, nI_toInt (by decide)] at c6
      refine k_iconst (pc := 9) (v := nI 1) C dX6_isWay_9 (by decide) ?_
      refine k_goto (pc := 10) (tgt := 14) C dX6_isWay_10 (by decide) ?_
      exact r_z (pc := 14) C E (⟨rfl, by first | (rw [if_neg (fun h => by omega)]; rfl) | (rw [if_pos (by constructor <;> omega)]; rfl)⟩) (by decide) dX6_isWay_14
set_option maxHeartbeats 4000000 in
set_option maxRecDepth 100000 in
/-- isSide -/
theorem c6_isSide {x : Int32} : xI l D (xty ca) yX6_isSide cX6_isSide 1 (some .boolean) 0 0 [.int x] ad (cm ad ca (V, U, sc, ia, la)) (fun r M' => M' = cm ad ca (V, U, sc, ia, la) ∧ r = if inR x 2 then 1 else 0) := by
  refine xM.of (by decide) (Nat.le_of_ble_eq_true rfl) (fun z C E => ?_)
  refine k_iload_n (pc := 0) C dX6_isSide_0 rfl 0 rfl ?_
  refine k_if_eq (pc := 1) (tgt := 9) C dX6_isSide_1 (by decide) (fun c1 => ?_) (fun c1 => ?_)
  · rw [← Int32.toInt_inj, show (0 : Int32).toInt = 0 from rfl] at c1
    refine k_iconst (pc := 9) (v := nI 1) C dX6_isSide_9 (by decide) ?_
    refine k_goto (pc := 10) (tgt := 14) C dX6_isSide_10 (by decide) ?_
    exact r_z (pc := 14) C E (⟨rfl, by first | (rw [if_neg (fun h => by omega)]; rfl) | (rw [if_pos (by constructor <;> omega)]; rfl)⟩) (by decide) dX6_isSide_14
  · rw [← Int32.toInt_inj, show (0 : Int32).toInt = 0 from rfl] at c1
    refine k_iload_n (pc := 4) C dX6_isSide_4 rfl 0 rfl ?_
    refine k_iconst (pc := 5) (v := nI 1) C dX6_isSide_5 (by decide) ?_
    refine k_icmp_ne (pc := 6) (tgt := 13) C dX6_isSide_6 (by decide) (fun c6 => ?_) (fun c6 => ?_)
    · rw [← Int32.toInt_inj, nI_toInt (by decide)] at c6
      refine k_iconst (pc := 13) (v := nI 0) C dX6_isSide_13 (by decide) ?_
      exact r_z (pc := 14) C E (⟨rfl, by first | (rw [if_neg (fun h => by omega)]; rfl) | (rw [if_pos (by constructor <;> omega)]; rfl)⟩) (by decide) dX6_isSide_14
    · rw [← Int32.toInt_inj, nI_toInt (by decide)] at c6
      refine k_iconst (pc := 9) (v := nI 1) C dX6_isSide_9 (by decide) ?_
      refine k_goto (pc := 10) (tgt := 14) C dX6_isSide_10 (by decide) ?_
      exact r_z (pc := 14) C E (⟨rfl, by first | (rw [if_neg (fun h => by omega)]; rfl) | (rw [if_pos (by constructor <;> omega)]; rfl)⟩) (by decide) dX6_isSide_14
set_option maxHeartbeats 4000000 in
set_option maxRecDepth 100000 in
/-- areRegisters -/
theorem c6_areRegisters {x y t : Int32} : xI l D (xty ca) yX6_areRegisters cX6_areRegisters 3 (some .boolean) 1 30 [.int x, .int y, .int t] ad (cm ad ca (V, U, sc, ia, la)) (fun r M' => M' = cm ad ca (V, U, sc, ia, la) ∧ r = if ok3 x y t then 1 else 0) := by
  refine xM.of (by decide) (Nat.le_of_ble_eq_true rfl) (fun z C E => ?_)
  refine k_iload_n (pc := 0) C dX6_areRegisters_0 rfl 0 rfl ?_
  refine cs_X6_68 (pc := 1) C E (c6_isRegister) rfl (by decide) rfl (Nat.le_of_ble_eq_true rfl) dX6_areRegisters_1 (fun r1 M1 h1 => ?_)
  obtain ⟨rfl, rfl⟩ := h1
  refine k_if_eq (pc := 4) (tgt := 25) C dX6_areRegisters_4 (by decide) (fun c4 => ?_) (fun c4 => ?_)
  · simp only [b01, Decidable.not_not] at c4
    refine k_iconst (pc := 25) (v := nI 0) C dX6_areRegisters_25 (by decide) ?_
    exact r_z (pc := 26) C E (⟨rfl, by first | (rw [if_pos ⟨c4, c11, c18⟩]; rfl) | (rw [if_neg (fun h => c4 h.1)]; rfl) | (rw [if_neg (fun h => c11 h.2.1)]; rfl) | (rw [if_neg (fun h => c18 h.2.2)]; rfl)⟩) (by decide) dX6_areRegisters_26
  · simp only [b01, Decidable.not_not] at c4
    refine k_iload_n (pc := 7) C dX6_areRegisters_7 rfl 1 rfl ?_
    refine cs_X6_68 (pc := 8) C E (c6_isRegister) rfl (by decide) rfl (Nat.le_of_ble_eq_true rfl) dX6_areRegisters_8 (fun r8 M8 h8 => ?_)
    obtain ⟨rfl, rfl⟩ := h8
    refine k_if_eq (pc := 11) (tgt := 25) C dX6_areRegisters_11 (by decide) (fun c11 => ?_) (fun c11 => ?_)
    · simp only [b01, Decidable.not_not] at c11
      refine k_iconst (pc := 25) (v := nI 0) C dX6_areRegisters_25 (by decide) ?_
      exact r_z (pc := 26) C E (⟨rfl, by first | (rw [if_pos ⟨c4, c11, c18⟩]; rfl) | (rw [if_neg (fun h => c4 h.1)]; rfl) | (rw [if_neg (fun h => c11 h.2.1)]; rfl) | (rw [if_neg (fun h => c18 h.2.2)]; rfl)⟩) (by decide) dX6_areRegisters_26
    · simp only [b01, Decidable.not_not] at c11
      refine k_iload_n (pc := 14) C dX6_areRegisters_14 rfl 2 rfl ?_
      refine cs_X6_68 (pc := 15) C E (c6_isRegister) rfl (by decide) rfl (Nat.le_of_ble_eq_true rfl) dX6_areRegisters_15 (fun r15 M15 h15 => ?_)
      obtain ⟨rfl, rfl⟩ := h15
      refine k_if_eq (pc := 18) (tgt := 25) C dX6_areRegisters_18 (by decide) (fun c18 => ?_) (fun c18 => ?_)
      · simp only [b01, Decidable.not_not] at c18
        refine k_iconst (pc := 25) (v := nI 0) C dX6_areRegisters_25 (by decide) ?_
        exact r_z (pc := 26) C E (⟨rfl, by first | (rw [if_pos ⟨c4, c11, c18⟩]; rfl) | (rw [if_neg (fun h => c4 h.1)]; rfl) | (rw [if_neg (fun h => c11 h.2.1)]; rfl) | (rw [if_neg (fun h => c18 h.2.2)]; rfl)⟩) (by decide) dX6_areRegisters_26
      · simp only [b01, Decidable.not_not] at c18
        refine k_iconst (pc := 21) (v := nI 1) C dX6_areRegisters_21 (by decide) ?_
        refine k_goto (pc := 22) (tgt := 26) C dX6_areRegisters_22 (by decide) ?_
        exact r_z (pc := 26) C E (⟨rfl, by first | (rw [if_pos ⟨c4, c11, c18⟩]; rfl) | (rw [if_neg (fun h => c4 h.1)]; rfl) | (rw [if_neg (fun h => c11 h.2.1)]; rfl) | (rw [if_neg (fun h => c18 h.2.2)]; rfl)⟩) (by decide) dX6_areRegisters_26
set_option maxHeartbeats 4000000 in
set_option maxRecDepth 100000 in
/-- powerOfTen -/
theorem c6_pow {u : Nat} (hu : u < 19) : xL l D (xty ca) yX6_powerOfTen cX6_powerOfTen 4 (some .long) 0 0 [.int (nI u)] ad (cm ad ca (V, U, sc, ia, la)) (fun r M' => M' = cm ad ca (V, U, sc, ia, la) ∧ r = lN (10 ^ u)) := by
  refine xM.of (by decide) (Nat.le_of_ble_eq_true rfl) (fun z C E => ?_)
  have loop : ∀ (n k : Nat), u - k < n → k ≤ u → xK z (xw ad (cm ad ca (V, U, sc, ia, la)) 187) 0 0 4 [(3, .int (nI k)), (1, .long (lN (10 ^ k))), (0, .int (nI u))] [] := by
    intro n
    induction n with
    | zero => intro k h; exact absurd h (Nat.not_lt_zero _)
    | succ n ih =>
      intro k hn hk
      refine k_iload_n (pc := 4) C dX6_powerOfTen_4 rfl 0 rfl ?_
      refine k_iload_n (pc := 5) C dX6_powerOfTen_5 rfl 2 rfl ?_
      refine k_icmp_ge (pc := 6) (tgt := 21) C dX6_powerOfTen_6 (by decide) (fun c6 => ?_) (fun c6 => ?_)
      · rw [q_le (by omega) (by omega)] at c6
        refine k_lload_n (pc := 21) C dX6_powerOfTen_21 rfl 1 rfl ?_
        exact r_l (pc := 22) C E (⟨rfl, by rw [show k = u by omega]⟩) dX6_powerOfTen_22
      · rw [q_le (by omega) (by omega)] at c6
        refine k_lload_n (pc := 9) C dX6_powerOfTen_9 rfl 1 rfl ?_
        refine k_ldc2 (pc := 10) C kc_X6_273 dX6_powerOfTen_10 ?_
        refine k_eql (y := lN 10) rfl ?_
        refine k_lmul (pc := 13) C dX6_powerOfTen_13 ?_
        refine k_eql (y := lN (10 ^ (k + 1))) (by rw [lN_mul, Nat.pow_succ]) ?_
        refine k_lstore_n (pc := 14) (lv' := [(1, .long (lN (10 ^ (k + 1)))), (3, .int (nI k)), (0, .int (nI u))]) C dX6_powerOfTen_14 rfl (by decide) rfl ?_
        refine k_iinc (pc := 15) (v := nI (k + 1)) (lv' := [(3, .int (nI (k + 1))), (1, .long (lN (10 ^ (k + 1)))), (0, .int (nI u))]) C dX6_powerOfTen_15 (k := 1) rfl (nI_1 _) (by decide) rfl ?_
        refine k_goto (pc := 18) (tgt := 4) C dX6_powerOfTen_18 (by decide) ?_
        refine k_sub [0, 1, 2] rfl ?_
        exact ih (k + 1) (by omega) (by omega)
  refine k_lconst (pc := 0) (v := lN 1) C dX6_powerOfTen_0 (by decide) ?_
  refine k_lstore_n (pc := 1) (lv' := [(1, .long (lN 1)), (0, .int (nI u))]) C dX6_powerOfTen_1 rfl (by decide) rfl ?_
  refine k_iconst (pc := 2) (v := nI 0) C dX6_powerOfTen_2 (by decide) ?_
  refine k_istore_n (pc := 3) (lv' := [(3, .int (nI 0)), (1, .long (lN 1)), (0, .int (nI u))]) C dX6_powerOfTen_3 rfl (by decide) rfl ?_
  exact loop (u + 1) 0 (by omega) (by omega)
set_option maxHeartbeats 4000000 in
set_option maxRecDepth 100000 in
/-- ten -/
theorem c7_ten {u : Nat} (hu : u < 19) : xL l D (xty ca) yX7_ten cX7_ten 4 (some .long) 0 0 [.int (nI u)] ad (cm ad ca (V, U, sc, ia, la)) (fun r M' => M' = cm ad ca (V, U, sc, ia, la) ∧ r = lN (10 ^ u)) := by
  refine xM.of (by decide) (Nat.le_of_ble_eq_true rfl) (fun z C E => ?_)
  have loop : ∀ (n k : Nat), u - k < n → k ≤ u → xK z (xw ad (cm ad ca (V, U, sc, ia, la)) 187) 0 0 4 [(3, .int (nI k)), (1, .long (lN (10 ^ k))), (0, .int (nI u))] [] := by
    intro n
    induction n with
    | zero => intro k h; exact absurd h (Nat.not_lt_zero _)
    | succ n ih =>
      intro k hn hk
      refine k_iload_n (pc := 4) C dX7_ten_4 rfl 0 rfl ?_
      refine k_iload_n (pc := 5) C dX7_ten_5 rfl 2 rfl ?_
      refine k_icmp_ge (pc := 6) (tgt := 21) C dX7_ten_6 (by decide) (fun c6 => ?_) (fun c6 => ?_)
      · rw [q_le (by omega) (by omega)] at c6
        refine k_lload_n (pc := 21) C dX7_ten_21 rfl 1 rfl ?_
        exact r_l (pc := 22) C E (⟨rfl, by rw [show k = u by omega]⟩) dX7_ten_22
      · rw [q_le (by omega) (by omega)] at c6
        refine k_lload_n (pc := 9) C dX7_ten_9 rfl 1 rfl ?_
        refine k_ldc2 (pc := 10) C kc_X7_117 dX7_ten_10 ?_
        refine k_eql (y := lN 10) rfl ?_
        refine k_lmul (pc := 13) C dX7_ten_13 ?_
        refine k_eql (y := lN (10 ^ (k + 1))) (by rw [lN_mul, Nat.pow_succ]) ?_
        refine k_lstore_n (pc := 14) (lv' := [(1, .long (lN (10 ^ (k + 1)))), (3, .int (nI k)), (0, .int (nI u))]) C dX7_ten_14 rfl (by decide) rfl ?_
        refine k_iinc (pc := 15) (v := nI (k + 1)) (lv' := [(3, .int (nI (k + 1))), (1, .long (lN (10 ^ (k + 1)))), (0, .int (nI u))]) C dX7_ten_15 (k := 1) rfl (nI_1 _) (by decide) rfl ?_
        refine k_goto (pc := 18) (tgt := 4) C dX7_ten_18 (by decide) ?_
        refine k_sub [0, 1, 2] rfl ?_
        exact ih (k + 1) (by omega) (by omega)
  refine k_lconst (pc := 0) (v := lN 1) C dX7_ten_0 (by decide) ?_
  refine k_lstore_n (pc := 1) (lv' := [(1, .long (lN 1)), (0, .int (nI u))]) C dX7_ten_1 rfl (by decide) rfl ?_
  refine k_iconst (pc := 2) (v := nI 0) C dX7_ten_2 (by decide) ?_
  refine k_istore_n (pc := 3) (lv' := [(3, .int (nI 0)), (1, .long (lN 1)), (0, .int (nI u))]) C dX7_ten_3 rfl (by decide) rfl ?_
  exact loop (u + 1) 0 (by omega) (by omega)
set_option maxHeartbeats 4000000 in
set_option maxRecDepth 100000 in
/-- keepSum -/
theorem c6_keep {j k : Nat} (hj : isW j) (hk : k < 16) (hjk : 135 < j) (hb : V j < 65536 ^ 24) : xI l D (xty ca) yX6_keepSum cX6_keepSum 3 (some .int) 3 150 [.ref (ad 0), .int (nI k), .ref (ad j)] ad (cm ad ca (V, U, sc, ia, la)) (fun r M' => ∃ V', M' = cm ad ca (V', U, sc, ia, la) ∧ if V j < 2 ^ 256 then r = 1 ∧ V' = va_up V (4 + 2 * k) (V j) else r = -2 ∧ V' = V) := by
  refine xM.of (by decide) (Nat.le_of_ble_eq_true rfl) (fun z C E => ?_)
  refine k_aload_n (pc := 0) C dX6_keepSum_0 rfl 2 rfl ?_
  refine cv_X6_275 (pc := 1) C E (c_isSum hj hb) rfl (Nat.lt_of_succ_lt (isW_lt hj)) (cm_w hj) (by decide) rfl (Nat.le_of_ble_eq_true rfl) dX6_keepSum_1 (fun r1 M1 h1 => ?_)
  obtain ⟨rfl, rfl⟩ := h1
  refine k_if_ne (pc := 4) (tgt := 10) C dX6_keepSum_4 (by decide) (fun c4 => ?_) (fun c4 => ?_)
  · simp only [b01, Decidable.not_not] at c4
    refine k_aload_n (pc := 10) C dX6_keepSum_10 rfl 0 rfl ?_
    refine gf_X6_10 (pc := 11) C (0) (by decide) cm_0 rfl dX6_keepSum_11 ?_
    refine gf_X6_72 (pc := 14) C (1) (by decide) cm_1 rfl dX6_keepSum_14 ?_
    refine k_iload_n (pc := 17) C dX6_keepSum_17 rfl 1 rfl ?_
    refine k_aald (pc := 18) C E (2) (by decide) 2 rfl rfl cm_2 (k) rfl (by omega) (by decide) (4 + 2 * k) rfl dX6_keepSum_18 ?_
    refine k_aload_n (pc := 19) C dX6_keepSum_19 rfl 2 rfl ?_
    refine cv_X6_86 (pc := 20) C E (c_copy (wR hk) hj (by omega)) rfl (Nat.lt_of_succ_lt (isW_lt (wR hk))) (cm_w (wR hk)) (by decide) rfl (Nat.le_of_ble_eq_true rfl) dX6_keepSum_20 (fun M20 h20 => ?_)
    subst h20
    refine k_iconst (pc := 23) (v := nI 1) C dX6_keepSum_23 (by decide) ?_
    exact r_i (pc := 24) C E (⟨_, rfl, by rw [if_pos (by omega)]; exact ⟨rfl, rfl⟩⟩) dX6_keepSum_24
  · simp only [b01, Decidable.not_not] at c4
    refine k_bipush (pc := 7) (v := (-2)) C dX6_keepSum_7 (by decide) ?_
    exact r_i (pc := 9) C E (⟨V, rfl, by rw [if_neg (by omega)]; exact ⟨rfl, rfl⟩⟩) dX6_keepSum_9
end EA
