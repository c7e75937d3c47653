section EE
variable {l : Launch} {D : va_G} {ca : Nat → ClassId} {ad : Nat → Nat} {V U : Nat → Nat} {sc : Nat → Int32} {ia : Nat → Nat → Int32} {la : Nat → Nat → Int64}
theorem gl_eq {c : Nat → Int64} {L : Nat → Nat} {n g : Nat} (hn : 0 < n) (hc : ∀ k, k < n → c k = lN (L k) ∨ (c k = -1 ∧ L k = 0)) (hL : ∀ k, k < n → L k < 9223372036854775808) (hp : ∃ k, k < n ∧ 0 < L k) (hg : g < n) (s1 : ∀ j, j < g → (c j).toInt < (c g).toInt) (s2 : ∀ j, j < n → (c j).toInt ≤ (c g).toInt) : g = gmx L (n - 1) := by
  obtain ⟨g0, hg0⟩ : ∃ g0, g0 = gmx L (n - 1) := ⟨_, rfl⟩
  obtain ⟨m1, m2⟩ := gmx_sp L (n - 1)
  have m0 := gmx_le L (n - 1)
  rw [← hg0] at m0 m1 m2
  obtain ⟨k, hk, hk0⟩ := hp
  have hp0 := m2 k (by omega)
  have hle : ∀ j, j < n → (c j).toInt ≤ (L j : Int) := fun j hj => by
    rcases hc j hj with e | e
    · rw [e, pk_lT (hL j hj)]; exact Int.le_refl _
    · rw [e.1, e.2]; decide
  have h0 : (c g0).toInt = (L g0 : Int) := by
    rcases hc g0 (by omega) with e | e
    · rw [e, pk_lT (hL g0 (by omega))]
    · omega
  rw [← hg0]
  rcases Nat.lt_or_ge g g0 with q | q
  · have a1 := s2 g0 (by omega)
    have a2 := hle g hg
    have a3 := m1 g q
    omega
  · rcases Nat.lt_or_ge g0 g with t | t
    · have a1 := s1 g0 t
      have a2 := hle g hg
      have a3 := m2 g (by omega)
      omega
    · omega
set_option maxHeartbeats 4000000 in
set_option maxRecDepth 100000 in
/-- weightOfFirst -/
theorem c6_weightOfFirst {w : Nat → Nat} (hw : WL (la 159) w) {n : Nat} (hn : n ≤ 12) : xL l D (xty ca) yX6_weightOfFirst cX6_weightOfFirst 5 (some .long) 0 0 [.ref (ad 0), .int (nI n)] ad (cm ad ca (V, U, sc, ia, la)) (fun r M' => M' = cm ad ca (V, U, sc, ia, la) ∧ r = lN (sumW w n)) := by
  refine xM.of (by decide) (Nat.le_of_ble_eq_true rfl) (fun z C E => ?_)
  have loop : ∀ (m k : Nat), n - k < m → k ≤ n → xK z (xw ad (cm ad ca (V, U, sc, ia, la)) 187) 0 0 5 [(4, .int (nI k)), (2, .long (lN (sumW w k))), (0, .ref (ad 0)), (1, .int (nI n))] [] := by
    intro m
    induction m with
    | zero => intro k h; exact absurd h (Nat.not_lt_zero _)
    | succ m im =>
      intro k hm hk
      refine k_iload (pc := 5) C dX6_weightOfFirst_5 0 rfl ?_
      refine k_iload_n (pc := 7) C dX6_weightOfFirst_7 rfl 3 rfl ?_
      refine k_icmp_ge (pc := 8) (tgt := 27) C dX6_weightOfFirst_8 (by decide) (fun c8 => ?_) (fun c8 => ?_)
      · rw [q_le (by omega) (by omega)] at c8
        refine k_lload_n (pc := 27) C dX6_weightOfFirst_27 rfl 1 rfl ?_
        exact r_l (pc := 28) C E (⟨rfl, by rw [show k = n by omega]⟩) dX6_weightOfFirst_28
      · rw [q_le (by omega) (by omega)] at c8
        refine k_lload_n (pc := 11) C dX6_weightOfFirst_11 rfl 1 rfl ?_
        refine k_aload_n (pc := 12) C dX6_weightOfFirst_12 rfl 2 rfl ?_
        refine gf_X6_40 (pc := 13) C (0) (by decide) cm_0 rfl dX6_weightOfFirst_13 ?_
        refine k_iload (pc := 16) C dX6_weightOfFirst_16 0 rfl ?_
        refine k_lald (pc := 18) C E (159) (by decide) cm_159 (k) rfl (by omega) (by decide) dX6_weightOfFirst_18 ?_
        refine k_eql (y := lN (w k)) (hw k (by omega)) ?_
        refine k_ladd (pc := 19) C dX6_weightOfFirst_19 ?_
        refine k_eql (y := lN (sumW w (k + 1))) (lN_add _ _) ?_
        refine k_lstore_n (pc := 20) (lv' := [(2, .long (lN (sumW w (k + 1)))), (4, .int (nI k)), (0, .ref (ad (0))), (1, .int (nI n))]) C dX6_weightOfFirst_20 rfl (by decide) rfl ?_
        refine k_iinc (pc := 21) (v := nI (k + 1)) (lv' := [(4, .int (nI (k + 1))), (2, .long (lN (sumW w (k + 1)))), (0, .ref (ad (0))), (1, .int (nI n))]) C dX6_weightOfFirst_21 (k := 1) rfl (nI_1 _) (by decide) rfl ?_
        refine k_goto (pc := 24) (tgt := 5) C dX6_weightOfFirst_24 (by decide) ?_
        refine k_sub [0, 1, 2, 3] rfl ?_
        exact im (k + 1) (by omega) (by omega)
  refine k_lconst (pc := 0) (v := lN 0) C dX6_weightOfFirst_0 (by decide) ?_
  refine k_lstore_n (pc := 1) (lv' := [(2, .long (lN 0)), (0, .ref (ad (0))), (1, .int (nI n))]) C dX6_weightOfFirst_1 rfl (by decide) rfl ?_
  refine k_iconst (pc := 2) (v := nI 0) C dX6_weightOfFirst_2 (by decide) ?_
  refine k_istore (pc := 3) (lv' := [(4, .int (nI 0)), (2, .long (lN 0)), (0, .ref (ad (0))), (1, .int (nI n))]) C dX6_weightOfFirst_3 (by decide) rfl ?_
  exact loop (n + 1) 0 (by omega) (by omega)
set_option maxHeartbeats 4000000 in
set_option maxRecDepth 100000 in
/-- greatestLost -/
theorem c6_greatestLost {n : Nat} (hn0 : 0 < n) (hn : n ≤ 12) : xI l D (xty ca) yX6_greatestLost cX6_greatestLost 4 (some .int) 0 0 [.ref (ad 0), .int (nI n)] ad (cm ad ca (V, U, sc, ia, la)) (fun r M' => M' = cm ad ca (V, U, sc, ia, la) ∧ ∃ g, r = nI g ∧ g < n ∧ (∀ j, j < g → (la 160 j).toInt < (la 160 g).toInt) ∧ ∀ j, j < n → (la 160 j).toInt ≤ (la 160 g).toInt) := by
  refine xM.of (by decide) (Nat.le_of_ble_eq_true rfl) (fun z C E => ?_)
  have loop : ∀ (m k g : Nat), n - k < m → k + 1 ≤ n → g ≤ k → (∀ j, j < g → (la 160 j).toInt < (la 160 g).toInt) → (∀ j, j ≤ k → (la 160 j).toInt ≤ (la 160 g).toInt) → xK z (xw ad (cm ad ca (V, U, sc, ia, la)) 187) 0 0 4 [(3, .int (nI (k + 1))), (2, .int (nI g)), (0, .ref (ad 0)), (1, .int (nI n))] [] := by
    intro m
    induction m with
    | zero => intro k g h; exact absurd h (Nat.not_lt_zero _)
    | succ m im =>
      intro k g hm hk hg s1 s2
      refine k_iload_n (pc := 4) C dX6_greatestLost_4 rfl 0 rfl ?_
      refine k_iload_n (pc := 5) C dX6_greatestLost_5 rfl 3 rfl ?_
      refine k_icmp_ge (pc := 6) (tgt := 33) C dX6_greatestLost_6 (by decide) (fun c6 => ?_) (fun c6 => ?_)
      · rw [q_le (by omega) (by omega)] at c6
        refine k_iload_n (pc := 33) C dX6_greatestLost_33 rfl 1 rfl ?_
        exact r_i (pc := 34) C E (⟨rfl, g, rfl, by omega, s1, fun j hj => s2 j (by omega)⟩) dX6_greatestLost_34
      · rw [q_le (by omega) (by omega)] at c6
        refine k_aload_n (pc := 9) C dX6_greatestLost_9 rfl 2 rfl ?_
        refine gf_X6_44 (pc := 10) C (0) (by decide) cm_0 rfl dX6_greatestLost_10 ?_
        refine k_iload_n (pc := 13) C dX6_greatestLost_13 rfl 0 rfl ?_
        refine k_lald (pc := 14) C E (160) (by decide) cm_160 (k + 1) rfl (by omega) (by decide) dX6_greatestLost_14 ?_
        refine k_aload_n (pc := 15) C dX6_greatestLost_15 rfl 2 rfl ?_
        refine gf_X6_44 (pc := 16) C (0) (by decide) cm_0 rfl dX6_greatestLost_16 ?_
        refine k_iload_n (pc := 19) C dX6_greatestLost_19 rfl 1 rfl ?_
        refine k_lald (pc := 20) C E (160) (by decide) cm_160 (g) rfl (by omega) (by decide) dX6_greatestLost_20 ?_
        refine k_lcmp (pc := 21) C dX6_greatestLost_21 ?_
        refine k_if_le (pc := 22) (tgt := 27) C dX6_greatestLost_22 (by decide) (fun c22 => ?_) (fun c22 => ?_)
        · rw [lg_cmp_le, Int64.le_iff_toInt_le] at c22
          refine k_iinc (pc := 27) (v := nI (k + 1 + 1)) (lv' := [(3, .int (nI (k + 1 + 1))), (2, .int (nI g)), (0, .ref (ad (0))), (1, .int (nI n))]) C dX6_greatestLost_27 (k := 0) rfl (nI_1 _) (by decide) rfl ?_
          refine k_goto (pc := 30) (tgt := 4) C dX6_greatestLost_30 (by decide) ?_
          refine k_sub [0, 1, 2, 3] rfl ?_
          first
            | exact im (k + 1) g (by omega) (by omega) (by omega) s1 (fun j hj => by
                rcases Nat.lt_or_ge k j with q | q
                · rw [show j = k + 1 by omega]; exact c22
                · exact s2 j q)
            | exact im (k + 1) (k + 1) (by omega) (by omega) (by omega) (fun j hj => by have := s2 j (by omega); omega) (fun j hj => by
                rcases Nat.lt_or_ge k j with q | q
                · rw [show j = k + 1 by omega]; exact Int.le_refl _
                · have := s2 j q; omega)
        · rw [lg_cmp_le, Int64.le_iff_toInt_le] at c22
          refine k_iload_n (pc := 25) C dX6_greatestLost_25 rfl 0 rfl ?_
          refine k_istore_n (pc := 26) (lv' := [(2, .int (nI (k + 1))), (3, .int (nI (k + 1))), (0, .ref (ad (0))), (1, .int (nI n))]) C dX6_greatestLost_26 rfl (by decide) rfl ?_
          refine k_iinc (pc := 27) (v := nI (k + 1 + 1)) (lv' := [(3, .int (nI (k + 1 + 1))), (2, .int (nI (k + 1))), (0, .ref (ad (0))), (1, .int (nI n))]) C dX6_greatestLost_27 (k := 1) rfl (nI_1 _) (by decide) rfl ?_
          refine k_goto (pc := 30) (tgt := 4) C dX6_greatestLost_30 (by decide) ?_
          refine k_sub [0, 1, 2, 3] rfl ?_
          first
            | exact im (k + 1) g (by omega) (by omega) (by omega) s1 (fun j hj => by
                rcases Nat.lt_or_ge k j with q | q
                · rw [show j = k + 1 by omega]; exact c22
                · exact s2 j q)
            | exact im (k + 1) (k + 1) (by omega) (by omega) (by omega) (fun j hj => by have := s2 j (by omega); omega) (fun j hj => by
                rcases Nat.lt_or_ge k j with q | q
                · rw [show j = k + 1 by omega]; exact Int.le_refl _
                · have := s2 j q; omega)
  refine k_iconst (pc := 0) (v := nI 0) C dX6_greatestLost_0 (by decide) ?_
  refine k_istore_n (pc := 1) (lv' := [(2, .int (nI 0)), (0, .ref (ad (0))), (1, .int (nI n))]) C dX6_greatestLost_1 rfl (by decide) rfl ?_
  refine k_iconst (pc := 2) (v := nI (0 + 1)) C dX6_greatestLost_2 (by decide) ?_
  refine k_istore_n (pc := 3) (lv' := [(3, .int (nI (0 + 1))), (2, .int (nI 0)), (0, .ref (ad (0))), (1, .int (nI n))]) C dX6_greatestLost_3 rfl (by decide) rfl ?_
  exact loop (n + 1) 0 0 (by omega) (by omega) (by omega) (fun j hj => absurd hj (Nat.not_lt_zero _)) (fun j hj => by rw [show j = 0 by omega]; exact Int.le_refl _)
set_option maxHeartbeats 4000000 in
set_option maxRecDepth 100000 in
/-- share -/
theorem c6_share {T : Nat → Nat} (hT : RC V T) (hB : TB T) {w : Nat → Nat} (hw : WL (la 159) w) (hwb : WB w) {x0 f0 n0 : Int32} : xI l D (xty ca) yX6_share cX6_share 11 (some .int) 4 250 [.ref (ad 0), .int x0, .int f0, .int n0] ad (cm ad ca (V, U, sc, ia, la)) (fun r M' => ∃ V' la', M' = cm ad ca (V', U, sc, ia, la') ∧ r = (sShare T w x0 f0 n0).1 ∧ RC V' (sShare T w x0 f0 n0).2 ∧ ∀ k, k ≠ 160 → la' k = la k) := by
  refine xM.of (by decide) (Nat.le_of_ble_eq_true rfl) (fun z C E => ?_)
  refine k_iload_n (pc := 0) C dX6_share_0 rfl 1 rfl ?_
  refine cs_X6_68 (pc := 1) C E (c6_isRegister) rfl (by decide) rfl (Nat.le_of_ble_eq_true rfl) dX6_share_1 (fun r1 M1 h1 => ?_)
  obtain ⟨rfl, rfl⟩ := h1
  refine k_if_eq (pc := 4) (tgt := 36) C dX6_share_4 (by decide) (fun c4 => ?_) (fun c4 => ?_)
  · simp only [b01, Decidable.not_not] at c4
    refine k_iconst (pc := 36) (v := (-1)) C dX6_share_36 (by decide) ?_
    exact r_i (pc := 37) C E (by
  have e9 : sShare T w x0 f0 n0 = (-1, T) := by
    unfold sShare
    rw [if_neg (fun h => by
      first
        | exact c4 h.1
        | (have := h.2.1.1; have := h.2.1.2; omega)
        | exact c22 h.2.2.1
        | (obtain ⟨f, hf, rfl⟩ := inR_k c22
           obtain ⟨n, hn, rfl⟩ := inR_k (x := n0) (n := 13) (by constructor <;> omega)
           have h9 := h.2.2.2
           have h8 := h.2.1.1
           rw [rI_n (by omega), rI_n (by omega)] at h9
           rw [nI_toInt (by omega)] at h8
           have e28 : nI f + nI n - nI 1 = nI (f + n - 1) := by rw [nI_add]; exact pk_sub (by omega)
           rw [e28, inR_nI (by omega)] at c33
           omega))]
  rw [e9]
  exact ⟨V, la, rfl, rfl, hT, fun _ _ => rfl⟩) dX6_share_37
  · simp only [b01, Decidable.not_not] at c4
    refine k_iload_n (pc := 7) C dX6_share_7 rfl 3 rfl ?_
    refine k_iconst (pc := 8) (v := nI 1) C dX6_share_8 (by decide) ?_
    refine k_icmp_lt (pc := 9) (tgt := 36) C dX6_share_9 (by decide) (fun c9 => ?_) (fun c9 => ?_)
    · rw [Int32.lt_iff_toInt_lt, nI_toInt (by decide)] at c9
      refine k_iconst (pc := 36) (v := (-1)) C dX6_share_36 (by decide) ?_
      exact r_i (pc := 37) C E (by
  have e9 : sShare T w x0 f0 n0 = (-1, T) := by
    unfold sShare
    rw [if_neg (fun h => by
      first
        | exact c4 h.1
        | (have := h.2.1.1; have := h.2.1.2; omega)
        | exact c22 h.2.2.1
        | (obtain ⟨f, hf, rfl⟩ := inR_k c22
           obtain ⟨n, hn, rfl⟩ := inR_k (x := n0) (n := 13) (by constructor <;> omega)
           have h9 := h.2.2.2
           have h8 := h.2.1.1
           rw [rI_n (by omega), rI_n (by omega)] at h9
           rw [nI_toInt (by omega)] at h8
           have e28 : nI f + nI n - nI 1 = nI (f + n - 1) := by rw [nI_add]; exact pk_sub (by omega)
           rw [e28, inR_nI (by omega)] at c33
           omega))]
  rw [e9]
  exact ⟨V, la, rfl, rfl, hT, fun _ _ => rfl⟩) dX6_share_37
    · rw [Int32.lt_iff_toInt_lt, nI_toInt (by decide)] at c9
      refine k_iload_n (pc := 12) C dX6_share_12 rfl 3 rfl ?_
      refine k_bipush (pc := 13) (v := nI 12) C dX6_share_13 (by decide) ?_
      refine k_icmp_gt (pc := 15) (tgt := 36) C dX6_share_15 (by decide) (fun c15 => ?_) (fun c15 => ?_)
      · rw [Int32.lt_iff_toInt_lt, nI_toInt (by decide)] at c15
        refine k_iconst (pc := 36) (v := (-1)) C dX6_share_36 (by decide) ?_
        exact r_i (pc := 37) C E (by
  have e9 : sShare T w x0 f0 n0 = (-1, T) := by
    unfold sShare
    rw [if_neg (fun h => by
      first
        | exact c4 h.1
        | (have := h.2.1.1; have := h.2.1.2; omega)
        | exact c22 h.2.2.1
        | (obtain ⟨f, hf, rfl⟩ := inR_k c22
           obtain ⟨n, hn, rfl⟩ := inR_k (x := n0) (n := 13) (by constructor <;> omega)
           have h9 := h.2.2.2
           have h8 := h.2.1.1
           rw [rI_n (by omega), rI_n (by omega)] at h9
           rw [nI_toInt (by omega)] at h8
           have e28 : nI f + nI n - nI 1 = nI (f + n - 1) := by rw [nI_add]; exact pk_sub (by omega)
           rw [e28, inR_nI (by omega)] at c33
           omega))]
  rw [e9]
  exact ⟨V, la, rfl, rfl, hT, fun _ _ => rfl⟩) dX6_share_37
      · rw [Int32.lt_iff_toInt_lt, nI_toInt (by decide)] at c15
        refine k_iload_n (pc := 18) C dX6_share_18 rfl 2 rfl ?_
        refine cs_X6_68 (pc := 19) C E (c6_isRegister) rfl (by decide) rfl (Nat.le_of_ble_eq_true rfl) dX6_share_19 (fun r19 M19 h19 => ?_)
        obtain ⟨rfl, rfl⟩ := h19
        refine k_if_eq (pc := 22) (tgt := 36) C dX6_share_22 (by decide) (fun c22 => ?_) (fun c22 => ?_)
        · simp only [b01, Decidable.not_not] at c22
          refine k_iconst (pc := 36) (v := (-1)) C dX6_share_36 (by decide) ?_
          exact r_i (pc := 37) C E (by
  have e9 : sShare T w x0 f0 n0 = (-1, T) := by
    unfold sShare
    rw [if_neg (fun h => by
      first
        | exact c4 h.1
        | (have := h.2.1.1; have := h.2.1.2; omega)
        | exact c22 h.2.2.1
        | (obtain ⟨f, hf, rfl⟩ := inR_k c22
           obtain ⟨n, hn, rfl⟩ := inR_k (x := n0) (n := 13) (by constructor <;> omega)
           have h9 := h.2.2.2
           have h8 := h.2.1.1
           rw [rI_n (by omega), rI_n (by omega)] at h9
           rw [nI_toInt (by omega)] at h8
           have e28 : nI f + nI n - nI 1 = nI (f + n - 1) := by rw [nI_add]; exact pk_sub (by omega)
           rw [e28, inR_nI (by omega)] at c33
           omega))]
  rw [e9]
  exact ⟨V, la, rfl, rfl, hT, fun _ _ => rfl⟩) dX6_share_37
        · simp only [b01, Decidable.not_not] at c22
          refine k_iload_n (pc := 25) C dX6_share_25 rfl 2 rfl ?_
          refine k_iload_n (pc := 26) C dX6_share_26 rfl 3 rfl ?_
          refine k_iadd (pc := 27) C dX6_share_27 ?_
          refine k_iconst (pc := 28) (v := nI 1) C dX6_share_28 (by decide) ?_
          refine k_isub (pc := 29) C dX6_share_29 ?_
          refine cs_X6_68 (pc := 30) C E (c6_isRegister) rfl (by decide) rfl (Nat.le_of_ble_eq_true rfl) dX6_share_30 (fun r30 M30 h30 => ?_)
          obtain ⟨rfl, rfl⟩ := h30
          refine k_if_ne (pc := 33) (tgt := 38) C dX6_share_33 (by decide) (fun c33 => ?_) (fun c33 => ?_)
          · simp only [b01, Decidable.not_not] at c33
            have c6' : inR x0 16 ∧ (1 ≤ n0.toInt ∧ n0.toInt ≤ 12) ∧ inR f0 16 := ⟨c4, ⟨by omega, by omega⟩, c22⟩
            obtain ⟨x, hx, rfl⟩ := inR_k c4
            obtain ⟨n, hn, rfl⟩ := inR_k (x := n0) (n := 13) (by constructor <;> omega)
            obtain ⟨f, hf, rfl⟩ := inR_k c22
            have c16 := c6'.2.1
            rw [nI_toInt (by omega)] at c16
            have e28 : nI f + nI n - nI 1 = nI (f + n - 1) := by rw [nI_add]; exact pk_sub (by omega)
            rw [e28, inR_nI (by omega)] at c33
            have c6 : okS (nI x) (nI f) (nI n) := ⟨c6'.1, c6'.2.1, c6'.2.2, by rw [rI_n (by omega), rI_n (by omega)]; omega⟩
            have hTx := hT.r hx
            have bx1 := hB.1 x hx
            obtain ⟨S, hS⟩ : ∃ S, S = T x := ⟨_, rfl⟩
            rw [← hS] at bx1 hTx
            obtain ⟨al, hal⟩ : ∃ al, al = sumW w n := ⟨_, rfl⟩
            have hal9 : al ≤ 12 * 1000000000000 := by
              rw [hal]
              have h1 := sumW_le (w := w) (c := 1000000000000) (n := n) (fun k hk => hwb k (by omega))
              have h2 := Nat.mul_le_mul_right 1000000000000 (show n ≤ 12 by omega)
              exact Nat.le_trans h1 h2
            have eS : sShare T w (nI x) (nI f) (nI n) = if al = 0 then (-4, T) else (nI (S - sumW (shq S al w) n), hand f n (S - sumW (shq S al w) n) (shT T f n (shq S al w)) (shl S al w)) := by
              unfold sShare
              rw [if_pos c6]
              simp only [rI_n (show x < 2147483648 by omega), rI_n (show f < 2147483648 by omega), rI_n (show n < 2147483648 by omega), ← hS, ← hal]
            refine k_aload_n (pc := 38) C dX6_share_38 rfl 0 rfl ?_
            refine k_iload_n (pc := 39) C dX6_share_39 rfl 3 rfl ?_
            refine cv_X6_165 (pc := 40) C E (c6_weightOfFirst hw (n := n) (by omega)) rfl (by decide) cm_0 (by decide) rfl (Nat.le_of_ble_eq_true rfl) dX6_share_40 (fun r40 M40 h40 => ?_)
            obtain ⟨rfl, rfl⟩ := h40
            rw [← hal]
            refine k_lstore (pc := 43) (lv' := [(4, .long (lN al)), (0, .ref (ad (0))), (1, .int (nI x)), (2, .int (nI f)), (3, .int (nI n))]) C dX6_share_43 (by decide) rfl ?_
            refine k_lload (pc := 45) C dX6_share_45 0 rfl ?_
            refine k_lconst (pc := 47) (v := lN 0) C dX6_share_47 (by decide) ?_
            refine k_lcmp (pc := 48) C dX6_share_48 ?_
            refine k_if_ne (pc := 49) (tgt := 55) C dX6_share_49 (by decide) (fun c49 => ?_) (fun c49 => ?_)
            · rw [c_eq (by omega) (by decide)] at c49
              refine k_aload_n (pc := 55) C dX6_share_55 rfl 1 rfl ?_
              refine gf_X6_22 (pc := 56) C (0) (by decide) cm_0 rfl dX6_share_56 ?_
              refine gf_X6_168 (pc := 59) C (135) (by decide) cm_135 rfl dX6_share_59 ?_
              refine k_aload_n (pc := 62) C dX6_share_62 rfl 1 rfl ?_
              refine gf_X6_10 (pc := 63) C (0) (by decide) cm_0 rfl dX6_share_63 ?_
              refine gf_X6_72 (pc := 66) C (1) (by decide) cm_1 rfl dX6_share_66 ?_
              refine k_iload_n (pc := 69) C dX6_share_69 rfl 2 rfl ?_
              refine k_aald (pc := 70) C E (2) (by decide) 2 rfl rfl cm_2 (x) rfl (by omega) (by decide) (4 + 2 * x) rfl dX6_share_70 ?_
              refine cv_X6_86 (pc := 71) C E (c_copy w150 (wR hx) (by omega)) rfl (by decide) (cm_w w150) (by decide) rfl (Nat.le_of_ble_eq_true rfl) dX6_share_71 (fun M71 h71 => ?_)
              subst h71
              rw [hTx]
              obtain ⟨V1, hV1⟩ : ∃ W9, W9 = va_up V (150) (S) := ⟨_, rfl⟩
              rw [← hV1]
              have v1 : V1 (150) = S := by rw [hV1, ups]
              have f1 : ∀ q9, 150 ≠ q9 → V1 q9 = V q9 := fun q9 hk => by rw [hV1, upn hk]
              refine k_lconst (pc := 74) (v := lN 0) C dX6_share_74 (by decide) ?_
              refine k_lstore (pc := 75) (lv' := [(6, .long (lN 0)), (4, .long (lN al)), (0, .ref (ad (0))), (1, .int (nI x)), (2, .int (nI f)), (3, .int (nI n))]) C dX6_share_75 (by decide) rfl ?_
              refine k_iconst (pc := 77) (v := nI 0) C dX6_share_77 (by decide) ?_
              refine k_istore (pc := 78) (lv' := [(8, .int (nI 0)), (6, .long (lN 0)), (4, .long (lN al)), (0, .ref (ad (0))), (1, .int (nI x)), (2, .int (nI f)), (3, .int (nI n))]) C dX6_share_78 (by decide) rfl ?_
              obtain ⟨h0, h1, h2⟩ := sh_left (S := S) (w := w) (Nat.pos_of_ne_zero c49) hal (by omega)
              obtain ⟨lf, hlf⟩ : ∃ m, m = S - sumW (shq S al w) n := ⟨_, rfl⟩
              rw [← hlf] at h2 h1 eS
              rw [if_neg c49] at eS
              have loop3 : ∀ (rem t : Nat) (T9 L W : Nat → Nat) (c : Nat → Int64), t + rem = lf → RC W T9 → (∀ k, k < n → c k = lN (L k) ∨ (c k = -1 ∧ L k = 0)) → (∀ k, k < n → L k < al) → rem * al ≤ sumW L n → hand f n rem T9 L = hand f n lf (shT T f n (shq S al w)) (shl S al w) → xK z (xw ad (cm ad ca (W, U, sc, ia, va_up la 160 c)) 187) 0 0 214 [(9, .int (nI t)), (8, .int (nI lf)), (0, .ref (ad 0)), (1, .int (nI x)), (2, .int (nI f)), (3, .int (nI n))] [] := by
                intro rem
                induction rem with
                | zero =>
                  intro t T9 L W c ht hW hc hLb hr hH
                  refine k_iload (pc := 214) C dX6_share_214 0 rfl ?_
                  refine k_iload (pc := 216) C dX6_share_216 1 rfl ?_
                  refine k_icmp_ge (pc := 218) (tgt := 259) C dX6_share_218 (by decide) (fun c218 => ?_) (fun c218 => ?_)
                  · rw [q_le (by omega) (by omega)] at c218
                    refine k_iload (pc := 259) C dX6_share_259 1 rfl ?_
                    exact r_i (pc := 261) C E (by
                rw [eS]
                refine ⟨W, _, rfl, rfl, ?_, fun k hk => upIn hk⟩
                rw [show hand f n 0 T9 L = T9 from rfl] at hH
                rw [← hH]
                exact hW) dX6_share_261
                  · rw [q_le (by omega) (by omega)] at c218
                    exact absurd (by omega) c218
                | succ rem ih =>
                  intro t T9 L W c ht hW hc hLb hr hH
                  rw [Nat.add_mul, Nat.one_mul] at hr
                  have hpos : ∃ k, k < n ∧ 0 < L k := sumW_pos (by omega)
                  refine k_iload (pc := 214) C dX6_share_214 0 rfl ?_
                  refine k_iload (pc := 216) C dX6_share_216 1 rfl ?_
                  refine k_icmp_ge (pc := 218) (tgt := 259) C dX6_share_218 (by decide) (fun c218 => ?_) (fun c218 => ?_)
                  · rw [q_le (by omega) (by omega)] at c218
                    exact absurd c218 (by omega)
                  · rw [q_le (by omega) (by omega)] at c218
                    refine k_aload_n (pc := 221) C dX6_share_221 rfl 2 rfl ?_
                    refine k_iload_n (pc := 222) C dX6_share_222 rfl 5 rfl ?_
                    refine cv_X6_178 (pc := 223) C E (c6_greatestLost (n := n) (by omega) (by omega)) rfl (by decide) cm_0 (by decide) rfl (Nat.le_of_ble_eq_true rfl) dX6_share_223 (fun r223 M223 h223 => ?_)
                    obtain ⟨rfl, g, rfl, hg, s1, s2⟩ := h223
                    rw [upIs] at s1 s2
                    have eg := gl_eq (by omega) hc (fun k hk => Nat.lt_trans (hLb k hk) (by omega)) hpos hg s1 s2
                    have hfg : f + g < 16 := by omega
                    refine k_istore (pc := 226) (lv' := [(10, .int (nI g)), (9, .int (nI t)), (8, .int (nI lf)), (0, .ref (ad (0))), (1, .int (nI x)), (2, .int (nI f)), (3, .int (nI n))]) C dX6_share_226 (by decide) rfl ?_
                    refine k_aload_n (pc := 228) C dX6_share_228 rfl 3 rfl ?_
                    refine gf_X6_10 (pc := 229) C (0) (by decide) cm_0 rfl dX6_share_229 ?_
                    refine gf_X6_72 (pc := 232) C (1) (by decide) cm_1 rfl dX6_share_232 ?_
                    refine k_iload_n (pc := 235) C dX6_share_235 rfl 5 rfl ?_
                    refine k_iload (pc := 236) C dX6_share_236 0 rfl ?_
                    refine k_iadd (pc := 238) C dX6_share_238 ?_
                    refine k_eqi (y := nI (f + g)) (nI_add _ _) ?_
                    refine k_aald (pc := 239) C E (2) (by decide) 2 rfl rfl cm_2 ((f + g)) rfl (by omega) (by decide) (4 + 2 * (f + g)) rfl dX6_share_239 ?_
                    refine cv_X6_182 (pc := 240) C E (c_increment (wR hfg)) rfl (Nat.lt_of_succ_lt (isW_lt (wR hfg))) (cm_w (wR hfg)) (by decide) rfl (Nat.le_of_ble_eq_true rfl) dX6_share_240 (fun M240 h240 => ?_)
                    subst h240
                    refine k_aload_n (pc := 243) C dX6_share_243 rfl 3 rfl ?_
                    refine gf_X6_44 (pc := 244) C (0) (by decide) cm_0 rfl dX6_share_244 ?_
                    refine k_iload (pc := 247) C dX6_share_247 0 rfl ?_
                    refine k_ldc2 (pc := 249) C kc_X6_100 dX6_share_249 ?_
                    refine k_last (pc := 252) C E (160) (by decide) cm_160 (g) rfl (by omega) (by decide) dX6_share_252 ?_
                    rw [cm_a160, bx_uu, upIs]
                    refine k_iinc (pc := 253) (v := nI (t + 1)) (lv' := [(9, .int (nI (t + 1))), (10, .int (nI g)), (8, .int (nI lf)), (0, .ref (ad (0))), (1, .int (nI x)), (2, .int (nI f)), (3, .int (nI n))]) C dX6_share_253 (k := 1) rfl (nI_1 _) (by decide) rfl ?_
                    refine k_goto (pc := 256) (tgt := 214) C dX6_share_256 (by decide) ?_
                    refine k_sub [0, 2, 3, 4, 5, 6] rfl ?_
                    have hsu := sumW_up (w := L) (x := 0) hg
                    have hlg := hLb g hg
                    exact ih (t + 1) (va_up T9 (f + g) (T9 (f + g) + 1)) (va_up L g 0) _ _ (by omega) (by rw [hW.r hfg]; exact hW.upr hfg) (fun q hq => by
                      by_cases e : q = g
                      · subst e
                        right
                        exact ⟨by simp [vp_updL], ups⟩
                      · rw [upn (Ne.symm e), show vp_updL c g (-1) q = c q by simp [vp_updL, e]]
                        exact hc q hq) (fun q hq => by
                      by_cases e : g = q
                      · subst e; rw [ups]; omega
                      · rw [upn e]; exact hLb q hq) (by omega) (by rw [← hH, eg]; rfl)
              have loop2 : ∀ (m k : Nat) (W : Nat → Nat) (c : Nat → Int64), n - k < m → k ≤ n → W 150 = S → RC W (shT T f k (shq S al w)) → (∀ j, j < k → c j = lN (shl S al w j)) → xK z (xw ad (cm ad ca (W, U, sc, ia, va_up la 160 c)) 187) 0 0 80 [(8, .int (nI k)), (6, .long (lN (sumW (shl S al w) k))), (4, .long (lN al)), (0, .ref (ad 0)), (1, .int (nI x)), (2, .int (nI f)), (3, .int (nI n))] [] := by
                intro m
                induction m with
                | zero => intro k W c h; exact absurd h (Nat.not_lt_zero _)
                | succ m im =>
                  intro k W c hm hk w50 wT wc
                  refine k_iload (pc := 80) C dX6_share_80 0 rfl ?_
                  refine k_iload_n (pc := 82) C dX6_share_82 rfl 6 rfl ?_
                  refine k_icmp_ge (pc := 83) (tgt := 203) C dX6_share_83 (by decide) (fun c83 => ?_) (fun c83 => ?_)
                  · rw [q_le (by omega) (by omega)] at c83
                    refine k_lload (pc := 203) C dX6_share_203 1 rfl ?_
                    refine k_lload (pc := 205) C dX6_share_205 2 rfl ?_
                    refine k_ldiv (pc := 207) C dX6_share_207 (lN_ne0 (by omega) (by omega)) ?_
                    refine k_eql (y := lN lf) (by
                rw [show k = n by omega, h1, pk_lDiv (by have := Nat.mul_le_mul (show lf ≤ 12 by omega) hal9; omega) (by omega) (by omega), Nat.mul_div_cancel _ (by omega)]) ?_
                    refine k_l2i (pc := 208) C dX6_share_208 rfl ?_
                    refine k_eqi (y := nI lf) (lN_i _) ?_
                    refine k_istore (pc := 209) (lv' := [(8, .int (nI lf)), (6, .long (lN (sumW (shl S al w) k))), (4, .long (lN al)), (0, .ref (ad (0))), (1, .int (nI x)), (2, .int (nI f)), (3, .int (nI n))]) C dX6_share_209 (by decide) rfl ?_
                    refine k_iconst (pc := 211) (v := nI 0) C dX6_share_211 (by decide) ?_
                    refine k_istore (pc := 212) (lv' := [(9, .int (nI 0)), (8, .int (nI lf)), (6, .long (lN (sumW (shl S al w) k))), (4, .long (lN al)), (0, .ref (ad (0))), (1, .int (nI x)), (2, .int (nI f)), (3, .int (nI n))]) C dX6_share_212 (by decide) rfl ?_
                    refine k_sub [0, 1, 4, 5, 6, 7] rfl ?_
                    have ek : k = n := by omega
                    rw [ek] at wT wc
                    exact loop3 lf 0 _ (shl S al w) W c (by omega) wT (fun j hj => Or.inl (wc j hj)) (fun j _ => Nat.mod_lt _ (by omega)) (by rw [h1]; exact Nat.le_refl _) rfl
                  · rw [q_le (by omega) (by omega)] at c83
                    have wk := hw k (by omega)
                    have wb := hwb k (by omega)
                    have hfk : f + k < 16 := by omega
                    have hN : S * w k < 2 ^ 319 := by
                      have h := Nat.mul_lt_mul_of_lt_of_le bx1 (show w k ≤ 2 ^ 63 by omega) (by decide)
                      omega
                    have hml : S * w k % al < al := Nat.mod_lt _ (by omega)
                    refine k_aload_n (pc := 86) C dX6_share_86 rfl 3 rfl ?_
                    refine gf_X6_22 (pc := 87) C (0) (by decide) cm_0 rfl dX6_share_87 ?_
                    refine gf_X6_82 (pc := 90) C (135) (by decide) cm_135 rfl dX6_share_90 ?_
                    refine k_aload_n (pc := 93) C dX6_share_93 rfl 3 rfl ?_
                    refine gf_X6_40 (pc := 94) C (0) (by decide) cm_0 rfl dX6_share_94 ?_
                    refine k_iload (pc := 97) C dX6_share_97 0 rfl ?_
                    refine k_lald (pc := 99) C E (159) (by decide) cm_159 (k) rfl (by omega) (by decide) dX6_share_99 ?_
                    refine k_eql (y := lN (w k)) (by rw [upIn (by decide)]; exact wk) ?_
                    refine cv_X6_76 (pc := 100) C E (c_setLong w148 (a := w k) (by omega)) rfl (by decide) (cm_w w148) (by decide) rfl (Nat.le_of_ble_eq_true rfl) dX6_share_100 (fun M100 h100 => ?_)
                    subst h100
                    obtain ⟨V1, hV1⟩ : ∃ W9, W9 = va_up W (148) (w k) := ⟨_, rfl⟩
                    rw [← hV1]
                    have v1 : V1 (148) = w k := by rw [hV1, ups]
                    have f1 : ∀ q9, 148 ≠ q9 → V1 q9 = W q9 := fun q9 hk => by rw [hV1, upn hk]
                    refine k_aload_n (pc := 103) C dX6_share_103 rfl 3 rfl ?_
                    refine gf_X6_22 (pc := 104) C (0) (by decide) cm_0 rfl dX6_share_104 ?_
                    refine gf_X6_134 (pc := 107) C (135) (by decide) cm_135 rfl dX6_share_107 ?_
                    refine k_aload_n (pc := 110) C dX6_share_110 rfl 3 rfl ?_
                    refine gf_X6_22 (pc := 111) C (0) (by decide) cm_0 rfl dX6_share_111 ?_
                    refine gf_X6_168 (pc := 114) C (135) (by decide) cm_135 rfl dX6_share_114 ?_
                    refine k_aload_n (pc := 117) C dX6_share_117 rfl 3 rfl ?_
                    refine gf_X6_22 (pc := 118) C (0) (by decide) cm_0 rfl dX6_share_118 ?_
                    refine gf_X6_82 (pc := 121) C (135) (by decide) cm_135 rfl dX6_share_121 ?_
                    refine cv_X6_153 (pc := 124) C E (c_product w136 w150 w148 (by decide) (by decide) (by rw [f1 150 (by decide), w50]; omega) (by rw [v1]; omega)) rfl (by decide) (cm_w w136) (by decide) rfl (Nat.le_of_ble_eq_true rfl) dX6_share_124 (fun M124 h124 => ?_)
                    subst h124
                    rw [v1, f1 150 (by decide), w50]
                    obtain ⟨V2, hV2⟩ : ∃ W9, W9 = va_up V1 (136) (S * w k) := ⟨_, rfl⟩
                    rw [← hV2]
                    have v2 : V2 (136) = S * w k := by rw [hV2, ups]
                    have f2 : ∀ q9, 136 ≠ q9 → V2 q9 = V1 q9 := fun q9 hk => by rw [hV2, upn hk]
                    refine k_aload_n (pc := 127) C dX6_share_127 rfl 3 rfl ?_
                    refine gf_X6_22 (pc := 128) C (0) (by decide) cm_0 rfl dX6_share_128 ?_
                    refine gf_X6_137 (pc := 131) C (135) (by decide) cm_135 rfl dX6_share_131 ?_
                    refine k_lload (pc := 134) C dX6_share_134 2 rfl ?_
                    refine cv_X6_76 (pc := 136) C E (c_setLong w138 (a := al) (by omega)) rfl (by decide) (cm_w w138) (by decide) rfl (Nat.le_of_ble_eq_true rfl) dX6_share_136 (fun M136 h136 => ?_)
                    subst h136
                    obtain ⟨V3, hV3⟩ : ∃ W9, W9 = va_up V2 (138) (al) := ⟨_, rfl⟩
                    rw [← hV3]
                    have v3 : V3 (138) = al := by rw [hV3, ups]
                    have f3 : ∀ q9, 138 ≠ q9 → V3 q9 = V2 q9 := fun q9 hk => by rw [hV3, upn hk]
                    have n3 : V3 136 = S * w k := by rw [f3 136 (by decide), v2]
                    refine k_aload_n (pc := 139) C dX6_share_139 rfl 3 rfl ?_
                    refine gf_X6_22 (pc := 140) C (0) (by decide) cm_0 rfl dX6_share_140 ?_
                    refine cv_X6_143 (pc := 143) C E (c_split (by rw [n3]; omega) (by rw [v3]; omega)) rfl (by decide) cm_135 (by decide) rfl (Nat.le_of_ble_eq_true rfl) dX6_share_143 (fun M143 h143 => ?_)
                    obtain ⟨d4, rfl⟩ := h143
                    obtain ⟨V4, hV4⟩ : ∃ W, W = wq V3 (V3 136 / V3 138) (V3 136 % V3 138) d4 := ⟨_, rfl⟩
                    rw [← hV4]
                    have q4 : V4 140 = V3 136 / V3 138 := by rw [hV4, wq_0]
                    have r4 : V4 142 = V3 136 % V3 138 := by rw [hV4, wq_2]
                    have f4 : ∀ k, k < 140 ∨ 144 < k → V4 k = V3 k := fun k hk => by rw [hV4, wq_o hk]
                    rw [n3, v3] at q4 r4
                    refine k_aload_n (pc := 146) C dX6_share_146 rfl 3 rfl ?_
                    refine gf_X6_10 (pc := 147) C (0) (by decide) cm_0 rfl dX6_share_147 ?_
                    refine gf_X6_72 (pc := 150) C (1) (by decide) cm_1 rfl dX6_share_150 ?_
                    refine k_iload_n (pc := 153) C dX6_share_153 rfl 5 rfl ?_
                    refine k_iload (pc := 154) C dX6_share_154 0 rfl ?_
                    refine k_iadd (pc := 156) C dX6_share_156 ?_
                    refine k_eqi (y := nI (f + k)) (nI_add _ _) ?_
                    refine k_aald (pc := 157) C E (2) (by decide) 2 rfl rfl cm_2 ((f + k)) rfl (by omega) (by decide) (4 + 2 * (f + k)) rfl dX6_share_157 ?_
                    refine k_aload_n (pc := 158) C dX6_share_158 rfl 3 rfl ?_
                    refine gf_X6_22 (pc := 159) C (0) (by decide) cm_0 rfl dX6_share_159 ?_
                    refine gf_X6_150 (pc := 162) C (135) (by decide) cm_135 rfl dX6_share_162 ?_
                    refine cv_X6_86 (pc := 165) C E (c_copy (wR hfk) w140 (by omega)) rfl (Nat.lt_of_succ_lt (isW_lt (wR hfk))) (cm_w (wR hfk)) (by decide) rfl (Nat.le_of_ble_eq_true rfl) dX6_share_165 (fun M165 h165 => ?_)
                    subst h165
                    rw [q4]
                    obtain ⟨V5, hV5⟩ : ∃ W9, W9 = va_up V4 (4 + 2 * (f + k)) (S * w k / al) := ⟨_, rfl⟩
                    rw [← hV5]
                    have v5 : V5 (4 + 2 * (f + k)) = S * w k / al := by rw [hV5, ups]
                    have f5 : ∀ q9, 4 + 2 * (f + k) ≠ q9 → V5 q9 = V4 q9 := fun q9 hk => by rw [hV5, upn hk]
                    have r5 : V5 142 = S * w k % al := by rw [f5 142 (by omega), r4]
                    refine k_aload_n (pc := 168) C dX6_share_168 rfl 3 rfl ?_
                    refine gf_X6_44 (pc := 169) C (0) (by decide) cm_0 rfl dX6_share_169 ?_
                    refine k_iload (pc := 172) C dX6_share_172 0 rfl ?_
                    refine k_aload_n (pc := 174) C dX6_share_174 rfl 3 rfl ?_
                    refine gf_X6_22 (pc := 175) C (0) (by decide) cm_0 rfl dX6_share_175 ?_
                    refine gf_X6_171 (pc := 178) C (135) (by decide) cm_135 rfl dX6_share_178 ?_
                    refine cv_X6_174 (pc := 181) C E (c_lowest w142 (by rw [r5]; omega)) rfl (by decide) (cm_w w142) (by decide) rfl (Nat.le_of_ble_eq_true rfl) dX6_share_181 (fun r181 M181 h181 => ?_)
                    obtain ⟨rfl, rfl⟩ := h181
                    rw [r5, Nat.mod_eq_of_lt (show S * w k % al < 18446744073709551616 by omega)]
                    refine k_last (pc := 184) C E (160) (by decide) cm_160 (k) rfl (by omega) (by decide) dX6_share_184 ?_
                    rw [cm_a160, bx_uu, upIs]
                    refine k_lload (pc := 185) C dX6_share_185 1 rfl ?_
                    refine k_aload_n (pc := 187) C dX6_share_187 rfl 3 rfl ?_
                    refine gf_X6_44 (pc := 188) C (0) (by decide) cm_0 rfl dX6_share_188 ?_
                    refine k_iload (pc := 191) C dX6_share_191 0 rfl ?_
                    refine k_lald (pc := 193) C E (160) (by decide) cm_160 (k) rfl (by omega) (by decide) dX6_share_193 ?_
                    refine k_eql (y := lN (S * w k % al)) (by rw [upIs]; simp [vp_updL]) ?_
                    refine k_ladd (pc := 194) C dX6_share_194 ?_
                    refine k_eql (y := lN (sumW (shl S al w) (k + 1))) (lN_add _ _) ?_
                    refine k_lstore (pc := 195) (lv' := [(6, .long (lN (sumW (shl S al w) (k + 1)))), (8, .int (nI k)), (4, .long (lN al)), (0, .ref (ad (0))), (1, .int (nI x)), (2, .int (nI f)), (3, .int (nI n))]) C dX6_share_195 (by decide) rfl ?_
                    refine k_iinc (pc := 197) (v := nI (k + 1)) (lv' := [(8, .int (nI (k + 1))), (6, .long (lN (sumW (shl S al w) (k + 1)))), (4, .long (lN al)), (0, .ref (ad (0))), (1, .int (nI x)), (2, .int (nI f)), (3, .int (nI n))]) C dX6_share_197 (k := 1) rfl (nI_1 _) (by decide) rfl ?_
                    refine k_goto (pc := 200) (tgt := 80) C dX6_share_200 (by decide) ?_
                    refine k_sub [0, 1, 2, 3, 4, 5, 6] rfl ?_
                    exact im (k + 1) V5 _ (by omega) (by omega) (by rw [f5 150 (by omega), f4 150 (by decide), f3 150 (by decide), f2 150 (by decide), f1 150 (by decide), w50]) (by
                      rw [shT_s, hV5]
                      exact (wT.o (fun q hq => by rw [f4 q (by omega), f3 q (by omega), f2 q (by omega), f1 q (by omega)])).upr hfk) (fun j hj => by
                      by_cases e : j = k
                      · subst e; simp [vp_updL]; rfl
                      · rw [show vp_updL c k (lN (S * w k % al)) j = c j by simp [vp_updL, e]]
                        exact wc j (by omega))
              refine k_sub [0, 1, 2, 3, 4, 5, 6] rfl ?_
              have h9 := loop2 (n + 1) 0 V1 (la 160) (by omega) (by omega) v1 (by rw [shT_0]; exact hT.o (fun q hq => f1 q (by omega))) (fun j hj => absurd hj (Nat.not_lt_zero _))
              rw [upSelf] at h9
              exact h9
            · rw [c_eq (by omega) (by decide)] at c49
              refine k_bipush (pc := 52) (v := (-4)) C dX6_share_52 (by decide) ?_
              exact r_i (pc := 54) C E (by
  rw [eS, if_pos c49]
  exact ⟨V, la, rfl, rfl, hT, fun _ _ => rfl⟩) dX6_share_54
          · simp only [b01, Decidable.not_not] at c33
            refine k_iconst (pc := 36) (v := (-1)) C dX6_share_36 (by decide) ?_
            exact r_i (pc := 37) C E (by
  have e9 : sShare T w x0 f0 n0 = (-1, T) := by
    unfold sShare
    rw [if_neg (fun h => by
      first
        | exact c4 h.1
        | (have := h.2.1.1; have := h.2.1.2; omega)
        | exact c22 h.2.2.1
        | (obtain ⟨f, hf, rfl⟩ := inR_k c22
           obtain ⟨n, hn, rfl⟩ := inR_k (x := n0) (n := 13) (by constructor <;> omega)
           have h9 := h.2.2.2
           have h8 := h.2.1.1
           rw [rI_n (by omega), rI_n (by omega)] at h9
           rw [nI_toInt (by omega)] at h8
           have e28 : nI f + nI n - nI 1 = nI (f + n - 1) := by rw [nI_add]; exact pk_sub (by omega)
           rw [e28, inR_nI (by omega)] at c33
           omega))]
  rw [e9]
  exact ⟨V, la, rfl, rfl, hT, fun _ _ => rfl⟩) dX6_share_37
end EE
