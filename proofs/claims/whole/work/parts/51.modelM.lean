section MM
variable {l : Launch} {D : va_G} {ca : Nat → ClassId} {ad : Nat → Nat} {V U : Nat → Nat} {sc : Nat → Int32} {ia : Nat → Nat → Int32} {la : Nat → Nat → Int64}
set_option maxHeartbeats 4000000 in
set_option maxRecDepth 100000 in
/-- share -/
theorem c7_share {T : Nat → Nat} (hT : RM U T) (hB : TB T) {w : Nat → Nat} (hw : WL (la 176) w) (hwb : WB w) {x0 f0 n0 : Int32} : xI l D (xty ca) yX7_share cX7_share 10 (some .int) 3 160 [.ref (ad 174), .int x0, .int f0, .int n0] ad (cm ad ca (V, U, sc, ia, la)) (fun r M' => ∃ U', M' = cm ad ca (V, U', sc, ia, la) ∧ r = (sShare T w x0 f0 n0).1 ∧ RM U' (sShare T w x0 f0 n0).2) := by
  refine xM.of (by decide) (Nat.le_of_ble_eq_true rfl) (fun z C E => ?_)
  refine k_iload_n (pc := 0) C dX7_share_0 rfl 1 rfl ?_
  refine cs_X7_85 (pc := 1) C E (c7_isRegister) rfl (by decide) rfl (Nat.le_of_ble_eq_true rfl) dX7_share_1 (fun r1 M1 h1 => ?_)
  obtain ⟨rfl, rfl⟩ := h1
  refine k_if_eq (pc := 4) (tgt := 37) C dX7_share_4 (by decide) (fun c4 => ?_) (fun c4 => ?_)
  · simp only [b01, Decidable.not_not] at c4
    refine k_iconst (pc := 37) (v := (-1)) C dX7_share_37 (by decide) ?_
    exact r_i (pc := 38) C E (by
  have e9 : sShare T w x0 f0 n0 = (-1, T) := by
    unfold sShare
    rw [if_neg (fun h => by
      first
        | exact c4 h.1
        | exact c16 h.2.1
        | exact c23 h.2.2.1
        | (obtain ⟨f, hf, rfl⟩ := inR_k c23
           obtain ⟨n, hn, rfl⟩ := inR_k (x := n0) (n := 13) (by constructor <;> omega)
           have h9 := h.2.2.2
           rw [rI_n (by omega), rI_n (by omega)] at h9
           rw [nI_toInt (by omega)] at c16
           have e28 : nI f + nI n - nI 1 = nI (f + n - 1) := by rw [nI_add]; exact pk_sub (by omega)
           rw [e28, inR_nI (by omega)] at c34
           omega))]
  rw [e9]
  exact ⟨U, rfl, rfl, hT⟩) dX7_share_38
  · simp only [b01, Decidable.not_not] at c4
    refine k_iload_n (pc := 7) C dX7_share_7 rfl 3 rfl ?_
    refine k_i2l (pc := 8) C dX7_share_8 rfl ?_
    refine k_lconst (pc := 9) (v := lN 1) C dX7_share_9 (by decide) ?_
    refine k_ldc2 (pc := 10) C kc_X7_129 dX7_share_10 ?_
    refine k_eql (y := lN 12) rfl ?_
    refine cs_X7_56 (pc := 13) C E (c7_in) rfl (by decide) rfl (Nat.le_of_ble_eq_true rfl) dX7_share_13 (fun r13 M13 h13 => ?_)
    obtain ⟨rfl, rfl⟩ := h13
    simp only [in_r1]
    refine k_if_eq (pc := 16) (tgt := 37) C dX7_share_16 (by decide) (fun c16 => ?_) (fun c16 => ?_)
    · simp only [b01, Decidable.not_not] at c16
      refine k_iconst (pc := 37) (v := (-1)) C dX7_share_37 (by decide) ?_
      exact r_i (pc := 38) C E (by
  have e9 : sShare T w x0 f0 n0 = (-1, T) := by
    unfold sShare
    rw [if_neg (fun h => by
      first
        | exact c4 h.1
        | exact c16 h.2.1
        | exact c23 h.2.2.1
        | (obtain ⟨f, hf, rfl⟩ := inR_k c23
           obtain ⟨n, hn, rfl⟩ := inR_k (x := n0) (n := 13) (by constructor <;> omega)
           have h9 := h.2.2.2
           rw [rI_n (by omega), rI_n (by omega)] at h9
           rw [nI_toInt (by omega)] at c16
           have e28 : nI f + nI n - nI 1 = nI (f + n - 1) := by rw [nI_add]; exact pk_sub (by omega)
           rw [e28, inR_nI (by omega)] at c34
           omega))]
  rw [e9]
  exact ⟨U, rfl, rfl, hT⟩) dX7_share_38
    · simp only [b01, Decidable.not_not] at c16
      refine k_iload_n (pc := 19) C dX7_share_19 rfl 2 rfl ?_
      refine cs_X7_85 (pc := 20) C E (c7_isRegister) rfl (by decide) rfl (Nat.le_of_ble_eq_true rfl) dX7_share_20 (fun r20 M20 h20 => ?_)
      obtain ⟨rfl, rfl⟩ := h20
      refine k_if_eq (pc := 23) (tgt := 37) C dX7_share_23 (by decide) (fun c23 => ?_) (fun c23 => ?_)
      · simp only [b01, Decidable.not_not] at c23
        refine k_iconst (pc := 37) (v := (-1)) C dX7_share_37 (by decide) ?_
        exact r_i (pc := 38) C E (by
  have e9 : sShare T w x0 f0 n0 = (-1, T) := by
    unfold sShare
    rw [if_neg (fun h => by
      first
        | exact c4 h.1
        | exact c16 h.2.1
        | exact c23 h.2.2.1
        | (obtain ⟨f, hf, rfl⟩ := inR_k c23
           obtain ⟨n, hn, rfl⟩ := inR_k (x := n0) (n := 13) (by constructor <;> omega)
           have h9 := h.2.2.2
           rw [rI_n (by omega), rI_n (by omega)] at h9
           rw [nI_toInt (by omega)] at c16
           have e28 : nI f + nI n - nI 1 = nI (f + n - 1) := by rw [nI_add]; exact pk_sub (by omega)
           rw [e28, inR_nI (by omega)] at c34
           omega))]
  rw [e9]
  exact ⟨U, rfl, rfl, hT⟩) dX7_share_38
      · simp only [b01, Decidable.not_not] at c23
        refine k_iload_n (pc := 26) C dX7_share_26 rfl 2 rfl ?_
        refine k_iload_n (pc := 27) C dX7_share_27 rfl 3 rfl ?_
        refine k_iadd (pc := 28) C dX7_share_28 ?_
        refine k_iconst (pc := 29) (v := nI 1) C dX7_share_29 (by decide) ?_
        refine k_isub (pc := 30) C dX7_share_30 ?_
        refine cs_X7_85 (pc := 31) C E (c7_isRegister) rfl (by decide) rfl (Nat.le_of_ble_eq_true rfl) dX7_share_31 (fun r31 M31 h31 => ?_)
        obtain ⟨rfl, rfl⟩ := h31
        refine k_if_ne (pc := 34) (tgt := 39) C dX7_share_34 (by decide) (fun c34 => ?_) (fun c34 => ?_)
        · simp only [b01, Decidable.not_not] at c34
          have c6' : inR x0 16 ∧ (1 ≤ n0.toInt ∧ n0.toInt ≤ 12) ∧ inR f0 16 := ⟨c4, c16, c23⟩
          obtain ⟨x, hx, rfl⟩ := inR_k c4
          obtain ⟨n, hn, rfl⟩ := inR_k (x := n0) (n := 13) (by constructor <;> omega)
          obtain ⟨f, hf, rfl⟩ := inR_k c23
          rw [nI_toInt (by omega)] at c16
          have e28 : nI f + nI n - nI 1 = nI (f + n - 1) := by rw [nI_add]; exact pk_sub (by omega)
          rw [e28, inR_nI (by omega)] at c34
          have c6 : okS (nI x) (nI f) (nI n) := ⟨c6'.1, c6'.2.1, c6'.2.2, by rw [rI_n (by omega), rI_n (by omega)]; omega⟩
          have hTx := hT x (by omega)
          have bx1 := hB.1 x hx
          refine k_lconst (pc := 39) (v := lN 0) C dX7_share_39 (by decide) ?_
          refine k_lstore (pc := 40) (lv' := [(4, .long (lN 0)), (0, .ref (ad (174))), (1, .int (nI x)), (2, .int (nI f)), (3, .int (nI n))]) C dX7_share_40 (by decide) rfl ?_
          refine k_iconst (pc := 42) (v := nI 0) C dX7_share_42 (by decide) ?_
          refine k_istore (pc := 43) (lv' := [(6, .int (nI 0)), (4, .long (lN 0)), (0, .ref (ad (174))), (1, .int (nI x)), (2, .int (nI f)), (3, .int (nI n))]) C dX7_share_43 (by decide) rfl ?_
          obtain ⟨S, hS⟩ : ∃ S, S = T x := ⟨_, rfl⟩
          rw [← hS] at bx1 hTx
          obtain ⟨al, hal⟩ : ∃ al, al = sumW w n := ⟨_, rfl⟩
          have hal9 : al ≤ 12 * 1000000000000 := by
            rw [hal]
            have h1 := sumW_le (w := w) (c := 1000000000000) (n := n) (fun k hk => hwb k (by omega))
            have h2 := Nat.mul_le_mul_right 1000000000000 (show n ≤ 12 by omega)
            exact Nat.le_trans h1 h2
          have eS : sShare T w (nI x) (nI f) (nI n) = if al = 0 then (-4, T) else (nI (S - sumW (shq S al w) n), hand f n (S - sumW (shq S al w) n) (shT T f n (shq S al w)) (shl S al w)) := by
            unfold sShare
            rw [if_pos c6]
            simp only [rI_n (show x < 2147483648 by omega), rI_n (show f < 2147483648 by omega), rI_n (show n < 2147483648 by omega), ← hS, ← hal]
          have loop1 : ∀ (m k : Nat), n - k < m → k ≤ n → xK z (xw ad (cm ad ca (V, U, sc, ia, la)) 187) 0 0 45 [(6, .int (nI k)), (4, .long (lN (sumW w k))), (0, .ref (ad 174)), (1, .int (nI x)), (2, .int (nI f)), (3, .int (nI n))] [] := by
            intro m
            induction m with
            | zero => intro k h; exact absurd h (Nat.not_lt_zero _)
            | succ m im =>
              intro k hm hk
              refine k_iload (pc := 45) C dX7_share_45 0 rfl ?_
              refine k_iload_n (pc := 47) C dX7_share_47 rfl 5 rfl ?_
              refine k_icmp_ge (pc := 48) (tgt := 69) C dX7_share_48 (by decide) (fun c48 => ?_) (fun c48 => ?_)
              · rw [q_le (by omega) (by omega)] at c48
                rw [show k = n by omega, ← hal]
                refine k_lload (pc := 69) C dX7_share_69 1 rfl ?_
                refine k_lconst (pc := 71) (v := lN 0) C dX7_share_71 (by decide) ?_
                refine k_lcmp (pc := 72) C dX7_share_72 ?_
                refine k_if_ne (pc := 73) (tgt := 79) C dX7_share_73 (by decide) (fun c73 => ?_) (fun c73 => ?_)
                · rw [c_eq (by omega) (by decide)] at c73
                  refine k_aload_n (pc := 79) C dX7_share_79 rfl 2 rfl ?_
                  refine k_bipush (pc := 80) (v := nI 31) C dX7_share_80 (by decide) ?_
                  refine k_iload_n (pc := 82) C dX7_share_82 rfl 3 rfl ?_
                  refine cv_X7_72 (pc := 83) C E (c7_copy (t := 31) (a := x) (by decide) (by omega)) rfl (by decide) cm_174 (by decide) rfl (Nat.le_of_ble_eq_true rfl) dX7_share_83 (fun M83 h83 => ?_)
                  subst h83
                  rw [hTx]
                  obtain ⟨U1, hU1⟩ : ∃ W9, W9 = va_up U (31) (S) := ⟨_, rfl⟩
                  rw [← hU1]
                  have v1 : U1 (31) = S := by rw [hU1, ups]
                  have f1 : ∀ q9, 31 ≠ q9 → U1 q9 = U q9 := fun q9 hk => by rw [hU1, upn hk]
                  refine k_aload_n (pc := 86) C dX7_share_86 rfl 2 rfl ?_
                  refine k_bipush (pc := 87) (v := nI 29) C dX7_share_87 (by decide) ?_
                  refine k_lload (pc := 89) C dX7_share_89 1 rfl ?_
                  refine cv_X7_62 (pc := 91) C E (c7_set (t := 29) (a := al) (by decide) (by omega)) rfl (by decide) cm_174 (by decide) rfl (Nat.le_of_ble_eq_true rfl) dX7_share_91 (fun M91 h91 => ?_)
                  subst h91
                  obtain ⟨U2, hU2⟩ : ∃ W9, W9 = va_up U1 (29) (al) := ⟨_, rfl⟩
                  rw [← hU2]
                  have v2 : U2 (29) = al := by rw [hU2, ups]
                  have f2 : ∀ q9, 29 ≠ q9 → U2 q9 = U1 q9 := fun q9 hk => by rw [hU2, upn hk]
                  refine k_aload_n (pc := 94) C dX7_share_94 rfl 2 rfl ?_
                  refine k_bipush (pc := 95) (v := nI 30) C dX7_share_95 (by decide) ?_
                  refine k_bipush (pc := 97) (v := nI 31) C dX7_share_97 (by decide) ?_
                  refine cv_X7_72 (pc := 99) C E (c7_copy (t := 30) (a := 31) (by decide) (by decide)) rfl (by decide) cm_174 (by decide) rfl (Nat.le_of_ble_eq_true rfl) dX7_share_99 (fun M99 h99 => ?_)
                  subst h99
                  rw [f2 31 (by decide), v1]
                  obtain ⟨U3, hU3⟩ : ∃ W9, W9 = va_up U2 (30) (S) := ⟨_, rfl⟩
                  rw [← hU3]
                  have v3 : U3 (30) = S := by rw [hU3, ups]
                  have f3 : ∀ q9, 30 ≠ q9 → U3 q9 = U2 q9 := fun q9 hk => by rw [hU3, upn hk]
                  refine k_iconst (pc := 102) (v := nI 0) C dX7_share_102 (by decide) ?_
                  refine k_istore (pc := 103) (lv' := [(6, .int (nI 0)), (4, .long (lN al)), (0, .ref (ad (174))), (1, .int (nI x)), (2, .int (nI f)), (3, .int (nI n))]) C dX7_share_103 (by decide) rfl ?_
                  obtain ⟨h0, h1, h2⟩ := sh_left (S := S) (w := w) (Nat.pos_of_ne_zero c73) hal (by omega)
                  obtain ⟨lf, hlf⟩ : ∃ m, m = S - sumW (shq S al w) n := ⟨_, rfl⟩
                  rw [← hlf] at h2 eS
                  rw [if_neg c73] at eS
                  have loop3 : ∀ (rem t : Nat) (T9 L W : Nat → Nat), t + rem = lf → RM W T9 → (∀ k, k < n → W (36 + k) = L k) → (∀ k, k < n → L k < al) → hand f n rem T9 L = hand f n lf (shT T f n (shq S al w)) (shl S al w) → xK z (xw ad (cm ad ca (V, W, sc, ia, la)) 187) 0 0 193 [(7, .int (nI t)), (6, .int (nI lf)), (0, .ref (ad 174)), (1, .int (nI x)), (2, .int (nI f)), (3, .int (nI n))] [] := by
                    intro rem
                    induction rem with
                    | zero =>
                      intro t T9 L W ht hW hL hLb hH
                      refine k_iload (pc := 193) C dX7_share_193 0 rfl ?_
                      refine k_iload (pc := 195) C dX7_share_195 1 rfl ?_
                      refine k_icmp_ge (pc := 197) (tgt := 268) C dX7_share_197 (by decide) (fun c197 => ?_) (fun c197 => ?_)
                      · rw [q_le (by omega) (by omega)] at c197
                        refine k_iload (pc := 268) C dX7_share_268 1 rfl ?_
                        exact r_i (pc := 270) C E (by
                    rw [eS]
                    refine ⟨W, rfl, rfl, ?_⟩
                    rw [show hand f n 0 T9 L = T9 from rfl] at hH
                    rw [← hH]
                    exact hW) dX7_share_270
                      · rw [q_le (by omega) (by omega)] at c197
                        exact absurd (by omega) c197
                    | succ rem ih =>
                      intro t T9 L W ht hW hL hLb hH
                      obtain ⟨g, hg⟩ : ∃ g, g = gmx L (n - 1) := ⟨_, rfl⟩
                      have hgn : g < n := by rw [hg]; have := gmx_le L (n - 1); omega
                      refine k_iload (pc := 193) C dX7_share_193 0 rfl ?_
                      refine k_iload (pc := 195) C dX7_share_195 1 rfl ?_
                      refine k_icmp_ge (pc := 197) (tgt := 268) C dX7_share_197 (by decide) (fun c197 => ?_) (fun c197 => ?_)
                      · rw [q_le (by omega) (by omega)] at c197
                        exact absurd c197 (by omega)
                      · rw [q_le (by omega) (by omega)] at c197
                        refine k_iconst (pc := 200) (v := nI 0) C dX7_share_200 (by decide) ?_
                        refine k_istore (pc := 201) (lv' := [(8, .int (nI 0)), (7, .int (nI t)), (6, .int (nI lf)), (0, .ref (ad (174))), (1, .int (nI x)), (2, .int (nI f)), (3, .int (nI n))]) C dX7_share_201 (by decide) rfl ?_
                        refine k_iconst (pc := 203) (v := nI (0 + 1)) C dX7_share_203 (by decide) ?_
                        refine k_istore (pc := 204) (lv' := [(9, .int (nI (0 + 1))), (8, .int (nI 0)), (7, .int (nI t)), (6, .int (nI lf)), (0, .ref (ad (174))), (1, .int (nI x)), (2, .int (nI f)), (3, .int (nI n))]) C dX7_share_204 (by decide) rfl ?_
                        have il : ∀ (m j : Nat), n - j < m → j + 1 ≤ n → xK z (xw ad (cm ad ca (V, W, sc, ia, la)) 187) 0 0 206 [(9, .int (nI (j + 1))), (8, .int (nI (gmx L j))), (7, .int (nI t)), (6, .int (nI lf)), (0, .ref (ad 174)), (1, .int (nI x)), (2, .int (nI f)), (3, .int (nI n))] [] := by
                          intro m
                          induction m with
                          | zero => intro j h; exact absurd h (Nat.not_lt_zero _)
                          | succ m im =>
                            intro j hm hj
                            have hgj := gmx_le L j
                            refine k_iload (pc := 206) C dX7_share_206 0 rfl ?_
                            refine k_iload_n (pc := 208) C dX7_share_208 rfl 7 rfl ?_
                            refine k_icmp_ge (pc := 209) (tgt := 244) C dX7_share_209 (by decide) (fun c209 => ?_) (fun c209 => ?_)
                            · rw [q_le (by omega) (by omega)] at c209
                              have ej : gmx L j = g := by rw [hg]; congr 1; omega
                              rw [ej]
                              refine k_aload_n (pc := 244) C dX7_share_244 rfl 4 rfl ?_
                              refine k_iload_n (pc := 245) C dX7_share_245 rfl 6 rfl ?_
                              refine k_iload (pc := 246) C dX7_share_246 1 rfl ?_
                              refine k_iadd (pc := 248) C dX7_share_248 ?_
                              refine k_eqi (y := nI (f + g)) (nI_add _ _) ?_
                              refine cv_X7_102 (pc := 249) C E (c7_one (t := f + g) (by omega) (by omega)) rfl (by decide) cm_174 (by decide) rfl (Nat.le_of_ble_eq_true rfl) dX7_share_249 (fun M249 h249 => ?_)
                              subst h249
                              refine k_aload_n (pc := 252) C dX7_share_252 rfl 4 rfl ?_
                              refine k_bipush (pc := 253) (v := nI 36) C dX7_share_253 (by decide) ?_
                              refine k_iload (pc := 255) C dX7_share_255 1 rfl ?_
                              refine k_iadd (pc := 257) C dX7_share_257 ?_
                              refine k_eqi (y := nI (36 + g)) (nI_add _ _) ?_
                              refine k_lconst (pc := 258) (v := lN 0) C dX7_share_258 (by decide) ?_
                              refine cv_X7_62 (pc := 259) C E (c7_set (t := 36 + g) (a := 0) (by omega) (by decide)) rfl (by decide) cm_174 (by decide) rfl (Nat.le_of_ble_eq_true rfl) dX7_share_259 (fun M259 h259 => ?_)
                              subst h259
                              refine k_iinc (pc := 262) (v := nI (t + 1)) (lv' := [(7, .int (nI (t + 1))), (9, .int (nI (j + 1))), (8, .int (nI g)), (6, .int (nI lf)), (0, .ref (ad (174))), (1, .int (nI x)), (2, .int (nI f)), (3, .int (nI n))]) C dX7_share_262 (k := 2) rfl (nI_1 _) (by decide) rfl ?_
                              refine k_goto (pc := 265) (tgt := 193) C dX7_share_265 (by decide) ?_
                              refine k_sub [0, 3, 4, 5, 6, 7] rfl ?_
                              exact ih (t + 1) (va_up T9 (f + g) (T9 (f + g) + 1)) (va_up L g 0) _ (by omega) (by
                                intro q hq
                                rw [upn (by omega)]
                                by_cases e : f + g = q
                                · subst e; rw [ups, ups, hW _ hq]
                                · rw [upn e, upn (by omega), upn e]; exact hW q hq) (fun q hq => by
                                by_cases e : g = q
                                · subst e; rw [ups, ups]
                                · rw [upn (by omega), upn (by omega), upn (by omega), upn e]; exact hL q hq) (fun q hq => by
                                by_cases e : g = q
                                · subst e; rw [ups]; omega
                                · rw [upn e]; exact hLb q hq) (by rw [← hH, hg]; rfl)
                            · rw [q_le (by omega) (by omega)] at c209
                              refine k_aload_n (pc := 212) C dX7_share_212 rfl 4 rfl ?_
                              refine k_bipush (pc := 213) (v := nI 36) C dX7_share_213 (by decide) ?_
                              refine k_iload (pc := 215) C dX7_share_215 0 rfl ?_
                              refine k_iadd (pc := 217) C dX7_share_217 ?_
                              refine k_eqi (y := nI (36 + (j + 1))) (nI_add _ _) ?_
                              refine k_bipush (pc := 218) (v := nI 36) C dX7_share_218 (by decide) ?_
                              refine k_iload (pc := 220) C dX7_share_220 1 rfl ?_
                              refine k_iadd (pc := 222) C dX7_share_222 ?_
                              refine k_eqi (y := nI (36 + gmx L j)) (nI_add _ _) ?_
                              refine cv_X7_76 (pc := 223) C E (c7_compare (a := 36 + (j + 1)) (b := 36 + gmx L j) (by omega) (by omega) (by rw [hL _ (by omega)]; have := hLb (j + 1) (by omega); omega) (by rw [hL _ (by omega)]; have := hLb (gmx L j) (by omega); omega)) rfl (by decide) cm_174 (by decide) rfl (Nat.le_of_ble_eq_true rfl) dX7_share_223 (fun r223 M223 h223 => ?_)
                              obtain ⟨rfl, rfl⟩ := h223
                              refine k_if_le (pc := 226) (tgt := 234) C dX7_share_226 (by decide) (fun c226 => ?_) (fun c226 => ?_)
                              · rw [cmp_le0, hL _ (by omega), hL _ (by omega)] at c226
                                refine k_iload (pc := 234) C dX7_share_234 1 rfl ?_
                                refine k_eqi (y := nI (gmx L (j + 1))) (by first | (rw [gmx, if_pos (by omega)]; done) | (rw [gmx, if_neg (by omega)])) ?_
                                refine k_istore (pc := 236) (lv' := [(8, .int (nI (gmx L (j + 1)))), (9, .int (nI (j + 1))), (7, .int (nI t)), (6, .int (nI lf)), (0, .ref (ad (174))), (1, .int (nI x)), (2, .int (nI f)), (3, .int (nI n))]) C dX7_share_236 (by decide) rfl ?_
                                refine k_iinc (pc := 238) (v := nI (j + 1 + 1)) (lv' := [(9, .int (nI (j + 1 + 1))), (8, .int (nI (gmx L (j + 1)))), (7, .int (nI t)), (6, .int (nI lf)), (0, .ref (ad (174))), (1, .int (nI x)), (2, .int (nI f)), (3, .int (nI n))]) C dX7_share_238 (k := 1) rfl (nI_1 _) (by decide) rfl ?_
                                refine k_goto (pc := 241) (tgt := 206) C dX7_share_241 (by decide) ?_
                                refine k_sub [0, 1, 2, 3, 4, 5, 6, 7] rfl ?_
                                exact im (j + 1) (by omega) (by omega)
                              · rw [cmp_le0, hL _ (by omega), hL _ (by omega)] at c226
                                refine k_iload (pc := 229) C dX7_share_229 0 rfl ?_
                                refine k_goto (pc := 231) (tgt := 236) C dX7_share_231 (by decide) ?_
                                refine k_eqi (y := nI (gmx L (j + 1))) (by first | (rw [gmx, if_pos (by omega)]; done) | (rw [gmx, if_neg (by omega)])) ?_
                                refine k_istore (pc := 236) (lv' := [(8, .int (nI (gmx L (j + 1)))), (9, .int (nI (j + 1))), (7, .int (nI t)), (6, .int (nI lf)), (0, .ref (ad (174))), (1, .int (nI x)), (2, .int (nI f)), (3, .int (nI n))]) C dX7_share_236 (by decide) rfl ?_
                                refine k_iinc (pc := 238) (v := nI (j + 1 + 1)) (lv' := [(9, .int (nI (j + 1 + 1))), (8, .int (nI (gmx L (j + 1)))), (7, .int (nI t)), (6, .int (nI lf)), (0, .ref (ad (174))), (1, .int (nI x)), (2, .int (nI f)), (3, .int (nI n))]) C dX7_share_238 (k := 1) rfl (nI_1 _) (by decide) rfl ?_
                                refine k_goto (pc := 241) (tgt := 206) C dX7_share_241 (by decide) ?_
                                refine k_sub [0, 1, 2, 3, 4, 5, 6, 7] rfl ?_
                                exact im (j + 1) (by omega) (by omega)
                        refine k_sub [0, 1, 2, 3, 4, 5, 6, 7] rfl ?_
                        exact il (n + 1) 0 (by omega) (by omega)
                  have loop2 : ∀ (m k : Nat) (W : Nat → Nat), n - k < m → k ≤ n → W 31 = S → W 29 = al → W 30 = S - sumW (shq S al w) k → (∀ j, j < k → W (36 + j) = shl S al w j) → RM W (shT T f k (shq S al w)) → xK z (xw ad (cm ad ca (V, W, sc, ia, la)) 187) 0 0 105 [(6, .int (nI k)), (4, .long (lN al)), (0, .ref (ad 174)), (1, .int (nI x)), (2, .int (nI f)), (3, .int (nI n))] [] := by
                    intro m
                    induction m with
                    | zero => intro k W h; exact absurd h (Nat.not_lt_zero _)
                    | succ m im =>
                      intro k W hm hk w31 w29 w30 wl wT
                      refine k_iload (pc := 105) C dX7_share_105 0 rfl ?_
                      refine k_iload_n (pc := 107) C dX7_share_107 rfl 5 rfl ?_
                      refine k_icmp_ge (pc := 108) (tgt := 179) C dX7_share_108 (by decide) (fun c108 => ?_) (fun c108 => ?_)
                      · rw [q_le (by omega) (by omega)] at c108
                        refine k_aload_n (pc := 179) C dX7_share_179 rfl 2 rfl ?_
                        refine gf_X7_7 (pc := 180) C (174) (by decide) cm_174 rfl dX7_share_180 ?_
                        refine k_sipush (pc := 183) (v := nI (12 * 30 + 0)) C dX7_share_183 (by decide) ?_
                        refine k_lald (pc := 186) C E (175) (by decide) cm_175 (12 * 30 + 0) rfl (by decide) (by decide) dX7_share_186 ?_
                        refine k_eql (y := lN ((S - sumW (shq S al w) k) / 4294967296 ^ 0 % 4294967296)) (by rw [mw_at _ (by decide) (by decide), w30]) ?_
                        refine k_l2i (pc := 187) C dX7_share_187 rfl ?_
                        refine k_eqi (y := nI lf) (by rw [show k = n by omega, ← hlf, Nat.pow_zero, Nat.div_one, Nat.mod_eq_of_lt (by omega)]; exact lN_i _) ?_
                        refine k_istore (pc := 188) (lv' := [(6, .int (nI lf)), (4, .long (lN al)), (0, .ref (ad (174))), (1, .int (nI x)), (2, .int (nI f)), (3, .int (nI n))]) C dX7_share_188 (by decide) rfl ?_
                        refine k_iconst (pc := 190) (v := nI 0) C dX7_share_190 (by decide) ?_
                        refine k_istore (pc := 191) (lv' := [(7, .int (nI 0)), (6, .int (nI lf)), (4, .long (lN al)), (0, .ref (ad (174))), (1, .int (nI x)), (2, .int (nI f)), (3, .int (nI n))]) C dX7_share_191 (by decide) rfl ?_
                        refine k_sub [0, 1, 3, 4, 5, 6] rfl ?_
                        have ek : k = n := by omega
                        rw [ek] at wl wT
                        exact loop3 lf 0 _ (shl S al w) W (by omega) wT wl (fun j _ => Nat.mod_lt _ (by omega)) rfl
                      · rw [q_le (by omega) (by omega)] at c108
                        have wk := hw k (by omega)
                        have wb := hwb k (by omega)
                        have hN : S * w k < 2 ^ 319 := by
                          have h := Nat.mul_lt_mul_of_lt_of_le bx1 (show w k ≤ 2 ^ 63 by omega) (by decide)
                          omega
                        have hle := Nat.le_trans (sumW_mono (shq S al w) (show k + 1 ≤ n by omega)) h0
                        rw [show sumW (shq S al w) (k + 1) = sumW (shq S al w) k + S * w k / al from rfl] at hle
                        refine k_aload_n (pc := 111) C dX7_share_111 rfl 2 rfl ?_
                        refine k_bipush (pc := 112) (v := nI 28) C dX7_share_112 (by decide) ?_
                        refine k_aload_n (pc := 114) C dX7_share_114 rfl 2 rfl ?_
                        refine gf_X7_13 (pc := 115) C (174) (by decide) cm_174 rfl dX7_share_115 ?_
                        refine k_iload (pc := 118) C dX7_share_118 0 rfl ?_
                        refine k_lald (pc := 120) C E (176) (by decide) cm_176 (k) rfl (by omega) (by decide) dX7_share_120 ?_
                        refine k_eql (y := lN (w k)) (wk) ?_
                        refine cv_X7_62 (pc := 121) C E (c7_set (t := 28) (a := w k) (by decide) (by omega)) rfl (by decide) cm_174 (by decide) rfl (Nat.le_of_ble_eq_true rfl) dX7_share_121 (fun M121 h121 => ?_)
                        subst h121
                        obtain ⟨U1, hU1⟩ : ∃ W9, W9 = va_up W (28) (w k) := ⟨_, rfl⟩
                        rw [← hU1]
                        have v1 : U1 (28) = w k := by rw [hU1, ups]
                        have f1 : ∀ q9, 28 ≠ q9 → U1 q9 = W q9 := fun q9 hk => by rw [hU1, upn hk]
                        refine k_aload_n (pc := 124) C dX7_share_124 rfl 2 rfl ?_
                        refine k_bipush (pc := 125) (v := nI 28) C dX7_share_125 (by decide) ?_
                        refine k_bipush (pc := 127) (v := nI 31) C dX7_share_127 (by decide) ?_
                        refine k_bipush (pc := 129) (v := nI 28) C dX7_share_129 (by decide) ?_
                        refine cv_X7_108 (pc := 131) C E (c7_product (t := 28) (a := 31) (b := 28) (by decide) (by decide) (by decide) (by decide) (by decide) (by rw [f1 31 (by decide), w31]; omega)) rfl (by decide) cm_174 (by decide) rfl (Nat.le_of_ble_eq_true rfl) dX7_share_131 (fun M131 h131 => ?_)
                        subst h131
                        rw [f1 31 (by decide), w31, v1]
                        obtain ⟨U2, hU2⟩ : ∃ W, W = va_up (va_up U1 34 (S * w k)) (28) (S * w k) := ⟨_, rfl⟩
                        rw [← hU2]
                        have v2 : U2 (28) = S * w k := by rw [hU2, ups]
                        have f2 : ∀ k, 34 ≠ k → 28 ≠ k → U2 k = U1 k := fun k h1 h2 => by rw [hU2, upn h2, upn h1]
                        refine k_aload_n (pc := 134) C dX7_share_134 rfl 2 rfl ?_
                        refine k_bipush (pc := 135) (v := nI 28) C dX7_share_135 (by decide) ?_
                        refine k_bipush (pc := 137) (v := nI 29) C dX7_share_137 (by decide) ?_
                        refine cv_X7_111 (pc := 139) C E (c7_divides (a := 28) (b := 29) (by decide) (by decide) (by decide) (by decide) (by decide) (by decide) (by rw [f2 29 (by decide) (by decide), f1 29 (by decide), w29]; omega) (by rw [f2 29 (by decide) (by decide), f1 29 (by decide), w29]; omega) (by rw [v2]; omega)) rfl (by decide) cm_174 (by decide) rfl (Nat.le_of_ble_eq_true rfl) dX7_share_139 (fun M139 h139 => ?_)
                        subst h139
                        rw [v2, f2 29 (by decide) (by decide), f1 29 (by decide), w29]
                        obtain ⟨U3, hU3⟩ : ∃ W, W = dv2 U2 (S * w k / al) (S * w k % al) := ⟨_, rfl⟩
                        rw [← hU3]
                        have q3 : U3 32 = S * w k / al := by rw [hU3, dv_2]
                        have r3 : U3 33 = S * w k % al := by rw [hU3, dv_3]
                        have f3 : ∀ k, 32 ≠ k → 33 ≠ k → U3 k = U2 k := fun k h1 h2 => by rw [hU3, dv_o h1 h2]
                        refine k_aload_n (pc := 142) C dX7_share_142 rfl 2 rfl ?_
                        refine k_iload_n (pc := 143) C dX7_share_143 rfl 4 rfl ?_
                        refine k_iload (pc := 144) C dX7_share_144 0 rfl ?_
                        refine k_iadd (pc := 146) C dX7_share_146 ?_
                        refine k_eqi (y := nI (f + k)) (nI_add _ _) ?_
                        refine k_bipush (pc := 147) (v := nI 32) C dX7_share_147 (by decide) ?_
                        refine cv_X7_72 (pc := 149) C E (c7_copy (t := f + k) (a := 32) (by omega) (by decide)) rfl (by decide) cm_174 (by decide) rfl (Nat.le_of_ble_eq_true rfl) dX7_share_149 (fun M149 h149 => ?_)
                        subst h149
                        rw [q3]
                        obtain ⟨U4, hU4⟩ : ∃ W9, W9 = va_up U3 (f + k) (S * w k / al) := ⟨_, rfl⟩
                        rw [← hU4]
                        have v4 : U4 (f + k) = S * w k / al := by rw [hU4, ups]
                        have f4 : ∀ q9, f + k ≠ q9 → U4 q9 = U3 q9 := fun q9 hk => by rw [hU4, upn hk]
                        refine k_aload_n (pc := 152) C dX7_share_152 rfl 2 rfl ?_
                        refine k_bipush (pc := 153) (v := nI 36) C dX7_share_153 (by decide) ?_
                        refine k_iload (pc := 155) C dX7_share_155 0 rfl ?_
                        refine k_iadd (pc := 157) C dX7_share_157 ?_
                        refine k_eqi (y := nI (36 + k)) (nI_add _ _) ?_
                        refine k_bipush (pc := 158) (v := nI 33) C dX7_share_158 (by decide) ?_
                        refine cv_X7_72 (pc := 160) C E (c7_copy (t := 36 + k) (a := 33) (by omega) (by decide)) rfl (by decide) cm_174 (by decide) rfl (Nat.le_of_ble_eq_true rfl) dX7_share_160 (fun M160 h160 => ?_)
                        subst h160
                        rw [f4 33 (by omega), r3]
                        obtain ⟨U5, hU5⟩ : ∃ W9, W9 = va_up U4 (36 + k) (S * w k % al) := ⟨_, rfl⟩
                        rw [← hU5]
                        have v5 : U5 (36 + k) = S * w k % al := by rw [hU5, ups]
                        have f5 : ∀ q9, 36 + k ≠ q9 → U5 q9 = U4 q9 := fun q9 hk => by rw [hU5, upn hk]
                        have y32 : U5 32 = S * w k / al := by rw [f5 32 (by omega), f4 32 (by omega), q3]
                        have y30 : U5 30 = S - sumW (shq S al w) k := by rw [f5 30 (by omega), f4 30 (by omega), f3 30 (by decide) (by decide), f2 30 (by decide) (by decide), f1 30 (by decide), w30]
                        refine k_aload_n (pc := 163) C dX7_share_163 rfl 2 rfl ?_
                        refine k_bipush (pc := 164) (v := nI 30) C dX7_share_164 (by decide) ?_
                        refine k_bipush (pc := 166) (v := nI 30) C dX7_share_166 (by decide) ?_
                        refine k_bipush (pc := 168) (v := nI 32) C dX7_share_168 (by decide) ?_
                        refine cv_X7_80 (pc := 170) C E (c7_minus (t := 30) (a := 30) (b := 32) (by decide) (by decide) (by decide) (by rw [y32, y30]; omega)) rfl (by decide) cm_174 (by decide) rfl (Nat.le_of_ble_eq_true rfl) dX7_share_170 (fun M170 h170 => ?_)
                        subst h170
                        rw [y32, y30]
                        obtain ⟨U6, hU6⟩ : ∃ W9, W9 = va_up U5 (30) (S - sumW (shq S al w) k - S * w k / al) := ⟨_, rfl⟩
                        rw [← hU6]
                        have v6 : U6 (30) = S - sumW (shq S al w) k - S * w k / al := by rw [hU6, ups]
                        have f6 : ∀ q9, 30 ≠ q9 → U6 q9 = U5 q9 := fun q9 hk => by rw [hU6, upn hk]
                        refine k_iinc (pc := 173) (v := nI (k + 1)) (lv' := [(6, .int (nI (k + 1))), (4, .long (lN al)), (0, .ref (ad (174))), (1, .int (nI x)), (2, .int (nI f)), (3, .int (nI n))]) C dX7_share_173 (k := 0) rfl (nI_1 _) (by decide) rfl ?_
                        refine k_goto (pc := 176) (tgt := 105) C dX7_share_176 (by decide) ?_
                        refine k_sub [0, 1, 2, 3, 4, 5] rfl ?_
                        exact im (k + 1) U6 (by omega) (by omega) (by rw [f6 31 (by decide), f5 31 (by omega), f4 31 (by omega), f3 31 (by decide) (by decide), f2 31 (by decide) (by decide), f1 31 (by decide), w31]) (by rw [f6 29 (by decide), f5 29 (by omega), f4 29 (by omega), f3 29 (by decide) (by decide), f2 29 (by decide) (by decide), f1 29 (by decide), w29]) (by rw [v6]; show _ = S - (sumW (shq S al w) k + S * w k / al); omega) (fun j hj => by
                          by_cases e : k = j
                          · subst e; rw [f6 _ (by omega), v5]; rfl
                          · rw [f6 _ (by omega), f5 _ (by omega), f4 _ (by omega), f3 _ (by omega) (by omega), f2 _ (by omega) (by omega), f1 _ (by omega)]; exact wl j (by omega)) (by
                          rw [shT_s]
                          intro q hq
                          by_cases e : f + k = q
                          · subst e; rw [f6 _ (by omega), f5 _ (by omega), v4, ups]; rfl
                          · rw [f6 _ (by omega), f5 _ (by omega), f4 _ e, f3 _ (by omega) (by omega), f2 _ (by omega) (by omega), f1 _ (by omega), upn e]; exact wT q hq)
                  refine k_sub [0, 1, 2, 3, 4, 5] rfl ?_
                  exact loop2 (n + 1) 0 U3 (by omega) (by omega) (by rw [f3 31 (by decide), f2 31 (by decide), v1]) (by rw [f3 29 (by decide), v2]) (by rw [v3]; rfl) (fun j hj => absurd hj (Nat.not_lt_zero _)) (by rw [shT_0]; exact hT.o (fun q hq => by rw [f3 q (by omega), f2 q (by omega), f1 q (by omega)]))
                · rw [c_eq (by omega) (by decide)] at c73
                  refine k_bipush (pc := 76) (v := (-4)) C dX7_share_76 (by decide) ?_
                  exact r_i (pc := 78) C E (by
            rw [eS, if_pos c73]
            exact ⟨U, rfl, rfl, hT⟩) dX7_share_78
              · rw [q_le (by omega) (by omega)] at c48
                refine k_lload (pc := 51) C dX7_share_51 1 rfl ?_
                refine k_aload_n (pc := 53) C dX7_share_53 rfl 2 rfl ?_
                refine gf_X7_13 (pc := 54) C (174) (by decide) cm_174 rfl dX7_share_54 ?_
                refine k_iload (pc := 57) C dX7_share_57 0 rfl ?_
                refine k_lald (pc := 59) C E (176) (by decide) cm_176 (k) rfl (by omega) (by decide) dX7_share_59 ?_
                refine k_eql (y := lN (w k)) (hw k (by omega)) ?_
                refine k_ladd (pc := 60) C dX7_share_60 ?_
                refine k_eql (y := lN (sumW w (k + 1))) (lN_add _ _) ?_
                refine k_lstore (pc := 61) (lv' := [(4, .long (lN (sumW w (k + 1)))), (6, .int (nI k)), (0, .ref (ad (174))), (1, .int (nI x)), (2, .int (nI f)), (3, .int (nI n))]) C dX7_share_61 (by decide) rfl ?_
                refine k_iinc (pc := 63) (v := nI (k + 1)) (lv' := [(6, .int (nI (k + 1))), (4, .long (lN (sumW w (k + 1)))), (0, .ref (ad (174))), (1, .int (nI x)), (2, .int (nI f)), (3, .int (nI n))]) C dX7_share_63 (k := 1) rfl (nI_1 _) (by decide) rfl ?_
                refine k_goto (pc := 66) (tgt := 45) C dX7_share_66 (by decide) ?_
                refine k_sub [0, 1, 2, 3, 4, 5] rfl ?_
                exact im (k + 1) (by omega) (by omega)
          refine k_sub [0, 1, 2, 3, 4, 5] rfl ?_
          exact loop1 (n + 1) 0 (by omega) (by omega)
        · simp only [b01, Decidable.not_not] at c34
          refine k_iconst (pc := 37) (v := (-1)) C dX7_share_37 (by decide) ?_
          exact r_i (pc := 38) C E (by
  have e9 : sShare T w x0 f0 n0 = (-1, T) := by
    unfold sShare
    rw [if_neg (fun h => by
      first
        | exact c4 h.1
        | exact c16 h.2.1
        | exact c23 h.2.2.1
        | (obtain ⟨f, hf, rfl⟩ := inR_k c23
           obtain ⟨n, hn, rfl⟩ := inR_k (x := n0) (n := 13) (by constructor <;> omega)
           have h9 := h.2.2.2
           rw [rI_n (by omega), rI_n (by omega)] at h9
           rw [nI_toInt (by omega)] at c16
           have e28 : nI f + nI n - nI 1 = nI (f + n - 1) := by rw [nI_add]; exact pk_sub (by omega)
           rw [e28, inR_nI (by omega)] at c34
           omega))]
  rw [e9]
  exact ⟨U, rfl, rfl, hT⟩) dX7_share_38
end MM
