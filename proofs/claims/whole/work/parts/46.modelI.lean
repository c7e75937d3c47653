section MI
variable {l : Launch} {D : va_G} {ca : Nat → ClassId} {ad : Nat → Nat} {V U : Nat → Nat} {sc : Nat → Int32} {ia : Nat → Nat → Int32} {la : Nat → Nat → Int64}
theorem RM.t3 {U T : Nat → Nat} (h : RM U T) {p a b c : Nat} : RM (va_up (va_up (va_up U (16 + 3 * p) a) (16 + 3 * p + 1) b) (16 + 3 * p + 2) c) (tup3 T p a b c) := ((h.up).up).up
set_option maxHeartbeats 4000000 in
set_option maxRecDepth 100000 in
/-- join -/
theorem c7_join {T : Nat → Nat} (hT : RM U T) (hB : TB T) {x0 a0 b0 r0 : Int32} : xI l D (xty ca) yX7_join cX7_join 8 (some .int) 3 120 [.ref (ad 174), .int x0, .int a0, .int b0, .int r0] ad (cm ad ca (V, U, sc, ia, la)) (fun r M' => ∃ U', M' = cm ad ca (V, U', sc, ia, la) ∧ r = (sJoin T x0 a0 b0 r0).1 ∧ RM U' (sJoin T x0 a0 b0 r0).2) := by
  refine xM.of (by decide) (Nat.le_of_ble_eq_true rfl) (fun z C E => ?_)
  refine k_iload_n (pc := 0) C dX7_join_0 rfl 1 rfl ?_
  refine cs_X7_168 (pc := 1) C E (c7_isPool) rfl (by decide) rfl (Nat.le_of_ble_eq_true rfl) dX7_join_1 (fun r1 M1 h1 => ?_)
  obtain ⟨rfl, rfl⟩ := h1
  refine k_if_eq (pc := 4) (tgt := 29) C dX7_join_4 (by decide) (fun c4 => ?_) (fun c4 => ?_)
  · simp only [b01, Decidable.not_not] at c4
    refine k_iconst (pc := 29) (v := (-1)) C dX7_join_29 (by decide) ?_
    exact r_i (pc := 30) C E (⟨U, rfl, by unfold sJoin; rw [if_neg (fun h => by first | exact c4 h.1 | exact c11 h.2.1 | exact c18 h.2.2.1 | exact c26 h.2.2.2)], by unfold sJoin; rw [if_neg (fun h => by first | exact c4 h.1 | exact c11 h.2.1 | exact c18 h.2.2.1 | exact c26 h.2.2.2)]; exact hT⟩) dX7_join_30
  · simp only [b01, Decidable.not_not] at c4
    refine k_iload_n (pc := 7) C dX7_join_7 rfl 2 rfl ?_
    refine cs_X7_85 (pc := 8) C E (c7_isRegister) rfl (by decide) rfl (Nat.le_of_ble_eq_true rfl) dX7_join_8 (fun r8 M8 h8 => ?_)
    obtain ⟨rfl, rfl⟩ := h8
    refine k_if_eq (pc := 11) (tgt := 29) C dX7_join_11 (by decide) (fun c11 => ?_) (fun c11 => ?_)
    · simp only [b01, Decidable.not_not] at c11
      refine k_iconst (pc := 29) (v := (-1)) C dX7_join_29 (by decide) ?_
      exact r_i (pc := 30) C E (⟨U, rfl, by unfold sJoin; rw [if_neg (fun h => by first | exact c4 h.1 | exact c11 h.2.1 | exact c18 h.2.2.1 | exact c26 h.2.2.2)], by unfold sJoin; rw [if_neg (fun h => by first | exact c4 h.1 | exact c11 h.2.1 | exact c18 h.2.2.1 | exact c26 h.2.2.2)]; exact hT⟩) dX7_join_30
    · simp only [b01, Decidable.not_not] at c11
      refine k_iload_n (pc := 14) C dX7_join_14 rfl 3 rfl ?_
      refine cs_X7_85 (pc := 15) C E (c7_isRegister) rfl (by decide) rfl (Nat.le_of_ble_eq_true rfl) dX7_join_15 (fun r15 M15 h15 => ?_)
      obtain ⟨rfl, rfl⟩ := h15
      refine k_if_eq (pc := 18) (tgt := 29) C dX7_join_18 (by decide) (fun c18 => ?_) (fun c18 => ?_)
      · simp only [b01, Decidable.not_not] at c18
        refine k_iconst (pc := 29) (v := (-1)) C dX7_join_29 (by decide) ?_
        exact r_i (pc := 30) C E (⟨U, rfl, by unfold sJoin; rw [if_neg (fun h => by first | exact c4 h.1 | exact c11 h.2.1 | exact c18 h.2.2.1 | exact c26 h.2.2.2)], by unfold sJoin; rw [if_neg (fun h => by first | exact c4 h.1 | exact c11 h.2.1 | exact c18 h.2.2.1 | exact c26 h.2.2.2)]; exact hT⟩) dX7_join_30
      · simp only [b01, Decidable.not_not] at c18
        refine k_iload (pc := 21) C dX7_join_21 4 rfl ?_
        refine cs_X7_85 (pc := 23) C E (c7_isRegister) rfl (by decide) rfl (Nat.le_of_ble_eq_true rfl) dX7_join_23 (fun r23 M23 h23 => ?_)
        obtain ⟨rfl, rfl⟩ := h23
        refine k_if_ne (pc := 26) (tgt := 31) C dX7_join_26 (by decide) (fun c26 => ?_) (fun c26 => ?_)
        · simp only [b01, Decidable.not_not] at c26
          have c6 : okJ x0 a0 b0 r0 := ⟨c4, c11, c18, c26⟩
          obtain ⟨p, hp, rfl⟩ := inR_k c6.1
          obtain ⟨a, ha, rfl⟩ := inR_k c6.2.1
          obtain ⟨b, hb, rfl⟩ := inR_k c6.2.2.1
          obtain ⟨x, hx, rfl⟩ := inR_k c6.2.2.2
          have hTa := hT a (by omega)
          have hTb := hT b (by omega)
          have ba1 := hB.1 a ha
          have bb1 := hB.1 b hb
          have t0 := hT (16 + 3 * p) (by omega)
          have t1 := hT (16 + 3 * p + 1) (by omega)
          have t2 := hT (16 + 3 * p + 2) (by omega)
          have k0 := hB.2.1 (16 + 3 * p) (by omega) (by omega)
          have k1 := hB.2.1 (16 + 3 * p + 1) (by omega) (by omega)
          have k2 := hB.2.1 (16 + 3 * p + 2) (by omega) (by omega)
          have kz := hB.2.2 p hp
          refine k_aload_n (pc := 31) C dX7_join_31 rfl 0 rfl ?_
          refine k_iload_n (pc := 32) C dX7_join_32 rfl 2 rfl ?_
          refine cv_X7_175 (pc := 33) C E (c7_isSide (a := a) (by omega) (by rw [hTa]; omega)) rfl (by decide) cm_174 (by decide) rfl (Nat.le_of_ble_eq_true rfl) dX7_join_33 (fun r33 M33 h33 => ?_)
          obtain ⟨rfl, rfl⟩ := h33
          refine k_if_eq (pc := 36) (tgt := 47) C dX7_join_36 (by decide) (fun c36 => ?_) (fun c36 => ?_)
          · simp only [b01, Decidable.not_not, hTa] at c36
            refine k_bipush (pc := 47) (v := (-2)) C dX7_join_47 (by decide) ?_
            exact r_i (pc := 49) C E (by
  have j9 : jR (T (16 + 3 * p)) (T (16 + 3 * p + 1)) (T (16 + 3 * p + 2)) (T a) (T b) = -2 := by unfold jR; rw [if_neg (by omega)]
  have e9 : sJoin T (nI p) (nI a) (nI b) (nI x) = (-2, T) := by
    unfold sJoin
    rw [if_pos c6]
    simp only [rI_n (show p < 2147483648 by omega), rI_n (show a < 2147483648 by omega), rI_n (show b < 2147483648 by omega), rI_n (show x < 2147483648 by omega), j9]
    rw [if_neg (by decide)]
  rw [e9]
  exact ⟨U, rfl, rfl, hT⟩) dX7_join_49
          · simp only [b01, Decidable.not_not, hTa] at c36
            refine k_aload_n (pc := 39) C dX7_join_39 rfl 0 rfl ?_
            refine k_iload_n (pc := 40) C dX7_join_40 rfl 3 rfl ?_
            refine cv_X7_175 (pc := 41) C E (c7_isSide (a := b) (by omega) (by rw [hTb]; omega)) rfl (by decide) cm_174 (by decide) rfl (Nat.le_of_ble_eq_true rfl) dX7_join_41 (fun r41 M41 h41 => ?_)
            obtain ⟨rfl, rfl⟩ := h41
            refine k_if_ne (pc := 44) (tgt := 50) C dX7_join_44 (by decide) (fun c44 => ?_) (fun c44 => ?_)
            · simp only [b01, Decidable.not_not, hTb] at c44
              have tail : ∀ W : Nat → Nat, (∀ k, k < 28 → W k = U k) → W 31 = jN (T (16 + 3 * p)) (T (16 + 3 * p + 1)) (T (16 + 3 * p + 2)) (T a) (T b) → jN (T (16 + 3 * p)) (T (16 + 3 * p + 1)) (T (16 + 3 * p + 2)) (T a) (T b) < 2 ^ 200 → xK z (xw ad (cm ad ca (V, W, sc, ia, la)) 187) 0 0 166 [(7, .int (nI (16 + 3 * p + 2))), (6, .int (nI (16 + 3 * p + 1))), (5, .int (nI (16 + 3 * p))), (0, .ref (ad 174)), (1, .int (nI p)), (2, .int (nI a)), (3, .int (nI b)), (4, .int (nI x))] [] := by
                intro W g w1 w2
                obtain ⟨n, hn⟩ : ∃ n, Hid (n = jN (T (16 + 3 * p)) (T (16 + 3 * p + 1)) (T (16 + 3 * p + 2)) (T a) (T b)) := ⟨_, rfl⟩
                rw [← show n = _ from hn] at w1 w2
                refine k_aload_n (pc := 166) C dX7_join_166 rfl 3 rfl ?_
                refine k_bipush (pc := 167) (v := nI 28) C dX7_join_167 (by decide) ?_
                refine k_iload (pc := 169) C dX7_join_169 2 rfl ?_
                refine k_iload_n (pc := 171) C dX7_join_171 rfl 5 rfl ?_
                refine cv_X7_66 (pc := 172) C E (c7_plus (t := 28) (a := 16 + 3 * p) (b := a) (by decide) (by omega) (by omega)) rfl (by decide) cm_174 (by decide) rfl (Nat.le_of_ble_eq_true rfl) dX7_join_172 (fun M172 h172 => ?_)
                subst h172
                rw [g _ (by omega), g a (by omega), t0, hTa]
                obtain ⟨U1, hU1⟩ : ∃ W9, W9 = va_up W (28) (T (16 + 3 * p) + T a) := ⟨_, rfl⟩
                rw [← hU1]
                have v1 : U1 (28) = T (16 + 3 * p) + T a := by rw [hU1, ups]
                have f1 : ∀ k, 28 ≠ k → U1 k = W k := fun k hk => by rw [hU1, upn hk]
                refine k_aload_n (pc := 175) C dX7_join_175 rfl 3 rfl ?_
                refine k_bipush (pc := 176) (v := nI 29) C dX7_join_176 (by decide) ?_
                refine k_iload (pc := 178) C dX7_join_178 1 rfl ?_
                refine k_iload_n (pc := 180) C dX7_join_180 rfl 6 rfl ?_
                refine cv_X7_66 (pc := 181) C E (c7_plus (t := 29) (a := 16 + 3 * p + 1) (b := b) (by decide) (by omega) (by omega)) rfl (by decide) cm_174 (by decide) rfl (Nat.le_of_ble_eq_true rfl) dX7_join_181 (fun M181 h181 => ?_)
                subst h181
                rw [f1 _ (by omega), f1 b (by omega), g _ (by omega), g b (by omega), t1, hTb]
                obtain ⟨U2, hU2⟩ : ∃ W, W = va_up U1 (29) (T (16 + 3 * p + 1) + T b) := ⟨_, rfl⟩
                rw [← hU2]
                have v2 : U2 (29) = T (16 + 3 * p + 1) + T b := by rw [hU2, ups]
                have f2 : ∀ k, 29 ≠ k → U2 k = U1 k := fun k hk => by rw [hU2, upn hk]
                refine k_aload_n (pc := 184) C dX7_join_184 rfl 3 rfl ?_
                refine k_bipush (pc := 185) (v := nI 30) C dX7_join_185 (by decide) ?_
                refine k_iload (pc := 187) C dX7_join_187 0 rfl ?_
                refine k_bipush (pc := 189) (v := nI 31) C dX7_join_189 (by decide) ?_
                refine cv_X7_66 (pc := 191) C E (c7_plus (t := 30) (a := 16 + 3 * p + 2) (b := 31) (by decide) (by omega) (by decide)) rfl (by decide) cm_174 (by decide) rfl (Nat.le_of_ble_eq_true rfl) dX7_join_191 (fun M191 h191 => ?_)
                subst h191
                rw [f2 _ (by omega), f1 _ (by omega), g _ (by omega), t2, f2 31 (by decide), f1 31 (by decide), w1]
                obtain ⟨U3, hU3⟩ : ∃ W, W = va_up U2 (30) (T (16 + 3 * p + 2) + n) := ⟨_, rfl⟩
                rw [← hU3]
                have v3 : U3 (30) = T (16 + 3 * p + 2) + n := by rw [hU3, ups]
                have f3 : ∀ k, 30 ≠ k → U3 k = U2 k := fun k hk => by rw [hU3, upn hk]
                have g3 : ∀ k, k < 28 → U3 k = U k := fun k hk => by rw [f3 k (by omega), f2 k (by omega), f1 k (by omega), g k hk]
                have y28 : U3 28 = T (16 + 3 * p) + T a := by rw [f3 28 (by decide), f2 28 (by decide), v1]
                have y29 : U3 29 = T (16 + 3 * p + 1) + T b := by rw [f3 29 (by decide), v2]
                have y31 : U3 31 = n := by rw [f3 31 (by decide), f2 31 (by decide), f1 31 (by decide), w1]
                refine k_aload_n (pc := 194) C dX7_join_194 rfl 3 rfl ?_
                refine k_bipush (pc := 195) (v := nI 28) C dX7_join_195 (by decide) ?_
                refine cv_X7_175 (pc := 197) C E (c7_isSide (a := 28) (by decide) (by rw [y28]; omega)) rfl (by decide) cm_174 (by decide) rfl (Nat.le_of_ble_eq_true rfl) dX7_join_197 (fun r197 M197 h197 => ?_)
                obtain ⟨rfl, rfl⟩ := h197
                refine k_if_eq (pc := 200) (tgt := 221) C dX7_join_200 (by decide) (fun c200 => ?_) (fun c200 => ?_)
                · simp only [b01, Decidable.not_not, y28] at c200
                  refine k_bipush (pc := 221) (v := (-2)) C dX7_join_221 (by decide) ?_
                  exact r_i (pc := 223) C E (by
                have j9 : jR (T (16 + 3 * p)) (T (16 + 3 * p + 1)) (T (16 + 3 * p + 2)) (T a) (T b) = -2 := by unfold jR; rw [← show n = _ from hn]; first | (rw [if_neg (fun h => c200 h.1)]; done) | (rw [if_neg (fun h => c209 h.2)]; done) | (rw [if_pos ⟨c200, c209⟩, if_neg c218])
                have e9 : sJoin T (nI p) (nI a) (nI b) (nI x) = (-2, T) := by
                  unfold sJoin
                  rw [if_pos c6]
                  simp only [rI_n (show p < 2147483648 by omega), rI_n (show a < 2147483648 by omega), rI_n (show b < 2147483648 by omega), rI_n (show x < 2147483648 by omega), j9]
                  rw [if_neg (by decide)]
                rw [e9]
                exact ⟨U3, rfl, rfl, hT.o g3⟩) dX7_join_223
                · simp only [b01, Decidable.not_not, y28] at c200
                  refine k_aload_n (pc := 203) C dX7_join_203 rfl 3 rfl ?_
                  refine k_bipush (pc := 204) (v := nI 29) C dX7_join_204 (by decide) ?_
                  refine cv_X7_175 (pc := 206) C E (c7_isSide (a := 29) (by decide) (by rw [y29]; omega)) rfl (by decide) cm_174 (by decide) rfl (Nat.le_of_ble_eq_true rfl) dX7_join_206 (fun r206 M206 h206 => ?_)
                  obtain ⟨rfl, rfl⟩ := h206
                  refine k_if_eq (pc := 209) (tgt := 221) C dX7_join_209 (by decide) (fun c209 => ?_) (fun c209 => ?_)
                  · simp only [b01, Decidable.not_not, y29] at c209
                    refine k_bipush (pc := 221) (v := (-2)) C dX7_join_221 (by decide) ?_
                    exact r_i (pc := 223) C E (by
                have j9 : jR (T (16 + 3 * p)) (T (16 + 3 * p + 1)) (T (16 + 3 * p + 2)) (T a) (T b) = -2 := by unfold jR; rw [← show n = _ from hn]; first | (rw [if_neg (fun h => c200 h.1)]; done) | (rw [if_neg (fun h => c209 h.2)]; done) | (rw [if_pos ⟨c200, c209⟩, if_neg c218])
                have e9 : sJoin T (nI p) (nI a) (nI b) (nI x) = (-2, T) := by
                  unfold sJoin
                  rw [if_pos c6]
                  simp only [rI_n (show p < 2147483648 by omega), rI_n (show a < 2147483648 by omega), rI_n (show b < 2147483648 by omega), rI_n (show x < 2147483648 by omega), j9]
                  rw [if_neg (by decide)]
                rw [e9]
                exact ⟨U3, rfl, rfl, hT.o g3⟩) dX7_join_223
                  · simp only [b01, Decidable.not_not, y29] at c209
                    refine k_aload_n (pc := 212) C dX7_join_212 rfl 3 rfl ?_
                    refine k_bipush (pc := 213) (v := nI 30) C dX7_join_213 (by decide) ?_
                    refine cv_X7_175 (pc := 215) C E (c7_isSide (a := 30) (by decide) (by rw [v3]; omega)) rfl (by decide) cm_174 (by decide) rfl (Nat.le_of_ble_eq_true rfl) dX7_join_215 (fun r215 M215 h215 => ?_)
                    obtain ⟨rfl, rfl⟩ := h215
                    refine k_if_ne (pc := 218) (tgt := 224) C dX7_join_218 (by decide) (fun c218 => ?_) (fun c218 => ?_)
                    · simp only [b01, Decidable.not_not, v3] at c218
                      refine k_aload_n (pc := 224) C dX7_join_224 rfl 3 rfl ?_
                      refine k_bipush (pc := 225) (v := nI 31) C dX7_join_225 (by decide) ?_
                      refine cv_X7_99 (pc := 227) C E (c7_isZero (a := 31) (by decide) (by rw [y31]; omega)) rfl (by decide) cm_174 (by decide) rfl (Nat.le_of_ble_eq_true rfl) dX7_join_227 (fun r227 M227 h227 => ?_)
                      obtain ⟨rfl, rfl⟩ := h227
                      refine k_if_eq (pc := 230) (tgt := 236) C dX7_join_230 (by decide) (fun c230 => ?_) (fun c230 => ?_)
                      · simp only [b01, Decidable.not_not, y31] at c230
                        refine k_aload_n (pc := 236) C dX7_join_236 rfl 3 rfl ?_
                        refine k_iload (pc := 237) C dX7_join_237 2 rfl ?_
                        refine k_bipush (pc := 239) (v := nI 28) C dX7_join_239 (by decide) ?_
                        refine cv_X7_72 (pc := 241) C E (c7_copy (t := 16 + 3 * p) (a := 28) (by omega) (by decide)) rfl (by decide) cm_174 (by decide) rfl (Nat.le_of_ble_eq_true rfl) dX7_join_241 (fun M241 h241 => ?_)
                        subst h241
                        rw [y28]
                        obtain ⟨U4, hU4⟩ : ∃ W, W = va_up U3 (16 + 3 * p) (T (16 + 3 * p) + T a) := ⟨_, rfl⟩
                        rw [← hU4]
                        have v4 : U4 (16 + 3 * p) = T (16 + 3 * p) + T a := by rw [hU4, ups]
                        have f4 : ∀ k, 16 + 3 * p ≠ k → U4 k = U3 k := fun k hk => by rw [hU4, upn hk]
                        refine k_aload_n (pc := 244) C dX7_join_244 rfl 3 rfl ?_
                        refine k_iload (pc := 245) C dX7_join_245 1 rfl ?_
                        refine k_bipush (pc := 247) (v := nI 29) C dX7_join_247 (by decide) ?_
                        refine cv_X7_72 (pc := 249) C E (c7_copy (t := 16 + 3 * p + 1) (a := 29) (by omega) (by decide)) rfl (by decide) cm_174 (by decide) rfl (Nat.le_of_ble_eq_true rfl) dX7_join_249 (fun M249 h249 => ?_)
                        subst h249
                        rw [f4 29 (by omega), y29]
                        obtain ⟨U5, hU5⟩ : ∃ W, W = va_up U4 (16 + 3 * p + 1) (T (16 + 3 * p + 1) + T b) := ⟨_, rfl⟩
                        rw [← hU5]
                        have v5 : U5 (16 + 3 * p + 1) = T (16 + 3 * p + 1) + T b := by rw [hU5, ups]
                        have f5 : ∀ k, 16 + 3 * p + 1 ≠ k → U5 k = U4 k := fun k hk => by rw [hU5, upn hk]
                        refine k_aload_n (pc := 252) C dX7_join_252 rfl 3 rfl ?_
                        refine k_iload (pc := 253) C dX7_join_253 0 rfl ?_
                        refine k_bipush (pc := 255) (v := nI 30) C dX7_join_255 (by decide) ?_
                        refine cv_X7_72 (pc := 257) C E (c7_copy (t := 16 + 3 * p + 2) (a := 30) (by omega) (by decide)) rfl (by decide) cm_174 (by decide) rfl (Nat.le_of_ble_eq_true rfl) dX7_join_257 (fun M257 h257 => ?_)
                        subst h257
                        rw [f5 30 (by omega), f4 30 (by omega), v3]
                        obtain ⟨U6, hU6⟩ : ∃ W, W = va_up U5 (16 + 3 * p + 2) (T (16 + 3 * p + 2) + n) := ⟨_, rfl⟩
                        rw [← hU6]
                        have v6 : U6 (16 + 3 * p + 2) = T (16 + 3 * p + 2) + n := by rw [hU6, ups]
                        have f6 : ∀ k, 16 + 3 * p + 2 ≠ k → U6 k = U5 k := fun k hk => by rw [hU6, upn hk]
                        refine k_aload_n (pc := 260) C dX7_join_260 rfl 3 rfl ?_
                        refine k_iload (pc := 261) C dX7_join_261 7 rfl ?_
                        refine k_bipush (pc := 263) (v := nI 31) C dX7_join_263 (by decide) ?_
                        refine cv_X7_72 (pc := 265) C E (c7_copy (t := x) (a := 31) (by omega) (by decide)) rfl (by decide) cm_174 (by decide) rfl (Nat.le_of_ble_eq_true rfl) dX7_join_265 (fun M265 h265 => ?_)
                        subst h265
                        rw [f6 31 (by omega), f5 31 (by omega), f4 31 (by omega), y31]
                        refine k_iconst (pc := 268) (v := nI 1) C dX7_join_268 (by decide) ?_
                        exact r_i (pc := 269) C E (by
                have j9 : jR (T (16 + 3 * p)) (T (16 + 3 * p + 1)) (T (16 + 3 * p + 2)) (T a) (T b) = 1 := by unfold jR; rw [← show n = _ from hn]; rw [if_pos ⟨c200, c209⟩, if_pos c218, if_neg c230]
                have e9 : sJoin T (nI p) (nI a) (nI b) (nI x) = (1, va_up (tup3 T p (T (16 + 3 * p) + T a) (T (16 + 3 * p + 1) + T b) (T (16 + 3 * p + 2) + n)) x n) := by
                  unfold sJoin
                  rw [if_pos c6]
                  simp only [rI_n (show p < 2147483648 by omega), rI_n (show a < 2147483648 by omega), rI_n (show b < 2147483648 by omega), rI_n (show x < 2147483648 by omega)]
                  rw [if_pos j9, ← show n = _ from hn]
                rw [e9, hU6, hU5, hU4]
                exact ⟨_, rfl, rfl, ((hT.o g3).t3).up⟩) dX7_join_269
                      · simp only [b01, Decidable.not_not, y31] at c230
                        refine k_bipush (pc := 233) (v := (-4)) C dX7_join_233 (by decide) ?_
                        exact r_i (pc := 235) C E (by
                have j9 : jR (T (16 + 3 * p)) (T (16 + 3 * p + 1)) (T (16 + 3 * p + 2)) (T a) (T b) = -4 := by unfold jR; rw [← show n = _ from hn]; rw [if_pos ⟨c200, c209⟩, if_pos c218, if_pos c230]
                have e9 : sJoin T (nI p) (nI a) (nI b) (nI x) = (-4, T) := by
                  unfold sJoin
                  rw [if_pos c6]
                  simp only [rI_n (show p < 2147483648 by omega), rI_n (show a < 2147483648 by omega), rI_n (show b < 2147483648 by omega), rI_n (show x < 2147483648 by omega), j9]
                  rw [if_neg (by decide)]
                rw [e9]
                exact ⟨U3, rfl, rfl, hT.o g3⟩) dX7_join_235
                    · simp only [b01, Decidable.not_not, v3] at c218
                      refine k_bipush (pc := 221) (v := (-2)) C dX7_join_221 (by decide) ?_
                      exact r_i (pc := 223) C E (by
                have j9 : jR (T (16 + 3 * p)) (T (16 + 3 * p + 1)) (T (16 + 3 * p + 2)) (T a) (T b) = -2 := by unfold jR; rw [← show n = _ from hn]; first | (rw [if_neg (fun h => c200 h.1)]; done) | (rw [if_neg (fun h => c209 h.2)]; done) | (rw [if_pos ⟨c200, c209⟩, if_neg c218])
                have e9 : sJoin T (nI p) (nI a) (nI b) (nI x) = (-2, T) := by
                  unfold sJoin
                  rw [if_pos c6]
                  simp only [rI_n (show p < 2147483648 by omega), rI_n (show a < 2147483648 by omega), rI_n (show b < 2147483648 by omega), rI_n (show x < 2147483648 by omega), j9]
                  rw [if_neg (by decide)]
                rw [e9]
                exact ⟨U3, rfl, rfl, hT.o g3⟩) dX7_join_223
              refine k_iload_n (pc := 50) C dX7_join_50 rfl 1 rfl ?_
              refine k_iconst (pc := 51) (v := nI 0) C dX7_join_51 (by decide) ?_
              refine cs_X7_172 (pc := 52) C E (c7_side hp (s := 0) (by omega)) rfl (by decide) rfl (Nat.le_of_ble_eq_true rfl) dX7_join_52 (fun r52 M52 h52 => ?_)
              obtain ⟨rfl, rfl⟩ := h52
              refine k_istore (pc := 55) (lv' := [(5, .int (nI (16 + 3 * p))), (0, .ref (ad (174))), (1, .int (nI p)), (2, .int (nI a)), (3, .int (nI b)), (4, .int (nI x))]) C dX7_join_55 (by decide) rfl ?_
              refine k_iload_n (pc := 57) C dX7_join_57 rfl 2 rfl ?_
              refine k_iconst (pc := 58) (v := nI 1) C dX7_join_58 (by decide) ?_
              refine cs_X7_172 (pc := 59) C E (c7_side hp (s := 1) (by omega)) rfl (by decide) rfl (Nat.le_of_ble_eq_true rfl) dX7_join_59 (fun r59 M59 h59 => ?_)
              obtain ⟨rfl, rfl⟩ := h59
              refine k_istore (pc := 62) (lv' := [(6, .int (nI (16 + 3 * p + 1))), (5, .int (nI (16 + 3 * p))), (0, .ref (ad (174))), (1, .int (nI p)), (2, .int (nI a)), (3, .int (nI b)), (4, .int (nI x))]) C dX7_join_62 (by decide) rfl ?_
              refine k_iload_n (pc := 64) C dX7_join_64 rfl 3 rfl ?_
              refine k_iconst (pc := 65) (v := nI 2) C dX7_join_65 (by decide) ?_
              refine cs_X7_172 (pc := 66) C E (c7_side hp (s := 2) (by omega)) rfl (by decide) rfl (Nat.le_of_ble_eq_true rfl) dX7_join_66 (fun r66 M66 h66 => ?_)
              obtain ⟨rfl, rfl⟩ := h66
              refine k_istore (pc := 69) (lv' := [(7, .int (nI (16 + 3 * p + 2))), (6, .int (nI (16 + 3 * p + 1))), (5, .int (nI (16 + 3 * p))), (0, .ref (ad (174))), (1, .int (nI p)), (2, .int (nI a)), (3, .int (nI b)), (4, .int (nI x))]) C dX7_join_69 (by decide) rfl ?_
              refine k_aload_n (pc := 71) C dX7_join_71 rfl 3 rfl ?_
              refine k_iload (pc := 72) C dX7_join_72 0 rfl ?_
              refine cv_X7_99 (pc := 74) C E (c7_isZero (a := 16 + 3 * p + 2) (by omega) (by rw [t2]; omega)) rfl (by decide) cm_174 (by decide) rfl (Nat.le_of_ble_eq_true rfl) dX7_join_74 (fun r74 M74 h74 => ?_)
              obtain ⟨rfl, rfl⟩ := h74
              refine k_if_eq (pc := 77) (tgt := 105) C dX7_join_77 (by decide) (fun c77 => ?_) (fun c77 => ?_)
              · simp only [b01, Decidable.not_not, t2] at c77
                refine k_aload_n (pc := 105) C dX7_join_105 rfl 3 rfl ?_
                refine k_bipush (pc := 106) (v := nI 30) C dX7_join_106 (by decide) ?_
                refine k_iload_n (pc := 108) C dX7_join_108 rfl 5 rfl ?_
                refine k_iload (pc := 109) C dX7_join_109 0 rfl ?_
                refine cv_X7_108 (pc := 111) C E (c7_product (t := 30) (a := a) (b := 16 + 3 * p + 2) (by decide) (by omega) (by omega) (by omega) (by omega) (by rw [hTa]; omega)) rfl (by decide) cm_174 (by decide) rfl (Nat.le_of_ble_eq_true rfl) dX7_join_111 (fun M111 h111 => ?_)
                subst h111
                rw [hTa, t2]
                obtain ⟨U1, hU1⟩ : ∃ W, W = va_up (va_up U 34 (T a * T (16 + 3 * p + 2))) (30) (T a * T (16 + 3 * p + 2)) := ⟨_, rfl⟩
                rw [← hU1]
                have v1 : U1 (30) = T a * T (16 + 3 * p + 2) := by rw [hU1, ups]
                have f1 : ∀ k, 34 ≠ k → 30 ≠ k → U1 k = U k := fun k h1 h2 => by rw [hU1, upn h2, upn h1]
                obtain ⟨z0, z1⟩ := kz (by omega)
                rw [Nat.add_zero] at z0
                have m1 : T a * T (16 + 3 * p + 2) < 2 ^ 200 := by
                  have h := Nat.mul_lt_mul_of_lt_of_le c36 (Nat.le_of_lt k2) (by decide)
                  omega
                have m2 : T b * T (16 + 3 * p + 2) < 2 ^ 200 := by
                  have h := Nat.mul_lt_mul_of_lt_of_le c44 (Nat.le_of_lt k2) (by decide)
                  omega
                have d1 := Nat.div_le_self (T a * T (16 + 3 * p + 2)) (T (16 + 3 * p))
                have d2 := Nat.div_le_self (T b * T (16 + 3 * p + 2)) (T (16 + 3 * p + 1))
                refine k_aload_n (pc := 114) C dX7_join_114 rfl 3 rfl ?_
                refine k_bipush (pc := 115) (v := nI 30) C dX7_join_115 (by decide) ?_
                refine k_iload (pc := 117) C dX7_join_117 2 rfl ?_
                refine cv_X7_111 (pc := 119) C E (c7_divides (a := 30) (b := 16 + 3 * p) (by decide) (by omega) (by decide) (by decide) (by omega) (by omega) (by rw [f1 _ (by omega) (by omega), t0]; exact z0) (by rw [f1 _ (by omega) (by omega), t0]; omega) (by rw [v1]; omega)) rfl (by decide) cm_174 (by decide) rfl (Nat.le_of_ble_eq_true rfl) dX7_join_119 (fun M119 h119 => ?_)
                subst h119
                rw [v1, f1 (16 + 3 * p) (by omega) (by omega), t0]
                obtain ⟨U2, hU2⟩ : ∃ W, W = dv2 U1 (T a * T (16 + 3 * p + 2) / T (16 + 3 * p)) (T a * T (16 + 3 * p + 2) % T (16 + 3 * p)) := ⟨_, rfl⟩
                rw [← hU2]
                have q2 : U2 32 = T a * T (16 + 3 * p + 2) / T (16 + 3 * p) := by rw [hU2, dv_2]
                have r2 : U2 33 = T a * T (16 + 3 * p + 2) % T (16 + 3 * p) := by rw [hU2, dv_3]
                have f2 : ∀ k, 32 ≠ k → 33 ≠ k → U2 k = U1 k := fun k h1 h2 => by rw [hU2, dv_o h1 h2]
                refine k_aload_n (pc := 122) C dX7_join_122 rfl 3 rfl ?_
                refine k_bipush (pc := 123) (v := nI 31) C dX7_join_123 (by decide) ?_
                refine k_bipush (pc := 125) (v := nI 32) C dX7_join_125 (by decide) ?_
                refine cv_X7_72 (pc := 127) C E (c7_copy (t := 31) (a := 32) (by decide) (by decide)) rfl (by decide) cm_174 (by decide) rfl (Nat.le_of_ble_eq_true rfl) dX7_join_127 (fun M127 h127 => ?_)
                subst h127
                rw [q2]
                obtain ⟨U3, hU3⟩ : ∃ W, W = va_up U2 (31) (T a * T (16 + 3 * p + 2) / T (16 + 3 * p)) := ⟨_, rfl⟩
                rw [← hU3]
                have v3 : U3 (31) = T a * T (16 + 3 * p + 2) / T (16 + 3 * p) := by rw [hU3, ups]
                have f3 : ∀ k, 31 ≠ k → U3 k = U2 k := fun k hk => by rw [hU3, upn hk]
                have g3 : ∀ k, k < 28 → U3 k = U k := fun k hk => by rw [f3 k (by omega), f2 k (by omega) (by omega), f1 k (by omega) (by omega)]
                refine k_aload_n (pc := 130) C dX7_join_130 rfl 3 rfl ?_
                refine k_bipush (pc := 131) (v := nI 30) C dX7_join_131 (by decide) ?_
                refine k_iload_n (pc := 133) C dX7_join_133 rfl 6 rfl ?_
                refine k_iload (pc := 134) C dX7_join_134 0 rfl ?_
                refine cv_X7_108 (pc := 136) C E (c7_product (t := 30) (a := b) (b := 16 + 3 * p + 2) (by decide) (by omega) (by omega) (by omega) (by omega) (by rw [g3 b (by omega), hTb]; omega)) rfl (by decide) cm_174 (by decide) rfl (Nat.le_of_ble_eq_true rfl) dX7_join_136 (fun M136 h136 => ?_)
                subst h136
                rw [g3 b (by omega), hTb, g3 _ (by omega), t2]
                obtain ⟨U4, hU4⟩ : ∃ W, W = va_up (va_up U3 34 (T b * T (16 + 3 * p + 2))) (30) (T b * T (16 + 3 * p + 2)) := ⟨_, rfl⟩
                rw [← hU4]
                have v4 : U4 (30) = T b * T (16 + 3 * p + 2) := by rw [hU4, ups]
                have f4 : ∀ k, 34 ≠ k → 30 ≠ k → U4 k = U3 k := fun k h1 h2 => by rw [hU4, upn h2, upn h1]
                refine k_aload_n (pc := 139) C dX7_join_139 rfl 3 rfl ?_
                refine k_bipush (pc := 140) (v := nI 30) C dX7_join_140 (by decide) ?_
                refine k_iload (pc := 142) C dX7_join_142 1 rfl ?_
                refine cv_X7_111 (pc := 144) C E (c7_divides (a := 30) (b := 16 + 3 * p + 1) (by decide) (by omega) (by decide) (by decide) (by omega) (by omega) (by rw [f4 _ (by omega) (by omega), g3 _ (by omega), t1]; exact z1) (by rw [f4 _ (by omega) (by omega), g3 _ (by omega), t1]; omega) (by rw [v4]; omega)) rfl (by decide) cm_174 (by decide) rfl (Nat.le_of_ble_eq_true rfl) dX7_join_144 (fun M144 h144 => ?_)
                subst h144
                rw [v4, f4 (16 + 3 * p + 1) (by omega) (by omega), g3 _ (by omega), t1]
                obtain ⟨U5, hU5⟩ : ∃ W, W = dv2 U4 (T b * T (16 + 3 * p + 2) / T (16 + 3 * p + 1)) (T b * T (16 + 3 * p + 2) % T (16 + 3 * p + 1)) := ⟨_, rfl⟩
                rw [← hU5]
                have q5 : U5 32 = T b * T (16 + 3 * p + 2) / T (16 + 3 * p + 1) := by rw [hU5, dv_2]
                have r5 : U5 33 = T b * T (16 + 3 * p + 2) % T (16 + 3 * p + 1) := by rw [hU5, dv_3]
                have f5 : ∀ k, 32 ≠ k → 33 ≠ k → U5 k = U4 k := fun k h1 h2 => by rw [hU5, dv_o h1 h2]
                have z31 : U5 31 = T a * T (16 + 3 * p + 2) / T (16 + 3 * p) := by rw [f5 31 (by decide) (by decide), f4 31 (by decide) (by decide), v3]
                obtain ⟨n1, hn1⟩ : ∃ n, Hid (n = T a * T (16 + 3 * p + 2) / T (16 + 3 * p)) := ⟨_, rfl⟩
                obtain ⟨n2, hn2⟩ : ∃ n, Hid (n = T b * T (16 + 3 * p + 2) / T (16 + 3 * p + 1)) := ⟨_, rfl⟩
                rw [← show n1 = _ from hn1] at z31 d1
                rw [← show n2 = _ from hn2] at q5 d2
                have g5 : ∀ k, k < 28 → U5 k = U k := fun k hk => by rw [f5 k (by omega) (by omega), f4 k (by omega) (by omega), g3 k hk]
                refine k_aload_n (pc := 147) C dX7_join_147 rfl 3 rfl ?_
                refine k_bipush (pc := 148) (v := nI 32) C dX7_join_148 (by decide) ?_
                refine k_bipush (pc := 150) (v := nI 31) C dX7_join_150 (by decide) ?_
                refine cv_X7_76 (pc := 152) C E (c7_compare (a := 32) (b := 31) (by decide) (by decide) (by rw [q5]; omega) (by rw [z31]; omega)) rfl (by decide) cm_174 (by decide) rfl (Nat.le_of_ble_eq_true rfl) dX7_join_152 (fun r152 M152 h152 => ?_)
                obtain ⟨rfl, rfl⟩ := h152
                refine k_if_ge (pc := 155) (tgt := 166) C dX7_join_155 (by decide) (fun c155 => ?_) (fun c155 => ?_)
                · rw [cmp_ge0, q5, z31] at c155
                  refine k_sub [0, 1, 2, 3, 4, 5, 6, 7] rfl ?_
                  first
                    | exact tail U3 (fun k hk => by rw [f3 k (by omega), f2 k (by omega) (by omega) (by omega), f1 k (by omega) (by omega)]) (by rw [v3]; unfold jN; rw [if_pos c77]) (by unfold jN; rw [if_pos c77]; have := isq_lt hN; omega)
                    | exact tail U5 g5 (by rw [z31]; unfold jN; rw [if_neg c77, ← show n1 = _ from hn1, ← show n2 = _ from hn2, Nat.min_eq_left c155]) (by unfold jN; rw [if_neg c77, ← show n1 = _ from hn1, ← show n2 = _ from hn2, Nat.min_eq_left c155]; omega)
                    | exact tail U6 (fun k hk => by rw [f6 k (by omega), g5 k hk]) (by rw [v6]; unfold jN; rw [if_neg c77, ← show n1 = _ from hn1, ← show n2 = _ from hn2, Nat.min_eq_right (by omega)]) (by unfold jN; rw [if_neg c77, ← show n1 = _ from hn1, ← show n2 = _ from hn2, Nat.min_eq_right (by omega)]; omega)
                · rw [cmp_ge0, q5, z31] at c155
                  refine k_aload_n (pc := 158) C dX7_join_158 rfl 3 rfl ?_
                  refine k_bipush (pc := 159) (v := nI 31) C dX7_join_159 (by decide) ?_
                  refine k_bipush (pc := 161) (v := nI 32) C dX7_join_161 (by decide) ?_
                  refine cv_X7_72 (pc := 163) C E (c7_copy (t := 31) (a := 32) (by decide) (by decide)) rfl (by decide) cm_174 (by decide) rfl (Nat.le_of_ble_eq_true rfl) dX7_join_163 (fun M163 h163 => ?_)
                  subst h163
                  rw [q5]
                  obtain ⟨U6, hU6⟩ : ∃ W, W = va_up U5 (31) (n2) := ⟨_, rfl⟩
                  rw [← hU6]
                  have v6 : U6 (31) = n2 := by rw [hU6, ups]
                  have f6 : ∀ k, 31 ≠ k → U6 k = U5 k := fun k hk => by rw [hU6, upn hk]
                  refine k_sub [0, 1, 2, 3, 4, 5, 6, 7] rfl ?_
                  first
                    | exact tail U3 (fun k hk => by rw [f3 k (by omega), f2 k (by omega) (by omega) (by omega), f1 k (by omega) (by omega)]) (by rw [v3]; unfold jN; rw [if_pos c77]) (by unfold jN; rw [if_pos c77]; have := isq_lt hN; omega)
                    | exact tail U5 g5 (by rw [z31]; unfold jN; rw [if_neg c77, ← show n1 = _ from hn1, ← show n2 = _ from hn2, Nat.min_eq_left c155]) (by unfold jN; rw [if_neg c77, ← show n1 = _ from hn1, ← show n2 = _ from hn2, Nat.min_eq_left c155]; omega)
                    | exact tail U6 (fun k hk => by rw [f6 k (by omega), g5 k hk]) (by rw [v6]; unfold jN; rw [if_neg c77, ← show n1 = _ from hn1, ← show n2 = _ from hn2, Nat.min_eq_right (by omega)]) (by unfold jN; rw [if_neg c77, ← show n1 = _ from hn1, ← show n2 = _ from hn2, Nat.min_eq_right (by omega)]; omega)
              · simp only [b01, Decidable.not_not, t2] at c77
                refine k_aload_n (pc := 80) C dX7_join_80 rfl 3 rfl ?_
                refine k_bipush (pc := 81) (v := nI 30) C dX7_join_81 (by decide) ?_
                refine k_iload_n (pc := 83) C dX7_join_83 rfl 5 rfl ?_
                refine k_iload_n (pc := 84) C dX7_join_84 rfl 6 rfl ?_
                refine cv_X7_108 (pc := 85) C E (c7_product (t := 30) (a := a) (b := b) (by decide) (by omega) (by omega) (by omega) (by omega) (by rw [hTa]; omega)) rfl (by decide) cm_174 (by decide) rfl (Nat.le_of_ble_eq_true rfl) dX7_join_85 (fun M85 h85 => ?_)
                subst h85
                rw [hTa, hTb]
                obtain ⟨U1, hU1⟩ : ∃ W, W = va_up (va_up U 34 (T a * T b)) (30) (T a * T b) := ⟨_, rfl⟩
                rw [← hU1]
                have v1 : U1 (30) = T a * T b := by rw [hU1, ups]
                have f1 : ∀ k, 34 ≠ k → 30 ≠ k → U1 k = U k := fun k h1 h2 => by rw [hU1, upn h2, upn h1]
                have hN : T a * T b < 2 ^ 200 := by
                  have h := Nat.mul_lt_mul_of_lt_of_le c36 (Nat.le_of_lt c44) (by decide)
                  omega
                refine k_aload_n (pc := 88) C dX7_join_88 rfl 3 rfl ?_
                refine k_bipush (pc := 89) (v := nI 30) C dX7_join_89 (by decide) ?_
                refine cv_X7_178 (pc := 91) C E (c7_root (a := 30) (by decide) (by decide) (by decide) (by decide) (by rw [v1]; exact hN)) rfl (by decide) cm_174 (by decide) rfl (Nat.le_of_ble_eq_true rfl) dX7_join_91 (fun M91 h91 => ?_)
                obtain ⟨U2, rfl, q2, f2⟩ := h91
                rw [v1] at q2
                refine k_aload_n (pc := 94) C dX7_join_94 rfl 3 rfl ?_
                refine k_bipush (pc := 95) (v := nI 31) C dX7_join_95 (by decide) ?_
                refine k_bipush (pc := 97) (v := nI 32) C dX7_join_97 (by decide) ?_
                refine cv_X7_72 (pc := 99) C E (c7_copy (t := 31) (a := 32) (by decide) (by decide)) rfl (by decide) cm_174 (by decide) rfl (Nat.le_of_ble_eq_true rfl) dX7_join_99 (fun M99 h99 => ?_)
                subst h99
                rw [q2]
                obtain ⟨U3, hU3⟩ : ∃ W, W = va_up U2 (31) (isq (T a * T b)) := ⟨_, rfl⟩
                rw [← hU3]
                have v3 : U3 (31) = isq (T a * T b) := by rw [hU3, ups]
                have f3 : ∀ k, 31 ≠ k → U3 k = U2 k := fun k hk => by rw [hU3, upn hk]
                refine k_goto (pc := 102) (tgt := 166) C dX7_join_102 (by decide) ?_
                refine k_sub [0, 1, 2, 3, 4, 5, 6, 7] rfl ?_
                first
                  | exact tail U3 (fun k hk => by rw [f3 k (by omega), f2 k (by omega) (by omega) (by omega), f1 k (by omega) (by omega)]) (by rw [v3]; unfold jN; rw [if_pos c77]) (by unfold jN; rw [if_pos c77]; have := isq_lt hN; omega)
                  | exact tail U5 g5 (by rw [z31]; unfold jN; rw [if_neg c77, ← show n1 = _ from hn1, ← show n2 = _ from hn2, Nat.min_eq_left c155]) (by unfold jN; rw [if_neg c77, ← show n1 = _ from hn1, ← show n2 = _ from hn2, Nat.min_eq_left c155]; omega)
                  | exact tail U6 (fun k hk => by rw [f6 k (by omega), g5 k hk]) (by rw [v6]; unfold jN; rw [if_neg c77, ← show n1 = _ from hn1, ← show n2 = _ from hn2, Nat.min_eq_right (by omega)]) (by unfold jN; rw [if_neg c77, ← show n1 = _ from hn1, ← show n2 = _ from hn2, Nat.min_eq_right (by omega)]; omega)
            · simp only [b01, Decidable.not_not, hTb] at c44
              refine k_bipush (pc := 47) (v := (-2)) C dX7_join_47 (by decide) ?_
              exact r_i (pc := 49) C E (by
  have j9 : jR (T (16 + 3 * p)) (T (16 + 3 * p + 1)) (T (16 + 3 * p + 2)) (T a) (T b) = -2 := by unfold jR; rw [if_neg (by omega)]
  have e9 : sJoin T (nI p) (nI a) (nI b) (nI x) = (-2, T) := by
    unfold sJoin
    rw [if_pos c6]
    simp only [rI_n (show p < 2147483648 by omega), rI_n (show a < 2147483648 by omega), rI_n (show b < 2147483648 by omega), rI_n (show x < 2147483648 by omega), j9]
    rw [if_neg (by decide)]
  rw [e9]
  exact ⟨U, rfl, rfl, hT⟩) dX7_join_49
        · simp only [b01, Decidable.not_not] at c26
          refine k_iconst (pc := 29) (v := (-1)) C dX7_join_29 (by decide) ?_
          exact r_i (pc := 30) C E (⟨U, rfl, by unfold sJoin; rw [if_neg (fun h => by first | exact c4 h.1 | exact c11 h.2.1 | exact c18 h.2.2.1 | exact c26 h.2.2.2)], by unfold sJoin; rw [if_neg (fun h => by first | exact c4 h.1 | exact c11 h.2.1 | exact c18 h.2.2.1 | exact c26 h.2.2.2)]; exact hT⟩) dX7_join_30
set_option maxHeartbeats 4000000 in
set_option maxRecDepth 100000 in
/-- leave -/
theorem c7_leave {T : Nat → Nat} (hT : RM U T) (hB : TB T) {x0 a0 b0 r0 : Int32} : xI l D (xty ca) yX7_leave cX7_leave 6 (some .int) 3 120 [.ref (ad 174), .int x0, .int a0, .int b0, .int r0] ad (cm ad ca (V, U, sc, ia, la)) (fun r M' => ∃ U', M' = cm ad ca (V, U', sc, ia, la) ∧ r = (sLeave T x0 a0 b0 r0).1 ∧ RM U' (sLeave T x0 a0 b0 r0).2) := by
  refine xM.of (by decide) (Nat.le_of_ble_eq_true rfl) (fun z C E => ?_)
  refine k_iload_n (pc := 0) C dX7_leave_0 rfl 1 rfl ?_
  refine cs_X7_168 (pc := 1) C E (c7_isPool) rfl (by decide) rfl (Nat.le_of_ble_eq_true rfl) dX7_leave_1 (fun r1 M1 h1 => ?_)
  obtain ⟨rfl, rfl⟩ := h1
  refine k_if_eq (pc := 4) (tgt := 29) C dX7_leave_4 (by decide) (fun c4 => ?_) (fun c4 => ?_)
  · simp only [b01, Decidable.not_not] at c4
    refine k_iconst (pc := 29) (v := (-1)) C dX7_leave_29 (by decide) ?_
    exact r_i (pc := 30) C E (⟨U, rfl, by unfold sLeave; rw [if_neg (fun h => by first | exact c4 h.1 | exact c11 h.2.1 | exact c18 h.2.2.1 | exact c26 h.2.2.2)], by unfold sLeave; rw [if_neg (fun h => by first | exact c4 h.1 | exact c11 h.2.1 | exact c18 h.2.2.1 | exact c26 h.2.2.2)]; exact hT⟩) dX7_leave_30
  · simp only [b01, Decidable.not_not] at c4
    refine k_iload_n (pc := 7) C dX7_leave_7 rfl 2 rfl ?_
    refine cs_X7_85 (pc := 8) C E (c7_isRegister) rfl (by decide) rfl (Nat.le_of_ble_eq_true rfl) dX7_leave_8 (fun r8 M8 h8 => ?_)
    obtain ⟨rfl, rfl⟩ := h8
    refine k_if_eq (pc := 11) (tgt := 29) C dX7_leave_11 (by decide) (fun c11 => ?_) (fun c11 => ?_)
    · simp only [b01, Decidable.not_not] at c11
      refine k_iconst (pc := 29) (v := (-1)) C dX7_leave_29 (by decide) ?_
      exact r_i (pc := 30) C E (⟨U, rfl, by unfold sLeave; rw [if_neg (fun h => by first | exact c4 h.1 | exact c11 h.2.1 | exact c18 h.2.2.1 | exact c26 h.2.2.2)], by unfold sLeave; rw [if_neg (fun h => by first | exact c4 h.1 | exact c11 h.2.1 | exact c18 h.2.2.1 | exact c26 h.2.2.2)]; exact hT⟩) dX7_leave_30
    · simp only [b01, Decidable.not_not] at c11
      refine k_iload_n (pc := 14) C dX7_leave_14 rfl 3 rfl ?_
      refine cs_X7_85 (pc := 15) C E (c7_isRegister) rfl (by decide) rfl (Nat.le_of_ble_eq_true rfl) dX7_leave_15 (fun r15 M15 h15 => ?_)
      obtain ⟨rfl, rfl⟩ := h15
      refine k_if_eq (pc := 18) (tgt := 29) C dX7_leave_18 (by decide) (fun c18 => ?_) (fun c18 => ?_)
      · simp only [b01, Decidable.not_not] at c18
        refine k_iconst (pc := 29) (v := (-1)) C dX7_leave_29 (by decide) ?_
        exact r_i (pc := 30) C E (⟨U, rfl, by unfold sLeave; rw [if_neg (fun h => by first | exact c4 h.1 | exact c11 h.2.1 | exact c18 h.2.2.1 | exact c26 h.2.2.2)], by unfold sLeave; rw [if_neg (fun h => by first | exact c4 h.1 | exact c11 h.2.1 | exact c18 h.2.2.1 | exact c26 h.2.2.2)]; exact hT⟩) dX7_leave_30
      · simp only [b01, Decidable.not_not] at c18
        refine k_iload (pc := 21) C dX7_leave_21 4 rfl ?_
        refine cs_X7_85 (pc := 23) C E (c7_isRegister) rfl (by decide) rfl (Nat.le_of_ble_eq_true rfl) dX7_leave_23 (fun r23 M23 h23 => ?_)
        obtain ⟨rfl, rfl⟩ := h23
        refine k_if_ne (pc := 26) (tgt := 31) C dX7_leave_26 (by decide) (fun c26 => ?_) (fun c26 => ?_)
        · simp only [b01, Decidable.not_not] at c26
          have c6 : okJ x0 a0 b0 r0 := ⟨c4, c11, c18, c26⟩
          obtain ⟨p, hp, rfl⟩ := inR_k c6.1
          obtain ⟨a, ha, rfl⟩ := inR_k c6.2.1
          obtain ⟨b, hb, rfl⟩ := inR_k c6.2.2.1
          obtain ⟨x, hx, rfl⟩ := inR_k c6.2.2.2
          have hTa := hT a (by omega)
          have hTb := hT b (by omega)
          have ba1 := hB.1 a ha
          have bb1 := hB.1 b hb
          have t0 := hT (16 + 3 * p) (by omega)
          have t1 := hT (16 + 3 * p + 1) (by omega)
          have t2 := hT (16 + 3 * p + 2) (by omega)
          have k0 := hB.2.1 (16 + 3 * p) (by omega) (by omega)
          have k1 := hB.2.1 (16 + 3 * p + 1) (by omega) (by omega)
          have k2 := hB.2.1 (16 + 3 * p + 2) (by omega) (by omega)
          have kz := hB.2.2 p hp
          refine k_iload_n (pc := 31) C dX7_leave_31 rfl 1 rfl ?_
          refine k_iconst (pc := 32) (v := nI 2) C dX7_leave_32 (by decide) ?_
          refine cs_X7_172 (pc := 33) C E (c7_side hp (s := 2) (by omega)) rfl (by decide) rfl (Nat.le_of_ble_eq_true rfl) dX7_leave_33 (fun r33 M33 h33 => ?_)
          obtain ⟨rfl, rfl⟩ := h33
          refine k_istore (pc := 36) (lv' := [(5, .int (nI (16 + 3 * p + 2))), (0, .ref (ad (174))), (1, .int (nI p)), (2, .int (nI a)), (3, .int (nI b)), (4, .int (nI x))]) C dX7_leave_36 (by decide) rfl ?_
          refine k_aload_n (pc := 38) C dX7_leave_38 rfl 1 rfl ?_
          refine k_iload_n (pc := 39) C dX7_leave_39 rfl 3 rfl ?_
          refine k_iload (pc := 40) C dX7_leave_40 0 rfl ?_
          refine cv_X7_76 (pc := 42) C E (c7_compare (a := a) (b := 16 + 3 * p + 2) (by omega) (by omega) (by rw [hTa]; omega) (by rw [t2]; omega)) rfl (by decide) cm_174 (by decide) rfl (Nat.le_of_ble_eq_true rfl) dX7_leave_42 (fun r42 M42 h42 => ?_)
          obtain ⟨rfl, rfl⟩ := h42
          refine k_if_le (pc := 45) (tgt := 51) C dX7_leave_45 (by decide) (fun c45 => ?_) (fun c45 => ?_)
          · rw [cmp_le0, hTa, t2] at c45
            refine k_aload_n (pc := 51) C dX7_leave_51 rfl 1 rfl ?_
            refine k_iload_n (pc := 52) C dX7_leave_52 rfl 3 rfl ?_
            refine cv_X7_99 (pc := 53) C E (c7_isZero (a := a) (by omega) (by rw [hTa]; omega)) rfl (by decide) cm_174 (by decide) rfl (Nat.le_of_ble_eq_true rfl) dX7_leave_53 (fun r53 M53 h53 => ?_)
            obtain ⟨rfl, rfl⟩ := h53
            refine k_if_eq (pc := 56) (tgt := 62) C dX7_leave_56 (by decide) (fun c56 => ?_) (fun c56 => ?_)
            · simp only [b01, Decidable.not_not, hTa] at c56
              have m1 : T (16 + 3 * p) * T a < 2 ^ 200 := by
                have h := Nat.mul_lt_mul_of_lt_of_le k0 (show T a ≤ 2 ^ 100 by omega) (by decide)
                omega
              have m2 : T (16 + 3 * p + 1) * T a < 2 ^ 200 := by
                have h := Nat.mul_lt_mul_of_lt_of_le k1 (show T a ≤ 2 ^ 100 by omega) (by decide)
                omega
              have d1 : T (16 + 3 * p) * T a / T (16 + 3 * p + 2) ≤ T (16 + 3 * p) := Nat.div_le_of_le_mul (by rw [Nat.mul_comm]; exact Nat.mul_le_mul_right _ c45)
              have d2 : T (16 + 3 * p + 1) * T a / T (16 + 3 * p + 2) ≤ T (16 + 3 * p + 1) := Nat.div_le_of_le_mul (by rw [Nat.mul_comm]; exact Nat.mul_le_mul_right _ c45)
              refine k_aload_n (pc := 62) C dX7_leave_62 rfl 1 rfl ?_
              refine k_bipush (pc := 63) (v := nI 30) C dX7_leave_63 (by decide) ?_
              refine k_iload_n (pc := 65) C dX7_leave_65 rfl 2 rfl ?_
              refine k_iconst (pc := 66) (v := nI 0) C dX7_leave_66 (by decide) ?_
              refine cs_X7_172 (pc := 67) C E (c7_side hp (s := 0) (by omega)) rfl (by decide) rfl (Nat.le_of_ble_eq_true rfl) dX7_leave_67 (fun r67 M67 h67 => ?_)
              obtain ⟨rfl, rfl⟩ := h67
              refine k_iload_n (pc := 70) C dX7_leave_70 rfl 3 rfl ?_
              refine cv_X7_108 (pc := 71) C E (c7_product (t := 30) (a := 16 + 3 * p) (b := a) (by decide) (by omega) (by omega) (by omega) (by omega) (by rw [t0]; omega)) rfl (by decide) cm_174 (by decide) rfl (Nat.le_of_ble_eq_true rfl) dX7_leave_71 (fun M71 h71 => ?_)
              subst h71
              rw [t0, hTa]
              obtain ⟨U1, hU1⟩ : ∃ W, W = va_up (va_up U 34 (T (16 + 3 * p) * T a)) (30) (T (16 + 3 * p) * T a) := ⟨_, rfl⟩
              rw [← hU1]
              have v1 : U1 (30) = T (16 + 3 * p) * T a := by rw [hU1, ups]
              have f1 : ∀ k, 34 ≠ k → 30 ≠ k → U1 k = U k := fun k h1 h2 => by rw [hU1, upn h2, upn h1]
              refine k_aload_n (pc := 74) C dX7_leave_74 rfl 1 rfl ?_
              refine k_bipush (pc := 75) (v := nI 30) C dX7_leave_75 (by decide) ?_
              refine k_iload (pc := 77) C dX7_leave_77 0 rfl ?_
              refine cv_X7_111 (pc := 79) C E (c7_divides (a := 30) (b := 16 + 3 * p + 2) (by decide) (by omega) (by decide) (by decide) (by omega) (by omega) (by rw [f1 _ (by omega) (by omega), t2]; omega) (by rw [f1 _ (by omega) (by omega), t2]; omega) (by rw [v1]; omega)) rfl (by decide) cm_174 (by decide) rfl (Nat.le_of_ble_eq_true rfl) dX7_leave_79 (fun M79 h79 => ?_)
              subst h79
              rw [v1, f1 (16 + 3 * p + 2) (by omega) (by omega), t2]
              obtain ⟨U2, hU2⟩ : ∃ W, W = dv2 U1 (T (16 + 3 * p) * T a / T (16 + 3 * p + 2)) (T (16 + 3 * p) * T a % T (16 + 3 * p + 2)) := ⟨_, rfl⟩
              rw [← hU2]
              have q2 : U2 32 = T (16 + 3 * p) * T a / T (16 + 3 * p + 2) := by rw [hU2, dv_2]
              have r2 : U2 33 = T (16 + 3 * p) * T a % T (16 + 3 * p + 2) := by rw [hU2, dv_3]
              have f2 : ∀ k, 32 ≠ k → 33 ≠ k → U2 k = U1 k := fun k h1 h2 => by rw [hU2, dv_o h1 h2]
              refine k_aload_n (pc := 82) C dX7_leave_82 rfl 1 rfl ?_
              refine k_bipush (pc := 83) (v := nI 28) C dX7_leave_83 (by decide) ?_
              refine k_bipush (pc := 85) (v := nI 32) C dX7_leave_85 (by decide) ?_
              refine cv_X7_72 (pc := 87) C E (c7_copy (t := 28) (a := 32) (by decide) (by decide)) rfl (by decide) cm_174 (by decide) rfl (Nat.le_of_ble_eq_true rfl) dX7_leave_87 (fun M87 h87 => ?_)
              subst h87
              rw [q2]
              obtain ⟨U3, hU3⟩ : ∃ W, W = va_up U2 (28) (T (16 + 3 * p) * T a / T (16 + 3 * p + 2)) := ⟨_, rfl⟩
              rw [← hU3]
              have v3 : U3 (28) = T (16 + 3 * p) * T a / T (16 + 3 * p + 2) := by rw [hU3, ups]
              have f3 : ∀ k, 28 ≠ k → U3 k = U2 k := fun k hk => by rw [hU3, upn hk]
              have g3 : ∀ k, k < 28 → U3 k = U k := fun k hk => by rw [f3 k (by omega), f2 k (by omega) (by omega), f1 k (by omega) (by omega)]
              refine k_aload_n (pc := 90) C dX7_leave_90 rfl 1 rfl ?_
              refine k_bipush (pc := 91) (v := nI 30) C dX7_leave_91 (by decide) ?_
              refine k_iload_n (pc := 93) C dX7_leave_93 rfl 2 rfl ?_
              refine k_iconst (pc := 94) (v := nI 1) C dX7_leave_94 (by decide) ?_
              refine cs_X7_172 (pc := 95) C E (c7_side hp (s := 1) (by omega)) rfl (by decide) rfl (Nat.le_of_ble_eq_true rfl) dX7_leave_95 (fun r95 M95 h95 => ?_)
              obtain ⟨rfl, rfl⟩ := h95
              refine k_iload_n (pc := 98) C dX7_leave_98 rfl 3 rfl ?_
              refine cv_X7_108 (pc := 99) C E (c7_product (t := 30) (a := 16 + 3 * p + 1) (b := a) (by decide) (by omega) (by omega) (by omega) (by omega) (by rw [g3 _ (by omega), t1]; omega)) rfl (by decide) cm_174 (by decide) rfl (Nat.le_of_ble_eq_true rfl) dX7_leave_99 (fun M99 h99 => ?_)
              subst h99
              rw [g3 _ (by omega), t1, g3 a (by omega), hTa]
              obtain ⟨U4, hU4⟩ : ∃ W, W = va_up (va_up U3 34 (T (16 + 3 * p + 1) * T a)) (30) (T (16 + 3 * p + 1) * T a) := ⟨_, rfl⟩
              rw [← hU4]
              have v4 : U4 (30) = T (16 + 3 * p + 1) * T a := by rw [hU4, ups]
              have f4 : ∀ k, 34 ≠ k → 30 ≠ k → U4 k = U3 k := fun k h1 h2 => by rw [hU4, upn h2, upn h1]
              refine k_aload_n (pc := 102) C dX7_leave_102 rfl 1 rfl ?_
              refine k_bipush (pc := 103) (v := nI 30) C dX7_leave_103 (by decide) ?_
              refine k_iload (pc := 105) C dX7_leave_105 0 rfl ?_
              refine cv_X7_111 (pc := 107) C E (c7_divides (a := 30) (b := 16 + 3 * p + 2) (by decide) (by omega) (by decide) (by decide) (by omega) (by omega) (by rw [f4 _ (by omega) (by omega), g3 _ (by omega), t2]; omega) (by rw [f4 _ (by omega) (by omega), g3 _ (by omega), t2]; omega) (by rw [v4]; omega)) rfl (by decide) cm_174 (by decide) rfl (Nat.le_of_ble_eq_true rfl) dX7_leave_107 (fun M107 h107 => ?_)
              subst h107
              rw [v4, f4 (16 + 3 * p + 2) (by omega) (by omega), g3 _ (by omega), t2]
              obtain ⟨U5, hU5⟩ : ∃ W, W = dv2 U4 (T (16 + 3 * p + 1) * T a / T (16 + 3 * p + 2)) (T (16 + 3 * p + 1) * T a % T (16 + 3 * p + 2)) := ⟨_, rfl⟩
              rw [← hU5]
              have q5 : U5 32 = T (16 + 3 * p + 1) * T a / T (16 + 3 * p + 2) := by rw [hU5, dv_2]
              have r5 : U5 33 = T (16 + 3 * p + 1) * T a % T (16 + 3 * p + 2) := by rw [hU5, dv_3]
              have f5 : ∀ k, 32 ≠ k → 33 ≠ k → U5 k = U4 k := fun k h1 h2 => by rw [hU5, dv_o h1 h2]
              refine k_aload_n (pc := 110) C dX7_leave_110 rfl 1 rfl ?_
              refine k_bipush (pc := 111) (v := nI 29) C dX7_leave_111 (by decide) ?_
              refine k_bipush (pc := 113) (v := nI 32) C dX7_leave_113 (by decide) ?_
              refine cv_X7_72 (pc := 115) C E (c7_copy (t := 29) (a := 32) (by decide) (by decide)) rfl (by decide) cm_174 (by decide) rfl (Nat.le_of_ble_eq_true rfl) dX7_leave_115 (fun M115 h115 => ?_)
              subst h115
              rw [q5]
              obtain ⟨U6, hU6⟩ : ∃ W, W = va_up U5 (29) (T (16 + 3 * p + 1) * T a / T (16 + 3 * p + 2)) := ⟨_, rfl⟩
              rw [← hU6]
              have v6 : U6 (29) = T (16 + 3 * p + 1) * T a / T (16 + 3 * p + 2) := by rw [hU6, ups]
              have f6 : ∀ k, 29 ≠ k → U6 k = U5 k := fun k hk => by rw [hU6, upn hk]
              have g6 : ∀ k, k < 28 → U6 k = U k := fun k hk => by rw [f6 k (by omega), f5 k (by omega) (by omega), f4 k (by omega) (by omega), g3 k hk]
              have y28 : U6 28 = T (16 + 3 * p) * T a / T (16 + 3 * p + 2) := by rw [f6 28 (by decide), f5 28 (by decide) (by decide), f4 28 (by decide) (by decide), v3]
              refine k_aload_n (pc := 118) C dX7_leave_118 rfl 1 rfl ?_
              refine k_iload_n (pc := 119) C dX7_leave_119 rfl 2 rfl ?_
              refine k_iconst (pc := 120) (v := nI 0) C dX7_leave_120 (by decide) ?_
              refine cs_X7_172 (pc := 121) C E (c7_side hp (s := 0) (by omega)) rfl (by decide) rfl (Nat.le_of_ble_eq_true rfl) dX7_leave_121 (fun r121 M121 h121 => ?_)
              obtain ⟨rfl, rfl⟩ := h121
              refine k_iload_n (pc := 124) C dX7_leave_124 rfl 2 rfl ?_
              refine k_iconst (pc := 125) (v := nI 0) C dX7_leave_125 (by decide) ?_
              refine cs_X7_172 (pc := 126) C E (c7_side hp (s := 0) (by omega)) rfl (by decide) rfl (Nat.le_of_ble_eq_true rfl) dX7_leave_126 (fun r126 M126 h126 => ?_)
              obtain ⟨rfl, rfl⟩ := h126
              refine k_bipush (pc := 129) (v := nI 28) C dX7_leave_129 (by decide) ?_
              refine cv_X7_80 (pc := 131) C E (c7_minus (t := 16 + 3 * p) (a := 16 + 3 * p) (b := 28) (by omega) (by omega) (by decide) (by rw [y28, g6 _ (by omega), t0]; exact d1)) rfl (by decide) cm_174 (by decide) rfl (Nat.le_of_ble_eq_true rfl) dX7_leave_131 (fun M131 h131 => ?_)
              subst h131
              rw [y28, g6 _ (by omega), t0]
              obtain ⟨U7, hU7⟩ : ∃ W, W = va_up U6 (16 + 3 * p) (T (16 + 3 * p) - T (16 + 3 * p) * T a / T (16 + 3 * p + 2)) := ⟨_, rfl⟩
              rw [← hU7]
              have v7 : U7 (16 + 3 * p) = T (16 + 3 * p) - T (16 + 3 * p) * T a / T (16 + 3 * p + 2) := by rw [hU7, ups]
              have f7 : ∀ k, 16 + 3 * p ≠ k → U7 k = U6 k := fun k hk => by rw [hU7, upn hk]
              refine k_aload_n (pc := 134) C dX7_leave_134 rfl 1 rfl ?_
              refine k_iload_n (pc := 135) C dX7_leave_135 rfl 2 rfl ?_
              refine k_iconst (pc := 136) (v := nI 1) C dX7_leave_136 (by decide) ?_
              refine cs_X7_172 (pc := 137) C E (c7_side hp (s := 1) (by omega)) rfl (by decide) rfl (Nat.le_of_ble_eq_true rfl) dX7_leave_137 (fun r137 M137 h137 => ?_)
              obtain ⟨rfl, rfl⟩ := h137
              refine k_iload_n (pc := 140) C dX7_leave_140 rfl 2 rfl ?_
              refine k_iconst (pc := 141) (v := nI 1) C dX7_leave_141 (by decide) ?_
              refine cs_X7_172 (pc := 142) C E (c7_side hp (s := 1) (by omega)) rfl (by decide) rfl (Nat.le_of_ble_eq_true rfl) dX7_leave_142 (fun r142 M142 h142 => ?_)
              obtain ⟨rfl, rfl⟩ := h142
              refine k_bipush (pc := 145) (v := nI 29) C dX7_leave_145 (by decide) ?_
              refine cv_X7_80 (pc := 147) C E (c7_minus (t := 16 + 3 * p + 1) (a := 16 + 3 * p + 1) (b := 29) (by omega) (by omega) (by decide) (by rw [f7 29 (by omega), v6, f7 _ (by omega), g6 _ (by omega), t1]; exact d2)) rfl (by decide) cm_174 (by decide) rfl (Nat.le_of_ble_eq_true rfl) dX7_leave_147 (fun M147 h147 => ?_)
              subst h147
              rw [f7 29 (by omega), v6, f7 (16 + 3 * p + 1) (by omega), g6 _ (by omega), t1]
              obtain ⟨U8, hU8⟩ : ∃ W, W = va_up U7 (16 + 3 * p + 1) (T (16 + 3 * p + 1) - T (16 + 3 * p + 1) * T a / T (16 + 3 * p + 2)) := ⟨_, rfl⟩
              rw [← hU8]
              have v8 : U8 (16 + 3 * p + 1) = T (16 + 3 * p + 1) - T (16 + 3 * p + 1) * T a / T (16 + 3 * p + 2) := by rw [hU8, ups]
              have f8 : ∀ k, 16 + 3 * p + 1 ≠ k → U8 k = U7 k := fun k hk => by rw [hU8, upn hk]
              refine k_aload_n (pc := 150) C dX7_leave_150 rfl 1 rfl ?_
              refine k_iload (pc := 151) C dX7_leave_151 0 rfl ?_
              refine k_iload (pc := 153) C dX7_leave_153 0 rfl ?_
              refine k_iload_n (pc := 155) C dX7_leave_155 rfl 3 rfl ?_
              refine cv_X7_80 (pc := 156) C E (c7_minus (t := 16 + 3 * p + 2) (a := 16 + 3 * p + 2) (b := a) (by omega) (by omega) (by omega) (by rw [f8 a (by omega), f7 a (by omega), g6 a (by omega), hTa, f8 _ (by omega), f7 _ (by omega), g6 _ (by omega), t2]; exact c45)) rfl (by decide) cm_174 (by decide) rfl (Nat.le_of_ble_eq_true rfl) dX7_leave_156 (fun M156 h156 => ?_)
              subst h156
              rw [f8 a (by omega), f7 a (by omega), g6 a (by omega), hTa, f8 (16 + 3 * p + 2) (by omega), f7 (16 + 3 * p + 2) (by omega), g6 _ (by omega), t2]
              obtain ⟨U9, hU9⟩ : ∃ W, W = va_up U8 (16 + 3 * p + 2) (T (16 + 3 * p + 2) - T a) := ⟨_, rfl⟩
              rw [← hU9]
              have v9 : U9 (16 + 3 * p + 2) = T (16 + 3 * p + 2) - T a := by rw [hU9, ups]
              have f9 : ∀ k, 16 + 3 * p + 2 ≠ k → U9 k = U8 k := fun k hk => by rw [hU9, upn hk]
              refine k_aload_n (pc := 159) C dX7_leave_159 rfl 1 rfl ?_
              refine k_iload_n (pc := 160) C dX7_leave_160 rfl 4 rfl ?_
              refine k_bipush (pc := 161) (v := nI 28) C dX7_leave_161 (by decide) ?_
              refine cv_X7_72 (pc := 163) C E (c7_copy (t := b) (a := 28) (by omega) (by decide)) rfl (by decide) cm_174 (by decide) rfl (Nat.le_of_ble_eq_true rfl) dX7_leave_163 (fun M163 h163 => ?_)
              subst h163
              rw [f9 28 (by omega), f8 28 (by omega), f7 28 (by omega), y28]
              obtain ⟨U10, hU10⟩ : ∃ W, W = va_up U9 (b) (T (16 + 3 * p) * T a / T (16 + 3 * p + 2)) := ⟨_, rfl⟩
              rw [← hU10]
              have v10 : U10 (b) = T (16 + 3 * p) * T a / T (16 + 3 * p + 2) := by rw [hU10, ups]
              have f10 : ∀ k, b ≠ k → U10 k = U9 k := fun k hk => by rw [hU10, upn hk]
              refine k_aload_n (pc := 166) C dX7_leave_166 rfl 1 rfl ?_
              refine k_iload (pc := 167) C dX7_leave_167 5 rfl ?_
              refine k_bipush (pc := 169) (v := nI 29) C dX7_leave_169 (by decide) ?_
              refine cv_X7_72 (pc := 171) C E (c7_copy (t := x) (a := 29) (by omega) (by decide)) rfl (by decide) cm_174 (by decide) rfl (Nat.le_of_ble_eq_true rfl) dX7_leave_171 (fun M171 h171 => ?_)
              subst h171
              rw [f10 29 (by omega), f9 29 (by omega), f8 29 (by omega), f7 29 (by omega), v6]
              refine k_iconst (pc := 174) (v := nI 1) C dX7_leave_174 (by decide) ?_
              exact r_i (pc := 175) C E (by
  have j9 : lR (T (16 + 3 * p + 2)) (T a) = 1 := by unfold lR; rw [if_neg (by omega), if_neg c56]
  have e9 : sLeave T (nI p) (nI a) (nI b) (nI x) = (1, va_up (va_up (tup3 T p (T (16 + 3 * p) - T (16 + 3 * p) * T a / T (16 + 3 * p + 2)) (T (16 + 3 * p + 1) - T (16 + 3 * p + 1) * T a / T (16 + 3 * p + 2)) (T (16 + 3 * p + 2) - T a)) b (T (16 + 3 * p) * T a / T (16 + 3 * p + 2))) x (T (16 + 3 * p + 1) * T a / T (16 + 3 * p + 2))) := by
    unfold sLeave
    rw [if_pos c6]
    simp only [rI_n (show p < 2147483648 by omega), rI_n (show a < 2147483648 by omega), rI_n (show b < 2147483648 by omega), rI_n (show x < 2147483648 by omega)]
    rw [if_pos j9]
  rw [e9, hU10, hU9, hU8, hU7]
  exact ⟨_, rfl, rfl, (((hT.o g6).t3).up).up⟩) dX7_leave_175
            · simp only [b01, Decidable.not_not, hTa] at c56
              refine k_bipush (pc := 59) (v := (-4)) C dX7_leave_59 (by decide) ?_
              exact r_i (pc := 61) C E (by
  have j9 : lR (T (16 + 3 * p + 2)) (T a) = -4 := by unfold lR; rw [if_neg (by omega), if_pos c56]
  have e9 : sLeave T (nI p) (nI a) (nI b) (nI x) = (-4, T) := by
    unfold sLeave
    rw [if_pos c6]
    simp only [rI_n (show p < 2147483648 by omega), rI_n (show a < 2147483648 by omega), rI_n (show b < 2147483648 by omega), rI_n (show x < 2147483648 by omega), j9]
    rw [if_neg (by decide)]
  rw [e9]
  exact ⟨U, rfl, rfl, hT⟩) dX7_leave_61
          · rw [cmp_le0, hTa, t2] at c45
            refine k_bipush (pc := 48) (v := (-3)) C dX7_leave_48 (by decide) ?_
            exact r_i (pc := 50) C E (by
  have j9 : lR (T (16 + 3 * p + 2)) (T a) = -3 := by unfold lR; rw [if_pos (by omega)]
  have e9 : sLeave T (nI p) (nI a) (nI b) (nI x) = (-3, T) := by
    unfold sLeave
    rw [if_pos c6]
    simp only [rI_n (show p < 2147483648 by omega), rI_n (show a < 2147483648 by omega), rI_n (show b < 2147483648 by omega), rI_n (show x < 2147483648 by omega), j9]
    rw [if_neg (by decide)]
  rw [e9]
  exact ⟨U, rfl, rfl, hT⟩) dX7_leave_50
        · simp only [b01, Decidable.not_not] at c26
          refine k_iconst (pc := 29) (v := (-1)) C dX7_leave_29 (by decide) ?_
          exact r_i (pc := 30) C E (⟨U, rfl, by unfold sLeave; rw [if_neg (fun h => by first | exact c4 h.1 | exact c11 h.2.1 | exact c18 h.2.2.1 | exact c26 h.2.2.2)], by unfold sLeave; rw [if_neg (fun h => by first | exact c4 h.1 | exact c11 h.2.1 | exact c18 h.2.2.1 | exact c26 h.2.2.2)]; exact hT⟩) dX7_leave_30
end MI
