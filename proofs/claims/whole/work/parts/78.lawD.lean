section LW9
variable {z : xk} {l : Launch} {D : va_G} {ca : Nat → ClassId} {ad : Nat → Nat} {V U : Nat → Nat} {sc : Nat → Int32} {ia : Nat → Nat → Int32} {la : Nat → Nat → Int64} {N0 : Nat} {sa : Nat → Nat} {b L it : Nat} {xs : Nat → Int32}
set_option maxHeartbeats 4000000 in
set_option maxRecDepth 100000 in
theorem lw_c16 (C : xC z cL_law RL 7) (F : xF z l room_1 D (xty ca)) (Y : xY0 z N0 sa) (S : xSc z b L xs) (hl : l.stackTraces = false) (hN0 : ∀ i, i < 187 → N0 ≤ ad i) (h : LIq V U sc ia la) (hit : 8 * it + 8 ≤ L) (hL : L ≤ 4096) (kk : ∀ V U sc ia la, LIq V U sc ia la → xK z (xw ad (cm ad ca (V, U, sc, ia, la)) 187) (187 + (it + 1)) (3613 + 6 * (it + 1)) 1586 [(4, .int (nI (8 * it))), (3, .ref (ad 186)), (2, .ref (ad 174)), (1, .ref (ad 0)), (0, .ref b)] []) : xK z (xw ad (cm ad ca (V, U, sc, ia, la)) 187) (187 + it) (3613 + 6 * it) 1081 [(4, .int (nI (8 * it))), (3, .ref (ad 186)), (2, .ref (ad 174)), (1, .ref (ad 0)), (0, .ref b)] [] := by
  obtain ⟨hN, hF, hW, hU, hP, hO, hR, hS⟩ := h
  have hN9 := hN
  obtain ⟨T, hT, hM, hB⟩ := hN9
  have hcs : 187 + it ≤ room_1.cells ∧ 3613 + 6 * it ≤ room_1.slots := by show 187 + it ≤ 603072 ∧ 3613 + 6 * it ≤ 7215210; omega
  have hcs' : 187 + it + 1 ≤ room_1.cells ∧ 3613 + 6 * it + 6 ≤ room_1.slots := by show 187 + it + 1 ≤ 603072 ∧ 3613 + 6 * it + 6 ≤ 7215210; omega
  have hP9 := hP
  obtain ⟨n, hn9, hn1, hn2, hn3⟩ := hP9
  by_cases cw : inR (xs (8 * it + 1)) 256
  rotate_left
  · refine k_aload_n (pc := 1081) C dL_law_1081 rfl 3 rfl ?_
    refine k_arg (pc := 1082) C S 1 4 0 rfl rfl (by omega) dL_law_1082 dL_law_1083 dL_law_1085 (by decide) dL_law_1086 dL_law_1087 ?_
    refine cvF_L_108 (pc := 1088) C F hcs (c6_feed hn1 hn9) rfl (by decide) cm_0 ⟨by decide, by decide⟩ rfl (Nat.le_of_ble_eq_true rfl) dL_law_1088 (fun r1088 M1088 h1088 => ?_)
    rw [if_neg cw] at h1088
    obtain ⟨e6, rfl⟩ := h1088
    refine k_aload_n (pc := 1091) C dL_law_1091 rfl 2 rfl ?_
    refine k_arg (pc := 1092) C S 1 4 0 rfl rfl (by omega) dL_law_1092 dL_law_1093 dL_law_1095 (by decide) dL_law_1096 dL_law_1097 ?_
    refine cvF_L_111 (pc := 1098) C F hcs (c7_feed hn2 hn9) rfl (by decide) cm_174 ⟨by decide, by decide⟩ rfl (Nat.le_of_ble_eq_true rfl) dL_law_1098 (fun r1098 M1098 h1098 => ?_)
    rw [if_neg cw] at h1098
    obtain ⟨e7, rfl⟩ := h1098
    refine k_icmp_eq (pc := 1101) (tgt := 1586) C dL_law_1101 (by decide) (fun _ => ?_) (fun c => absurd (e6.trans e7.symm) c)
    refine k_widen (cs' := 187 + (it + 1)) (ss' := 3613 + 6 * (it + 1)) (by omega) (by omega) ?_
    exact kk V U sc ia la (⟨hN, hF, hW, hU, hP, hO, hR, hS⟩)
  by_cases cn : n = 120
  · refine k_aload_n (pc := 1081) C dL_law_1081 rfl 3 rfl ?_
    refine k_arg (pc := 1082) C S 1 4 0 rfl rfl (by omega) dL_law_1082 dL_law_1083 dL_law_1085 (by decide) dL_law_1086 dL_law_1087 ?_
    refine cvF_L_108 (pc := 1088) C F hcs (c6_feed hn1 hn9) rfl (by decide) cm_0 ⟨by decide, by decide⟩ rfl (Nat.le_of_ble_eq_true rfl) dL_law_1088 (fun r1088 M1088 h1088 => ?_)
    rw [if_pos cw, if_pos cn] at h1088
    obtain ⟨e6, rfl⟩ := h1088
    refine k_aload_n (pc := 1091) C dL_law_1091 rfl 2 rfl ?_
    refine k_arg (pc := 1092) C S 1 4 0 rfl rfl (by omega) dL_law_1092 dL_law_1093 dL_law_1095 (by decide) dL_law_1096 dL_law_1097 ?_
    refine cvF_L_111 (pc := 1098) C F hcs (c7_feed hn2 hn9) rfl (by decide) cm_174 ⟨by decide, by decide⟩ rfl (Nat.le_of_ble_eq_true rfl) dL_law_1098 (fun r1098 M1098 h1098 => ?_)
    rw [if_pos cw, if_pos cn] at h1098
    obtain ⟨e7, rfl⟩ := h1098
    refine k_icmp_eq (pc := 1101) (tgt := 1586) C dL_law_1101 (by decide) (fun _ => ?_) (fun c => absurd (e6.trans e7.symm) c)
    refine k_widen (cs' := 187 + (it + 1)) (ss' := 3613 + 6 * (it + 1)) (by omega) (by omega) ?_
    exact kk V U sc ia la (⟨hN, hF, hW, hU, hP, hO, hR, hS⟩)
  · refine k_aload_n (pc := 1081) C dL_law_1081 rfl 3 rfl ?_
    refine k_arg (pc := 1082) C S 1 4 0 rfl rfl (by omega) dL_law_1082 dL_law_1083 dL_law_1085 (by decide) dL_law_1086 dL_law_1087 ?_
    refine cvF_L_108 (pc := 1088) C F hcs (c6_feed hn1 hn9) rfl (by decide) cm_0 ⟨by decide, by decide⟩ rfl (Nat.le_of_ble_eq_true rfl) dL_law_1088 (fun r1088 M1088 h1088 => ?_)
    rw [if_pos cw, if_neg cn] at h1088
    obtain ⟨e6, rfl⟩ := h1088
    refine k_aload_n (pc := 1091) C dL_law_1091 rfl 2 rfl ?_
    refine k_arg (pc := 1092) C S 1 4 0 rfl rfl (by omega) dL_law_1092 dL_law_1093 dL_law_1095 (by decide) dL_law_1096 dL_law_1097 ?_
    refine cvF_L_111 (pc := 1098) C F hcs (c7_feed (by rw [va_up_ne _ _ (by decide)]; exact hn2) hn9) rfl (by decide) cm_174 ⟨by decide, by decide⟩ rfl (Nat.le_of_ble_eq_true rfl) dL_law_1098 (fun r1098 M1098 h1098 => ?_)
    rw [if_pos cw, if_neg cn] at h1098
    obtain ⟨e7, rfl⟩ := h1098
    have S1 : ∀ k, k ≠ 20 → k ≠ 32 → va_up (va_up sc 20 (nI (n + 1))) 32 (nI (n + 1)) k = sc k := fun k a b => by rw [va_up_ne _ _ b, va_up_ne _ _ a]
    have I1 : ∀ k, k ≠ 158 → k ≠ 179 → va_up (va_up ia 158 (upd (ia 158) n (xs (8 * it + 1)))) 179 (upd (va_up ia 158 (upd (ia 158) n (xs (8 * it + 1))) 179) n (xs (8 * it + 1))) k = ia k := fun k a b => by rw [va_up_ne _ _ b, va_up_ne _ _ a]
    refine k_icmp_eq (pc := 1101) (tgt := 1586) C dL_law_1101 (by decide) (fun _ => ?_) (fun c => absurd (e6.trans e7.symm) c)
    refine k_widen (cs' := 187 + (it + 1)) (ss' := 3613 + 6 * (it + 1)) (by omega) (by omega) ?_
    exact kk V U _ _ la (⟨hN, (hF.to (fun k hk => S1 k (by omega) (by omega)) (I1 177 (by omega) (by omega)) (I1 178 (by omega) (by omega))), hW, (hU.to (S1 1 (by omega) (by omega)) (S1 31 (by omega) (by omega))), ⟨n + 1, by omega, by rw [va_up_ne _ _ (by decide), va_up_self], by rw [va_up_self], fun i hi => by
        rw [va_up_self, va_up_ne _ _ (by decide), va_up_self, va_up_ne _ _ (by decide)]
        unfold upd
        by_cases hin : i = n
        · rw [if_pos hin, if_pos hin]
        · rw [if_neg hin, if_neg hin]
          exact hn3 i (by omega)⟩, (hO.to (S1 11 (by omega) (by omega)) (S1 34 (by omega) (by omega)) (I1 154 (by omega) (by omega)) (I1 180 (by omega) (by omega))), (hR.to (S1 0 (by omega) (by omega)) (S1 35 (by omega) (by omega)) (fun k hk => (I1 (162 + k) (by omega) (by omega))) (I1 181 (by omega) (by omega)) (I1 182 (by omega) (by omega)) (I1 183 (by omega) (by omega)) (I1 184 (by omega) (by omega))), (hS.to (S1 2 (by omega) (by omega)) (S1 33 (by omega) (by omega)) (S1 3 (by omega) (by omega)) (S1 36 (by omega) (by omega)) (S1 4 (by omega) (by omega)) (S1 37 (by omega) (by omega)))⟩)
set_option maxHeartbeats 4000000 in
set_option maxRecDepth 100000 in
theorem lw_c17 (C : xC z cL_law RL 7) (F : xF z l room_1 D (xty ca)) (Y : xY0 z N0 sa) (S : xSc z b L xs) (hl : l.stackTraces = false) (hN0 : ∀ i, i < 187 → N0 ≤ ad i) (h : LIq V U sc ia la) (hit : 8 * it + 8 ≤ L) (hL : L ≤ 4096) (kk : ∀ V U sc ia la, LIq V U sc ia la → xK z (xw ad (cm ad ca (V, U, sc, ia, la)) 187) (187 + (it + 1)) (3613 + 6 * (it + 1)) 1586 [(4, .int (nI (8 * it))), (3, .ref (ad 186)), (2, .ref (ad 174)), (1, .ref (ad 0)), (0, .ref b)] []) : xK z (xw ad (cm ad ca (V, U, sc, ia, la)) 187) (187 + it) (3613 + 6 * it) 1106 [(4, .int (nI (8 * it))), (3, .ref (ad 186)), (2, .ref (ad 174)), (1, .ref (ad 0)), (0, .ref b)] [] := by
  obtain ⟨hN, hF, hW, hU, hP, hO, hR, hS⟩ := h
  have hN9 := hN
  obtain ⟨T, hT, hM, hB⟩ := hN9
  have hcs : 187 + it ≤ room_1.cells ∧ 3613 + 6 * it ≤ room_1.slots := by show 187 + it ≤ 603072 ∧ 3613 + 6 * it ≤ 7215210; omega
  have hcs' : 187 + it + 1 ≤ room_1.cells ∧ 3613 + 6 * it + 6 ≤ room_1.slots := by show 187 + it + 1 ≤ 603072 ∧ 3613 + 6 * it + 6 ≤ 7215210; omega
  have hP9 := hP
  obtain ⟨n, hn9, hn1, hn2, hn3⟩ := hP9
  have hU9 := hU
  obtain ⟨u, hu9, hu1, hu2⟩ := hU9
  refine k_aload_n (pc := 1106) C dL_law_1106 rfl 3 rfl ?_
  refine k_arg (pc := 1107) C S 1 4 0 rfl rfl (by omega) dL_law_1107 dL_law_1108 dL_law_1110 (by decide) dL_law_1111 dL_law_1112 ?_
  refine cvF_L_112 (pc := 1113) C F hcs (c6_read hT hB hn1 hn9 hu1 hu9 (b := ia 158) (fun i hi => rfl)) rfl (by decide) cm_0 ⟨by decide, by decide⟩ rfl (Nat.le_of_ble_eq_true rfl) dL_law_1113 (fun r1113 M1113 h1113 => ?_)
  obtain ⟨V1, sc1, rfl, S6, d6⟩ := h1113
  refine k_aload_n (pc := 1116) C dL_law_1116 rfl 2 rfl ?_
  refine k_arg (pc := 1117) C S 1 4 0 rfl rfl (by omega) dL_law_1117 dL_law_1118 dL_law_1120 (by decide) dL_law_1121 dL_law_1122 ?_
  refine cvF_L_115 (pc := 1123) C F hcs (c7_read hM hB ((S6 32 (by decide) (by decide)).trans hn2) hn9 (b := ia 158) (fun i hi => (hn3 i hi).symm) ((S6 31 (by decide) (by decide)).trans hu2) hu9) rfl (by decide) cm_174 ⟨by decide, by decide⟩ rfl (Nat.le_of_ble_eq_true rfl) dL_law_1123 (fun r1123 M1123 h1123 => ?_)
  obtain ⟨U1, sc2, rfl, S7, d7⟩ := h1123
  have S1 : ∀ k, k ≠ 2 → (k < 20 ∨ 25 < k) → k ≠ 32 → k ≠ 33 → sc2 k = sc k := fun k a b c d => (S7 k c d).trans (S6 k a b)
  obtain ⟨e, hN1, hP1, hS1⟩ : r1113 = r1123 ∧ LNq V1 U1 ∧ LPq sc2 ia ∧ sc2 2 = sc2 33 := by
    by_cases cx : inR (xs (8 * it + 1)) 16
    · rw [if_pos cx] at d6 d7
      obtain ⟨s6, d6⟩ := d6
      obtain ⟨s7, d7⟩ := d7
      have hP1 : LPq sc2 ia := ⟨0, by decide, ((S7 20 (by decide) (by decide)).trans s6).trans nI_0.symm, s7.trans nI_0.symm, fun i hi => absurd hi (by omega)⟩
      by_cases cm9 : mrun u n (ia 158) n 0 mS0 = -4
      · rw [if_pos cm9] at d6 d7
        by_cases cv : rdv (ia 158) n < 2 ^ 256
        · rw [if_pos cv] at d6 d7
          exact ⟨d6.1.trans d7.1.symm, ⟨_, d6.2.2, d7.2.2, hB.up (rI_lt cx) cv⟩, hP1, ((S7 2 (by decide) (by decide)).trans d6.2.1).trans d7.2.1.symm⟩
        · rw [if_neg cv] at d6 d7
          exact ⟨d6.1.trans d7.1.symm, ⟨_, d6.2.2, d7.2.2, hB⟩, hP1, ((S7 2 (by decide) (by decide)).trans d6.2.1).trans d7.2.1.symm⟩
      · rw [if_neg cm9] at d6 d7
        exact ⟨d6.1.trans d7.1.symm, ⟨_, d6.2.2, d7.2.2, hB⟩, hP1, ((S7 2 (by decide) (by decide)).trans d6.2.1).trans d7.2.1.symm⟩
    · rw [if_neg cx] at d6 d7
      exact ⟨d6.1.trans d7.1.symm, ⟨_, d6.2.2.2, d7.2.2.2, hB⟩, hP.to ((S7 20 (by decide) (by decide)).trans d6.2.1) (d7.2.1.trans (S6 32 (by decide) (by decide))) rfl rfl, ((S7 2 (by decide) (by decide)).trans d6.2.2.1).trans ((hS.1.trans (S6 33 (by decide) (by decide)).symm).trans d7.2.2.1.symm)⟩
  refine k_icmp_eq (pc := 1126) (tgt := 1586) C dL_law_1126 (by decide) (fun _ => ?_) (fun c => absurd (e) c)
  refine k_widen (cs' := 187 + (it + 1)) (ss' := 3613 + 6 * (it + 1)) (by omega) (by omega) ?_
  exact kk V1 U1 sc2 ia la (⟨hN1, (hF.to (fun k hk => S1 k (by omega) (by omega) (by omega) (by omega)) rfl rfl), hW, (hU.to (S1 1 (by omega) (by omega) (by omega) (by omega)) (S1 31 (by omega) (by omega) (by omega) (by omega))), hP1, (hO.to (S1 11 (by omega) (by omega) (by omega) (by omega)) (S1 34 (by omega) (by omega) (by omega) (by omega)) rfl rfl), (hR.to (S1 0 (by omega) (by omega) (by omega) (by omega)) (S1 35 (by omega) (by omega) (by omega) (by omega)) (fun k hk => rfl) rfl rfl rfl rfl), ⟨hS1, by rw [S1 3 (by decide) (by decide) (by decide) (by decide), S1 36 (by decide) (by decide) (by decide) (by decide)]; exact hS.2.1, by rw [S1 4 (by decide) (by decide) (by decide) (by decide), S1 37 (by decide) (by decide) (by decide) (by decide)]; exact hS.2.2⟩⟩)
set_option maxHeartbeats 4000000 in
set_option maxRecDepth 100000 in
theorem lw_c18 (C : xC z cL_law RL 7) (F : xF z l room_1 D (xty ca)) (Y : xY0 z N0 sa) (S : xSc z b L xs) (hl : l.stackTraces = false) (hN0 : ∀ i, i < 187 → N0 ≤ ad i) (h : LIq V U sc ia la) (hit : 8 * it + 8 ≤ L) (hL : L ≤ 4096) (kk : ∀ V U sc ia la, LIq V U sc ia la → xK z (xw ad (cm ad ca (V, U, sc, ia, la)) 187) (187 + (it + 1)) (3613 + 6 * (it + 1)) 1586 [(4, .int (nI (8 * it))), (3, .ref (ad 186)), (2, .ref (ad 174)), (1, .ref (ad 0)), (0, .ref b)] []) : xK z (xw ad (cm ad ca (V, U, sc, ia, la)) 187) (187 + it) (3613 + 6 * it) 1131 [(4, .int (nI (8 * it))), (3, .ref (ad 186)), (2, .ref (ad 174)), (1, .ref (ad 0)), (0, .ref b)] [] := by
  obtain ⟨hN, hF, hW, hU, hP, hO, hR, hS⟩ := h
  have hN9 := hN
  obtain ⟨T, hT, hM, hB⟩ := hN9
  have hcs : 187 + it ≤ room_1.cells ∧ 3613 + 6 * it ≤ room_1.slots := by show 187 + it ≤ 603072 ∧ 3613 + 6 * it ≤ 7215210; omega
  have hcs' : 187 + it + 1 ≤ room_1.cells ∧ 3613 + 6 * it + 6 ≤ room_1.slots := by show 187 + it + 1 ≤ 603072 ∧ 3613 + 6 * it + 6 ≤ 7215210; omega
  refine k_aload_n (pc := 1131) C dL_law_1131 rfl 3 rfl ?_
  refine cvF_L_116 (pc := 1132) C F hcs (c6_place) rfl (by decide) cm_0 ⟨by decide, by decide⟩ rfl (Nat.le_of_ble_eq_true rfl) dL_law_1132 (fun r1132 M1132 h1132 => ?_)
  obtain ⟨e6, rfl⟩ := h1132
  refine k_aload_n (pc := 1135) C dL_law_1135 rfl 2 rfl ?_
  refine cvF_L_119 (pc := 1136) C F hcs (c7_place) rfl (by decide) cm_174 ⟨by decide, by decide⟩ rfl (Nat.le_of_ble_eq_true rfl) dL_law_1136 (fun r1136 M1136 h1136 => ?_)
  obtain ⟨e7, rfl⟩ := h1136
  refine k_icmp_eq (pc := 1139) (tgt := 1586) C dL_law_1139 (by decide) (fun _ => ?_) (fun c => absurd (e6.trans (hS.1.trans e7.symm)) c)
  refine k_widen (cs' := 187 + (it + 1)) (ss' := 3613 + 6 * (it + 1)) (by omega) (by omega) ?_
  exact kk V U sc ia la (⟨hN, hF, hW, hU, hP, hO, hR, hS⟩)
set_option maxHeartbeats 4000000 in
set_option maxRecDepth 100000 in
theorem lw_c19 (C : xC z cL_law RL 7) (F : xF z l room_1 D (xty ca)) (Y : xY0 z N0 sa) (S : xSc z b L xs) (hl : l.stackTraces = false) (hN0 : ∀ i, i < 187 → N0 ≤ ad i) (h : LIq V U sc ia la) (hit : 8 * it + 8 ≤ L) (hL : L ≤ 4096) (kk : ∀ V U sc ia la, LIq V U sc ia la → xK z (xw ad (cm ad ca (V, U, sc, ia, la)) 187) (187 + (it + 1)) (3613 + 6 * (it + 1)) 1586 [(4, .int (nI (8 * it))), (3, .ref (ad 186)), (2, .ref (ad 174)), (1, .ref (ad 0)), (0, .ref b)] []) : xK z (xw ad (cm ad ca (V, U, sc, ia, la)) 187) (187 + it) (3613 + 6 * it) 1144 [(4, .int (nI (8 * it))), (3, .ref (ad 186)), (2, .ref (ad 174)), (1, .ref (ad 0)), (0, .ref b)] [] := by
  obtain ⟨hN, hF, hW, hU, hP, hO, hR, hS⟩ := h
  have hN9 := hN
  obtain ⟨T, hT, hM, hB⟩ := hN9
  have hcs : 187 + it ≤ room_1.cells ∧ 3613 + 6 * it ≤ room_1.slots := by show 187 + it ≤ 603072 ∧ 3613 + 6 * it ≤ 7215210; omega
  have hcs' : 187 + it + 1 ≤ room_1.cells ∧ 3613 + 6 * it + 6 ≤ room_1.slots := by show 187 + it + 1 ≤ 603072 ∧ 3613 + 6 * it + 6 ≤ 7215210; omega
  refine k_aload_n (pc := 1144) C dL_law_1144 rfl 3 rfl ?_
  refine k_arg (pc := 1145) C S 1 4 0 rfl rfl (by omega) dL_law_1145 dL_law_1146 dL_law_1148 (by decide) dL_law_1149 dL_law_1150 ?_
  refine k_arg (pc := 1151) C S 2 4 0 rfl rfl (by omega) dL_law_1151 dL_law_1152 dL_law_1154 (by decide) dL_law_1155 dL_law_1156 ?_
  refine k_arg (pc := 1157) C S 3 4 0 rfl rfl (by omega) dL_law_1157 dL_law_1158 dL_law_1160 (by decide) dL_law_1161 dL_law_1162 ?_
  refine cvF_L_120 (pc := 1163) C F hcs (c6_fee hT hB) rfl (by decide) cm_0 ⟨by decide, by decide⟩ rfl (Nat.le_of_ble_eq_true rfl) dL_law_1163 (fun r1163 M1163 h1163 => ?_)
  obtain ⟨V1, sc1, rfl, e6, h6, G6, S1⟩ := h1163
  refine k_aload_n (pc := 1166) C dL_law_1166 rfl 2 rfl ?_
  refine k_arg (pc := 1167) C S 1 4 0 rfl rfl (by omega) dL_law_1167 dL_law_1168 dL_law_1170 (by decide) dL_law_1171 dL_law_1172 ?_
  refine k_arg (pc := 1173) C S 2 4 0 rfl rfl (by omega) dL_law_1173 dL_law_1174 dL_law_1176 (by decide) dL_law_1177 dL_law_1178 ?_
  refine k_arg (pc := 1179) C S 3 4 0 rfl rfl (by omega) dL_law_1179 dL_law_1180 dL_law_1182 (by decide) dL_law_1183 dL_law_1184 ?_
  refine cvF_L_123 (pc := 1185) C F hcs (c7_fee hM hB) rfl (by decide) cm_174 ⟨by decide, by decide⟩ rfl (Nat.le_of_ble_eq_true rfl) dL_law_1185 (fun r1185 M1185 h1185 => ?_)
  obtain ⟨U1, ia1, rfl, e7, h7, G7, I1⟩ := h1185
  refine k_icmp_eq (pc := 1188) (tgt := 1586) C dL_law_1188 (by decide) (fun _ => ?_) (fun c => absurd (e6.trans e7.symm) c)
  refine k_widen (cs' := 187 + (it + 1)) (ss' := 3613 + 6 * (it + 1)) (by omega) (by omega) ?_
  obtain ⟨fp, fq, hFC, hFM, hFB⟩ := hF
  exact kk V1 U1 sc1 ia1 la (⟨⟨_, h6, h7, sFee_TB hB _ _ _⟩, ⟨_, _, G6 _ _ hFC, G7 _ _ hFM, fUp_FB hFB _ _ _⟩, hW, (hU.to (S1 1 (by omega)) (S1 31 (by omega))), (hP.to (S1 20 (by omega)) (S1 32 (by omega)) (I1 158 (by omega) (by omega)) (I1 179 (by omega) (by omega))), (hO.to (S1 11 (by omega)) (S1 34 (by omega)) (I1 154 (by omega) (by omega)) (I1 180 (by omega) (by omega))), (hR.to (S1 0 (by omega)) (S1 35 (by omega)) (fun k hk => (I1 (162 + k) (by omega) (by omega))) (I1 181 (by omega) (by omega)) (I1 182 (by omega) (by omega)) (I1 183 (by omega) (by omega)) (I1 184 (by omega) (by omega))), (hS.to (S1 2 (by omega)) (S1 33 (by omega)) (S1 3 (by omega)) (S1 36 (by omega)) (S1 4 (by omega)) (S1 37 (by omega)))⟩)
set_option maxHeartbeats 4000000 in
set_option maxRecDepth 100000 in
theorem lw_c20 (C : xC z cL_law RL 7) (F : xF z l room_1 D (xty ca)) (Y : xY0 z N0 sa) (S : xSc z b L xs) (hl : l.stackTraces = false) (hN0 : ∀ i, i < 187 → N0 ≤ ad i) (h : LIq V U sc ia la) (hit : 8 * it + 8 ≤ L) (hL : L ≤ 4096) (kk : ∀ V U sc ia la, LIq V U sc ia la → xK z (xw ad (cm ad ca (V, U, sc, ia, la)) 187) (187 + (it + 1)) (3613 + 6 * (it + 1)) 1586 [(4, .int (nI (8 * it))), (3, .ref (ad 186)), (2, .ref (ad 174)), (1, .ref (ad 0)), (0, .ref b)] []) : xK z (xw ad (cm ad ca (V, U, sc, ia, la)) 187) (187 + it) (3613 + 6 * it) 1193 [(4, .int (nI (8 * it))), (3, .ref (ad 186)), (2, .ref (ad 174)), (1, .ref (ad 0)), (0, .ref b)] [] := by
  obtain ⟨hN, hF, hW, hU, hP, hO, hR, hS⟩ := h
  have hN9 := hN
  obtain ⟨T, hT, hM, hB⟩ := hN9
  have hcs : 187 + it ≤ room_1.cells ∧ 3613 + 6 * it ≤ room_1.slots := by show 187 + it ≤ 603072 ∧ 3613 + 6 * it ≤ 7215210; omega
  have hcs' : 187 + it + 1 ≤ room_1.cells ∧ 3613 + 6 * it + 6 ≤ room_1.slots := by show 187 + it + 1 ≤ 603072 ∧ 3613 + 6 * it + 6 ≤ 7215210; omega
  refine k_aload_n (pc := 1193) C dL_law_1193 rfl 3 rfl ?_
  refine k_arg (pc := 1194) C S 1 4 0 rfl rfl (by omega) dL_law_1194 dL_law_1195 dL_law_1197 (by decide) dL_law_1198 dL_law_1199 ?_
  refine k_arg (pc := 1200) C S 2 4 0 rfl rfl (by omega) dL_law_1200 dL_law_1201 dL_law_1203 (by decide) dL_law_1204 dL_law_1205 ?_
  refine k_arg (pc := 1206) C S 3 4 0 rfl rfl (by omega) dL_law_1206 dL_law_1207 dL_law_1209 (by decide) dL_law_1210 dL_law_1211 ?_
  refine k_arg (pc := 1212) C S 4 4 0 rfl rfl (by omega) dL_law_1212 dL_law_1213 dL_law_1215 (by decide) dL_law_1216 dL_law_1217 ?_
  refine cvF_L_124 (pc := 1218) C F hcs (c6_join hT hB) rfl (by decide) cm_0 ⟨by decide, by decide⟩ rfl (Nat.le_of_ble_eq_true rfl) dL_law_1218 (fun r1218 M1218 h1218 => ?_)
  obtain ⟨V1, rfl, e6, h6⟩ := h1218
  refine k_aload_n (pc := 1221) C dL_law_1221 rfl 2 rfl ?_
  refine k_arg (pc := 1222) C S 1 4 0 rfl rfl (by omega) dL_law_1222 dL_law_1223 dL_law_1225 (by decide) dL_law_1226 dL_law_1227 ?_
  refine k_arg (pc := 1228) C S 2 4 0 rfl rfl (by omega) dL_law_1228 dL_law_1229 dL_law_1231 (by decide) dL_law_1232 dL_law_1233 ?_
  refine k_arg (pc := 1234) C S 3 4 0 rfl rfl (by omega) dL_law_1234 dL_law_1235 dL_law_1237 (by decide) dL_law_1238 dL_law_1239 ?_
  refine k_arg (pc := 1240) C S 4 4 0 rfl rfl (by omega) dL_law_1240 dL_law_1241 dL_law_1243 (by decide) dL_law_1244 dL_law_1245 ?_
  refine cvF_L_127 (pc := 1246) C F hcs (c7_join hM hB) rfl (by decide) cm_174 ⟨by decide, by decide⟩ rfl (Nat.le_of_ble_eq_true rfl) dL_law_1246 (fun r1246 M1246 h1246 => ?_)
  obtain ⟨U1, rfl, e7, h7⟩ := h1246
  refine k_icmp_eq (pc := 1249) (tgt := 1586) C dL_law_1249 (by decide) (fun _ => ?_) (fun c => absurd (e6.trans e7.symm) c)
  refine k_widen (cs' := 187 + (it + 1)) (ss' := 3613 + 6 * (it + 1)) (by omega) (by omega) ?_
  exact kk V1 U1 sc ia la (⟨⟨_, h6, h7, sJoin_TB hB _ _ _ _⟩, hF, hW, hU, hP, hO, hR, hS⟩)
set_option maxHeartbeats 4000000 in
set_option maxRecDepth 100000 in
theorem lw_c21 (C : xC z cL_law RL 7) (F : xF z l room_1 D (xty ca)) (Y : xY0 z N0 sa) (S : xSc z b L xs) (hl : l.stackTraces = false) (hN0 : ∀ i, i < 187 → N0 ≤ ad i) (h : LIq V U sc ia la) (hit : 8 * it + 8 ≤ L) (hL : L ≤ 4096) (kk : ∀ V U sc ia la, LIq V U sc ia la → xK z (xw ad (cm ad ca (V, U, sc, ia, la)) 187) (187 + (it + 1)) (3613 + 6 * (it + 1)) 1586 [(4, .int (nI (8 * it))), (3, .ref (ad 186)), (2, .ref (ad 174)), (1, .ref (ad 0)), (0, .ref b)] []) : xK z (xw ad (cm ad ca (V, U, sc, ia, la)) 187) (187 + it) (3613 + 6 * it) 1254 [(4, .int (nI (8 * it))), (3, .ref (ad 186)), (2, .ref (ad 174)), (1, .ref (ad 0)), (0, .ref b)] [] := by
  obtain ⟨hN, hF, hW, hU, hP, hO, hR, hS⟩ := h
  have hN9 := hN
  obtain ⟨T, hT, hM, hB⟩ := hN9
  have hcs : 187 + it ≤ room_1.cells ∧ 3613 + 6 * it ≤ room_1.slots := by show 187 + it ≤ 603072 ∧ 3613 + 6 * it ≤ 7215210; omega
  have hcs' : 187 + it + 1 ≤ room_1.cells ∧ 3613 + 6 * it + 6 ≤ room_1.slots := by show 187 + it + 1 ≤ 603072 ∧ 3613 + 6 * it + 6 ≤ 7215210; omega
  refine k_aload_n (pc := 1254) C dL_law_1254 rfl 3 rfl ?_
  refine k_arg (pc := 1255) C S 1 4 0 rfl rfl (by omega) dL_law_1255 dL_law_1256 dL_law_1258 (by decide) dL_law_1259 dL_law_1260 ?_
  refine k_arg (pc := 1261) C S 2 4 0 rfl rfl (by omega) dL_law_1261 dL_law_1262 dL_law_1264 (by decide) dL_law_1265 dL_law_1266 ?_
  refine k_arg (pc := 1267) C S 3 4 0 rfl rfl (by omega) dL_law_1267 dL_law_1268 dL_law_1270 (by decide) dL_law_1271 dL_law_1272 ?_
  refine k_arg (pc := 1273) C S 4 4 0 rfl rfl (by omega) dL_law_1273 dL_law_1274 dL_law_1276 (by decide) dL_law_1277 dL_law_1278 ?_
  refine cvF_L_128 (pc := 1279) C F hcs (c6_leave hT hB) rfl (by decide) cm_0 ⟨by decide, by decide⟩ rfl (Nat.le_of_ble_eq_true rfl) dL_law_1279 (fun r1279 M1279 h1279 => ?_)
  obtain ⟨V1, rfl, e6, h6⟩ := h1279
  refine k_aload_n (pc := 1282) C dL_law_1282 rfl 2 rfl ?_
  refine k_arg (pc := 1283) C S 1 4 0 rfl rfl (by omega) dL_law_1283 dL_law_1284 dL_law_1286 (by decide) dL_law_1287 dL_law_1288 ?_
  refine k_arg (pc := 1289) C S 2 4 0 rfl rfl (by omega) dL_law_1289 dL_law_1290 dL_law_1292 (by decide) dL_law_1293 dL_law_1294 ?_
  refine k_arg (pc := 1295) C S 3 4 0 rfl rfl (by omega) dL_law_1295 dL_law_1296 dL_law_1298 (by decide) dL_law_1299 dL_law_1300 ?_
  refine k_arg (pc := 1301) C S 4 4 0 rfl rfl (by omega) dL_law_1301 dL_law_1302 dL_law_1304 (by decide) dL_law_1305 dL_law_1306 ?_
  refine cvF_L_131 (pc := 1307) C F hcs (c7_leave hM hB) rfl (by decide) cm_174 ⟨by decide, by decide⟩ rfl (Nat.le_of_ble_eq_true rfl) dL_law_1307 (fun r1307 M1307 h1307 => ?_)
  obtain ⟨U1, rfl, e7, h7⟩ := h1307
  refine k_icmp_eq (pc := 1310) (tgt := 1586) C dL_law_1310 (by decide) (fun _ => ?_) (fun c => absurd (e6.trans e7.symm) c)
  refine k_widen (cs' := 187 + (it + 1)) (ss' := 3613 + 6 * (it + 1)) (by omega) (by omega) ?_
  exact kk V1 U1 sc ia la (⟨⟨_, h6, h7, sLeave_TB hB _ _ _ _⟩, hF, hW, hU, hP, hO, hR, hS⟩)
end LW9
