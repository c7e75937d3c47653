section TB9
variable {l : Launch} {D : va_G} {ca : Nat → ClassId} {ad : Nat → Nat} {V U : Nat → Nat} {sc : Nat → Int32} {ia : Nat → Nat → Int32} {la : Nat → Nat → Int64}
set_option maxHeartbeats 4000000 in
set_option maxRecDepth 100000 in
theorem sL_times {T : Nat → Nat} (hT : RC V T) (hB : TB T) {N0 : Nat} {sa : Nat → Nat} (hl : l.stackTraces = false) (hN0 : ∀ i, i < 187 → N0 ≤ ad i) {x0 y0 w0 : Int32} {a0 b0 : Int64} : xMW l D (xty ca) yL_times cL_times 10 [(0, 16, 19, 13)] 8 650 [.ref (ad 0), .int x0, .int y0, .long a0, .long b0, .int w0, .ref (ad 186)] ad (cm ad ca (V, U, sc, ia, la)) N0 sa (fun r M' => ∃ V', RC V' (sTimes T x0 y0 a0 b0 w0).2 ∧ (if (sTimes T x0 y0 a0 b0 w0).1 = -5 then r = 1 ∧ M' = cm ad ca (V', U, sc, ia, la) else r = 0 ∧ M' = cm ad ca (V', U, sc, ia, va_up la 186 (vp_updL (la 186) 0 (sTimes T x0 y0 a0 b0 w0).1.toInt64)))) := by
  refine xMW.of hN0 (by decide) (Nat.le_of_ble_eq_true rfl) (fun z C E Y B9 => ?_)
  refine k_aload (pc := 0) C dL_times_0 6 rfl ?_
  refine k_iconst (pc := 2) (v := nI 0) C dL_times_2 (by decide) ?_
  refine k_aload_n (pc := 3) C dL_times_3 rfl 0 rfl ?_
  refine k_iload_n (pc := 4) C dL_times_4 rfl 1 rfl ?_
  refine k_iload_n (pc := 5) C dL_times_5 rfl 2 rfl ?_
  refine k_lload_n (pc := 6) C dL_times_6 rfl 3 rfl ?_
  refine k_lload (pc := 7) C dL_times_7 4 rfl ?_
  refine k_iload (pc := 9) C dL_times_9 5 rfl ?_
  refine k_callT (pc := 11) C E.F Y B9 (t6_times hT hB hl hN0) thM_times thN_times.1 thN_times.2.1 thN_times.2.2.1 thN_times.2.2.2 thD_times (by decide) cm_0 rfl (by decide) ⟨by decide, by decide⟩ rfl (Nat.le_of_ble_eq_true rfl) dL_times_11 (by decide) (by decide) thL_A thA_c (fun r11 M11 h11 => ?_) (fun q11 M11 h11 => ?_)
  · obtain ⟨c5, V1, rfl, h1, h2⟩ := h11
    refine k_i2l (pc := 14) C dL_times_14 rfl ?_
    refine k_last (pc := 15) C E (186) (by decide) cm_186 (0) rfl (by decide) (by decide) dL_times_15 ?_
    rw [cm_a186]
    refine k_goto (pc := 16) (tgt := 23) C dL_times_16 (by decide) ?_
    refine k_iconst (pc := 23) (v := nI 0) C dL_times_23 (by decide) ?_
    exact k_iret (pc := 24) C E ⟨_, _, rfl, rfl, ⟨V1, h2, by rw [if_neg c5, h1]; exact ⟨rfl, rfl⟩⟩⟩ dL_times_24
  · obtain ⟨c5, V1, rfl, h2⟩ := h11
    refine k_astore (pc := 19) (lv' := [(9, .ref (q11)), (0, .ref (ad (0))), (1, .int (x0)), (2, .int (y0)), (3, .long (a0)), (5, .long (b0)), (7, .int (w0)), (8, .ref (ad (186)))]) C dL_times_19 (by decide) rfl ?_
    refine k_iconst (pc := 21) (v := nI 1) C dL_times_21 (by decide) ?_
    exact k_iret (pc := 22) C E ⟨_, _, rfl, rfl, ⟨V1, h2, by rw [if_pos c5]; exact ⟨rfl, rfl⟩⟩⟩ dL_times_22
set_option maxHeartbeats 4000000 in
set_option maxRecDepth 100000 in
theorem sL_divide {T : Nat → Nat} (hT : RC V T) (hB : TB T) {N0 : Nat} {sa : Nat → Nat} (hl : l.stackTraces = false) (hN0 : ∀ i, i < 187 → N0 ≤ ad i) {x0 y0 t0 : Int32} : xMW l D (xty ca) yL_divide cL_divide 6 [(0, 12, 15, 13)] 8 650 [.ref (ad 0), .int x0, .int y0, .int t0, .ref (ad 186)] ad (cm ad ca (V, U, sc, ia, la)) N0 sa (fun r M' => ∃ V', RC V' (sDiv T x0 y0 t0).2 ∧ (if (sDiv T x0 y0 t0).1 = -5 then r = 1 ∧ M' = cm ad ca (V', U, sc, ia, la) else r = 0 ∧ M' = cm ad ca (V', U, sc, ia, va_up la 186 (vp_updL (la 186) 0 (sDiv T x0 y0 t0).1.toInt64)))) := by
  refine xMW.of hN0 (by decide) (Nat.le_of_ble_eq_true rfl) (fun z C E Y B9 => ?_)
  refine k_aload (pc := 0) C dL_divide_0 4 rfl ?_
  refine k_iconst (pc := 2) (v := nI 0) C dL_divide_2 (by decide) ?_
  refine k_aload_n (pc := 3) C dL_divide_3 rfl 0 rfl ?_
  refine k_iload_n (pc := 4) C dL_divide_4 rfl 1 rfl ?_
  refine k_iload_n (pc := 5) C dL_divide_5 rfl 2 rfl ?_
  refine k_iload_n (pc := 6) C dL_divide_6 rfl 3 rfl ?_
  refine k_callT (pc := 7) C E.F Y B9 (t6_divide hT hB hl hN0) thM_divide thN_divide.1 thN_divide.2.1 thN_divide.2.2.1 thN_divide.2.2.2 thD_divide (by decide) cm_0 rfl (by decide) ⟨by decide, by decide⟩ rfl (Nat.le_of_ble_eq_true rfl) dL_divide_7 (by decide) (by decide) thL_A thA_c (fun r7 M7 h7 => ?_) (fun q7 M7 h7 => ?_)
  · obtain ⟨c5, V1, rfl, h1, h2⟩ := h7
    refine k_i2l (pc := 10) C dL_divide_10 rfl ?_
    refine k_last (pc := 11) C E (186) (by decide) cm_186 (0) rfl (by decide) (by decide) dL_divide_11 ?_
    rw [cm_a186]
    refine k_goto (pc := 12) (tgt := 19) C dL_divide_12 (by decide) ?_
    refine k_iconst (pc := 19) (v := nI 0) C dL_divide_19 (by decide) ?_
    exact k_iret (pc := 20) C E ⟨_, _, rfl, rfl, ⟨V1, h2, by rw [if_neg c5, h1]; exact ⟨rfl, rfl⟩⟩⟩ dL_divide_20
  · obtain ⟨c5, V1, rfl, h2⟩ := h7
    refine k_astore (pc := 15) (lv' := [(5, .ref (q7)), (0, .ref (ad (0))), (1, .int (x0)), (2, .int (y0)), (3, .int (t0)), (4, .ref (ad (186)))]) C dL_divide_15 (by decide) rfl ?_
    refine k_iconst (pc := 17) (v := nI 1) C dL_divide_17 (by decide) ?_
    exact k_iret (pc := 18) C E ⟨_, _, rfl, rfl, ⟨V1, h2, by rw [if_pos c5]; exact ⟨rfl, rfl⟩⟩⟩ dL_divide_18
set_option maxHeartbeats 4000000 in
set_option maxRecDepth 100000 in
theorem sL_figure {T : Nat → Nat} (hT : RC V T) (hB : TB T) {N0 : Nat} {sa : Nat → Nat} (hl : l.stackTraces = false) (hN0 : ∀ i, i < 187 → N0 ≤ ad i) {x0 i0 : Int32} : xMW l D (xty ca) yL_figure cL_figure 5 [(0, 10, 13, 23)] 8 650 [.ref (ad 0), .int x0, .int i0, .ref (ad 186)] ad (cm ad ca (V, U, sc, ia, la)) N0 sa (fun r M' => ∃ V' sc' ia', RC V' T ∧ (∀ k, k ≠ 10 → sc' k = sc k) ∧ (∀ k, k ≠ 153 → ia' k = ia k) ∧ (if inR x0 16 then ∃ c, isND (T (rI x0)) c ∧ (if inR i0 c then r = 0 ∧ M' = cm ad ca (V', U, sc', ia', va_up la 186 (vp_updL (la 186) 0 (nI (T (rI x0) / 10 ^ rI i0 % 10)).toInt64)) else r = 1 ∧ M' = cm ad ca (V', U, sc', ia', la)) else r = 0 ∧ M' = cm ad ca (V', U, sc', ia', va_up la 186 (vp_updL (la 186) 0 (-1 : Int32).toInt64)))) := by
  refine xMW.of hN0 (by decide) (Nat.le_of_ble_eq_true rfl) (fun z C E Y B9 => ?_)
  refine k_aload_n (pc := 0) C dL_figure_0 rfl 3 rfl ?_
  refine k_iconst (pc := 1) (v := nI 0) C dL_figure_1 (by decide) ?_
  refine k_aload_n (pc := 2) C dL_figure_2 rfl 0 rfl ?_
  refine k_iload_n (pc := 3) C dL_figure_3 rfl 1 rfl ?_
  refine k_iload_n (pc := 4) C dL_figure_4 rfl 2 rfl ?_
  refine k_callT (pc := 5) C E.F Y B9 (t6_figure hT hB hl hN0) thM_figure thN_figure.1 thN_figure.2.1 thN_figure.2.2.1 thN_figure.2.2.2 thD_figure (by decide) cm_0 rfl (by decide) ⟨by decide, by decide⟩ rfl (Nat.le_of_ble_eq_true rfl) dL_figure_5 (by decide) (by decide) thL_X thX_c (fun r5 M5 h5 => ?_) (fun q5 M5 h5 => ?_)
  · obtain ⟨V1, s1, i1, rfl, h1, h2, h3, h4⟩ := h5
    refine k_i2l (pc := 8) C dL_figure_8 rfl ?_
    refine k_last (pc := 9) C E (186) (by decide) cm_186 (0) rfl (by decide) (by decide) dL_figure_9 ?_
    rw [cm_a186]
    refine k_goto (pc := 10) (tgt := 17) C dL_figure_10 (by decide) ?_
    refine k_iconst (pc := 17) (v := nI 0) C dL_figure_17 (by decide) ?_
    exact k_iret (pc := 18) C E ⟨_, _, rfl, rfl, ⟨V1, s1, i1, h1, h2, h3, by
  by_cases q : inR x0 16
  · rw [if_pos q] at h4 ⊢
    obtain ⟨c, g1, g2, g3⟩ := h4
    exact ⟨c, g1, by rw [if_pos g2, ← g3]; exact ⟨rfl, rfl⟩⟩
  · rw [if_neg q] at h4 ⊢
    rw [h4]
    exact ⟨rfl, rfl⟩⟩⟩ dL_figure_18
  · obtain ⟨V1, s1, i1, rfl, h1, h2, h3, h4, c, h5, h6⟩ := h5
    refine k_astore (pc := 13) (lv' := [(4, .ref (q5)), (0, .ref (ad (0))), (1, .int (x0)), (2, .int (i0)), (3, .ref (ad (186)))]) C dL_figure_13 (by decide) rfl ?_
    refine k_iconst (pc := 15) (v := nI 1) C dL_figure_15 (by decide) ?_
    exact k_iret (pc := 16) C E ⟨_, _, rfl, rfl, ⟨V1, s1, i1, h1, h2, h3, by rw [if_pos h4]; exact ⟨c, h5, by rw [if_neg h6]; exact ⟨rfl, rfl⟩⟩⟩⟩ dL_figure_16
set_option maxHeartbeats 4000000 in
set_option maxRecDepth 100000 in
theorem sL_out {N0 : Nat} {sa : Nat → Nat} (hl : l.stackTraces = false) (hN0 : ∀ i, i < 187 → N0 ≤ ad i) {n : Nat} (hn : sc 11 = nI n) (hn9 : n ≤ 120) {x0 : Int32} : xMW l D (xty ca) yL_out cL_out 4 [(0, 9, 12, 23)] 8 650 [.ref (ad 0), .int x0, .ref (ad 186)] ad (cm ad ca (V, U, sc, ia, la)) N0 sa (fun r M' => if inR x0 n then r = 0 ∧ M' = cm ad ca (V, U, sc, ia, va_up la 186 (vp_updL (la 186) 0 (ia 154 (rI x0)).toInt64)) else r = 1 ∧ M' = cm ad ca (V, U, sc, ia, la)) := by
  refine xMW.of hN0 (by decide) (Nat.le_of_ble_eq_true rfl) (fun z C E Y B9 => ?_)
  refine k_aload_n (pc := 0) C dL_out_0 rfl 2 rfl ?_
  refine k_iconst (pc := 1) (v := nI 0) C dL_out_1 (by decide) ?_
  refine k_aload_n (pc := 2) C dL_out_2 rfl 0 rfl ?_
  refine k_iload_n (pc := 3) C dL_out_3 rfl 1 rfl ?_
  refine k_callT (pc := 4) C E.F Y B9 (t6_out hl hN0 hn hn9) thM_out thN_out.1 thN_out.2.1 thN_out.2.2.1 thN_out.2.2.2 thD_out (by decide) cm_0 rfl (by decide) ⟨by decide, by decide⟩ rfl (Nat.le_of_ble_eq_true rfl) dL_out_4 (by decide) (by decide) thL_X thX_c (fun r4 M4 h4 => ?_) (fun q4 M4 h4 => ?_)
  · obtain ⟨c5, rfl, h1⟩ := h4
    refine k_i2l (pc := 7) C dL_out_7 rfl ?_
    refine k_last (pc := 8) C E (186) (by decide) cm_186 (0) rfl (by decide) (by decide) dL_out_8 ?_
    rw [cm_a186]
    refine k_goto (pc := 9) (tgt := 15) C dL_out_9 (by decide) ?_
    refine k_iconst (pc := 15) (v := nI 0) C dL_out_15 (by decide) ?_
    exact k_iret (pc := 16) C E ⟨_, _, rfl, rfl, by rw [if_pos c5, ← h1]; exact ⟨rfl, rfl⟩⟩ dL_out_16
  · obtain ⟨c5, rfl⟩ := h4
    refine k_astore_n (pc := 12) (lv' := [(3, .ref (q4)), (0, .ref (ad (0))), (1, .int (x0)), (2, .ref (ad (186)))]) C dL_out_12 rfl (by decide) rfl ?_
    refine k_iconst (pc := 13) (v := nI 1) C dL_out_13 (by decide) ?_
    exact k_iret (pc := 14) C E ⟨_, _, rfl, rfl, by rw [if_neg c5]; exact ⟨rfl, rfl⟩⟩ dL_out_14
end TB9
