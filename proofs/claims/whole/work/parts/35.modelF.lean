section MF
variable {l : Launch} {D : va_G} {ca : Nat → ClassId} {ad : Nat → Nat} {V U : Nat → Nat} {sc : Nat → Int32} {ia : Nat → Nat → Int32} {la : Nat → Nat → Int64}
set_option maxHeartbeats 4000000 in
set_option maxRecDepth 100000 in
/-- rounds -/
theorem c7_rounds {b w : Nat} (hb : b < 80) (hw : w ≤ 4) (b28 : 28 ≠ b) (hr : U 33 < U b) (hbb : U b ≤ 2 ^ 383) (hq : U 32 < 2 ^ 383) : xV l D (xty ca) yX7_rounds cX7_rounds 6 none 2 80 [.ref (ad 174), .int (nI b), .int (nI w)] ad (cm ad ca (V, U, sc, ia, la)) (fun M' => ∃ U', M' = cm ad ca (V, U', sc, ia, la) ∧ U' 32 = U 32 + (if gU w (U 32) (U 33) (U b) = true then 1 else 0) ∧ ∀ k, 28 ≠ k → 32 ≠ k → 35 ≠ k → U' k = U k) := by
  refine xM.of (by decide) (Nat.le_of_ble_eq_true rfl) (fun z C E => ?_)
  refine k_aload_n (pc := 0) C dX7_rounds_0 rfl 0 rfl ?_
  refine k_bipush (pc := 1) (v := nI 28) C dX7_rounds_1 (by decide) ?_
  refine k_bipush (pc := 3) (v := nI 33) C dX7_rounds_3 (by decide) ?_
  refine k_bipush (pc := 5) (v := nI 33) C dX7_rounds_5 (by decide) ?_
  refine cv_X7_66 (pc := 7) C E (c7_plus (t := 28) (a := 33) (b := 33) (by decide) (by decide) (by decide)) rfl (by decide) cm_174 (by decide) rfl (Nat.le_of_ble_eq_true rfl) dX7_rounds_7 (fun M7 h7 => ?_)
  subst h7
  obtain ⟨U1, hU1⟩ : ∃ W, W = va_up U (28) (U 33 + U 33) := ⟨_, rfl⟩
  rw [← hU1]
  have v1 : U1 (28) = U 33 + U 33 := by rw [hU1, ups]
  have f1 : ∀ k, 28 ≠ k → U1 k = U k := fun k hk => by rw [hU1, upn hk]
  refine k_aload_n (pc := 10) C dX7_rounds_10 rfl 0 rfl ?_
  refine k_bipush (pc := 11) (v := nI 28) C dX7_rounds_11 (by decide) ?_
  refine k_iload_n (pc := 13) C dX7_rounds_13 rfl 1 rfl ?_
  refine cv_X7_76 (pc := 14) C E (c7_compare (a := 28) (b := b) (by decide) hb (by rw [v1]; omega) (by rw [f1 b b28]; omega)) rfl (by decide) cm_174 (by decide) rfl (Nat.le_of_ble_eq_true rfl) dX7_rounds_14 (fun r14 M14 h14 => ?_)
  obtain ⟨rfl, rfl⟩ := h14
  rw [v1, f1 b b28]
  refine k_topi (fun hf ehf => ?_)
  refine k_istore_n (pc := 17) (lv' := [(3, .int (hf)), (0, .ref (ad (174))), (1, .int (nI b)), (2, .int (nI w))]) C dX7_rounds_17 rfl (by decide) rfl ?_
  refine k_aload_n (pc := 18) C dX7_rounds_18 rfl 1 rfl ?_
  refine gf_X7_7 (pc := 19) C (174) (by decide) cm_174 rfl dX7_rounds_19 ?_
  refine k_sipush (pc := 22) (v := nI (12 * 32 + 0)) C dX7_rounds_22 (by decide) ?_
  refine k_lald (pc := 25) C E (175) (by decide) cm_175 (12 * 32 + 0) rfl (by decide) (by decide) dX7_rounds_25 ?_
  refine k_eql (y := lN (U 32 / 4294967296 ^ 0 % 4294967296)) (by rw [mw_at _ (by decide) (by decide), f1 32 (by decide)]) ?_
  refine k_lconst (pc := 26) (v := lN 1) C dX7_rounds_26 (by decide) ?_
  refine k_land (pc := 27) C dX7_rounds_27 ?_
  refine k_eql (y := lN (U 32 / 4294967296 ^ 0 % 4294967296 % 2)) (g_mask (s := 1) (p := 2) rfl (by decide) (Nat.lt_trans (Nat.mod_lt _ (by decide)) (by decide))) ?_
  refine k_lconst (pc := 28) (v := lN 1) C dX7_rounds_28 (by decide) ?_
  refine k_lcmp (pc := 29) C dX7_rounds_29 ?_
  refine k_if_ne (pc := 30) (tgt := 37) C dX7_rounds_30 (by decide) (fun c30 => ?_) (fun c30 => ?_)
  · rw [c_eq (Nat.lt_trans (Nat.mod_lt _ (by decide)) (by decide)) (by decide)] at c30
    refine k_iconst (pc := 37) (v := nI 0) C dX7_rounds_37 (by decide) ?_
    refine k_istore (pc := 38) (lv' := [(4, .int (nI 0)), (3, .int (hf)), (0, .ref (ad (174))), (1, .int (nI b)), (2, .int (nI w))]) C dX7_rounds_38 (by decide) rfl ?_
    refine k_iload_n (pc := 40) C dX7_rounds_40 rfl 4 rfl ?_
    refine k_iconst (pc := 41) (v := nI 1) C dX7_rounds_41 (by decide) ?_
    refine k_icmp_ne (pc := 42) (tgt := 62) C dX7_rounds_42 (by decide) (fun c42 => ?_) (fun c42 => ?_)
    · rw [q_eq (by omega) (by decide)] at c42
      refine k_iload_n (pc := 62) C dX7_rounds_62 rfl 4 rfl ?_
      refine k_iconst (pc := 63) (v := nI 2) C dX7_rounds_63 (by decide) ?_
      refine k_icmp_ne (pc := 64) (tgt := 79) C dX7_rounds_64 (by decide) (fun c64 => ?_) (fun c64 => ?_)
      · rw [q_eq (by omega) (by decide)] at c64
        refine k_iload_n (pc := 79) C dX7_rounds_79 rfl 4 rfl ?_
        refine k_iconst (pc := 80) (v := nI 3) C dX7_rounds_80 (by decide) ?_
        refine k_icmp_ne (pc := 81) (tgt := 96) C dX7_rounds_81 (by decide) (fun c81 => ?_) (fun c81 => ?_)
        · rw [q_eq (by omega) (by decide)] at c81
          refine k_iload_n (pc := 96) C dX7_rounds_96 rfl 4 rfl ?_
          refine k_iconst (pc := 97) (v := nI 4) C dX7_rounds_97 (by decide) ?_
          refine k_icmp_ne (pc := 98) (tgt := 118) C dX7_rounds_98 (by decide) (fun c98 => ?_) (fun c98 => ?_)
          · rw [q_eq (by omega) (by decide)] at c98
            refine k_iconst (pc := 118) (v := nI 0) C dX7_rounds_118 (by decide) ?_
            refine k_istore (pc := 119) (lv' := [(5, .int (nI 0)), (4, .int (nI 0)), (3, .int (hf)), (0, .ref (ad (174))), (1, .int (nI b)), (2, .int (nI w))]) C dX7_rounds_119 (by decide) rfl ?_
            refine k_iload (pc := 121) C dX7_rounds_121 0 rfl ?_
            refine k_if_eq (pc := 123) (tgt := 132) C dX7_rounds_123 (by decide) (fun c123 => ?_) (fun c123 => ?_)
            · skip
              exact r_v (pc := 132) C E (by
  first
    | exact ⟨_, rfl, by rw [ups, if_pos ((gU_m hr hw).mpr (by unfold gM; omega))], fun k h1 h2 h3 => by rw [upn h2, upn h3, f1 k h1]⟩
    | exact ⟨_, rfl, by rw [f1 32 (by decide), if_neg (fun h => by have h8 := (gU_m hr hw).mp h; unfold gM at h8; omega), Nat.add_zero], fun k h1 h2 h3 => f1 k h1⟩) dX7_rounds_132
            · exact absurd rfl c123
          · rw [q_eq (by omega) (by decide)] at c98
            refine k_iload_n (pc := 101) C dX7_rounds_101 rfl 1 rfl ?_
            refine k_if_gt (pc := 102) (tgt := 114) C dX7_rounds_102 (by decide) (fun c102 => ?_) (fun c102 => ?_)
            · rw [ehf, cmp_g0] at c102
              refine k_iconst (pc := 114) (v := nI 1) C dX7_rounds_114 (by decide) ?_
              refine k_goto (pc := 115) (tgt := 119) C dX7_rounds_115 (by decide) ?_
              refine k_istore (pc := 119) (lv' := [(5, .int (nI 1)), (4, .int (nI 0)), (3, .int (hf)), (0, .ref (ad (174))), (1, .int (nI b)), (2, .int (nI w))]) C dX7_rounds_119 (by decide) rfl ?_
              refine k_iload (pc := 121) C dX7_rounds_121 0 rfl ?_
              refine k_if_eq (pc := 123) (tgt := 132) C dX7_rounds_123 (by decide) (fun c123 => ?_) (fun c123 => ?_)
              · exact absurd c123 (by decide)
              · skip
                refine k_aload_n (pc := 126) C dX7_rounds_126 rfl 3 rfl ?_
                refine k_bipush (pc := 127) (v := nI 32) C dX7_rounds_127 (by decide) ?_
                refine cv_X7_102 (pc := 129) C E (c7_one (t := 32) (by decide) (by decide)) rfl (by decide) cm_174 (by decide) rfl (Nat.le_of_ble_eq_true rfl) dX7_rounds_129 (fun M129 h129 => ?_)
                subst h129
                rw [f1 32 (by decide)]
                exact r_v (pc := 132) C E (by
  first
    | exact ⟨_, rfl, by rw [ups, if_pos ((gU_m hr hw).mpr (by unfold gM; omega))], fun k h1 h2 h3 => by rw [upn h2, upn h3, f1 k h1]⟩
    | exact ⟨_, rfl, by rw [f1 32 (by decide), if_neg (fun h => by have h8 := (gU_m hr hw).mp h; unfold gM at h8; omega), Nat.add_zero], fun k h1 h2 h3 => f1 k h1⟩) dX7_rounds_132
            · rw [ehf, cmp_g0] at c102
              refine k_iload_n (pc := 105) C dX7_rounds_105 rfl 1 rfl ?_
              refine k_if_ne (pc := 106) (tgt := 118) C dX7_rounds_106 (by decide) (fun c106 => ?_) (fun c106 => ?_)
              · rw [ehf, cmp_e0] at c106
                refine k_iconst (pc := 118) (v := nI 0) C dX7_rounds_118 (by decide) ?_
                refine k_istore (pc := 119) (lv' := [(5, .int (nI 0)), (4, .int (nI 0)), (3, .int (hf)), (0, .ref (ad (174))), (1, .int (nI b)), (2, .int (nI w))]) C dX7_rounds_119 (by decide) rfl ?_
                refine k_iload (pc := 121) C dX7_rounds_121 0 rfl ?_
                refine k_if_eq (pc := 123) (tgt := 132) C dX7_rounds_123 (by decide) (fun c123 => ?_) (fun c123 => ?_)
                · skip
                  exact r_v (pc := 132) C E (by
  first
    | exact ⟨_, rfl, by rw [ups, if_pos ((gU_m hr hw).mpr (by unfold gM; omega))], fun k h1 h2 h3 => by rw [upn h2, upn h3, f1 k h1]⟩
    | exact ⟨_, rfl, by rw [f1 32 (by decide), if_neg (fun h => by have h8 := (gU_m hr hw).mp h; unfold gM at h8; omega), Nat.add_zero], fun k h1 h2 h3 => f1 k h1⟩) dX7_rounds_132
                · exact absurd rfl c123
              · rw [ehf, cmp_e0] at c106
                refine k_iload (pc := 109) C dX7_rounds_109 0 rfl ?_
                refine k_if_eq (pc := 111) (tgt := 118) C dX7_rounds_111 (by decide) (fun c111 => ?_) (fun c111 => ?_)
                · skip
                  refine k_iconst (pc := 118) (v := nI 0) C dX7_rounds_118 (by decide) ?_
                  refine k_istore (pc := 119) (lv' := [(5, .int (nI 0)), (4, .int (nI 0)), (3, .int (hf)), (0, .ref (ad (174))), (1, .int (nI b)), (2, .int (nI w))]) C dX7_rounds_119 (by decide) rfl ?_
                  refine k_iload (pc := 121) C dX7_rounds_121 0 rfl ?_
                  refine k_if_eq (pc := 123) (tgt := 132) C dX7_rounds_123 (by decide) (fun c123 => ?_) (fun c123 => ?_)
                  · skip
                    exact r_v (pc := 132) C E (by
  first
    | exact ⟨_, rfl, by rw [ups, if_pos ((gU_m hr hw).mpr (by unfold gM; omega))], fun k h1 h2 h3 => by rw [upn h2, upn h3, f1 k h1]⟩
    | exact ⟨_, rfl, by rw [f1 32 (by decide), if_neg (fun h => by have h8 := (gU_m hr hw).mp h; unfold gM at h8; omega), Nat.add_zero], fun k h1 h2 h3 => f1 k h1⟩) dX7_rounds_132
                  · exact absurd rfl c123
                · exact absurd rfl c111
        · rw [q_eq (by omega) (by decide)] at c81
          refine k_iload_n (pc := 84) C dX7_rounds_84 rfl 1 rfl ?_
          refine k_if_le (pc := 85) (tgt := 92) C dX7_rounds_85 (by decide) (fun c85 => ?_) (fun c85 => ?_)
          · rw [ehf, cmp_le0] at c85
            refine k_iconst (pc := 92) (v := nI 0) C dX7_rounds_92 (by decide) ?_
            refine k_goto (pc := 93) (tgt := 119) C dX7_rounds_93 (by decide) ?_
            refine k_istore (pc := 119) (lv' := [(5, .int (nI 0)), (4, .int (nI 0)), (3, .int (hf)), (0, .ref (ad (174))), (1, .int (nI b)), (2, .int (nI w))]) C dX7_rounds_119 (by decide) rfl ?_
            refine k_iload (pc := 121) C dX7_rounds_121 0 rfl ?_
            refine k_if_eq (pc := 123) (tgt := 132) C dX7_rounds_123 (by decide) (fun c123 => ?_) (fun c123 => ?_)
            · skip
              exact r_v (pc := 132) C E (by
  first
    | exact ⟨_, rfl, by rw [ups, if_pos ((gU_m hr hw).mpr (by unfold gM; omega))], fun k h1 h2 h3 => by rw [upn h2, upn h3, f1 k h1]⟩
    | exact ⟨_, rfl, by rw [f1 32 (by decide), if_neg (fun h => by have h8 := (gU_m hr hw).mp h; unfold gM at h8; omega), Nat.add_zero], fun k h1 h2 h3 => f1 k h1⟩) dX7_rounds_132
            · exact absurd rfl c123
          · rw [ehf, cmp_le0] at c85
            refine k_iconst (pc := 88) (v := nI 1) C dX7_rounds_88 (by decide) ?_
            refine k_goto (pc := 89) (tgt := 119) C dX7_rounds_89 (by decide) ?_
            refine k_istore (pc := 119) (lv' := [(5, .int (nI 1)), (4, .int (nI 0)), (3, .int (hf)), (0, .ref (ad (174))), (1, .int (nI b)), (2, .int (nI w))]) C dX7_rounds_119 (by decide) rfl ?_
            refine k_iload (pc := 121) C dX7_rounds_121 0 rfl ?_
            refine k_if_eq (pc := 123) (tgt := 132) C dX7_rounds_123 (by decide) (fun c123 => ?_) (fun c123 => ?_)
            · exact absurd c123 (by decide)
            · skip
              refine k_aload_n (pc := 126) C dX7_rounds_126 rfl 3 rfl ?_
              refine k_bipush (pc := 127) (v := nI 32) C dX7_rounds_127 (by decide) ?_
              refine cv_X7_102 (pc := 129) C E (c7_one (t := 32) (by decide) (by decide)) rfl (by decide) cm_174 (by decide) rfl (Nat.le_of_ble_eq_true rfl) dX7_rounds_129 (fun M129 h129 => ?_)
              subst h129
              rw [f1 32 (by decide)]
              exact r_v (pc := 132) C E (by
  first
    | exact ⟨_, rfl, by rw [ups, if_pos ((gU_m hr hw).mpr (by unfold gM; omega))], fun k h1 h2 h3 => by rw [upn h2, upn h3, f1 k h1]⟩
    | exact ⟨_, rfl, by rw [f1 32 (by decide), if_neg (fun h => by have h8 := (gU_m hr hw).mp h; unfold gM at h8; omega), Nat.add_zero], fun k h1 h2 h3 => f1 k h1⟩) dX7_rounds_132
      · rw [q_eq (by omega) (by decide)] at c64
        refine k_iload_n (pc := 67) C dX7_rounds_67 rfl 1 rfl ?_
        refine k_if_lt (pc := 68) (tgt := 75) C dX7_rounds_68 (by decide) (fun c68 => ?_) (fun c68 => ?_)
        · rw [ehf, cmp_l0] at c68
          refine k_iconst (pc := 75) (v := nI 0) C dX7_rounds_75 (by decide) ?_
          refine k_goto (pc := 76) (tgt := 119) C dX7_rounds_76 (by decide) ?_
          refine k_istore (pc := 119) (lv' := [(5, .int (nI 0)), (4, .int (nI 0)), (3, .int (hf)), (0, .ref (ad (174))), (1, .int (nI b)), (2, .int (nI w))]) C dX7_rounds_119 (by decide) rfl ?_
          refine k_iload (pc := 121) C dX7_rounds_121 0 rfl ?_
          refine k_if_eq (pc := 123) (tgt := 132) C dX7_rounds_123 (by decide) (fun c123 => ?_) (fun c123 => ?_)
          · skip
            exact r_v (pc := 132) C E (by
  first
    | exact ⟨_, rfl, by rw [ups, if_pos ((gU_m hr hw).mpr (by unfold gM; omega))], fun k h1 h2 h3 => by rw [upn h2, upn h3, f1 k h1]⟩
    | exact ⟨_, rfl, by rw [f1 32 (by decide), if_neg (fun h => by have h8 := (gU_m hr hw).mp h; unfold gM at h8; omega), Nat.add_zero], fun k h1 h2 h3 => f1 k h1⟩) dX7_rounds_132
          · exact absurd rfl c123
        · rw [ehf, cmp_l0] at c68
          refine k_iconst (pc := 71) (v := nI 1) C dX7_rounds_71 (by decide) ?_
          refine k_goto (pc := 72) (tgt := 119) C dX7_rounds_72 (by decide) ?_
          refine k_istore (pc := 119) (lv' := [(5, .int (nI 1)), (4, .int (nI 0)), (3, .int (hf)), (0, .ref (ad (174))), (1, .int (nI b)), (2, .int (nI w))]) C dX7_rounds_119 (by decide) rfl ?_
          refine k_iload (pc := 121) C dX7_rounds_121 0 rfl ?_
          refine k_if_eq (pc := 123) (tgt := 132) C dX7_rounds_123 (by decide) (fun c123 => ?_) (fun c123 => ?_)
          · exact absurd c123 (by decide)
          · skip
            refine k_aload_n (pc := 126) C dX7_rounds_126 rfl 3 rfl ?_
            refine k_bipush (pc := 127) (v := nI 32) C dX7_rounds_127 (by decide) ?_
            refine cv_X7_102 (pc := 129) C E (c7_one (t := 32) (by decide) (by decide)) rfl (by decide) cm_174 (by decide) rfl (Nat.le_of_ble_eq_true rfl) dX7_rounds_129 (fun M129 h129 => ?_)
            subst h129
            rw [f1 32 (by decide)]
            exact r_v (pc := 132) C E (by
  first
    | exact ⟨_, rfl, by rw [ups, if_pos ((gU_m hr hw).mpr (by unfold gM; omega))], fun k h1 h2 h3 => by rw [upn h2, upn h3, f1 k h1]⟩
    | exact ⟨_, rfl, by rw [f1 32 (by decide), if_neg (fun h => by have h8 := (gU_m hr hw).mp h; unfold gM at h8; omega), Nat.add_zero], fun k h1 h2 h3 => f1 k h1⟩) dX7_rounds_132
    · rw [q_eq (by omega) (by decide)] at c42
      refine k_aload_n (pc := 45) C dX7_rounds_45 rfl 2 rfl ?_
      refine k_bipush (pc := 46) (v := nI 33) C dX7_rounds_46 (by decide) ?_
      refine cv_X7_99 (pc := 48) C E (c7_isZero (a := 33) (by decide) (by rw [f1 33 (by decide)]; omega)) rfl (by decide) cm_174 (by decide) rfl (Nat.le_of_ble_eq_true rfl) dX7_rounds_48 (fun r48 M48 h48 => ?_)
      obtain ⟨rfl, rfl⟩ := h48
      rw [f1 33 (by decide)]
      refine k_if_ne (pc := 51) (tgt := 58) C dX7_rounds_51 (by decide) (fun c51 => ?_) (fun c51 => ?_)
      · simp only [b01, Decidable.not_not] at c51
        refine k_iconst (pc := 58) (v := nI 0) C dX7_rounds_58 (by decide) ?_
        refine k_goto (pc := 59) (tgt := 119) C dX7_rounds_59 (by decide) ?_
        refine k_istore (pc := 119) (lv' := [(5, .int (nI 0)), (4, .int (nI 0)), (3, .int (hf)), (0, .ref (ad (174))), (1, .int (nI b)), (2, .int (nI w))]) C dX7_rounds_119 (by decide) rfl ?_
        refine k_iload (pc := 121) C dX7_rounds_121 0 rfl ?_
        refine k_if_eq (pc := 123) (tgt := 132) C dX7_rounds_123 (by decide) (fun c123 => ?_) (fun c123 => ?_)
        · skip
          exact r_v (pc := 132) C E (by
  first
    | exact ⟨_, rfl, by rw [ups, if_pos ((gU_m hr hw).mpr (by unfold gM; omega))], fun k h1 h2 h3 => by rw [upn h2, upn h3, f1 k h1]⟩
    | exact ⟨_, rfl, by rw [f1 32 (by decide), if_neg (fun h => by have h8 := (gU_m hr hw).mp h; unfold gM at h8; omega), Nat.add_zero], fun k h1 h2 h3 => f1 k h1⟩) dX7_rounds_132
        · exact absurd rfl c123
      · simp only [b01, Decidable.not_not] at c51
        refine k_iconst (pc := 54) (v := nI 1) C dX7_rounds_54 (by decide) ?_
        refine k_goto (pc := 55) (tgt := 119) C dX7_rounds_55 (by decide) ?_
        refine k_istore (pc := 119) (lv' := [(5, .int (nI 1)), (4, .int (nI 0)), (3, .int (hf)), (0, .ref (ad (174))), (1, .int (nI b)), (2, .int (nI w))]) C dX7_rounds_119 (by decide) rfl ?_
        refine k_iload (pc := 121) C dX7_rounds_121 0 rfl ?_
        refine k_if_eq (pc := 123) (tgt := 132) C dX7_rounds_123 (by decide) (fun c123 => ?_) (fun c123 => ?_)
        · exact absurd c123 (by decide)
        · skip
          refine k_aload_n (pc := 126) C dX7_rounds_126 rfl 3 rfl ?_
          refine k_bipush (pc := 127) (v := nI 32) C dX7_rounds_127 (by decide) ?_
          refine cv_X7_102 (pc := 129) C E (c7_one (t := 32) (by decide) (by decide)) rfl (by decide) cm_174 (by decide) rfl (Nat.le_of_ble_eq_true rfl) dX7_rounds_129 (fun M129 h129 => ?_)
          subst h129
          rw [f1 32 (by decide)]
          exact r_v (pc := 132) C E (by
  first
    | exact ⟨_, rfl, by rw [ups, if_pos ((gU_m hr hw).mpr (by unfold gM; omega))], fun k h1 h2 h3 => by rw [upn h2, upn h3, f1 k h1]⟩
    | exact ⟨_, rfl, by rw [f1 32 (by decide), if_neg (fun h => by have h8 := (gU_m hr hw).mp h; unfold gM at h8; omega), Nat.add_zero], fun k h1 h2 h3 => f1 k h1⟩) dX7_rounds_132
  · rw [c_eq (Nat.lt_trans (Nat.mod_lt _ (by decide)) (by decide)) (by decide)] at c30
    refine k_iconst (pc := 33) (v := nI 1) C dX7_rounds_33 (by decide) ?_
    refine k_goto (pc := 34) (tgt := 38) C dX7_rounds_34 (by decide) ?_
    refine k_istore (pc := 38) (lv' := [(4, .int (nI 1)), (3, .int (hf)), (0, .ref (ad (174))), (1, .int (nI b)), (2, .int (nI w))]) C dX7_rounds_38 (by decide) rfl ?_
    refine k_iload_n (pc := 40) C dX7_rounds_40 rfl 4 rfl ?_
    refine k_iconst (pc := 41) (v := nI 1) C dX7_rounds_41 (by decide) ?_
    refine k_icmp_ne (pc := 42) (tgt := 62) C dX7_rounds_42 (by decide) (fun c42 => ?_) (fun c42 => ?_)
    · rw [q_eq (by omega) (by decide)] at c42
      refine k_iload_n (pc := 62) C dX7_rounds_62 rfl 4 rfl ?_
      refine k_iconst (pc := 63) (v := nI 2) C dX7_rounds_63 (by decide) ?_
      refine k_icmp_ne (pc := 64) (tgt := 79) C dX7_rounds_64 (by decide) (fun c64 => ?_) (fun c64 => ?_)
      · rw [q_eq (by omega) (by decide)] at c64
        refine k_iload_n (pc := 79) C dX7_rounds_79 rfl 4 rfl ?_
        refine k_iconst (pc := 80) (v := nI 3) C dX7_rounds_80 (by decide) ?_
        refine k_icmp_ne (pc := 81) (tgt := 96) C dX7_rounds_81 (by decide) (fun c81 => ?_) (fun c81 => ?_)
        · rw [q_eq (by omega) (by decide)] at c81
          refine k_iload_n (pc := 96) C dX7_rounds_96 rfl 4 rfl ?_
          refine k_iconst (pc := 97) (v := nI 4) C dX7_rounds_97 (by decide) ?_
          refine k_icmp_ne (pc := 98) (tgt := 118) C dX7_rounds_98 (by decide) (fun c98 => ?_) (fun c98 => ?_)
          · rw [q_eq (by omega) (by decide)] at c98
            refine k_iconst (pc := 118) (v := nI 0) C dX7_rounds_118 (by decide) ?_
            refine k_istore (pc := 119) (lv' := [(5, .int (nI 0)), (4, .int (nI 1)), (3, .int (hf)), (0, .ref (ad (174))), (1, .int (nI b)), (2, .int (nI w))]) C dX7_rounds_119 (by decide) rfl ?_
            refine k_iload (pc := 121) C dX7_rounds_121 0 rfl ?_
            refine k_if_eq (pc := 123) (tgt := 132) C dX7_rounds_123 (by decide) (fun c123 => ?_) (fun c123 => ?_)
            · skip
              exact r_v (pc := 132) C E (by
  first
    | exact ⟨_, rfl, by rw [ups, if_pos ((gU_m hr hw).mpr (by unfold gM; omega))], fun k h1 h2 h3 => by rw [upn h2, upn h3, f1 k h1]⟩
    | exact ⟨_, rfl, by rw [f1 32 (by decide), if_neg (fun h => by have h8 := (gU_m hr hw).mp h; unfold gM at h8; omega), Nat.add_zero], fun k h1 h2 h3 => f1 k h1⟩) dX7_rounds_132
            · exact absurd rfl c123
          · rw [q_eq (by omega) (by decide)] at c98
            refine k_iload_n (pc := 101) C dX7_rounds_101 rfl 1 rfl ?_
            refine k_if_gt (pc := 102) (tgt := 114) C dX7_rounds_102 (by decide) (fun c102 => ?_) (fun c102 => ?_)
            · rw [ehf, cmp_g0] at c102
              refine k_iconst (pc := 114) (v := nI 1) C dX7_rounds_114 (by decide) ?_
              refine k_goto (pc := 115) (tgt := 119) C dX7_rounds_115 (by decide) ?_
              refine k_istore (pc := 119) (lv' := [(5, .int (nI 1)), (4, .int (nI 1)), (3, .int (hf)), (0, .ref (ad (174))), (1, .int (nI b)), (2, .int (nI w))]) C dX7_rounds_119 (by decide) rfl ?_
              refine k_iload (pc := 121) C dX7_rounds_121 0 rfl ?_
              refine k_if_eq (pc := 123) (tgt := 132) C dX7_rounds_123 (by decide) (fun c123 => ?_) (fun c123 => ?_)
              · exact absurd c123 (by decide)
              · skip
                refine k_aload_n (pc := 126) C dX7_rounds_126 rfl 3 rfl ?_
                refine k_bipush (pc := 127) (v := nI 32) C dX7_rounds_127 (by decide) ?_
                refine cv_X7_102 (pc := 129) C E (c7_one (t := 32) (by decide) (by decide)) rfl (by decide) cm_174 (by decide) rfl (Nat.le_of_ble_eq_true rfl) dX7_rounds_129 (fun M129 h129 => ?_)
                subst h129
                rw [f1 32 (by decide)]
                exact r_v (pc := 132) C E (by
  first
    | exact ⟨_, rfl, by rw [ups, if_pos ((gU_m hr hw).mpr (by unfold gM; omega))], fun k h1 h2 h3 => by rw [upn h2, upn h3, f1 k h1]⟩
    | exact ⟨_, rfl, by rw [f1 32 (by decide), if_neg (fun h => by have h8 := (gU_m hr hw).mp h; unfold gM at h8; omega), Nat.add_zero], fun k h1 h2 h3 => f1 k h1⟩) dX7_rounds_132
            · rw [ehf, cmp_g0] at c102
              refine k_iload_n (pc := 105) C dX7_rounds_105 rfl 1 rfl ?_
              refine k_if_ne (pc := 106) (tgt := 118) C dX7_rounds_106 (by decide) (fun c106 => ?_) (fun c106 => ?_)
              · rw [ehf, cmp_e0] at c106
                refine k_iconst (pc := 118) (v := nI 0) C dX7_rounds_118 (by decide) ?_
                refine k_istore (pc := 119) (lv' := [(5, .int (nI 0)), (4, .int (nI 1)), (3, .int (hf)), (0, .ref (ad (174))), (1, .int (nI b)), (2, .int (nI w))]) C dX7_rounds_119 (by decide) rfl ?_
                refine k_iload (pc := 121) C dX7_rounds_121 0 rfl ?_
                refine k_if_eq (pc := 123) (tgt := 132) C dX7_rounds_123 (by decide) (fun c123 => ?_) (fun c123 => ?_)
                · skip
                  exact r_v (pc := 132) C E (by
  first
    | exact ⟨_, rfl, by rw [ups, if_pos ((gU_m hr hw).mpr (by unfold gM; omega))], fun k h1 h2 h3 => by rw [upn h2, upn h3, f1 k h1]⟩
    | exact ⟨_, rfl, by rw [f1 32 (by decide), if_neg (fun h => by have h8 := (gU_m hr hw).mp h; unfold gM at h8; omega), Nat.add_zero], fun k h1 h2 h3 => f1 k h1⟩) dX7_rounds_132
                · exact absurd rfl c123
              · rw [ehf, cmp_e0] at c106
                refine k_iload (pc := 109) C dX7_rounds_109 0 rfl ?_
                refine k_if_eq (pc := 111) (tgt := 118) C dX7_rounds_111 (by decide) (fun c111 => ?_) (fun c111 => ?_)
                · exact absurd c111 (by decide)
                · skip
                  refine k_iconst (pc := 114) (v := nI 1) C dX7_rounds_114 (by decide) ?_
                  refine k_goto (pc := 115) (tgt := 119) C dX7_rounds_115 (by decide) ?_
                  refine k_istore (pc := 119) (lv' := [(5, .int (nI 1)), (4, .int (nI 1)), (3, .int (hf)), (0, .ref (ad (174))), (1, .int (nI b)), (2, .int (nI w))]) C dX7_rounds_119 (by decide) rfl ?_
                  refine k_iload (pc := 121) C dX7_rounds_121 0 rfl ?_
                  refine k_if_eq (pc := 123) (tgt := 132) C dX7_rounds_123 (by decide) (fun c123 => ?_) (fun c123 => ?_)
                  · exact absurd c123 (by decide)
                  · skip
                    refine k_aload_n (pc := 126) C dX7_rounds_126 rfl 3 rfl ?_
                    refine k_bipush (pc := 127) (v := nI 32) C dX7_rounds_127 (by decide) ?_
                    refine cv_X7_102 (pc := 129) C E (c7_one (t := 32) (by decide) (by decide)) rfl (by decide) cm_174 (by decide) rfl (Nat.le_of_ble_eq_true rfl) dX7_rounds_129 (fun M129 h129 => ?_)
                    subst h129
                    rw [f1 32 (by decide)]
                    exact r_v (pc := 132) C E (by
  first
    | exact ⟨_, rfl, by rw [ups, if_pos ((gU_m hr hw).mpr (by unfold gM; omega))], fun k h1 h2 h3 => by rw [upn h2, upn h3, f1 k h1]⟩
    | exact ⟨_, rfl, by rw [f1 32 (by decide), if_neg (fun h => by have h8 := (gU_m hr hw).mp h; unfold gM at h8; omega), Nat.add_zero], fun k h1 h2 h3 => f1 k h1⟩) dX7_rounds_132
        · rw [q_eq (by omega) (by decide)] at c81
          refine k_iload_n (pc := 84) C dX7_rounds_84 rfl 1 rfl ?_
          refine k_if_le (pc := 85) (tgt := 92) C dX7_rounds_85 (by decide) (fun c85 => ?_) (fun c85 => ?_)
          · rw [ehf, cmp_le0] at c85
            refine k_iconst (pc := 92) (v := nI 0) C dX7_rounds_92 (by decide) ?_
            refine k_goto (pc := 93) (tgt := 119) C dX7_rounds_93 (by decide) ?_
            refine k_istore (pc := 119) (lv' := [(5, .int (nI 0)), (4, .int (nI 1)), (3, .int (hf)), (0, .ref (ad (174))), (1, .int (nI b)), (2, .int (nI w))]) C dX7_rounds_119 (by decide) rfl ?_
            refine k_iload (pc := 121) C dX7_rounds_121 0 rfl ?_
            refine k_if_eq (pc := 123) (tgt := 132) C dX7_rounds_123 (by decide) (fun c123 => ?_) (fun c123 => ?_)
            · skip
              exact r_v (pc := 132) C E (by
  first
    | exact ⟨_, rfl, by rw [ups, if_pos ((gU_m hr hw).mpr (by unfold gM; omega))], fun k h1 h2 h3 => by rw [upn h2, upn h3, f1 k h1]⟩
    | exact ⟨_, rfl, by rw [f1 32 (by decide), if_neg (fun h => by have h8 := (gU_m hr hw).mp h; unfold gM at h8; omega), Nat.add_zero], fun k h1 h2 h3 => f1 k h1⟩) dX7_rounds_132
            · exact absurd rfl c123
          · rw [ehf, cmp_le0] at c85
            refine k_iconst (pc := 88) (v := nI 1) C dX7_rounds_88 (by decide) ?_
            refine k_goto (pc := 89) (tgt := 119) C dX7_rounds_89 (by decide) ?_
            refine k_istore (pc := 119) (lv' := [(5, .int (nI 1)), (4, .int (nI 1)), (3, .int (hf)), (0, .ref (ad (174))), (1, .int (nI b)), (2, .int (nI w))]) C dX7_rounds_119 (by decide) rfl ?_
            refine k_iload (pc := 121) C dX7_rounds_121 0 rfl ?_
            refine k_if_eq (pc := 123) (tgt := 132) C dX7_rounds_123 (by decide) (fun c123 => ?_) (fun c123 => ?_)
            · exact absurd c123 (by decide)
            · skip
              refine k_aload_n (pc := 126) C dX7_rounds_126 rfl 3 rfl ?_
              refine k_bipush (pc := 127) (v := nI 32) C dX7_rounds_127 (by decide) ?_
              refine cv_X7_102 (pc := 129) C E (c7_one (t := 32) (by decide) (by decide)) rfl (by decide) cm_174 (by decide) rfl (Nat.le_of_ble_eq_true rfl) dX7_rounds_129 (fun M129 h129 => ?_)
              subst h129
              rw [f1 32 (by decide)]
              exact r_v (pc := 132) C E (by
  first
    | exact ⟨_, rfl, by rw [ups, if_pos ((gU_m hr hw).mpr (by unfold gM; omega))], fun k h1 h2 h3 => by rw [upn h2, upn h3, f1 k h1]⟩
    | exact ⟨_, rfl, by rw [f1 32 (by decide), if_neg (fun h => by have h8 := (gU_m hr hw).mp h; unfold gM at h8; omega), Nat.add_zero], fun k h1 h2 h3 => f1 k h1⟩) dX7_rounds_132
      · rw [q_eq (by omega) (by decide)] at c64
        refine k_iload_n (pc := 67) C dX7_rounds_67 rfl 1 rfl ?_
        refine k_if_lt (pc := 68) (tgt := 75) C dX7_rounds_68 (by decide) (fun c68 => ?_) (fun c68 => ?_)
        · rw [ehf, cmp_l0] at c68
          refine k_iconst (pc := 75) (v := nI 0) C dX7_rounds_75 (by decide) ?_
          refine k_goto (pc := 76) (tgt := 119) C dX7_rounds_76 (by decide) ?_
          refine k_istore (pc := 119) (lv' := [(5, .int (nI 0)), (4, .int (nI 1)), (3, .int (hf)), (0, .ref (ad (174))), (1, .int (nI b)), (2, .int (nI w))]) C dX7_rounds_119 (by decide) rfl ?_
          refine k_iload (pc := 121) C dX7_rounds_121 0 rfl ?_
          refine k_if_eq (pc := 123) (tgt := 132) C dX7_rounds_123 (by decide) (fun c123 => ?_) (fun c123 => ?_)
          · skip
            exact r_v (pc := 132) C E (by
  first
    | exact ⟨_, rfl, by rw [ups, if_pos ((gU_m hr hw).mpr (by unfold gM; omega))], fun k h1 h2 h3 => by rw [upn h2, upn h3, f1 k h1]⟩
    | exact ⟨_, rfl, by rw [f1 32 (by decide), if_neg (fun h => by have h8 := (gU_m hr hw).mp h; unfold gM at h8; omega), Nat.add_zero], fun k h1 h2 h3 => f1 k h1⟩) dX7_rounds_132
          · exact absurd rfl c123
        · rw [ehf, cmp_l0] at c68
          refine k_iconst (pc := 71) (v := nI 1) C dX7_rounds_71 (by decide) ?_
          refine k_goto (pc := 72) (tgt := 119) C dX7_rounds_72 (by decide) ?_
          refine k_istore (pc := 119) (lv' := [(5, .int (nI 1)), (4, .int (nI 1)), (3, .int (hf)), (0, .ref (ad (174))), (1, .int (nI b)), (2, .int (nI w))]) C dX7_rounds_119 (by decide) rfl ?_
          refine k_iload (pc := 121) C dX7_rounds_121 0 rfl ?_
          refine k_if_eq (pc := 123) (tgt := 132) C dX7_rounds_123 (by decide) (fun c123 => ?_) (fun c123 => ?_)
          · exact absurd c123 (by decide)
          · skip
            refine k_aload_n (pc := 126) C dX7_rounds_126 rfl 3 rfl ?_
            refine k_bipush (pc := 127) (v := nI 32) C dX7_rounds_127 (by decide) ?_
            refine cv_X7_102 (pc := 129) C E (c7_one (t := 32) (by decide) (by decide)) rfl (by decide) cm_174 (by decide) rfl (Nat.le_of_ble_eq_true rfl) dX7_rounds_129 (fun M129 h129 => ?_)
            subst h129
            rw [f1 32 (by decide)]
            exact r_v (pc := 132) C E (by
  first
    | exact ⟨_, rfl, by rw [ups, if_pos ((gU_m hr hw).mpr (by unfold gM; omega))], fun k h1 h2 h3 => by rw [upn h2, upn h3, f1 k h1]⟩
    | exact ⟨_, rfl, by rw [f1 32 (by decide), if_neg (fun h => by have h8 := (gU_m hr hw).mp h; unfold gM at h8; omega), Nat.add_zero], fun k h1 h2 h3 => f1 k h1⟩) dX7_rounds_132
    · rw [q_eq (by omega) (by decide)] at c42
      refine k_aload_n (pc := 45) C dX7_rounds_45 rfl 2 rfl ?_
      refine k_bipush (pc := 46) (v := nI 33) C dX7_rounds_46 (by decide) ?_
      refine cv_X7_99 (pc := 48) C E (c7_isZero (a := 33) (by decide) (by rw [f1 33 (by decide)]; omega)) rfl (by decide) cm_174 (by decide) rfl (Nat.le_of_ble_eq_true rfl) dX7_rounds_48 (fun r48 M48 h48 => ?_)
      obtain ⟨rfl, rfl⟩ := h48
      rw [f1 33 (by decide)]
      refine k_if_ne (pc := 51) (tgt := 58) C dX7_rounds_51 (by decide) (fun c51 => ?_) (fun c51 => ?_)
      · simp only [b01, Decidable.not_not] at c51
        refine k_iconst (pc := 58) (v := nI 0) C dX7_rounds_58 (by decide) ?_
        refine k_goto (pc := 59) (tgt := 119) C dX7_rounds_59 (by decide) ?_
        refine k_istore (pc := 119) (lv' := [(5, .int (nI 0)), (4, .int (nI 1)), (3, .int (hf)), (0, .ref (ad (174))), (1, .int (nI b)), (2, .int (nI w))]) C dX7_rounds_119 (by decide) rfl ?_
        refine k_iload (pc := 121) C dX7_rounds_121 0 rfl ?_
        refine k_if_eq (pc := 123) (tgt := 132) C dX7_rounds_123 (by decide) (fun c123 => ?_) (fun c123 => ?_)
        · skip
          exact r_v (pc := 132) C E (by
  first
    | exact ⟨_, rfl, by rw [ups, if_pos ((gU_m hr hw).mpr (by unfold gM; omega))], fun k h1 h2 h3 => by rw [upn h2, upn h3, f1 k h1]⟩
    | exact ⟨_, rfl, by rw [f1 32 (by decide), if_neg (fun h => by have h8 := (gU_m hr hw).mp h; unfold gM at h8; omega), Nat.add_zero], fun k h1 h2 h3 => f1 k h1⟩) dX7_rounds_132
        · exact absurd rfl c123
      · simp only [b01, Decidable.not_not] at c51
        refine k_iconst (pc := 54) (v := nI 1) C dX7_rounds_54 (by decide) ?_
        refine k_goto (pc := 55) (tgt := 119) C dX7_rounds_55 (by decide) ?_
        refine k_istore (pc := 119) (lv' := [(5, .int (nI 1)), (4, .int (nI 1)), (3, .int (hf)), (0, .ref (ad (174))), (1, .int (nI b)), (2, .int (nI w))]) C dX7_rounds_119 (by decide) rfl ?_
        refine k_iload (pc := 121) C dX7_rounds_121 0 rfl ?_
        refine k_if_eq (pc := 123) (tgt := 132) C dX7_rounds_123 (by decide) (fun c123 => ?_) (fun c123 => ?_)
        · exact absurd c123 (by decide)
        · skip
          refine k_aload_n (pc := 126) C dX7_rounds_126 rfl 3 rfl ?_
          refine k_bipush (pc := 127) (v := nI 32) C dX7_rounds_127 (by decide) ?_
          refine cv_X7_102 (pc := 129) C E (c7_one (t := 32) (by decide) (by decide)) rfl (by decide) cm_174 (by decide) rfl (Nat.le_of_ble_eq_true rfl) dX7_rounds_129 (fun M129 h129 => ?_)
          subst h129
          rw [f1 32 (by decide)]
          exact r_v (pc := 132) C E (by
  first
    | exact ⟨_, rfl, by rw [ups, if_pos ((gU_m hr hw).mpr (by unfold gM; omega))], fun k h1 h2 h3 => by rw [upn h2, upn h3, f1 k h1]⟩
    | exact ⟨_, rfl, by rw [f1 32 (by decide), if_neg (fun h => by have h8 := (gU_m hr hw).mp h; unfold gM at h8; omega), Nat.add_zero], fun k h1 h2 h3 => f1 k h1⟩) dX7_rounds_132
end MF
