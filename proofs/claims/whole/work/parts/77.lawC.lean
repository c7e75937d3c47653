section LW9
variable {z : xk} {l : Launch} {D : va_G} {ca : Nat → ClassId} {ad : Nat → Nat} {V U : Nat → Nat} {sc : Nat → Int32} {ia : Nat → Nat → Int32} {la : Nat → Nat → Int64} {N0 : Nat} {sa : Nat → Nat} {b L it : Nat} {xs : Nat → Int32}
set_option maxHeartbeats 4000000 in
set_option maxRecDepth 100000 in
theorem lw_c10 (C : xC z cL_law RL 7) (F : xF z l room_1 D (xty ca)) (Y : xY0 z N0 sa) (S : xSc z b L xs) (hl : l.stackTraces = false) (hN0 : ∀ i, i < 187 → N0 ≤ ad i) (h : LIq V U sc ia la) (hit : 8 * it + 8 ≤ L) (hL : L ≤ 4096) (kk : ∀ V U sc ia la, LIq V U sc ia la → xK z (xw ad (cm ad ca (V, U, sc, ia, la)) 187) (187 + (it + 1)) (3613 + 6 * (it + 1)) 1586 [(4, .int (nI (8 * it))), (3, .ref (ad 186)), (2, .ref (ad 174)), (1, .ref (ad 0)), (0, .ref b)] []) : xK z (xw ad (cm ad ca (V, U, sc, ia, la)) 187) (187 + it) (3613 + 6 * it) 833 [(4, .int (nI (8 * it))), (3, .ref (ad 186)), (2, .ref (ad 174)), (1, .ref (ad 0)), (0, .ref b)] [] := by
  obtain ⟨hN, hF, hW, hU, hP, hO, hR, hS⟩ := h
  have hN9 := hN
  obtain ⟨T, hT, hM, hB⟩ := hN9
  have hcs : 187 + it ≤ room_1.cells ∧ 3613 + 6 * it ≤ room_1.slots := by show 187 + it ≤ 603072 ∧ 3613 + 6 * it ≤ 7215210; omega
  have hcs' : 187 + it + 1 ≤ room_1.cells ∧ 3613 + 6 * it + 6 ≤ room_1.slots := by show 187 + it + 1 ≤ 603072 ∧ 3613 + 6 * it + 6 ≤ 7215210; omega
  have hW9 := hW
  obtain ⟨w, hw1, hw2, hwb⟩ := hW9
  refine k_aload_n (pc := 833) C dL_law_833 rfl 3 rfl ?_
  refine k_arg (pc := 834) C S 1 4 0 rfl rfl (by omega) dL_law_834 dL_law_835 dL_law_837 (by decide) dL_law_838 dL_law_839 ?_
  refine k_arg (pc := 840) C S 2 4 0 rfl rfl (by omega) dL_law_840 dL_law_841 dL_law_843 (by decide) dL_law_844 dL_law_845 ?_
  refine k_arg (pc := 846) C S 3 4 0 rfl rfl (by omega) dL_law_846 dL_law_847 dL_law_849 (by decide) dL_law_850 dL_law_851 ?_
  refine cvF_L_84 (pc := 852) C F hcs (c6_share hT hB hw1 hwb) rfl (by decide) cm_0 ⟨by decide, by decide⟩ rfl (Nat.le_of_ble_eq_true rfl) dL_law_852 (fun r852 M852 h852 => ?_)
  obtain ⟨V1, la1, rfl, e6, h6, L1⟩ := h852
  refine k_aload_n (pc := 855) C dL_law_855 rfl 2 rfl ?_
  refine k_arg (pc := 856) C S 1 4 0 rfl rfl (by omega) dL_law_856 dL_law_857 dL_law_859 (by decide) dL_law_860 dL_law_861 ?_
  refine k_arg (pc := 862) C S 2 4 0 rfl rfl (by omega) dL_law_862 dL_law_863 dL_law_865 (by decide) dL_law_866 dL_law_867 ?_
  refine k_arg (pc := 868) C S 3 4 0 rfl rfl (by omega) dL_law_868 dL_law_869 dL_law_871 (by decide) dL_law_872 dL_law_873 ?_
  refine cvF_L_87 (pc := 874) C F hcs (c7_share hM hB (by rw [L1 176 (by decide)]; exact hw2) hwb) rfl (by decide) cm_174 ⟨by decide, by decide⟩ rfl (Nat.le_of_ble_eq_true rfl) dL_law_874 (fun r874 M874 h874 => ?_)
  obtain ⟨U1, rfl, e7, h7⟩ := h874
  refine k_icmp_eq (pc := 877) (tgt := 1586) C dL_law_877 (by decide) (fun _ => ?_) (fun c => absurd (e6.trans e7.symm) c)
  refine k_widen (cs' := 187 + (it + 1)) (ss' := 3613 + 6 * (it + 1)) (by omega) (by omega) ?_
  exact kk V1 U1 sc ia la1 (⟨⟨_, h6, h7, sShare_TB hB _ _ _⟩, hF, (hW.to (L1 159 (by omega)) (L1 176 (by omega))), hU, hP, hO, hR, hS⟩)
set_option maxHeartbeats 4000000 in
set_option maxRecDepth 100000 in
theorem lw_c11 (C : xC z cL_law RL 7) (F : xF z l room_1 D (xty ca)) (Y : xY0 z N0 sa) (S : xSc z b L xs) (hl : l.stackTraces = false) (hN0 : ∀ i, i < 187 → N0 ≤ ad i) (h : LIq V U sc ia la) (hit : 8 * it + 8 ≤ L) (hL : L ≤ 4096) (kk : ∀ V U sc ia la, LIq V U sc ia la → xK z (xw ad (cm ad ca (V, U, sc, ia, la)) 187) (187 + (it + 1)) (3613 + 6 * (it + 1)) 1586 [(4, .int (nI (8 * it))), (3, .ref (ad 186)), (2, .ref (ad 174)), (1, .ref (ad 0)), (0, .ref b)] []) : xK z (xw ad (cm ad ca (V, U, sc, ia, la)) 187) (187 + it) (3613 + 6 * it) 882 [(4, .int (nI (8 * it))), (3, .ref (ad 186)), (2, .ref (ad 174)), (1, .ref (ad 0)), (0, .ref b)] [] := by
  obtain ⟨hN, hF, hW, hU, hP, hO, hR, hS⟩ := h
  have hN9 := hN
  obtain ⟨T, hT, hM, hB⟩ := hN9
  have hcs : 187 + it ≤ room_1.cells ∧ 3613 + 6 * it ≤ room_1.slots := by show 187 + it ≤ 603072 ∧ 3613 + 6 * it ≤ 7215210; omega
  have hcs' : 187 + it + 1 ≤ room_1.cells ∧ 3613 + 6 * it + 6 ≤ room_1.slots := by show 187 + it + 1 ≤ 603072 ∧ 3613 + 6 * it + 6 ≤ 7215210; omega
  refine k_aload_n (pc := 882) C dL_law_882 rfl 3 rfl ?_
  refine k_arg (pc := 883) C S 1 4 0 rfl rfl (by omega) dL_law_883 dL_law_884 dL_law_886 (by decide) dL_law_887 dL_law_888 ?_
  refine cvF_L_88 (pc := 889) C F hcs (c6_figures hT hB) rfl (by decide) cm_0 ⟨by decide, by decide⟩ rfl (Nat.le_of_ble_eq_true rfl) dL_law_889 (fun r889 M889 h889 => ?_)
  obtain ⟨V1, sc1, ia1, rfl, h6, S6, I6, d6⟩ := h889
  refine k_aload_n (pc := 892) C dL_law_892 rfl 2 rfl ?_
  refine k_arg (pc := 893) C S 1 4 0 rfl rfl (by omega) dL_law_893 dL_law_894 dL_law_896 (by decide) dL_law_897 dL_law_898 ?_
  refine cvF_L_91 (pc := 899) C F hcs (c7_figures hM hB) rfl (by decide) cm_174 ⟨by decide, by decide⟩ rfl (Nat.le_of_ble_eq_true rfl) dL_law_899 (fun r899 M899 h899 => ?_)
  obtain ⟨U1, sc2, ia2, rfl, h7, S7, I7, d7⟩ := h899
  have S1 : ∀ k, k ≠ 10 → k ≠ 38 → sc2 k = sc k := fun k a b => (S7 k b).trans (S6 k a)
  have I1 : ∀ k, k ≠ 153 → k ≠ 185 → ia2 k = ia k := fun k a b => (I7 k b).trans (I6 k a)
  have e : r889 = r899 := by
    by_cases cx : inR (xs (8 * it + 1)) 16
    · rw [if_pos cx] at d6 d7
      obtain ⟨c, e6, hc⟩ := d6
      obtain ⟨c', e7, hc'⟩ := d7
      rw [e6, e7, isND_u hc hc']
    · rw [if_neg cx] at d6 d7
      rw [d6, d7]
  refine k_icmp_eq (pc := 902) (tgt := 1586) C dL_law_902 (by decide) (fun _ => ?_) (fun c => absurd (e) c)
  refine k_widen (cs' := 187 + (it + 1)) (ss' := 3613 + 6 * (it + 1)) (by omega) (by omega) ?_
  exact kk V1 U1 sc2 ia2 la (⟨⟨T, h6, h7, hB⟩, (hF.to (fun k hk => S1 k (by omega) (by omega)) (I1 177 (by omega) (by omega)) (I1 178 (by omega) (by omega))), hW, (hU.to (S1 1 (by omega) (by omega)) (S1 31 (by omega) (by omega))), (hP.to (S1 20 (by omega) (by omega)) (S1 32 (by omega) (by omega)) (I1 158 (by omega) (by omega)) (I1 179 (by omega) (by omega))), (hO.to (S1 11 (by omega) (by omega)) (S1 34 (by omega) (by omega)) (I1 154 (by omega) (by omega)) (I1 180 (by omega) (by omega))), (hR.to (S1 0 (by omega) (by omega)) (S1 35 (by omega) (by omega)) (fun k hk => (I1 (162 + k) (by omega) (by omega))) (I1 181 (by omega) (by omega)) (I1 182 (by omega) (by omega)) (I1 183 (by omega) (by omega)) (I1 184 (by omega) (by omega))), (hS.to (S1 2 (by omega) (by omega)) (S1 33 (by omega) (by omega)) (S1 3 (by omega) (by omega)) (S1 36 (by omega) (by omega)) (S1 4 (by omega) (by omega)) (S1 37 (by omega) (by omega)))⟩)
set_option maxHeartbeats 4000000 in
set_option maxRecDepth 100000 in
theorem lw_c12 (C : xC z cL_law RL 7) (F : xF z l room_1 D (xty ca)) (Y : xY0 z N0 sa) (S : xSc z b L xs) (hl : l.stackTraces = false) (hN0 : ∀ i, i < 187 → N0 ≤ ad i) (h : LIq V U sc ia la) (hit : 8 * it + 8 ≤ L) (hL : L ≤ 4096) (kk : ∀ V U sc ia la, LIq V U sc ia la → xK z (xw ad (cm ad ca (V, U, sc, ia, la)) 187) (187 + (it + 1)) (3613 + 6 * (it + 1)) 1586 [(4, .int (nI (8 * it))), (3, .ref (ad 186)), (2, .ref (ad 174)), (1, .ref (ad 0)), (0, .ref b)] []) : xK z (xw ad (cm ad ca (V, U, sc, ia, la)) 187) (187 + it) (3613 + 6 * it) 907 [(4, .int (nI (8 * it))), (3, .ref (ad 186)), (2, .ref (ad 174)), (1, .ref (ad 0)), (0, .ref b)] [] := by
  obtain ⟨hN, hF, hW, hU, hP, hO, hR, hS⟩ := h
  have hN9 := hN
  obtain ⟨T, hT, hM, hB⟩ := hN9
  have hcs : 187 + it ≤ room_1.cells ∧ 3613 + 6 * it ≤ room_1.slots := by show 187 + it ≤ 603072 ∧ 3613 + 6 * it ≤ 7215210; omega
  have hcs' : 187 + it + 1 ≤ room_1.cells ∧ 3613 + 6 * it + 6 ≤ room_1.slots := by show 187 + it + 1 ≤ 603072 ∧ 3613 + 6 * it + 6 ≤ 7215210; omega
  refine k_aload_n (pc := 907) C dL_law_907 rfl 3 rfl ?_
  refine k_arg (pc := 908) C S 1 4 0 rfl rfl (by omega) dL_law_908 dL_law_909 dL_law_911 (by decide) dL_law_912 dL_law_913 ?_
  refine k_arg (pc := 914) C S 2 4 0 rfl rfl (by omega) dL_law_914 dL_law_915 dL_law_917 (by decide) dL_law_918 dL_law_919 ?_
  refine k_aload_n (pc := 920) C dL_law_920 rfl 1 rfl ?_
  refine k_callSW (pc := 921) C F Y (sL_figure hT hB hl hN0) wm_L_92 wst_yL_figure thL_I thL_figure thE_figure (by decide) (by show 187 + it + 1 ≤ 603072 ∧ 3613 + 6 * it + 6 ≤ 7215210; omega) rfl (Nat.le_of_ble_eq_true rfl) dL_law_921 (fun r921 M921 h921 => ?_)
  obtain ⟨V1, sc1, ia1, h6, S6, I6, d6⟩ := h921
  obtain ⟨la1, rfl, L1, d6⟩ : ∃ la1, M921 = cm ad ca (V1, U, sc1, ia1, la1) ∧ (∀ j, j ≠ 186 → la1 j = la j) ∧ ((∃ c, inR (xs (8 * it + 1)) 16 ∧ isND (T (rI (xs (8 * it + 1)))) c ∧ ¬ inR (xs (8 * it + 2)) c ∧ r921 = 1) ∨ (∃ c, inR (xs (8 * it + 1)) 16 ∧ isND (T (rI (xs (8 * it + 1)))) c ∧ inR (xs (8 * it + 2)) c ∧ r921 = 0 ∧ la1 186 0 = (nI (T (rI (xs (8 * it + 1))) / 10 ^ rI (xs (8 * it + 2)) % 10)).toInt64) ∨ (¬ inR (xs (8 * it + 1)) 16 ∧ r921 = 0 ∧ la1 186 0 = (-1 : Int32).toInt64)) := by
    by_cases cx : inR (xs (8 * it + 1)) 16
    · rw [if_pos cx] at d6
      obtain ⟨c, hc, d6⟩ := d6
      by_cases ci : inR (xs (8 * it + 2)) c
      · rw [if_pos ci] at d6
        exact ⟨_, d6.2, fun j hj => va_up_ne _ _ hj, Or.inr (Or.inl ⟨c, cx, hc, ci, d6.1, by rw [va_up_self]; simp [vp_updL]⟩)⟩
      · rw [if_neg ci] at d6
        exact ⟨la, d6.2, fun _ _ => rfl, Or.inl ⟨c, cx, hc, ci, d6.1⟩⟩
    · rw [if_neg cx] at d6
      exact ⟨_, d6.2, fun j hj => va_up_ne _ _ hj, Or.inr (Or.inr ⟨cx, d6.1, by rw [va_up_self]; simp [vp_updL]⟩)⟩
  obtain ⟨r6, hr6⟩ : ∃ r6, r6 = r921 := ⟨_, rfl⟩
  rw [← hr6] at d6 ⊢
  refine k_istore (pc := 924) (lv' := [(5, .int r6), (4, .int (nI (8 * it))), (3, .ref (ad 186)), (2, .ref (ad 174)), (1, .ref (ad 0)), (0, .ref b)]) C dL_law_924 (by decide) rfl ?_
  refine k_aload_n (pc := 926) C dL_law_926 rfl 3 rfl ?_
  refine k_arg (pc := 927) C S 1 5 1 rfl rfl (by omega) dL_law_927 dL_law_928 dL_law_930 (by decide) dL_law_931 dL_law_932 ?_
  refine k_arg (pc := 933) C S 2 5 1 rfl rfl (by omega) dL_law_933 dL_law_934 dL_law_936 (by decide) dL_law_937 dL_law_938 ?_
  refine cvF_L_95 (pc := 939) C F hcs' (c7_figure hM hB) rfl (by decide) cm_174 ⟨by decide, by decide⟩ rfl (Nat.le_of_ble_eq_true rfl) dL_law_939 (fun r939 M939 h939 => ?_)
  obtain ⟨U1, sc2, ia2, rfl, h7, S7, I7, d7⟩ := h939
  obtain ⟨E1, E2⟩ : sc2 30 = r6 ∧ (r6 = 0 → la1 186 0 = (r939).toInt64) := by
    rcases d6 with ⟨c, cx, hc, ci, e⟩ | ⟨c, cx, hc, ci, e, e9⟩ | ⟨cx, e, e9⟩
    · rw [if_pos cx] at d7
      obtain ⟨c', hc', d7⟩ := d7
      have hcc := isND_u hc hc'
      subst hcc
      rw [if_neg ci] at d7
      exact ⟨d7.1.trans e.symm, fun e0 => absurd (e.symm.trans e0) (by decide)⟩
    · rw [if_pos cx] at d7
      obtain ⟨c', hc', d7⟩ := d7
      have hcc := isND_u hc hc'
      subst hcc
      rw [if_pos ci] at d7
      exact ⟨d7.1.trans e.symm, fun e0 => by rw [e9, d7.2]⟩
    · rw [if_neg cx] at d7
      exact ⟨d7.1.trans e.symm, fun e0 => by rw [e9, d7.2]⟩
  have S1 : ∀ k, k ≠ 10 → k ≠ 30 → k ≠ 38 → sc2 k = sc k := fun k a b c => (S7 k b c).trans (S6 k a)
  have I1 : ∀ k, k ≠ 153 → k ≠ 185 → ia2 k = ia k := fun k a b => (I7 k b).trans (I6 k a)
  refine k_istore (pc := 942) (lv' := [(6, .int r939), (5, .int r6), (4, .int (nI (8 * it))), (3, .ref (ad 186)), (2, .ref (ad 174)), (1, .ref (ad 0)), (0, .ref b)]) C dL_law_942 (by decide) rfl ?_
  refine k_aload_n (pc := 944) C dL_law_944 rfl 4 rfl ?_
  refine cvF_L_63 (pc := 945) C F hcs' (c7_thrown) rfl (by decide) cm_174 ⟨by decide, by decide⟩ rfl (Nat.le_of_ble_eq_true rfl) dL_law_945 (fun r945 M945 h945 => ?_)
  obtain ⟨e8, rfl⟩ := h945
  refine k_iload (pc := 948) C dL_law_948 1 rfl ?_
  refine k_icmp_eq (pc := 950) (tgt := 955) C dL_law_950 (by decide) (fun _ => ?_) (fun c => absurd (e8.trans E1) c)
  refine k_iload (pc := 955) C dL_law_955 1 rfl ?_
  refine k_if_ne (pc := 957) (tgt := 972) C dL_law_957 (by decide) (fun _ => ?_) (fun c9 => ?_)
  · refine k_goto (pc := 972) (tgt := 1586) C dL_law_972 (by decide) ?_
    refine k_widen (cs' := 187 + (it + 1)) (ss' := 3613 + 6 * (it + 1)) (by omega) (by omega) ?_
    refine k_lvs (lv' := [(4, .int (nI (8 * it))), (3, .ref (ad 186)), (2, .ref (ad 174)), (1, .ref (ad 0)), (0, .ref b)]) (fun q hq => List.mem_cons_of_mem _ (List.mem_cons_of_mem _ (hq))) ?_
    exact kk V1 U1 sc2 ia2 la1 (⟨⟨T, h6, h7, hB⟩, (hF.to (fun k hk => S1 k (by omega) (by omega) (by omega)) (I1 177 (by omega) (by omega)) (I1 178 (by omega) (by omega))), (hW.to (L1 159 (by omega)) (L1 176 (by omega))), (hU.to (S1 1 (by omega) (by omega) (by omega)) (S1 31 (by omega) (by omega) (by omega))), (hP.to (S1 20 (by omega) (by omega) (by omega)) (S1 32 (by omega) (by omega) (by omega)) (I1 158 (by omega) (by omega)) (I1 179 (by omega) (by omega))), (hO.to (S1 11 (by omega) (by omega) (by omega)) (S1 34 (by omega) (by omega) (by omega)) (I1 154 (by omega) (by omega)) (I1 180 (by omega) (by omega))), (hR.to (S1 0 (by omega) (by omega) (by omega)) (S1 35 (by omega) (by omega) (by omega)) (fun k hk => (I1 (162 + k) (by omega) (by omega))) (I1 181 (by omega) (by omega)) (I1 182 (by omega) (by omega)) (I1 183 (by omega) (by omega)) (I1 184 (by omega) (by omega))), (hS.to (S1 2 (by omega) (by omega) (by omega)) (S1 33 (by omega) (by omega) (by omega)) (S1 3 (by omega) (by omega) (by omega)) (S1 36 (by omega) (by omega) (by omega)) (S1 4 (by omega) (by omega) (by omega)) (S1 37 (by omega) (by omega) (by omega)))⟩)
  refine k_aload_n (pc := 960) C dL_law_960 rfl 3 rfl ?_
  refine k_iconst (pc := 961) (v := nI 0) C dL_law_961 (by decide) ?_
  refine k_laldF (pc := 962) C F 186 (by decide) cm_186 0 rfl (by decide) (by decide) dL_law_962 ?_
  refine k_iload (pc := 963) C dL_law_963 0 rfl ?_
  refine k_i2l (pc := 965) C dL_law_965 rfl ?_
  refine k_lcmp (pc := 966) C dL_law_966 ?_
  refine k_if_eq (pc := 967) (tgt := 972) C dL_law_967 (by decide) (fun _ => ?_) (fun c => absurd (by rw [E2 c9]; exact lg_cmp0 _) c)
  refine k_goto (pc := 972) (tgt := 1586) C dL_law_972 (by decide) ?_
  refine k_widen (cs' := 187 + (it + 1)) (ss' := 3613 + 6 * (it + 1)) (by omega) (by omega) ?_
  refine k_lvs (lv' := [(4, .int (nI (8 * it))), (3, .ref (ad 186)), (2, .ref (ad 174)), (1, .ref (ad 0)), (0, .ref b)]) (fun q hq => List.mem_cons_of_mem _ (List.mem_cons_of_mem _ (hq))) ?_
  exact kk V1 U1 sc2 ia2 la1 (⟨⟨T, h6, h7, hB⟩, (hF.to (fun k hk => S1 k (by omega) (by omega) (by omega)) (I1 177 (by omega) (by omega)) (I1 178 (by omega) (by omega))), (hW.to (L1 159 (by omega)) (L1 176 (by omega))), (hU.to (S1 1 (by omega) (by omega) (by omega)) (S1 31 (by omega) (by omega) (by omega))), (hP.to (S1 20 (by omega) (by omega) (by omega)) (S1 32 (by omega) (by omega) (by omega)) (I1 158 (by omega) (by omega)) (I1 179 (by omega) (by omega))), (hO.to (S1 11 (by omega) (by omega) (by omega)) (S1 34 (by omega) (by omega) (by omega)) (I1 154 (by omega) (by omega)) (I1 180 (by omega) (by omega))), (hR.to (S1 0 (by omega) (by omega) (by omega)) (S1 35 (by omega) (by omega) (by omega)) (fun k hk => (I1 (162 + k) (by omega) (by omega))) (I1 181 (by omega) (by omega)) (I1 182 (by omega) (by omega)) (I1 183 (by omega) (by omega)) (I1 184 (by omega) (by omega))), (hS.to (S1 2 (by omega) (by omega) (by omega)) (S1 33 (by omega) (by omega) (by omega)) (S1 3 (by omega) (by omega) (by omega)) (S1 36 (by omega) (by omega) (by omega)) (S1 4 (by omega) (by omega) (by omega)) (S1 37 (by omega) (by omega) (by omega)))⟩)
set_option maxHeartbeats 4000000 in
set_option maxRecDepth 100000 in
theorem lw_c13 (C : xC z cL_law RL 7) (F : xF z l room_1 D (xty ca)) (Y : xY0 z N0 sa) (S : xSc z b L xs) (hl : l.stackTraces = false) (hN0 : ∀ i, i < 187 → N0 ≤ ad i) (h : LIq V U sc ia la) (hit : 8 * it + 8 ≤ L) (hL : L ≤ 4096) (kk : ∀ V U sc ia la, LIq V U sc ia la → xK z (xw ad (cm ad ca (V, U, sc, ia, la)) 187) (187 + (it + 1)) (3613 + 6 * (it + 1)) 1586 [(4, .int (nI (8 * it))), (3, .ref (ad 186)), (2, .ref (ad 174)), (1, .ref (ad 0)), (0, .ref b)] []) : xK z (xw ad (cm ad ca (V, U, sc, ia, la)) 187) (187 + it) (3613 + 6 * it) 975 [(4, .int (nI (8 * it))), (3, .ref (ad 186)), (2, .ref (ad 174)), (1, .ref (ad 0)), (0, .ref b)] [] := by
  obtain ⟨hN, hF, hW, hU, hP, hO, hR, hS⟩ := h
  have hN9 := hN
  obtain ⟨T, hT, hM, hB⟩ := hN9
  have hcs : 187 + it ≤ room_1.cells ∧ 3613 + 6 * it ≤ room_1.slots := by show 187 + it ≤ 603072 ∧ 3613 + 6 * it ≤ 7215210; omega
  have hcs' : 187 + it + 1 ≤ room_1.cells ∧ 3613 + 6 * it + 6 ≤ room_1.slots := by show 187 + it + 1 ≤ 603072 ∧ 3613 + 6 * it + 6 ≤ 7215210; omega
  by_cases cw : inR (xs (8 * it + 1)) 13
  · refine k_aload_n (pc := 975) C dL_law_975 rfl 3 rfl ?_
    refine k_arg (pc := 976) C S 1 4 0 rfl rfl (by omega) dL_law_976 dL_law_977 dL_law_979 (by decide) dL_law_980 dL_law_981 ?_
    refine cvF_L_96 (pc := 982) C F hcs (c6_unit) rfl (by decide) cm_0 ⟨by decide, by decide⟩ rfl (Nat.le_of_ble_eq_true rfl) dL_law_982 (fun r982 M982 h982 => ?_)
    rw [if_pos cw] at h982
    obtain ⟨e6, rfl⟩ := h982
    refine k_aload_n (pc := 985) C dL_law_985 rfl 2 rfl ?_
    refine k_arg (pc := 986) C S 1 4 0 rfl rfl (by omega) dL_law_986 dL_law_987 dL_law_989 (by decide) dL_law_990 dL_law_991 ?_
    refine cvF_L_99 (pc := 992) C F hcs (c7_unit) rfl (by decide) cm_174 ⟨by decide, by decide⟩ rfl (Nat.le_of_ble_eq_true rfl) dL_law_992 (fun r992 M992 h992 => ?_)
    rw [if_pos cw] at h992
    obtain ⟨e7, rfl⟩ := h992
    rw [va_up_ne _ _ (by decide)] at e7
    have S1 : ∀ k, k ≠ 1 → k ≠ 31 → va_up (va_up sc 1 (xs (8 * it + 1))) 31 (xs (8 * it + 1)) k = sc k := fun k a b => by rw [va_up_ne _ _ b, va_up_ne _ _ a]
    refine k_icmp_eq (pc := 995) (tgt := 1586) C dL_law_995 (by decide) (fun _ => ?_) (fun c => absurd (by obtain ⟨u, -, q1, q2⟩ := hU; rw [e6, e7, q1, q2]) c)
    refine k_widen (cs' := 187 + (it + 1)) (ss' := 3613 + 6 * (it + 1)) (by omega) (by omega) ?_
    obtain ⟨u, hu9, hu⟩ := inR_k cw
    exact kk V U _ ia la (⟨hN, (hF.to (fun k hk => S1 k (by omega) (by omega)) rfl rfl), hW, ⟨u, by omega, by rw [va_up_ne _ _ (by decide), va_up_self]; exact hu, by rw [va_up_self]; exact hu⟩, (hP.to (S1 20 (by omega) (by omega)) (S1 32 (by omega) (by omega)) rfl rfl), (hO.to (S1 11 (by omega) (by omega)) (S1 34 (by omega) (by omega)) rfl rfl), (hR.to (S1 0 (by omega) (by omega)) (S1 35 (by omega) (by omega)) (fun k hk => rfl) rfl rfl rfl rfl), (hS.to (S1 2 (by omega) (by omega)) (S1 33 (by omega) (by omega)) (S1 3 (by omega) (by omega)) (S1 36 (by omega) (by omega)) (S1 4 (by omega) (by omega)) (S1 37 (by omega) (by omega)))⟩)
  · refine k_aload_n (pc := 975) C dL_law_975 rfl 3 rfl ?_
    refine k_arg (pc := 976) C S 1 4 0 rfl rfl (by omega) dL_law_976 dL_law_977 dL_law_979 (by decide) dL_law_980 dL_law_981 ?_
    refine cvF_L_96 (pc := 982) C F hcs (c6_unit) rfl (by decide) cm_0 ⟨by decide, by decide⟩ rfl (Nat.le_of_ble_eq_true rfl) dL_law_982 (fun r982 M982 h982 => ?_)
    rw [if_neg cw] at h982
    obtain ⟨e6, rfl⟩ := h982
    refine k_aload_n (pc := 985) C dL_law_985 rfl 2 rfl ?_
    refine k_arg (pc := 986) C S 1 4 0 rfl rfl (by omega) dL_law_986 dL_law_987 dL_law_989 (by decide) dL_law_990 dL_law_991 ?_
    refine cvF_L_99 (pc := 992) C F hcs (c7_unit) rfl (by decide) cm_174 ⟨by decide, by decide⟩ rfl (Nat.le_of_ble_eq_true rfl) dL_law_992 (fun r992 M992 h992 => ?_)
    rw [if_neg cw] at h992
    obtain ⟨e7, rfl⟩ := h992
    refine k_icmp_eq (pc := 995) (tgt := 1586) C dL_law_995 (by decide) (fun _ => ?_) (fun c => absurd (e6.trans e7.symm) c)
    refine k_widen (cs' := 187 + (it + 1)) (ss' := 3613 + 6 * (it + 1)) (by omega) (by omega) ?_
    exact kk V U sc ia la (⟨hN, hF, hW, hU, hP, hO, hR, hS⟩)
set_option maxHeartbeats 4000000 in
set_option maxRecDepth 100000 in
theorem lw_c14 (C : xC z cL_law RL 7) (F : xF z l room_1 D (xty ca)) (Y : xY0 z N0 sa) (S : xSc z b L xs) (hl : l.stackTraces = false) (hN0 : ∀ i, i < 187 → N0 ≤ ad i) (h : LIq V U sc ia la) (hit : 8 * it + 8 ≤ L) (hL : L ≤ 4096) (kk : ∀ V U sc ia la, LIq V U sc ia la → xK z (xw ad (cm ad ca (V, U, sc, ia, la)) 187) (187 + (it + 1)) (3613 + 6 * (it + 1)) 1586 [(4, .int (nI (8 * it))), (3, .ref (ad 186)), (2, .ref (ad 174)), (1, .ref (ad 0)), (0, .ref b)] []) : xK z (xw ad (cm ad ca (V, U, sc, ia, la)) 187) (187 + it) (3613 + 6 * it) 1000 [(4, .int (nI (8 * it))), (3, .ref (ad 186)), (2, .ref (ad 174)), (1, .ref (ad 0)), (0, .ref b)] [] := by
  obtain ⟨hN, hF, hW, hU, hP, hO, hR, hS⟩ := h
  have hN9 := hN
  obtain ⟨T, hT, hM, hB⟩ := hN9
  have hcs : 187 + it ≤ room_1.cells ∧ 3613 + 6 * it ≤ room_1.slots := by show 187 + it ≤ 603072 ∧ 3613 + 6 * it ≤ 7215210; omega
  have hcs' : 187 + it + 1 ≤ room_1.cells ∧ 3613 + 6 * it + 6 ≤ room_1.slots := by show 187 + it + 1 ≤ 603072 ∧ 3613 + 6 * it + 6 ≤ 7215210; omega
  have hU9 := hU
  obtain ⟨u, hu9, hu1, hu2⟩ := hU9
  refine k_aload_n (pc := 1000) C dL_law_1000 rfl 3 rfl ?_
  refine k_arg (pc := 1001) C S 1 4 0 rfl rfl (by omega) dL_law_1001 dL_law_1002 dL_law_1004 (by decide) dL_law_1005 dL_law_1006 ?_
  refine cvF_L_100 (pc := 1007) C F hcs (c6_print hT hB hu1 hu9) rfl (by decide) cm_0 ⟨by decide, by decide⟩ rfl (Nat.le_of_ble_eq_true rfl) dL_law_1007 (fun r1007 M1007 h1007 => ?_)
  obtain ⟨V1, sc1, ia1, rfl, h6, S6, I6, d6⟩ := h1007
  refine k_aload_n (pc := 1010) C dL_law_1010 rfl 2 rfl ?_
  refine k_arg (pc := 1011) C S 1 4 0 rfl rfl (by omega) dL_law_1011 dL_law_1012 dL_law_1014 (by decide) dL_law_1015 dL_law_1016 ?_
  refine cvF_L_103 (pc := 1017) C F hcs (c7_print hM hB ((S6 31 (by decide) (by decide)).trans hu2) hu9) rfl (by decide) cm_174 ⟨by decide, by decide⟩ rfl (Nat.le_of_ble_eq_true rfl) dL_law_1017 (fun r1017 M1017 h1017 => ?_)
  obtain ⟨U1, sc2, ia2, rfl, h7, S7, I7, d7⟩ := h1017
  have S1 : ∀ k, k ≠ 10 → k ≠ 11 → k ≠ 34 → k ≠ 38 → sc2 k = sc k := fun k a b c d => (S7 k c d).trans (S6 k a b)
  have I1 : ∀ k, k ≠ 153 → k ≠ 154 → k ≠ 180 → k ≠ 185 → ia2 k = ia k := fun k a b c d => (I7 k c d).trans (I6 k a b)
  obtain ⟨e, hO1⟩ : r1007 = r1017 ∧ LOq sc2 ia2 := by
    by_cases cx : inR (xs (8 * it + 1)) 16
    · rw [if_pos cx] at d6 d7
      obtain ⟨c, hc, e6, s6, g6⟩ := d6
      obtain ⟨c', hc', e7, s7, g7⟩ := d7
      have hcc := isND_u hc hc'
      subst hcc
      refine ⟨e6.trans e7.symm, _, ?_, (S7 11 (by decide) (by decide)).trans s6, s7, fun j hj => ?_⟩
      · have hc9 := isND_le (hB.1 _ (rI_lt cx)) hc
        rw [ptx_len]
        generalize hi : max (c - 1) u = i
        have hi9 : i ≤ 77 := by omega
        have h3 : (i - u) / 3 ≤ 25 := by omega
        split <;> omega
      · rw [I7 154 (by decide) (by decide), g6 j hj, g7 j hj]
    · rw [if_neg cx] at d6 d7
      exact ⟨d6.1.trans d7.1.symm, hO.to ((S7 11 (by decide) (by decide)).trans d6.2.1) (d7.2.1.trans (S6 34 (by decide) (by decide))) ((I7 154 (by decide) (by decide)).trans d6.2.2) (d7.2.2.trans (I6 180 (by decide) (by decide)))⟩
  refine k_icmp_eq (pc := 1020) (tgt := 1586) C dL_law_1020 (by decide) (fun _ => ?_) (fun c => absurd (e) c)
  refine k_widen (cs' := 187 + (it + 1)) (ss' := 3613 + 6 * (it + 1)) (by omega) (by omega) ?_
  exact kk V1 U1 sc2 ia2 la (⟨⟨T, h6, h7, hB⟩, (hF.to (fun k hk => S1 k (by omega) (by omega) (by omega) (by omega)) (I1 177 (by omega) (by omega) (by omega) (by omega)) (I1 178 (by omega) (by omega) (by omega) (by omega))), hW, (hU.to (S1 1 (by omega) (by omega) (by omega) (by omega)) (S1 31 (by omega) (by omega) (by omega) (by omega))), (hP.to (S1 20 (by omega) (by omega) (by omega) (by omega)) (S1 32 (by omega) (by omega) (by omega) (by omega)) (I1 158 (by omega) (by omega) (by omega) (by omega)) (I1 179 (by omega) (by omega) (by omega) (by omega))), hO1, (hR.to (S1 0 (by omega) (by omega) (by omega) (by omega)) (S1 35 (by omega) (by omega) (by omega) (by omega)) (fun k hk => (I1 (162 + k) (by omega) (by omega) (by omega) (by omega))) (I1 181 (by omega) (by omega) (by omega) (by omega)) (I1 182 (by omega) (by omega) (by omega) (by omega)) (I1 183 (by omega) (by omega) (by omega) (by omega)) (I1 184 (by omega) (by omega) (by omega) (by omega))), (hS.to (S1 2 (by omega) (by omega) (by omega) (by omega)) (S1 33 (by omega) (by omega) (by omega) (by omega)) (S1 3 (by omega) (by omega) (by omega) (by omega)) (S1 36 (by omega) (by omega) (by omega) (by omega)) (S1 4 (by omega) (by omega) (by omega) (by omega)) (S1 37 (by omega) (by omega) (by omega) (by omega)))⟩)
set_option maxHeartbeats 4000000 in
set_option maxRecDepth 100000 in
theorem lw_c15 (C : xC z cL_law RL 7) (F : xF z l room_1 D (xty ca)) (Y : xY0 z N0 sa) (S : xSc z b L xs) (hl : l.stackTraces = false) (hN0 : ∀ i, i < 187 → N0 ≤ ad i) (h : LIq V U sc ia la) (hit : 8 * it + 8 ≤ L) (hL : L ≤ 4096) (kk : ∀ V U sc ia la, LIq V U sc ia la → xK z (xw ad (cm ad ca (V, U, sc, ia, la)) 187) (187 + (it + 1)) (3613 + 6 * (it + 1)) 1586 [(4, .int (nI (8 * it))), (3, .ref (ad 186)), (2, .ref (ad 174)), (1, .ref (ad 0)), (0, .ref b)] []) : xK z (xw ad (cm ad ca (V, U, sc, ia, la)) 187) (187 + it) (3613 + 6 * it) 1025 [(4, .int (nI (8 * it))), (3, .ref (ad 186)), (2, .ref (ad 174)), (1, .ref (ad 0)), (0, .ref b)] [] := by
  obtain ⟨hN, hF, hW, hU, hP, hO, hR, hS⟩ := h
  have hN9 := hN
  obtain ⟨T, hT, hM, hB⟩ := hN9
  have hcs : 187 + it ≤ room_1.cells ∧ 3613 + 6 * it ≤ room_1.slots := by show 187 + it ≤ 603072 ∧ 3613 + 6 * it ≤ 7215210; omega
  have hcs' : 187 + it + 1 ≤ room_1.cells ∧ 3613 + 6 * it + 6 ≤ room_1.slots := by show 187 + it + 1 ≤ 603072 ∧ 3613 + 6 * it + 6 ≤ 7215210; omega
  have hO9 := hO
  obtain ⟨n, hn9, hn1, hn2, hn3⟩ := hO9
  refine k_aload_n (pc := 1025) C dL_law_1025 rfl 3 rfl ?_
  refine k_arg (pc := 1026) C S 1 4 0 rfl rfl (by omega) dL_law_1026 dL_law_1027 dL_law_1029 (by decide) dL_law_1030 dL_law_1031 ?_
  refine k_aload_n (pc := 1032) C dL_law_1032 rfl 1 rfl ?_
  refine k_callSW (pc := 1033) C F Y (sL_out hl hN0 hn1 hn9) wm_L_104 wst_yL_out thL_I thL_out thE_out (by decide) (by show 187 + it + 1 ≤ 603072 ∧ 3613 + 6 * it + 6 ≤ 7215210; omega) rfl (Nat.le_of_ble_eq_true rfl) dL_law_1033 (fun r1033 M1033 h1033 => ?_)
  obtain ⟨la1, rfl, L1, d6⟩ : ∃ la1, M1033 = cm ad ca (V, U, sc, ia, la1) ∧ (∀ j, j ≠ 186 → la1 j = la j) ∧ ((¬ inR (xs (8 * it + 1)) n ∧ r1033 = 1) ∨ (inR (xs (8 * it + 1)) n ∧ r1033 = 0 ∧ la1 186 0 = (ia 154 (rI (xs (8 * it + 1)))).toInt64)) := by
    have d6 := h1033
    by_cases cx : inR (xs (8 * it + 1)) n
    · rw [if_pos cx] at d6
      exact ⟨_, d6.2, fun j hj => va_up_ne _ _ hj, Or.inr ⟨cx, d6.1, by rw [va_up_self]; simp [vp_updL]⟩⟩
    · rw [if_neg cx] at d6
      exact ⟨la, d6.2, fun _ _ => rfl, Or.inl ⟨cx, d6.1⟩⟩
  obtain ⟨r6, hr6⟩ : ∃ r6, r6 = r1033 := ⟨_, rfl⟩
  rw [← hr6] at d6 ⊢
  refine k_istore (pc := 1036) (lv' := [(5, .int r6), (4, .int (nI (8 * it))), (3, .ref (ad 186)), (2, .ref (ad 174)), (1, .ref (ad 0)), (0, .ref b)]) C dL_law_1036 (by decide) rfl ?_
  refine k_aload_n (pc := 1038) C dL_law_1038 rfl 3 rfl ?_
  refine k_arg (pc := 1039) C S 1 5 1 rfl rfl (by omega) dL_law_1039 dL_law_1040 dL_law_1042 (by decide) dL_law_1043 dL_law_1044 ?_
  refine cvF_L_107 (pc := 1045) C F hcs' (c7_out hn2 (by omega)) rfl (by decide) cm_174 ⟨by decide, by decide⟩ rfl (Nat.le_of_ble_eq_true rfl) dL_law_1045 (fun r1045 M1045 h1045 => ?_)
  obtain ⟨sc2, rfl, S1, E1, E2⟩ : ∃ sc2, M1045 = cm ad ca (V, U, sc2, ia, la1) ∧ (∀ k, k ≠ 30 → sc2 k = sc k) ∧ sc2 30 = r6 ∧ (r6 = 0 → la1 186 0 = (r1045).toInt64) := by
    have d7 := h1045
    rcases d6 with ⟨cx, e⟩ | ⟨cx, e, e9⟩
    · rw [if_neg cx] at d7
      exact ⟨_, d7.2, fun k hk => va_up_ne _ _ hk, by rw [va_up_self, e], fun e0 => absurd (e.symm.trans e0) (by decide)⟩
    · rw [if_pos cx] at d7
      exact ⟨_, d7.2, fun k hk => va_up_ne _ _ hk, by rw [va_up_self, e], fun e0 => by rw [e9, d7.1, hn3 _ (rI_lt cx)]⟩
  refine k_istore (pc := 1048) (lv' := [(6, .int r1045), (5, .int r6), (4, .int (nI (8 * it))), (3, .ref (ad 186)), (2, .ref (ad 174)), (1, .ref (ad 0)), (0, .ref b)]) C dL_law_1048 (by decide) rfl ?_
  refine k_aload_n (pc := 1050) C dL_law_1050 rfl 4 rfl ?_
  refine cvF_L_63 (pc := 1051) C F hcs' (c7_thrown) rfl (by decide) cm_174 ⟨by decide, by decide⟩ rfl (Nat.le_of_ble_eq_true rfl) dL_law_1051 (fun r1051 M1051 h1051 => ?_)
  obtain ⟨e8, rfl⟩ := h1051
  refine k_iload (pc := 1054) C dL_law_1054 1 rfl ?_
  refine k_icmp_eq (pc := 1056) (tgt := 1061) C dL_law_1056 (by decide) (fun _ => ?_) (fun c => absurd (e8.trans E1) c)
  refine k_iload (pc := 1061) C dL_law_1061 1 rfl ?_
  refine k_if_ne (pc := 1063) (tgt := 1078) C dL_law_1063 (by decide) (fun _ => ?_) (fun c9 => ?_)
  · refine k_goto (pc := 1078) (tgt := 1586) C dL_law_1078 (by decide) ?_
    refine k_widen (cs' := 187 + (it + 1)) (ss' := 3613 + 6 * (it + 1)) (by omega) (by omega) ?_
    refine k_lvs (lv' := [(4, .int (nI (8 * it))), (3, .ref (ad 186)), (2, .ref (ad 174)), (1, .ref (ad 0)), (0, .ref b)]) (fun q hq => List.mem_cons_of_mem _ (List.mem_cons_of_mem _ (hq))) ?_
    exact kk V U sc2 ia la1 (⟨hN, (hF.to (fun k hk => S1 k (by omega)) rfl rfl), (hW.to (L1 159 (by omega)) (L1 176 (by omega))), (hU.to (S1 1 (by omega)) (S1 31 (by omega))), (hP.to (S1 20 (by omega)) (S1 32 (by omega)) rfl rfl), (hO.to (S1 11 (by omega)) (S1 34 (by omega)) rfl rfl), (hR.to (S1 0 (by omega)) (S1 35 (by omega)) (fun k hk => rfl) rfl rfl rfl rfl), (hS.to (S1 2 (by omega)) (S1 33 (by omega)) (S1 3 (by omega)) (S1 36 (by omega)) (S1 4 (by omega)) (S1 37 (by omega)))⟩)
  refine k_aload_n (pc := 1066) C dL_law_1066 rfl 3 rfl ?_
  refine k_iconst (pc := 1067) (v := nI 0) C dL_law_1067 (by decide) ?_
  refine k_laldF (pc := 1068) C F 186 (by decide) cm_186 0 rfl (by decide) (by decide) dL_law_1068 ?_
  refine k_iload (pc := 1069) C dL_law_1069 0 rfl ?_
  refine k_i2l (pc := 1071) C dL_law_1071 rfl ?_
  refine k_lcmp (pc := 1072) C dL_law_1072 ?_
  refine k_if_eq (pc := 1073) (tgt := 1078) C dL_law_1073 (by decide) (fun _ => ?_) (fun c => absurd (by rw [E2 c9]; exact lg_cmp0 _) c)
  refine k_goto (pc := 1078) (tgt := 1586) C dL_law_1078 (by decide) ?_
  refine k_widen (cs' := 187 + (it + 1)) (ss' := 3613 + 6 * (it + 1)) (by omega) (by omega) ?_
  refine k_lvs (lv' := [(4, .int (nI (8 * it))), (3, .ref (ad 186)), (2, .ref (ad 174)), (1, .ref (ad 0)), (0, .ref b)]) (fun q hq => List.mem_cons_of_mem _ (List.mem_cons_of_mem _ (hq))) ?_
  exact kk V U sc2 ia la1 (⟨hN, (hF.to (fun k hk => S1 k (by omega)) rfl rfl), (hW.to (L1 159 (by omega)) (L1 176 (by omega))), (hU.to (S1 1 (by omega)) (S1 31 (by omega))), (hP.to (S1 20 (by omega)) (S1 32 (by omega)) rfl rfl), (hO.to (S1 11 (by omega)) (S1 34 (by omega)) rfl rfl), (hR.to (S1 0 (by omega)) (S1 35 (by omega)) (fun k hk => rfl) rfl rfl rfl rfl), (hS.to (S1 2 (by omega)) (S1 33 (by omega)) (S1 3 (by omega)) (S1 36 (by omega)) (S1 4 (by omega)) (S1 37 (by omega)))⟩)
end LW9
