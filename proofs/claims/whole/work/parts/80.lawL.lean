theorem and31 (x : Int32) : ∃ k, k < 32 ∧ x &&& nI 31 = nI k := by
  refine ⟨(x &&& nI 31).toBitVec.toNat, ?_, ?_⟩
  · rw [Int32.toBitVec_and, BitVec.toNat_and]
    have h : (nI 31).toBitVec.toNat = 31 := by decide
    rw [h]
    exact Nat.lt_succ_of_le Nat.and_le_right
  · apply Int32.toBitVec_inj.mp
    show _ = BitVec.ofNat 32 _
    rw [BitVec.ofNat_toNat]
    simp
theorem sub8 {L : Nat} (h : 8 ≤ L) : nI L - nI 8 = nI (L - 8) := by
  have h1 := nI_add (L - 8) 8
  rw [Nat.sub_add_cancel h] at h1
  rw [← h1]
  exact Int32.add_sub_cancel _ _
theorem gt8 {L it : Nat} (hL : L ≤ 4096) (hit : 8 * it ≤ L) : (nI L - nI 8 < nI (8 * it)) ↔ L < 8 * it + 8 := by
  by_cases h : 8 ≤ L
  · rw [sub8 h, nI_ltI (by omega) (by omega)]
    omega
  · have h0 : it = 0 := by omega
    subst h0
    refine ⟨fun _ => by omega, fun _ => ?_⟩
    match L, h with
    | 0, _ => decide
    | 1, _ => decide
    | 2, _ => decide
    | 3, _ => decide
    | 4, _ => decide
    | 5, _ => decide
    | 6, _ => decide
    | 7, _ => decide
    | n + 8, h => exact absurd (by omega) h
theorem k_hN {z : xk} {N0 : Nat} {sa : Nat → Nat} {ad : Nat → Nat} {M : Nat → va_E} {cs ss pc : Nat} {lv : List (Nat × Value)} {rest : List Value} (Y : xY0 z N0 sa) (kk : (∀ i, i < 187 → N0 ≤ ad i) → xK z (xw ad M 187) cs ss pc lv rest) : xK z (xw ad M 187) cs ss pc lv rest := by
  obtain ⟨p, l, e, R, s, m, args, below, meth, c, A, H0, D, tys, nL, Q⟩ := z
  obtain ⟨-, -, hA⟩ := Y
  intro H locs ls hP hD hS hl0
  exact kk (fun i hi => hA _ (hD.2 i _ (xw_get hi))) H locs ls hP hD hS hl0
section LW9
variable {z : xk} {l : Launch} {D : va_G} {ca : Nat → ClassId} {ad : Nat → Nat} {V U : Nat → Nat} {sc : Nat → Int32} {ia : Nat → Nat → Int32} {la : Nat → Nat → Int64} {N0 : Nat} {sa : Nat → Nat} {b L it : Nat} {xs : Nat → Int32}

set_option maxHeartbeats 4000000 in
set_option maxRecDepth 100000 in
theorem lw_it (C : xC z cL_law RL 7) (F : xF z l room_1 D (xty ca)) (Y : xY0 z N0 sa) (S : xSc z b L xs) (hl : l.stackTraces = false) (hN0 : ∀ i, i < 187 → N0 ≤ ad i) (h : LIq V U sc ia la) (hit : 8 * it + 8 ≤ L) (hL : L ≤ 4096) (kk : ∀ V U sc ia la, LIq V U sc ia la → xK z (xw ad (cm ad ca (V, U, sc, ia, la)) 187) (187 + (it + 1)) (3613 + 6 * (it + 1)) 1586 [(4, .int (nI (8 * it))), (3, .ref (ad 186)), (2, .ref (ad 174)), (1, .ref (ad 0)), (0, .ref b)] []) : xK z (xw ad (cm ad ca (V, U, sc, ia, la)) 187) (187 + it) (3613 + 6 * it) 33 [(4, .int (nI (8 * it))), (3, .ref (ad 186)), (2, .ref (ad 174)), (1, .ref (ad 0)), (0, .ref b)] [] := by
  refine k_aload_n (pc := 33) C dL_law_33 rfl 4 rfl ?_
  refine k_iload (pc := 34) C dL_law_34 0 rfl ?_
  refine k_sld (pc := 36) C S (8 * it) rfl (by omega) dL_law_36 ?_
  refine k_bipush (pc := 37) (v := nI 31) C dL_law_37 (by decide) ?_
  refine k_iand (pc := 39) C dL_law_39 ?_
  obtain ⟨k, hk, ek⟩ := and31 (xs (8 * it))
  refine k_eqi (y := nI k) ek ?_
  match k, hk with
  | 0, _ => exact k_tabI (pc := 40) (off := 132) (tgt := 172) C dL_law_40 (by decide) (by decide) (by decide) (by decide) (lw_c0 C F Y S hl hN0 h hit hL kk)
  | 1, _ => exact k_tabI (pc := 40) (off := 201) (tgt := 241) C dL_law_40 (by decide) (by decide) (by decide) (by decide) (lw_c1 C F Y S hl hN0 h hit hL kk)
  | 2, _ => exact k_tabI (pc := 40) (off := 238) (tgt := 278) C dL_law_40 (by decide) (by decide) (by decide) (by decide) (lw_c2 C F Y S hl hN0 h hit hL kk)
  | 3, _ => exact k_tabI (pc := 40) (off := 276) (tgt := 316) C dL_law_40 (by decide) (by decide) (by decide) (by decide) (lw_c3 C F Y S hl hN0 h hit hL kk)
  | 4, _ => exact k_tabI (pc := 40) (off := 325) (tgt := 365) C dL_law_40 (by decide) (by decide) (by decide) (by decide) (lw_c4 C F Y S hl hN0 h hit hL kk)
  | 5, _ => exact k_tabI (pc := 40) (off := 374) (tgt := 414) C dL_law_40 (by decide) (by decide) (by decide) (by decide) (lw_c5 C F Y S hl hN0 h hit hL kk)
  | 6, _ => exact k_tabI (pc := 40) (off := 546) (tgt := 586) C dL_law_40 (by decide) (by decide) (by decide) (by decide) (lw_c6 C F Y S hl hN0 h hit hL kk)
  | 7, _ => exact k_tabI (pc := 40) (off := 607) (tgt := 647) C dL_law_40 (by decide) (by decide) (by decide) (by decide) (lw_c7 C F Y S hl hN0 h hit hL kk)
  | 8, _ => exact k_tabI (pc := 40) (off := 687) (tgt := 727) C dL_law_40 (by decide) (by decide) (by decide) (by decide) (lw_c8 C F Y S hl hN0 h hit hL kk)
  | 9, _ => exact k_tabI (pc := 40) (off := 724) (tgt := 764) C dL_law_40 (by decide) (by decide) (by decide) (by decide) (lw_c9 C F Y S hl hN0 h hit hL kk)
  | 10, _ => exact k_tabI (pc := 40) (off := 793) (tgt := 833) C dL_law_40 (by decide) (by decide) (by decide) (by decide) (lw_c10 C F Y S hl hN0 h hit hL kk)
  | 11, _ => exact k_tabI (pc := 40) (off := 842) (tgt := 882) C dL_law_40 (by decide) (by decide) (by decide) (by decide) (lw_c11 C F Y S hl hN0 h hit hL kk)
  | 12, _ => exact k_tabI (pc := 40) (off := 867) (tgt := 907) C dL_law_40 (by decide) (by decide) (by decide) (by decide) (lw_c12 C F Y S hl hN0 h hit hL kk)
  | 13, _ => exact k_tabI (pc := 40) (off := 935) (tgt := 975) C dL_law_40 (by decide) (by decide) (by decide) (by decide) (lw_c13 C F Y S hl hN0 h hit hL kk)
  | 14, _ => exact k_tabI (pc := 40) (off := 960) (tgt := 1000) C dL_law_40 (by decide) (by decide) (by decide) (by decide) (lw_c14 C F Y S hl hN0 h hit hL kk)
  | 15, _ => exact k_tabI (pc := 40) (off := 985) (tgt := 1025) C dL_law_40 (by decide) (by decide) (by decide) (by decide) (lw_c15 C F Y S hl hN0 h hit hL kk)
  | 16, _ => exact k_tabI (pc := 40) (off := 1041) (tgt := 1081) C dL_law_40 (by decide) (by decide) (by decide) (by decide) (lw_c16 C F Y S hl hN0 h hit hL kk)
  | 17, _ => exact k_tabI (pc := 40) (off := 1066) (tgt := 1106) C dL_law_40 (by decide) (by decide) (by decide) (by decide) (lw_c17 C F Y S hl hN0 h hit hL kk)
  | 18, _ => exact k_tabI (pc := 40) (off := 1091) (tgt := 1131) C dL_law_40 (by decide) (by decide) (by decide) (by decide) (lw_c18 C F Y S hl hN0 h hit hL kk)
  | 19, _ => exact k_tabI (pc := 40) (off := 1104) (tgt := 1144) C dL_law_40 (by decide) (by decide) (by decide) (by decide) (lw_c19 C F Y S hl hN0 h hit hL kk)
  | 20, _ => exact k_tabI (pc := 40) (off := 1153) (tgt := 1193) C dL_law_40 (by decide) (by decide) (by decide) (by decide) (lw_c20 C F Y S hl hN0 h hit hL kk)
  | 21, _ => exact k_tabI (pc := 40) (off := 1214) (tgt := 1254) C dL_law_40 (by decide) (by decide) (by decide) (by decide) (lw_c21 C F Y S hl hN0 h hit hL kk)
  | 22, _ => exact k_tabI (pc := 40) (off := 1275) (tgt := 1315) C dL_law_40 (by decide) (by decide) (by decide) (by decide) (lw_c22 C F Y S hl hN0 h hit hL kk)
  | 23, _ => exact k_tabI (pc := 40) (off := 1336) (tgt := 1376) C dL_law_40 (by decide) (by decide) (by decide) (by decide) (lw_c23 C F Y S hl hN0 h hit hL kk)
  | 24, _ => exact k_tabI (pc := 40) (off := 1397) (tgt := 1437) C dL_law_40 (by decide) (by decide) (by decide) (by decide) (lw_c24 C F Y S hl hN0 h hit hL kk)
  | 25, _ => exact k_tabI (pc := 40) (off := 1446) (tgt := 1486) C dL_law_40 (by decide) (by decide) (by decide) (by decide) (lw_c25 C F Y S hl hN0 h hit hL kk)
  | 26, _ => exact k_tabI (pc := 40) (off := 1507) (tgt := 1547) C dL_law_40 (by decide) (by decide) (by decide) (by decide) (lw_c26 C F Y S hl hN0 h hit hL kk)
  | 27, _ => exact k_tabI (pc := 40) (off := 1520) (tgt := 1560) C dL_law_40 (by decide) (by decide) (by decide) (by decide) (lw_c27 C F Y S hl hN0 h hit hL kk)
  | 28, _ => exact k_tabI (pc := 40) (off := 1533) (tgt := 1573) C dL_law_40 (by decide) (by decide) (by decide) (by decide) (lw_c28 C F Y S hl hN0 h hit hL kk)
  | 29, _ => exact k_tabO (pc := 40) (tgt := 1586) C dL_law_40 (by decide) (by decide) (k_widen (by omega) (by omega) (kk V U sc ia la h))
  | 30, _ => exact k_tabO (pc := 40) (tgt := 1586) C dL_law_40 (by decide) (by decide) (k_widen (by omega) (by omega) (kk V U sc ia la h))
  | 31, _ => exact k_tabO (pc := 40) (tgt := 1586) C dL_law_40 (by decide) (by decide) (k_widen (by omega) (by omega) (kk V U sc ia la h))
  | n + 32, h => exact absurd h (by omega)
theorem lw_loop (C : xC z cL_law RL 7) (F : xF z l room_1 D (xty ca)) (Y : xY0 z N0 sa) (S : xSc z b L xs) (hl : l.stackTraces = false) (hN0 : ∀ i, i < 187 → N0 ≤ ad i) (hL : L ≤ 4096)
    (kk : ∀ V U sc ia la it, 8 * it ≤ 4096 → xK z (xw ad (cm ad ca (V, U, sc, ia, la)) 187) (187 + it) (3613 + 6 * it) 1592 [(4, .int (nI (8 * it))), (3, .ref (ad 186)), (2, .ref (ad 174)), (1, .ref (ad 0)), (0, .ref b)] []) :
    ∀ (n it : Nat) (V U : Nat → Nat) (sc : Nat → Int32) (ia : Nat → Nat → Int32) (la : Nat → Nat → Int64), L / 8 = n + it → LIq V U sc ia la → xK z (xw ad (cm ad ca (V, U, sc, ia, la)) 187) (187 + it) (3613 + 6 * it) 23 [(4, .int (nI (8 * it))), (3, .ref (ad 186)), (2, .ref (ad 174)), (1, .ref (ad 0)), (0, .ref b)] [] := by
  intro n
  induction n with
  | zero =>
    intro it V U sc ia la hn h
    refine k_iload (pc := 23) C dL_law_23 0 rfl ?_
    refine k_aload_n (pc := 25) C dL_law_25 rfl 4 rfl ?_
    refine k_slen (pc := 26) C S dL_law_26 ?_
    refine k_bipush (pc := 27) (v := nI 8) C dL_law_27 (by decide) ?_
    refine k_isub (pc := 29) C dL_law_29 ?_
    refine k_icmp_gt (pc := 30) (tgt := 1592) C dL_law_30 (by decide) (fun c => ?_) (fun c => ?_)
    · exact kk V U sc ia la it (by omega)
    · rw [gt8 hL (by omega)] at c
      omega
  | succ n ih =>
    intro it V U sc ia la hn h
    refine k_iload (pc := 23) C dL_law_23 0 rfl ?_
    refine k_aload_n (pc := 25) C dL_law_25 rfl 4 rfl ?_
    refine k_slen (pc := 26) C S dL_law_26 ?_
    refine k_bipush (pc := 27) (v := nI 8) C dL_law_27 (by decide) ?_
    refine k_isub (pc := 29) C dL_law_29 ?_
    refine k_icmp_gt (pc := 30) (tgt := 1592) C dL_law_30 (by decide) (fun c => ?_) (fun c => ?_)
    · rw [gt8 hL (by omega)] at c
      omega
    refine lw_it C F Y S hl hN0 h (by omega) hL (fun V1 U1 sc1 ia1 la1 h1 => ?_)
    refine k_iinc (pc := 1586) (v := nI (8 * (it + 1))) (lv' := [(4, .int (nI (8 * (it + 1)))), (3, .ref (ad 186)), (2, .ref (ad 174)), (1, .ref (ad 0)), (0, .ref b)]) C dL_law_1586 (k := 0) rfl (nI_add (8 * it) 8) (by decide) rfl ?_
    refine k_goto (pc := 1589) (tgt := 23) C dL_law_1589 (by decide) ?_
    exact ih (it + 1) V1 U1 sc1 ia1 la1 (by omega) h1
end LW9
