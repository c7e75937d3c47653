theorem i5_init {l : Launch} {D : va_G} {ca : Nat → ClassId} {X : va_W} {a : Nat} : xMA l D (xty ca) yX5_init cX5_init 1 1 12 1 24 [.ref a] (X ++ [(a, .inr (7, [.null]))]) (fun v w' => v = none ∧ ∃ b : Nat → Nat, b 0 = a ∧ w' = X ++ pX5 ca b) := by
  refine xMA.of (by decide) (Nat.le_of_ble_eq_true rfl) ?_
  intro z C E Y
  have F := E.F
  refine k_aload_n (pc := 0) C dX5_init_0 rfl 0 rfl ?_
  refine g_obj (pc := 1) C F ao_X5 ao_i ao_c (by decide) dX5_init_1 ?_
  refine k_aload_n (pc := 4) C dX5_init_4 rfl 0 rfl ?_
  refine k_bipush (pc := 5) (v := nI 24) C dX5_init_5 (by decide) ?_
  refine g_newi (pc := 7) C F aw_int 24 rfl (by decide) (by decide) (by decide) dX5_init_7 (fun q7 => ?_)
  refine g_putF (pc := 9) (L' := [(a, .inr (7, [.ref (q7)])), (q7, .inl (ca 0, 24, .inl (fun _ => 0)))]) C E rfl 0 rfl rfl inA_X5 tyX5 tyX5_ok nmX5 0 (by decide) wf_X5_9 rfl rfl rfl rfl rfl (Nat.le_of_ble_eq_true rfl) dX5_init_9 rfl ?_
  refine g_eqL (L' := [(a, .inr (7, [.ref (q7)])), (q7, .inl (ca 0, 24, .inl (dg 0)))]) (by rw [dg_0]) ?_
  exact k_vret (pc := 12) C E ⟨rfl, fun k => [a, q7].getD k 0, rfl, rfl⟩ dX5_init_12
theorem i3_init {l : Launch} {D : va_G} {ca : Nat → ClassId} {X : va_W} {a : Nat} : xMA l D (xty ca) yX3_init cX3_init 1 2 32 7 77 [.ref a] (X ++ [(a, .inr (5, [.null, .null, .int 0, .int 0]))]) (fun v w' => v = none ∧ ∃ b : Nat → Nat, b 0 = a ∧ w' = X ++ pX3 ca b) := by
  refine xMA.of (by decide) (Nat.le_of_ble_eq_true rfl) ?_
  intro z C E Y
  have F := E.F
  refine k_aload_n (pc := 0) C dX3_init_0 rfl 0 rfl ?_
  refine g_obj (pc := 1) C F ao_X3 ao_i ao_c (by decide) dX3_init_1 ?_
  refine k_aload_n (pc := 4) C dX3_init_4 rfl 0 rfl ?_
  refine k_iconst (pc := 5) (v := nI 2) C dX3_init_5 (by decide) ?_
  refine g_anew (pc := 6) C F 2 rfl al_X3_9 (fun s hs => by subst hs; exact Y.1) 2 rfl (by decide) (by decide) (by decide) dX3_init_6 (fun q6 => ?_)
  refine k_dup (pc := 9) C dX3_init_9 rfl ?_
  refine k_iconst (pc := 10) (v := nI 0) C dX3_init_10 (by decide) ?_
  refine g_new (pc := 11) C F inA_X5 tyX5 tyX5_ok al_X3_9 an_X5 wI_X5 (ci := 7) rfl (fs := [.null]) (fun j hj => by match j, hj with | 0, _ => rfl | n + 1, h => exact absurd h (by omega)) (by decide) (by decide) dX3_init_11 (fun q11 => ?_)
  refine k_dup (pc := 14) C dX3_init_14 rfl ?_
  refine g_callIN (pc := 15) (Pb := fun b => b 0 = q11) (pic := pX5 ca) C F Y (i5_init (X := _)) wm_X3_11 wi_yX5_init rfl wI_X5 wc_yX5_init ⟨by decide, by decide, by decide⟩ (by decide) (by decide) (Nat.le_of_ble_eq_true rfl) dX3_init_15 (fun b15 hb15 => ?_)
  subst hb15
  refine g_aast (pc := 18) (L' := [(a, .inr (5, [.null, .null, .int 0, .int 0])), (q6, .inl (ca 2, 2, .inr (.inr (.inr (.inr (va_up (fun _ => none) 0 (some (b15 0)))))))), (b15 0, .inr (7, [.ref (b15 1)])), (b15 1, .inl (ca 0, 24, .inl (dg 0)))]) (r := (RX5, TX5, 1)) C F 1 2 2 7 rfl rfl rfl rfl 0 rfl (by decide) (by decide) dX3_init_18 rfl ?_
  refine k_dup (pc := 19) C dX3_init_19 rfl ?_
  refine k_iconst (pc := 20) (v := nI 1) C dX3_init_20 (by decide) ?_
  refine g_new (pc := 21) C F inA_X5 tyX5 tyX5_ok al_X3_9 an_X5 wI_X5 (ci := 7) rfl (fs := [.null]) (fun j hj => by match j, hj with | 0, _ => rfl | n + 1, h => exact absurd h (by omega)) (by decide) (by decide) dX3_init_21 (fun q21 => ?_)
  refine k_dup (pc := 24) C dX3_init_24 rfl ?_
  refine g_callIN (pc := 25) (Pb := fun b => b 0 = q21) (pic := pX5 ca) C F Y (i5_init (X := _)) wm_X3_11 wi_yX5_init rfl wI_X5 wc_yX5_init ⟨by decide, by decide, by decide⟩ (by decide) (by decide) (Nat.le_of_ble_eq_true rfl) dX3_init_25 (fun b25 hb25 => ?_)
  subst hb25
  refine g_aast (pc := 28) (L' := [(a, .inr (5, [.null, .null, .int 0, .int 0])), (q6, .inl (ca 2, 2, .inr (.inr (.inr (.inr (va_up (va_up (fun _ => none) 0 (some (b15 0))) 1 (some (b25 0)))))))), (b15 0, .inr (7, [.ref (b15 1)])), (b15 1, .inl (ca 0, 24, .inl (dg 0))), (b25 0, .inr (7, [.ref (b25 1)])), (b25 1, .inl (ca 0, 24, .inl (dg 0)))]) (r := (RX5, TX5, 1)) C F 1 2 4 7 rfl rfl rfl rfl 1 rfl (by decide) (by decide) dX3_init_28 rfl ?_
  refine g_putF (pc := 29) (L' := [(a, .inr (5, [.ref (q6), .null, .int 0, .int 0])), (q6, .inl (ca 2, 2, .inr (.inr (.inr (.inr (va_up (va_up (fun _ => none) 0 (some (b15 0))) 1 (some (b25 0)))))))), (b15 0, .inr (7, [.ref (b15 1)])), (b15 1, .inl (ca 0, 24, .inl (dg 0))), (b25 0, .inr (7, [.ref (b25 1)])), (b25 1, .inl (ca 0, 24, .inl (dg 0)))]) C E rfl 0 rfl rfl inA_X3 tyX3 tyX3_ok nmX3 0 (by decide) wf_X3_12 rfl rfl rfl rfl rfl (Nat.le_of_ble_eq_true rfl) dX3_init_29 rfl ?_
  refine k_aload_n (pc := 32) C dX3_init_32 rfl 0 rfl ?_
  refine g_new (pc := 33) C F inA_X5 tyX5 tyX5_ok al_X3_9 an_X5 wI_X5 (ci := 7) rfl (fs := [.null]) (fun j hj => by match j, hj with | 0, _ => rfl | n + 1, h => exact absurd h (by omega)) (by decide) (by decide) dX3_init_33 (fun q33 => ?_)
  refine k_dup (pc := 36) C dX3_init_36 rfl ?_
  refine g_callIN (pc := 37) (Pb := fun b => b 0 = q33) (pic := pX5 ca) C F Y (i5_init (X := _)) wm_X3_11 wi_yX5_init rfl wI_X5 wc_yX5_init ⟨by decide, by decide, by decide⟩ (by decide) (by decide) (Nat.le_of_ble_eq_true rfl) dX3_init_37 (fun b37 hb37 => ?_)
  subst hb37
  refine g_putF (pc := 40) (L' := [(a, .inr (5, [.ref (q6), .ref (b37 0), .int 0, .int 0])), (q6, .inl (ca 2, 2, .inr (.inr (.inr (.inr (va_up (va_up (fun _ => none) 0 (some (b15 0))) 1 (some (b25 0)))))))), (b15 0, .inr (7, [.ref (b15 1)])), (b15 1, .inl (ca 0, 24, .inl (dg 0))), (b25 0, .inr (7, [.ref (b25 1)])), (b25 1, .inl (ca 0, 24, .inl (dg 0))), (b37 0, .inr (7, [.ref (b37 1)])), (b37 1, .inl (ca 0, 24, .inl (dg 0)))]) C E rfl 0 rfl rfl inA_X3 tyX3 tyX3_ok nmX3 1 (by decide) wf_X3_18 rfl rfl rfl rfl rfl (Nat.le_of_ble_eq_true rfl) dX3_init_40 rfl ?_
  refine k_aload_n (pc := 43) C dX3_init_43 rfl 0 rfl ?_
  refine k_iconst (pc := 44) (v := 0) C dX3_init_44 (by decide) ?_
  refine g_put (pc := 45) (L' := [(a, .inr (5, [.ref (q6), .ref (b37 0), .int 0, .int 0])), (q6, .inl (ca 2, 2, .inr (.inr (.inr (.inr (va_up (va_up (fun _ => none) 0 (some (b15 0))) 1 (some (b25 0)))))))), (b15 0, .inr (7, [.ref (b15 1)])), (b15 1, .inl (ca 0, 24, .inl (dg 0))), (b25 0, .inr (7, [.ref (b25 1)])), (b25 1, .inl (ca 0, 24, .inl (dg 0))), (b37 0, .inr (7, [.ref (b37 1)])), (b37 1, .inl (ca 0, 24, .inl (dg 0)))]) C 0 rfl rfl inA_X3 tyX3 tyX3_ok nmX3 2 (by decide) wf_X3_22 rfl rfl rfl rfl (Nat.le_of_ble_eq_true rfl) dX3_init_45 rfl ?_
  refine k_aload_n (pc := 48) C dX3_init_48 rfl 0 rfl ?_
  refine k_iconst (pc := 49) (v := 1) C dX3_init_49 (by decide) ?_
  refine g_put (pc := 50) (L' := [(a, .inr (5, [.ref (q6), .ref (b37 0), .int 0, .int 1])), (q6, .inl (ca 2, 2, .inr (.inr (.inr (.inr (va_up (va_up (fun _ => none) 0 (some (b15 0))) 1 (some (b25 0)))))))), (b15 0, .inr (7, [.ref (b15 1)])), (b15 1, .inl (ca 0, 24, .inl (dg 0))), (b25 0, .inr (7, [.ref (b25 1)])), (b25 1, .inl (ca 0, 24, .inl (dg 0))), (b37 0, .inr (7, [.ref (b37 1)])), (b37 1, .inl (ca 0, 24, .inl (dg 0)))]) C 0 rfl rfl inA_X3 tyX3 tyX3_ok nmX3 3 (by decide) wf_X3_26 rfl rfl rfl rfl (Nat.le_of_ble_eq_true rfl) dX3_init_50 rfl ?_
  refine g_arr 1 (L' := [(a, .inr (5, [.ref (q6), .ref (b37 0), .int 0, .int 1])), (q6, .inl (ca 2, 2, .inr (.inr (.inr (.inr (fun k => some ([a, q6, b15 0, b15 1, b25 0, b25 1, b37 0, b37 1].getD (2 + 2 * k) 0))))))), (b15 0, .inr (7, [.ref (b15 1)])), (b15 1, .inl (ca 0, 24, .inl (dg 0))), (b25 0, .inr (7, [.ref (b25 1)])), (b25 1, .inl (ca 0, 24, .inl (dg 0))), (b37 0, .inr (7, [.ref (b37 1)])), (b37 1, .inl (ca 0, 24, .inl (dg 0)))]) (g := fun k => some ([a, q6, b15 0, b15 1, b25 0, b25 1, b37 0, b37 1].getD (2 + 2 * k) 0)) rfl (fun j hj => by match j, hj with | 0, _ => rfl | 1, _ => rfl | n + 2, h => exact absurd h (by omega)) rfl ?_
  exact k_vret (pc := 53) C E ⟨rfl, fun k => [a, q6, b15 0, b15 1, b25 0, b25 1, b37 0, b37 1].getD k 0, rfl, rfl⟩ dX3_init_53
theorem i1_init {l : Launch} {D : va_G} {ca : Nat → ClassId} {X : va_W} {a : Nat} : xMA l D (xty ca) yX1_init cX1_init 1 2 32 16 200 [.ref a] (X ++ [(a, .inr (3, [.null, .null, .null, .null, .null, .null, .null, .null]))]) (fun v w' => v = none ∧ ∃ b : Nat → Nat, b 0 = a ∧ w' = X ++ pX1 ca b) := by
  refine xMA.of (by decide) (Nat.le_of_ble_eq_true rfl) ?_
  intro z C E Y
  have F := E.F
  refine k_aload_n (pc := 0) C dX1_init_0 rfl 0 rfl ?_
  refine g_obj (pc := 1) C F ao_X1 ao_i ao_c (by decide) dX1_init_1 ?_
  refine k_aload_n (pc := 4) C dX1_init_4 rfl 0 rfl ?_
  refine g_new (pc := 5) C F inA_X5 tyX5 tyX5_ok al_X1_9 an_X5 wI_X5 (ci := 7) rfl (fs := [.null]) (fun j hj => by match j, hj with | 0, _ => rfl | n + 1, h => exact absurd h (by omega)) (by decide) (by decide) dX1_init_5 (fun q5 => ?_)
  refine k_dup (pc := 8) C dX1_init_8 rfl ?_
  refine g_callIN (pc := 9) (Pb := fun b => b 0 = q5) (pic := pX5 ca) C F Y (i5_init (X := _)) wm_X1_11 wi_yX5_init rfl wI_X5 wc_yX5_init ⟨by decide, by decide, by decide⟩ (by decide) (by decide) (Nat.le_of_ble_eq_true rfl) dX1_init_9 (fun b9 hb9 => ?_)
  subst hb9
  refine g_putF (pc := 12) (L' := [(a, .inr (3, [.ref (b9 0), .null, .null, .null, .null, .null, .null, .null])), (b9 0, .inr (7, [.ref (b9 1)])), (b9 1, .inl (ca 0, 24, .inl (dg 0)))]) C E rfl 0 rfl rfl inA_X1 tyX1 tyX1_ok nmX1 0 (by decide) wf_X1_12 rfl rfl rfl rfl rfl (Nat.le_of_ble_eq_true rfl) dX1_init_12 rfl ?_
  refine k_aload_n (pc := 15) C dX1_init_15 rfl 0 rfl ?_
  refine g_new (pc := 16) C F inA_X5 tyX5 tyX5_ok al_X1_9 an_X5 wI_X5 (ci := 7) rfl (fs := [.null]) (fun j hj => by match j, hj with | 0, _ => rfl | n + 1, h => exact absurd h (by omega)) (by decide) (by decide) dX1_init_16 (fun q16 => ?_)
  refine k_dup (pc := 19) C dX1_init_19 rfl ?_
  refine g_callIN (pc := 20) (Pb := fun b => b 0 = q16) (pic := pX5 ca) C F Y (i5_init (X := _)) wm_X1_11 wi_yX5_init rfl wI_X5 wc_yX5_init ⟨by decide, by decide, by decide⟩ (by decide) (by decide) (Nat.le_of_ble_eq_true rfl) dX1_init_20 (fun b20 hb20 => ?_)
  subst hb20
  refine g_putF (pc := 23) (L' := [(a, .inr (3, [.ref (b9 0), .ref (b20 0), .null, .null, .null, .null, .null, .null])), (b9 0, .inr (7, [.ref (b9 1)])), (b9 1, .inl (ca 0, 24, .inl (dg 0))), (b20 0, .inr (7, [.ref (b20 1)])), (b20 1, .inl (ca 0, 24, .inl (dg 0)))]) C E rfl 0 rfl rfl inA_X1 tyX1 tyX1_ok nmX1 1 (by decide) wf_X1_18 rfl rfl rfl rfl rfl (Nat.le_of_ble_eq_true rfl) dX1_init_23 rfl ?_
  refine k_aload_n (pc := 26) C dX1_init_26 rfl 0 rfl ?_
  refine g_new (pc := 27) C F inA_X5 tyX5 tyX5_ok al_X1_9 an_X5 wI_X5 (ci := 7) rfl (fs := [.null]) (fun j hj => by match j, hj with | 0, _ => rfl | n + 1, h => exact absurd h (by omega)) (by decide) (by decide) dX1_init_27 (fun q27 => ?_)
  refine k_dup (pc := 30) C dX1_init_30 rfl ?_
  refine g_callIN (pc := 31) (Pb := fun b => b 0 = q27) (pic := pX5 ca) C F Y (i5_init (X := _)) wm_X1_11 wi_yX5_init rfl wI_X5 wc_yX5_init ⟨by decide, by decide, by decide⟩ (by decide) (by decide) (Nat.le_of_ble_eq_true rfl) dX1_init_31 (fun b31 hb31 => ?_)
  subst hb31
  refine g_putF (pc := 34) (L' := [(a, .inr (3, [.ref (b9 0), .ref (b20 0), .ref (b31 0), .null, .null, .null, .null, .null])), (b9 0, .inr (7, [.ref (b9 1)])), (b9 1, .inl (ca 0, 24, .inl (dg 0))), (b20 0, .inr (7, [.ref (b20 1)])), (b20 1, .inl (ca 0, 24, .inl (dg 0))), (b31 0, .inr (7, [.ref (b31 1)])), (b31 1, .inl (ca 0, 24, .inl (dg 0)))]) C E rfl 0 rfl rfl inA_X1 tyX1 tyX1_ok nmX1 2 (by decide) wf_X1_21 rfl rfl rfl rfl rfl (Nat.le_of_ble_eq_true rfl) dX1_init_34 rfl ?_
  refine k_aload_n (pc := 37) C dX1_init_37 rfl 0 rfl ?_
  refine g_new (pc := 38) C F inA_X5 tyX5 tyX5_ok al_X1_9 an_X5 wI_X5 (ci := 7) rfl (fs := [.null]) (fun j hj => by match j, hj with | 0, _ => rfl | n + 1, h => exact absurd h (by omega)) (by decide) (by decide) dX1_init_38 (fun q38 => ?_)
  refine k_dup (pc := 41) C dX1_init_41 rfl ?_
  refine g_callIN (pc := 42) (Pb := fun b => b 0 = q38) (pic := pX5 ca) C F Y (i5_init (X := _)) wm_X1_11 wi_yX5_init rfl wI_X5 wc_yX5_init ⟨by decide, by decide, by decide⟩ (by decide) (by decide) (Nat.le_of_ble_eq_true rfl) dX1_init_42 (fun b42 hb42 => ?_)
  subst hb42
  refine g_putF (pc := 45) (L' := [(a, .inr (3, [.ref (b9 0), .ref (b20 0), .ref (b31 0), .ref (b42 0), .null, .null, .null, .null])), (b9 0, .inr (7, [.ref (b9 1)])), (b9 1, .inl (ca 0, 24, .inl (dg 0))), (b20 0, .inr (7, [.ref (b20 1)])), (b20 1, .inl (ca 0, 24, .inl (dg 0))), (b31 0, .inr (7, [.ref (b31 1)])), (b31 1, .inl (ca 0, 24, .inl (dg 0))), (b42 0, .inr (7, [.ref (b42 1)])), (b42 1, .inl (ca 0, 24, .inl (dg 0)))]) C E rfl 0 rfl rfl inA_X1 tyX1 tyX1_ok nmX1 3 (by decide) wf_X1_24 rfl rfl rfl rfl rfl (Nat.le_of_ble_eq_true rfl) dX1_init_45 rfl ?_
  refine k_aload_n (pc := 48) C dX1_init_48 rfl 0 rfl ?_
  refine g_new (pc := 49) C F inA_X5 tyX5 tyX5_ok al_X1_9 an_X5 wI_X5 (ci := 7) rfl (fs := [.null]) (fun j hj => by match j, hj with | 0, _ => rfl | n + 1, h => exact absurd h (by omega)) (by decide) (by decide) dX1_init_49 (fun q49 => ?_)
  refine k_dup (pc := 52) C dX1_init_52 rfl ?_
  refine g_callIN (pc := 53) (Pb := fun b => b 0 = q49) (pic := pX5 ca) C F Y (i5_init (X := _)) wm_X1_11 wi_yX5_init rfl wI_X5 wc_yX5_init ⟨by decide, by decide, by decide⟩ (by decide) (by decide) (Nat.le_of_ble_eq_true rfl) dX1_init_53 (fun b53 hb53 => ?_)
  subst hb53
  refine g_putF (pc := 56) (L' := [(a, .inr (3, [.ref (b9 0), .ref (b20 0), .ref (b31 0), .ref (b42 0), .ref (b53 0), .null, .null, .null])), (b9 0, .inr (7, [.ref (b9 1)])), (b9 1, .inl (ca 0, 24, .inl (dg 0))), (b20 0, .inr (7, [.ref (b20 1)])), (b20 1, .inl (ca 0, 24, .inl (dg 0))), (b31 0, .inr (7, [.ref (b31 1)])), (b31 1, .inl (ca 0, 24, .inl (dg 0))), (b42 0, .inr (7, [.ref (b42 1)])), (b42 1, .inl (ca 0, 24, .inl (dg 0))), (b53 0, .inr (7, [.ref (b53 1)])), (b53 1, .inl (ca 0, 24, .inl (dg 0)))]) C E rfl 0 rfl rfl inA_X1 tyX1 tyX1_ok nmX1 4 (by decide) wf_X1_27 rfl rfl rfl rfl rfl (Nat.le_of_ble_eq_true rfl) dX1_init_56 rfl ?_
  refine k_aload_n (pc := 59) C dX1_init_59 rfl 0 rfl ?_
  refine g_new (pc := 60) C F inA_X5 tyX5 tyX5_ok al_X1_9 an_X5 wI_X5 (ci := 7) rfl (fs := [.null]) (fun j hj => by match j, hj with | 0, _ => rfl | n + 1, h => exact absurd h (by omega)) (by decide) (by decide) dX1_init_60 (fun q60 => ?_)
  refine k_dup (pc := 63) C dX1_init_63 rfl ?_
  refine g_callIN (pc := 64) (Pb := fun b => b 0 = q60) (pic := pX5 ca) C F Y (i5_init (X := _)) wm_X1_11 wi_yX5_init rfl wI_X5 wc_yX5_init ⟨by decide, by decide, by decide⟩ (by decide) (by decide) (Nat.le_of_ble_eq_true rfl) dX1_init_64 (fun b64 hb64 => ?_)
  subst hb64
  refine g_putF (pc := 67) (L' := [(a, .inr (3, [.ref (b9 0), .ref (b20 0), .ref (b31 0), .ref (b42 0), .ref (b53 0), .ref (b64 0), .null, .null])), (b9 0, .inr (7, [.ref (b9 1)])), (b9 1, .inl (ca 0, 24, .inl (dg 0))), (b20 0, .inr (7, [.ref (b20 1)])), (b20 1, .inl (ca 0, 24, .inl (dg 0))), (b31 0, .inr (7, [.ref (b31 1)])), (b31 1, .inl (ca 0, 24, .inl (dg 0))), (b42 0, .inr (7, [.ref (b42 1)])), (b42 1, .inl (ca 0, 24, .inl (dg 0))), (b53 0, .inr (7, [.ref (b53 1)])), (b53 1, .inl (ca 0, 24, .inl (dg 0))), (b64 0, .inr (7, [.ref (b64 1)])), (b64 1, .inl (ca 0, 24, .inl (dg 0)))]) C E rfl 0 rfl rfl inA_X1 tyX1 tyX1_ok nmX1 5 (by decide) wf_X1_30 rfl rfl rfl rfl rfl (Nat.le_of_ble_eq_true rfl) dX1_init_67 rfl ?_
  refine k_aload_n (pc := 70) C dX1_init_70 rfl 0 rfl ?_
  refine g_new (pc := 71) C F inA_X5 tyX5 tyX5_ok al_X1_9 an_X5 wI_X5 (ci := 7) rfl (fs := [.null]) (fun j hj => by match j, hj with | 0, _ => rfl | n + 1, h => exact absurd h (by omega)) (by decide) (by decide) dX1_init_71 (fun q71 => ?_)
  refine k_dup (pc := 74) C dX1_init_74 rfl ?_
  refine g_callIN (pc := 75) (Pb := fun b => b 0 = q71) (pic := pX5 ca) C F Y (i5_init (X := _)) wm_X1_11 wi_yX5_init rfl wI_X5 wc_yX5_init ⟨by decide, by decide, by decide⟩ (by decide) (by decide) (Nat.le_of_ble_eq_true rfl) dX1_init_75 (fun b75 hb75 => ?_)
  subst hb75
  refine g_putF (pc := 78) (L' := [(a, .inr (3, [.ref (b9 0), .ref (b20 0), .ref (b31 0), .ref (b42 0), .ref (b53 0), .ref (b64 0), .ref (b75 0), .null])), (b9 0, .inr (7, [.ref (b9 1)])), (b9 1, .inl (ca 0, 24, .inl (dg 0))), (b20 0, .inr (7, [.ref (b20 1)])), (b20 1, .inl (ca 0, 24, .inl (dg 0))), (b31 0, .inr (7, [.ref (b31 1)])), (b31 1, .inl (ca 0, 24, .inl (dg 0))), (b42 0, .inr (7, [.ref (b42 1)])), (b42 1, .inl (ca 0, 24, .inl (dg 0))), (b53 0, .inr (7, [.ref (b53 1)])), (b53 1, .inl (ca 0, 24, .inl (dg 0))), (b64 0, .inr (7, [.ref (b64 1)])), (b64 1, .inl (ca 0, 24, .inl (dg 0))), (b75 0, .inr (7, [.ref (b75 1)])), (b75 1, .inl (ca 0, 24, .inl (dg 0)))]) C E rfl 0 rfl rfl inA_X1 tyX1 tyX1_ok nmX1 6 (by decide) wf_X1_33 rfl rfl rfl rfl rfl (Nat.le_of_ble_eq_true rfl) dX1_init_78 rfl ?_
  refine k_aload_n (pc := 81) C dX1_init_81 rfl 0 rfl ?_
  refine g_new (pc := 82) C F inA_X5 tyX5 tyX5_ok al_X1_9 an_X5 wI_X5 (ci := 7) rfl (fs := [.null]) (fun j hj => by match j, hj with | 0, _ => rfl | n + 1, h => exact absurd h (by omega)) (by decide) (by decide) dX1_init_82 (fun q82 => ?_)
  refine k_dup (pc := 85) C dX1_init_85 rfl ?_
  refine g_callIN (pc := 86) (Pb := fun b => b 0 = q82) (pic := pX5 ca) C F Y (i5_init (X := _)) wm_X1_11 wi_yX5_init rfl wI_X5 wc_yX5_init ⟨by decide, by decide, by decide⟩ (by decide) (by decide) (Nat.le_of_ble_eq_true rfl) dX1_init_86 (fun b86 hb86 => ?_)
  subst hb86
  refine g_putF (pc := 89) (L' := [(a, .inr (3, [.ref (b9 0), .ref (b20 0), .ref (b31 0), .ref (b42 0), .ref (b53 0), .ref (b64 0), .ref (b75 0), .ref (b86 0)])), (b9 0, .inr (7, [.ref (b9 1)])), (b9 1, .inl (ca 0, 24, .inl (dg 0))), (b20 0, .inr (7, [.ref (b20 1)])), (b20 1, .inl (ca 0, 24, .inl (dg 0))), (b31 0, .inr (7, [.ref (b31 1)])), (b31 1, .inl (ca 0, 24, .inl (dg 0))), (b42 0, .inr (7, [.ref (b42 1)])), (b42 1, .inl (ca 0, 24, .inl (dg 0))), (b53 0, .inr (7, [.ref (b53 1)])), (b53 1, .inl (ca 0, 24, .inl (dg 0))), (b64 0, .inr (7, [.ref (b64 1)])), (b64 1, .inl (ca 0, 24, .inl (dg 0))), (b75 0, .inr (7, [.ref (b75 1)])), (b75 1, .inl (ca 0, 24, .inl (dg 0))), (b86 0, .inr (7, [.ref (b86 1)])), (b86 1, .inl (ca 0, 24, .inl (dg 0)))]) C E rfl 0 rfl rfl inA_X1 tyX1 tyX1_ok nmX1 7 (by decide) wf_X1_36 rfl rfl rfl rfl rfl (Nat.le_of_ble_eq_true rfl) dX1_init_89 rfl ?_
  exact k_vret (pc := 92) C E ⟨rfl, fun k => [a, b9 0, b9 1, b20 0, b20 1, b31 0, b31 1, b42 0, b42 1, b53 0, b53 1, b64 0, b64 1, b75 0, b75 1, b86 0, b86 1].getD k 0, rfl, rfl⟩ dX1_init_92
theorem i0_init {l : Launch} {D : va_G} {ca : Nat → ClassId} {X : va_W} {a : Nat} : xMA l D (xty ca) yX0_init cX0_init 1 2 32 4 225 [.ref a] (X ++ [(a, .inr (2, [.null, .null, .null, .int 0, .int 0]))]) (fun v w' => v = none ∧ ∃ b : Nat → Nat, b 0 = a ∧ w' = X ++ pX0 ca b) := by
  refine xMA.of (by decide) (Nat.le_of_ble_eq_true rfl) ?_
  intro z C E Y
  have F := E.F
  refine k_aload_n (pc := 0) C dX0_init_0 rfl 0 rfl ?_
  refine g_obj (pc := 1) C F ao_X0 ao_i ao_c (by decide) dX0_init_1 ?_
  refine k_aload_n (pc := 4) C dX0_init_4 rfl 0 rfl ?_
  refine k_bipush (pc := 5) (v := nI 80) C dX0_init_5 (by decide) ?_
  refine g_newi (pc := 7) C F aw_int 80 rfl (by decide) (by decide) (by decide) dX0_init_7 (fun q7 => ?_)
  refine g_putF (pc := 9) (L' := [(a, .inr (2, [.ref (q7), .null, .null, .int 0, .int 0])), (q7, .inl (ca 0, 80, .inl (fun _ => 0)))]) C E rfl 0 rfl rfl inA_X0 tyX0 tyX0_ok nmX0 0 (by decide) wf_X0_9 rfl rfl rfl rfl rfl (Nat.le_of_ble_eq_true rfl) dX0_init_9 rfl ?_
  refine k_aload_n (pc := 12) C dX0_init_12 rfl 0 rfl ?_
  refine k_bipush (pc := 13) (v := nI 120) C dX0_init_13 (by decide) ?_
  refine g_newi (pc := 15) C F aw_int 120 rfl (by decide) (by decide) (by decide) dX0_init_15 (fun q15 => ?_)
  refine g_putF (pc := 17) (L' := [(a, .inr (2, [.ref (q7), .ref (q15), .null, .int 0, .int 0])), (q7, .inl (ca 0, 80, .inl (fun _ => 0))), (q15, .inl (ca 0, 120, .inl (fun _ => 0)))]) C E rfl 0 rfl rfl inA_X0 tyX0 tyX0_ok nmX0 1 (by decide) wf_X0_13 rfl rfl rfl rfl rfl (Nat.le_of_ble_eq_true rfl) dX0_init_17 rfl ?_
  refine k_aload_n (pc := 20) C dX0_init_20 rfl 0 rfl ?_
  refine g_new (pc := 21) C F inA_X5 tyX5 tyX5_ok al_X0_16 an_X5 wI_X5 (ci := 7) rfl (fs := [.null]) (fun j hj => by match j, hj with | 0, _ => rfl | n + 1, h => exact absurd h (by omega)) (by decide) (by decide) dX0_init_21 (fun q21 => ?_)
  refine k_dup (pc := 24) C dX0_init_24 rfl ?_
  refine g_callIN (pc := 25) (Pb := fun b => b 0 = q21) (pic := pX5 ca) C F Y (i5_init (X := _)) wm_X0_18 wi_yX5_init rfl wI_X5 wc_yX5_init ⟨by decide, by decide, by decide⟩ (by decide) (by decide) (Nat.le_of_ble_eq_true rfl) dX0_init_25 (fun b25 hb25 => ?_)
  subst hb25
  refine g_putF (pc := 28) (L' := [(a, .inr (2, [.ref (q7), .ref (q15), .ref (b25 0), .int 0, .int 0])), (q7, .inl (ca 0, 80, .inl (fun _ => 0))), (q15, .inl (ca 0, 120, .inl (fun _ => 0))), (b25 0, .inr (7, [.ref (b25 1)])), (b25 1, .inl (ca 0, 24, .inl (dg 0)))]) C E rfl 0 rfl rfl inA_X0 tyX0 tyX0_ok nmX0 2 (by decide) wf_X0_19 rfl rfl rfl rfl rfl (Nat.le_of_ble_eq_true rfl) dX0_init_28 rfl ?_
  refine k_aload_n (pc := 31) C dX0_init_31 rfl 0 rfl ?_
  refine k_iconst (pc := 32) (v := 1) C dX0_init_32 (by decide) ?_
  refine g_put (pc := 33) (L' := [(a, .inr (2, [.ref (q7), .ref (q15), .ref (b25 0), .int 1, .int 0])), (q7, .inl (ca 0, 80, .inl (fun _ => 0))), (q15, .inl (ca 0, 120, .inl (fun _ => 0))), (b25 0, .inr (7, [.ref (b25 1)])), (b25 1, .inl (ca 0, 24, .inl (dg 0)))]) C 0 rfl rfl inA_X0 tyX0 tyX0_ok nmX0 3 (by decide) wf_X0_23 rfl rfl rfl rfl (Nat.le_of_ble_eq_true rfl) dX0_init_33 rfl ?_
  refine k_aload_n (pc := 36) C dX0_init_36 rfl 0 rfl ?_
  refine k_iconst (pc := 37) (v := 0) C dX0_init_37 (by decide) ?_
  refine g_put (pc := 38) (L' := [(a, .inr (2, [.ref (q7), .ref (q15), .ref (b25 0), .int 1, .int 0])), (q7, .inl (ca 0, 80, .inl (fun _ => 0))), (q15, .inl (ca 0, 120, .inl (fun _ => 0))), (b25 0, .inr (7, [.ref (b25 1)])), (b25 1, .inl (ca 0, 24, .inl (dg 0)))]) C 0 rfl rfl inA_X0 tyX0 tyX0_ok nmX0 4 (by decide) wf_X0_27 rfl rfl rfl rfl (Nat.le_of_ble_eq_true rfl) dX0_init_38 rfl ?_
  exact k_vret (pc := 41) C E ⟨rfl, fun k => [a, q7, q15, b25 0, b25 1].getD k 0, rfl, rfl⟩ dX0_init_41
theorem i4_init {l : Launch} {D : va_G} {ca : Nat → ClassId} {X : va_W} {a : Nat} : xMA l D (xty ca) yX4_init cX4_init 1 1 12 1 120 [.ref a] (X ++ [(a, .inr (6, [.null, .int 0, .int 0, .int 0, .int 0, .int 0, .int 0]))]) (fun v w' => v = none ∧ ∃ b : Nat → Nat, b 0 = a ∧ w' = X ++ pX4 ca b) := by
  refine xMA.of (by decide) (Nat.le_of_ble_eq_true rfl) ?_
  intro z C E Y
  have F := E.F
  refine k_aload_n (pc := 0) C dX4_init_0 rfl 0 rfl ?_
  refine g_obj (pc := 1) C F ao_X4 ao_i ao_c (by decide) dX4_init_1 ?_
  refine k_aload_n (pc := 4) C dX4_init_4 rfl 0 rfl ?_
  refine k_bipush (pc := 5) (v := nI 120) C dX4_init_5 (by decide) ?_
  refine g_newi (pc := 7) C F aw_int 120 rfl (by decide) (by decide) (by decide) dX4_init_7 (fun q7 => ?_)
  refine g_putF (pc := 9) (L' := [(a, .inr (6, [.ref (q7), .int 0, .int 0, .int 0, .int 0, .int 0, .int 0])), (q7, .inl (ca 0, 120, .inl (fun _ => 0)))]) C E rfl 0 rfl rfl inA_X4 tyX4 tyX4_ok nmX4 0 (by decide) wf_X4_11 rfl rfl rfl rfl rfl (Nat.le_of_ble_eq_true rfl) dX4_init_9 rfl ?_
  refine k_aload_n (pc := 12) C dX4_init_12 rfl 0 rfl ?_
  refine k_iconst (pc := 13) (v := 0) C dX4_init_13 (by decide) ?_
  refine g_put (pc := 14) (L' := [(a, .inr (6, [.ref (q7), .int 0, .int 0, .int 0, .int 0, .int 0, .int 0])), (q7, .inl (ca 0, 120, .inl (fun _ => 0)))]) C 0 rfl rfl inA_X4 tyX4 tyX4_ok nmX4 1 (by decide) wf_X4_15 rfl rfl rfl rfl (Nat.le_of_ble_eq_true rfl) dX4_init_14 rfl ?_
  refine k_aload_n (pc := 17) C dX4_init_17 rfl 0 rfl ?_
  refine k_iconst (pc := 18) (v := 0) C dX4_init_18 (by decide) ?_
  refine g_put (pc := 19) (L' := [(a, .inr (6, [.ref (q7), .int 0, .int 0, .int 0, .int 0, .int 0, .int 0])), (q7, .inl (ca 0, 120, .inl (fun _ => 0)))]) C 0 rfl rfl inA_X4 tyX4 tyX4_ok nmX4 2 (by decide) wf_X4_19 rfl rfl rfl rfl (Nat.le_of_ble_eq_true rfl) dX4_init_19 rfl ?_
  refine k_aload_n (pc := 22) C dX4_init_22 rfl 0 rfl ?_
  refine k_iconst (pc := 23) (v := 0) C dX4_init_23 (by decide) ?_
  refine g_put (pc := 24) (L' := [(a, .inr (6, [.ref (q7), .int 0, .int 0, .int 0, .int 0, .int 0, .int 0])), (q7, .inl (ca 0, 120, .inl (fun _ => 0)))]) C 0 rfl rfl inA_X4 tyX4 tyX4_ok nmX4 3 (by decide) wf_X4_22 rfl rfl rfl rfl (Nat.le_of_ble_eq_true rfl) dX4_init_24 rfl ?_
  refine k_aload_n (pc := 27) C dX4_init_27 rfl 0 rfl ?_
  refine k_iconst (pc := 28) (v := 0) C dX4_init_28 (by decide) ?_
  refine g_put (pc := 29) (L' := [(a, .inr (6, [.ref (q7), .int 0, .int 0, .int 0, .int 0, .int 0, .int 0])), (q7, .inl (ca 0, 120, .inl (fun _ => 0)))]) C 0 rfl rfl inA_X4 tyX4 tyX4_ok nmX4 4 (by decide) wf_X4_26 rfl rfl rfl rfl (Nat.le_of_ble_eq_true rfl) dX4_init_29 rfl ?_
  refine k_aload_n (pc := 32) C dX4_init_32 rfl 0 rfl ?_
  refine k_iconst (pc := 33) (v := 0) C dX4_init_33 (by decide) ?_
  refine g_put (pc := 34) (L' := [(a, .inr (6, [.ref (q7), .int 0, .int 0, .int 0, .int 0, .int 0, .int 0])), (q7, .inl (ca 0, 120, .inl (fun _ => 0)))]) C 0 rfl rfl inA_X4 tyX4 tyX4_ok nmX4 5 (by decide) wf_X4_29 rfl rfl rfl rfl (Nat.le_of_ble_eq_true rfl) dX4_init_34 rfl ?_
  refine k_aload_n (pc := 37) C dX4_init_37 rfl 0 rfl ?_
  refine k_iconst (pc := 38) (v := 0) C dX4_init_38 (by decide) ?_
  refine g_put (pc := 39) (L' := [(a, .inr (6, [.ref (q7), .int 0, .int 0, .int 0, .int 0, .int 0, .int 0])), (q7, .inl (ca 0, 120, .inl (fun _ => 0)))]) C 0 rfl rfl inA_X4 tyX4 tyX4_ok nmX4 6 (by decide) wf_X4_32 rfl rfl rfl rfl (Nat.le_of_ble_eq_true rfl) dX4_init_39 rfl ?_
  exact k_vret (pc := 42) C E ⟨rfl, fun k => [a, q7].getD k 0, rfl, rfl⟩ dX4_init_42
