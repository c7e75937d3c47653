def iwL (ca : Nat → ClassId) (ws : Nat → Nat → Nat) (r : Nat) : va_W := (List.range r).flatMap (fun j => pX5 ca (ws j))
def iqL (ca : Nat → ClassId) (ws : Nat → Nat → Nat) (r : Nat) : va_W := (List.range r).flatMap (fun j => pX3 ca (ws j))
section LQ
variable {ca : Nat → ClassId} {ws : Nat → Nat → Nat} {b : Nat → Nat}
theorem iwL_s {r : Nat} : iwL ca ws (r + 1) = iwL ca ws r ++ pX5 ca (ws r) := by
  unfold iwL
  rw [List.range_succ, List.flatMap_append]
  simp
theorem iqL_s {r : Nat} : iqL ca ws (r + 1) = iqL ca ws r ++ pX3 ca (ws r) := by
  unfold iqL
  rw [List.range_succ, List.flatMap_append]
  simp
theorem iwL_c {r n : Nat} (h : n ≤ r) : iwL ca (va_up ws r b) n = iwL ca ws n := by
  induction n with
  | zero => rfl
  | succ n ih => rw [iwL_s, iwL_s, ih (by omega), va_up_ne _ _ (by omega)]
theorem iqL_c {r n : Nat} (h : n ≤ r) : iqL ca (va_up ws r b) n = iqL ca ws n := by
  induction n with
  | zero => rfl
  | succ n ih => rw [iqL_s, iqL_s, ih (by omega), va_up_ne _ _ (by omega)]
theorem iwL_len (n : Nat) : (iwL ca ws n).length = 2 * n := by
  induction n with
  | zero => rfl
  | succ n ih => rw [iwL_s, List.length_append, ih]; show 2 * n + 2 = _; omega
theorem iqL_len (n : Nat) : (iqL ca ws n).length = 8 * n := by
  induction n with
  | zero => rfl
  | succ n ih => rw [iqL_s, List.length_append, ih]; show 8 * n + 8 = _; omega
end LQ
def pX2 (ca : Nat → ClassId) (a s p : Nat) (ws ps : Nat → Nat → Nat) : va_W := (a, .inr (4, [.ref s, .ref p])) :: (s, .inl (ca 2, 16, xRf fun k => ws k 0)) :: (p, .inl (ca 3, 4, xRf fun k => ps k 0)) :: (iwL ca ws 16 ++ iqL ca ps 4)
section L2
variable {z : xk} {l : Launch} {D : va_G} {ca : Nat → ClassId} {X : va_W} {a s p : Nat}
theorem i2_a (C : xC z cX2_init yX2_init.cls 2) (F : xF z l { frames := 3, cells := 66, slots := 744, locals := 52 } D (xty ca)) (Y : xYA z)
    (kk : ∀ ws : Nat → Nat → Nat, xK z (X ++ ((a, .inr (4, [.ref s, .ref p])) :: (s, .inl (ca 2, 16, xRf fun k => ws k 0)) :: (p, .inl (ca 3, 4, .inr (.inr (.inr (.inr (fun _ => none)))))) :: iwL ca ws 16)) 34 420 48 [(1, .int (nI 16)), (0, .ref a)] []) :
    ∀ (n r : Nat) (ws : Nat → Nat → Nat) (f : Nat → Option Nat), n + r = 16 → (∀ j, j < r → f j = some (ws j 0)) → xK z (X ++ ((a, .inr (4, [.ref s, .ref p])) :: (s, .inl (ca 2, 16, .inr (.inr (.inr (.inr f))))) :: (p, .inl (ca 3, 4, .inr (.inr (.inr (.inr (fun _ => none)))))) :: iwL ca ws r)) (2 + 2 * r) (20 + 25 * r) 23 [(1, .int (nI r)), (0, .ref a)] [] := by
  intro n
  induction n with
  | zero =>
    intro r ws f hr hf
    have hr9 : r = 16 := by omega
    subst hr9
    refine k_iload_n (pc := 23) C dX2_init_23 rfl 0 rfl ?_
    refine k_bipush (pc := 24) (v := nI 16) C dX2_init_24 (by decide) ?_
    refine k_icmp_ge (pc := 26) (tgt := 48) C dX2_init_26 (by decide) (fun c26 => ?_) (fun c26 => absurd (by decide) c26)
    exact g_arr 1 (g := fun k => some (ws k 0)) rfl (fun j hj => hf j hj) rfl (kk ws)
  | succ n ih =>
    intro r ws f hr hf
    refine k_iload_n (pc := 23) C dX2_init_23 rfl 0 rfl ?_
    refine k_bipush (pc := 24) (v := nI 16) C dX2_init_24 (by decide) ?_
    refine k_icmp_ge (pc := 26) (tgt := 48) C dX2_init_26 (by decide) (fun c26 => ?_) (fun c26 => ?_)
    · rw [q_le (by omega) (by omega)] at c26
      omega
    refine k_aload_n (pc := 29) C dX2_init_29 rfl 1 rfl ?_
    refine g_get (pc := 30) C 0 rfl rfl inA_X2 0 (by decide) wf_X2_11 rfl rfl dX2_init_30 ?_
    refine k_iload_n (pc := 33) C dX2_init_33 rfl 0 rfl ?_
    refine g_new (pc := 34) C F inA_X5 tyX5 tyX5_ok al_X2_9 an_X5 wI_X5 (ci := 7) rfl (fs := [.null]) (fun j hj => by match j, hj with | 0, _ => rfl | n + 1, h => exact absurd h (by omega)) (by show 2 + 2 * r + 1 ≤ 66; omega) (by show 20 + 25 * r + 1 ≤ 744; omega) dX2_init_34 (fun q34 => ?_)
    refine k_dup (pc := 37) C dX2_init_37 rfl ?_
    refine g_callIN (pc := 38) (Pb := fun b => b 0 = q34) (pic := pX5 ca) C F Y (i5_init (X := _)) wm_X2_23 wi_yX5_init rfl wI_X5 wc_yX5_init ⟨by decide, by decide, by decide⟩ (by decide) (by show 2 + 2 * r + 1 + 1 ≤ 66 ∧ 20 + 25 * r + 1 + 24 ≤ 744; omega) (Nat.le_of_ble_eq_true rfl) dX2_init_38 (fun b38 hb38 => ?_)
    subst hb38
    have hlen : ((a, .inr (4, [.ref s, .ref p])) :: (s, .inl (ca 2, 16, .inr (.inr (.inr (.inr f))))) :: (p, .inl (ca 3, 4, .inr (.inr (.inr (.inr (fun _ => none)))))) :: iwL ca ws r : va_W).length = 3 + 2 * r := by
      simp only [List.length_cons, iwL_len]
      omega
    have hv := lx_get ((a, .inr (4, [.ref s, .ref p])) :: (s, .inl (ca 2, 16, .inr (.inr (.inr (.inr f))))) :: (p, .inl (ca 3, 4, .inr (.inr (.inr (.inr (fun _ => none)))))) :: iwL ca ws r : va_W) (pX5 ca b38) 0
    rw [hlen] at hv
    refine g_aast (pc := 41) (L' := (a, .inr (4, [.ref s, .ref p])) :: (s, .inl (ca 2, 16, .inr (.inr (.inr (.inr (va_up f r (some (b38 0)))))))) :: (p, .inl (ca 3, 4, .inr (.inr (.inr (.inr (fun _ => none)))))) :: iwL ca (va_up ws r b38) (r + 1)) (r := (RX5, TX5, 1)) C F 1 2 (3 + 2 * r + 0) 7 rfl rfl hv rfl r rfl (by omega) (by decide) dX2_init_41 (by rw [iwL_s, iwL_c (Nat.le_refl _), va_up_self]; rfl) ?_
    refine k_iinc (pc := 42) (v := nI (r + 1)) (lv' := [(1, .int (nI (r + 1))), (0, .ref a)]) C dX2_init_42 (k := 0) rfl (nI_1 _) (by decide) rfl ?_
    refine k_goto (pc := 45) (tgt := 23) C dX2_init_45 (by decide) ?_
    refine k_widen (cs' := 2 + 2 * (r + 1)) (ss' := 20 + 25 * (r + 1)) (by omega) (by omega) ?_
    refine ih (r + 1) (va_up ws r b38) (va_up f r (some (b38 0))) (by omega) (fun j hj => ?_)
    by_cases hj9 : j = r
    · subst hj9
      rw [va_up_self, va_up_self]
    · rw [va_up_ne _ _ hj9, va_up_ne _ _ hj9]
      exact hf j (by omega)
theorem i2_b (C : xC z cX2_init yX2_init.cls 2) (F : xF z l { frames := 3, cells := 66, slots := 744, locals := 52 } D (xty ca)) (Y : xYA z) {ws : Nat → Nat → Nat}
    (kk : ∀ ps : Nat → Nat → Nat, xK z (X ++ pX2 ca a s p ws ps) 66 744 74 [(1, .int (nI 4)), (0, .ref a)] []) :
    ∀ (n r : Nat) (ps : Nat → Nat → Nat) (f : Nat → Option Nat), n + r = 4 → (∀ j, j < r → f j = some (ps j 0)) → xK z (X ++ ((a, .inr (4, [.ref s, .ref p])) :: (s, .inl (ca 2, 16, xRf fun k => ws k 0)) :: (p, .inl (ca 3, 4, .inr (.inr (.inr (.inr f))))) :: (iwL ca ws 16 ++ iqL ca ps r))) (34 + 8 * r) (420 + 81 * r) 50 [(1, .int (nI r)), (0, .ref a)] [] := by
  intro n
  induction n with
  | zero =>
    intro r ps f hr hf
    have hr9 : r = 4 := by omega
    subst hr9
    refine k_iload_n (pc := 50) C dX2_init_50 rfl 0 rfl ?_
    refine k_iconst (pc := 51) (v := nI 4) C dX2_init_51 (by decide) ?_
    refine k_icmp_ge (pc := 52) (tgt := 74) C dX2_init_52 (by decide) (fun c52 => ?_) (fun c52 => absurd (by decide) c52)
    exact g_arr 2 (g := fun k => some (ps k 0)) rfl (fun j hj => hf j hj) rfl (kk ps)
  | succ n ih =>
    intro r ps f hr hf
    refine k_iload_n (pc := 50) C dX2_init_50 rfl 0 rfl ?_
    refine k_iconst (pc := 51) (v := nI 4) C dX2_init_51 (by decide) ?_
    refine k_icmp_ge (pc := 52) (tgt := 74) C dX2_init_52 (by decide) (fun c52 => ?_) (fun c52 => ?_)
    · rw [q_le (by omega) (by omega)] at c52
      omega
    refine k_aload_n (pc := 55) C dX2_init_55 rfl 1 rfl ?_
    refine g_get (pc := 56) C 0 rfl rfl inA_X2 1 (by decide) wf_X2_19 rfl rfl dX2_init_56 ?_
    refine k_iload_n (pc := 59) C dX2_init_59 rfl 0 rfl ?_
    refine g_new (pc := 60) C F inA_X3 tyX3 tyX3_ok al_X2_17 an_X3 wI_X3 (ci := 5) rfl (fs := [.null, .null, .int 0, .int 0]) (fun j hj => by match j, hj with | 0, _ => rfl | 1, _ => rfl | 2, _ => rfl | 3, _ => rfl | n + 4, h => exact absurd h (by omega)) (by show 34 + 8 * r + 1 ≤ 66; omega) (by show 420 + 81 * r + 4 ≤ 744; omega) dX2_init_60 (fun q60 => ?_)
    refine k_dup (pc := 63) C dX2_init_63 rfl ?_
    refine g_callIN (pc := 64) (Pb := fun b => b 0 = q60) (pic := pX3 ca) C F Y (i3_init (X := _)) wm_X2_24 wi_yX3_init rfl wI_X3 wc_yX3_init ⟨by decide, by decide, by decide⟩ (by decide) (by show 34 + 8 * r + 1 + 7 ≤ 66 ∧ 420 + 81 * r + 4 + 77 ≤ 744; omega) (Nat.le_of_ble_eq_true rfl) dX2_init_64 (fun b64 hb64 => ?_)
    subst hb64
    have hlen : ((a, .inr (4, [.ref s, .ref p])) :: (s, .inl (ca 2, 16, xRf fun k => ws k 0)) :: (p, .inl (ca 3, 4, .inr (.inr (.inr (.inr f))))) :: (iwL ca ws 16 ++ iqL ca ps r) : va_W).length = 35 + 8 * r := by
      simp only [List.length_cons, List.length_append, iwL_len, iqL_len]
      omega
    have hv := lx_get ((a, .inr (4, [.ref s, .ref p])) :: (s, .inl (ca 2, 16, xRf fun k => ws k 0)) :: (p, .inl (ca 3, 4, .inr (.inr (.inr (.inr f))))) :: (iwL ca ws 16 ++ iqL ca ps r) : va_W) (pX3 ca b64) 0
    rw [hlen] at hv
    refine g_aast (pc := 67) (L' := (a, .inr (4, [.ref s, .ref p])) :: (s, .inl (ca 2, 16, xRf fun k => ws k 0)) :: (p, .inl (ca 3, 4, .inr (.inr (.inr (.inr (va_up f r (some (b64 0)))))))) :: (iwL ca ws 16 ++ iqL ca (va_up ps r b64) (r + 1))) (r := (RX3, TX3, 4)) C F 2 3 (35 + 8 * r + 0) 5 rfl rfl hv rfl r rfl (by omega) (by decide) dX2_init_67 (by rw [iqL_s, iqL_c (Nat.le_refl _), va_up_self, ← List.append_assoc]; rfl) ?_
    refine k_iinc (pc := 68) (v := nI (r + 1)) (lv' := [(1, .int (nI (r + 1))), (0, .ref a)]) C dX2_init_68 (k := 0) rfl (nI_1 _) (by decide) rfl ?_
    refine k_goto (pc := 71) (tgt := 50) C dX2_init_71 (by decide) ?_
    refine k_widen (cs' := 34 + 8 * (r + 1)) (ss' := 420 + 81 * (r + 1)) (by omega) (by omega) ?_
    refine ih (r + 1) (va_up ps r b64) (va_up f r (some (b64 0))) (by omega) (fun j hj => ?_)
    by_cases hj9 : j = r
    · subst hj9
      rw [va_up_self, va_up_self]
    · rw [va_up_ne _ _ hj9, va_up_ne _ _ hj9]
      exact hf j (by omega)
end L2
theorem i2_init {l : Launch} {D : va_G} {ca : Nat → ClassId} {X : va_W} {a : Nat} : xMA l D (xty ca) yX2_init cX2_init 2 3 52 66 744 [.ref a] (X ++ [(a, .inr (4, [.null, .null]))]) (fun v w' => v = none ∧ ∃ b : Nat × Nat × (Nat → Nat → Nat) × (Nat → Nat → Nat), True ∧ w' = X ++ pX2 ca a b.1 b.2.1 b.2.2.1 b.2.2.2) := by
  refine xMA.of (by decide) (Nat.le_of_ble_eq_true rfl) ?_
  intro z C E Y
  have F := E.F
  refine k_aload_n (pc := 0) C dX2_init_0 rfl 0 rfl ?_
  refine g_obj (pc := 1) C F ao_X2 ao_i ao_c (by decide) dX2_init_1 ?_
  refine k_aload_n (pc := 4) C dX2_init_4 rfl 0 rfl ?_
  refine k_bipush (pc := 5) (v := nI 16) C dX2_init_5 (by decide) ?_
  refine g_anew (pc := 7) C F 2 rfl al_X2_9 (fun s hs => by subst hs; exact Y.1) 16 rfl (by decide) (by decide) (by decide) dX2_init_7 (fun q7 => ?_)
  refine g_putF (pc := 10) (L' := [(a, .inr (4, [.ref (q7), .null])), (q7, .inl (ca 2, 16, .inr (.inr (.inr (.inr (fun _ => none))))))]) C E rfl 0 rfl rfl inA_X2 tyX2 tyX2_ok nmX2 0 (by decide) wf_X2_11 rfl rfl rfl rfl rfl (Nat.le_of_ble_eq_true rfl) dX2_init_10 rfl ?_
  refine k_aload_n (pc := 13) C dX2_init_13 rfl 0 rfl ?_
  refine k_iconst (pc := 14) (v := nI 4) C dX2_init_14 (by decide) ?_
  refine g_anew (pc := 15) C F 3 rfl al_X2_17 (fun s hs => by subst hs; exact Y.2.1) 4 rfl (by decide) (by decide) (by decide) dX2_init_15 (fun q15 => ?_)
  refine g_putF (pc := 18) (L' := [(a, .inr (4, [.ref (q7), .ref (q15)])), (q7, .inl (ca 2, 16, .inr (.inr (.inr (.inr (fun _ => none)))))), (q15, .inl (ca 3, 4, .inr (.inr (.inr (.inr (fun _ => none))))))]) C E rfl 0 rfl rfl inA_X2 tyX2 tyX2_ok nmX2 1 (by decide) wf_X2_19 rfl rfl rfl rfl rfl (Nat.le_of_ble_eq_true rfl) dX2_init_18 rfl ?_
  refine k_iconst (pc := 21) (v := nI 0) C dX2_init_21 (by decide) ?_
  refine k_istore_n (pc := 22) (lv' := [(1, .int (nI 0)), (0, .ref a)]) C dX2_init_22 rfl (by decide) rfl ?_
  refine k_widen (cs' := 2 + 2 * 0) (ss' := 20 + 25 * 0) (by decide) (by decide) ?_
  refine i2_a C F Y (fun ws => ?_) 16 0 (fun _ _ => 0) (fun _ => none) rfl (fun j hj => absurd hj (by omega))
  refine k_iconst (pc := 48) (v := nI 0) C dX2_init_48 (by decide) ?_
  refine k_istore_n (pc := 49) (lv' := [(1, .int (nI 0)), (0, .ref a)]) C dX2_init_49 rfl (by decide) rfl ?_
  refine k_widen (cs' := 34 + 8 * 0) (ss' := 420 + 81 * 0) (by decide) (by decide) ?_
  refine g_eqL (L' := (a, .inr (4, [.ref q7, .ref q15])) :: (q7, .inl (ca 2, 16, xRf fun k => ws k 0)) :: (q15, .inl (ca 3, 4, .inr (.inr (.inr (.inr (fun _ => none)))))) :: (iwL ca ws 16 ++ iqL ca (fun _ _ => 0) 0)) (by rw [show iqL ca (fun _ _ => 0) 0 = [] from rfl, List.append_nil]) ?_
  refine i2_b C F Y (fun ps => ?_) 4 0 (fun _ _ => 0) (fun _ => none) rfl (fun j hj => absurd hj (by omega))
  exact k_vret (pc := 74) C E ⟨rfl, (q7, q15, ws, ps), trivial, rfl⟩ dX2_init_74
