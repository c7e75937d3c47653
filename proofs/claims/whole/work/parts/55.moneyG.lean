section EG
variable {l : Launch} {D : va_G} {ca : Nat → ClassId} {ad : Nat → Nat} {V U : Nat → Nat} {sc : Nat → Int32} {ia : Nat → Nat → Int32} {la : Nat → Nat → Int64}
/-! ===== rows of acts: the class ===== -/
def isL (a : Nat) : Prop := a = 1 ∨ a = 68
section CML
variable {ad : Nat → Nat} {ca : Nat → ClassId} {V U : Nat → Nat} {sc : Nat → Int32} {ia : Nat → Nat → Int32} {la : Nat → Nat → Int64}
theorem cm_L0 {a : Nat} (h : isL a) : cm ad ca (V, U, sc, ia, la) a = .inr (4, [.ref (ad (a + 1)), .ref (ad (a + 2))]) := by
  rcases h with e | e <;> subst e
  · exact cm_1
  · exact cm_68
theorem cm_L1 {a : Nat} (h : isL a) : cm ad ca (V, U, sc, ia, la) (a + 1) = .inl (ca 2, 16, xRf fun r => ad (a + 3 + 2 * r)) := by
  rcases h with e | e <;> subst e
  · exact cm_2
  · exact cm_69
theorem cm_L2 {a : Nat} (h : isL a) : cm ad ca (V, U, sc, ia, la) (a + 2) = .inl (ca 3, 4, xRf fun p => ad (a + 35 + 8 * p)) := by
  rcases h with e | e <;> subst e
  · exact cm_3
  · exact cm_70
end CML
theorem isL_lt {a : Nat} (h : isL a) : a + 2 < 187 := by unfold isL at h; omega
theorem wL {a r : Nat} (h : isL a) (hr : r < 16) : isW (a + 3 + 2 * r) := by unfold isL at h; unfold isW; omega
theorem pL {a p : Nat} (h : isL a) (hp : p < 4) : isP (a + 35 + 8 * p) := by unfold isL at h; unfold isP; omega
def FL (sc : Nat → Int32) (a : Nat) (fp fq : Nat → Nat) : Prop := ∀ p, p < 4 → sc (200 + (a + 35 + 8 * p)) = nI (fp p) ∧ sc (400 + (a + 35 + 8 * p)) = nI (fq p)
theorem FL_1 {sc : Nat → Int32} {fp fq : Nat → Nat} : FL sc 1 fp fq = FC sc fp fq := rfl
theorem FL.up {sc : Nat → Int32} {a : Nat} {fp fq : Nat → Nat} (h : FL sc a fp fq) {k : Nat} {v : Int32} (hk : k < 200) : FL (va_up sc k v) a fp fq := fun p hp => by
  rw [upIn (by omega), upIn (by omega)]; exact h p hp
theorem FC.up {sc : Nat → Int32} {fp fq : Nat → Nat} (h : FC sc fp fq) {k : Nat} {v : Int32} (hk : k < 200) : FC (va_up sc k v) fp fq := FL.up (a := 1) h hk
theorem FC.o {sc sc' : Nat → Int32} {fp fq : Nat → Nat} (h : FC sc fp fq) (f : ∀ k, 200 ≤ k → sc' k = sc k) : FC sc' fp fq := fun p hp => by
  rw [f _ (by omega), f _ (by omega)]; exact h p hp
def RB (V T : Nat → Nat) : Prop := ∀ k, k < 28 → V (68 + (idc k - 1)) = T k
theorem idc_ge (k : Nat) : 4 ≤ idc k := by unfold idc; split <;> omega
theorem swOut {t : Int32} (n0 : ¬ t = 0) (n1 : ¬ t = 1) (n2 : ¬ t = 2) (n3 : ¬ t = 3) : t.toInt < 0 ∨ 3 < t.toInt := by
  rcases Int.lt_or_le t.toInt 0 with h | h
  · exact Or.inl h
  · rcases Int.lt_or_le 3 t.toInt with h2 | h2
    · exact Or.inr h2
    · exfalso
      obtain ⟨k, hk, rfl⟩ := inR_k (x := t) (n := 4) ⟨h, by omega⟩
      rcases (show k = 0 ∨ k = 1 ∨ k = 2 ∨ k = 3 by omega) with e | e | e | e <;> subst e
      · exact n0 rfl
      · exact n1 rfl
      · exact n2 rfl
      · exact n3 rfl
set_option maxHeartbeats 4000000 in
set_option maxRecDepth 100000 in
/-- Ledger.copy -/
theorem c2_copy {a b : Nat} (ha : isL a) (hb : isL b) (hab : a ≠ b) : xV l D (xty ca) yX2_copy cX2_copy 3 none 3 130 [.ref (ad a), .ref (ad b)] ad (cm ad ca (V, U, sc, ia, la)) (fun M' => ∃ V' sc', M' = cm ad ca (V', U, sc', ia, la) ∧ (∀ k, k < 28 → V' (a + (idc k - 1)) = V (b + (idc k - 1))) ∧ (∀ k, (k < a + 3 ∨ a + 67 ≤ k) → V' k = V k) ∧ (∀ fp fq, FL sc b fp fq → FL sc' a fp fq) ∧ ∀ k, (∀ p, p < 4 → k ≠ 200 + (a + 35 + 8 * p) ∧ k ≠ 400 + (a + 35 + 8 * p)) → sc' k = sc k) := by
  refine xM.of (by decide) (Nat.le_of_ble_eq_true rfl) (fun z C E => ?_)
  have ha9 := ha
  have hb9 := hb
  unfold isL at ha9 hb9
  have loop2 : ∀ (n k : Nat) (W : Nat → Nat) (s : Nat → Int32), 4 - k < n → k ≤ 4 → (∀ j, j < 16 + 3 * k → j < 28 → W (a + (idc j - 1)) = V (b + (idc j - 1))) → (∀ j, (j < a + 3 ∨ a + 67 ≤ j) → W j = V j) → (∀ p, p < k → s (200 + (a + 35 + 8 * p)) = sc (200 + (b + 35 + 8 * p)) ∧ s (400 + (a + 35 + 8 * p)) = sc (400 + (b + 35 + 8 * p))) → (∀ j, (∀ p, p < 4 → j ≠ 200 + (a + 35 + 8 * p) ∧ j ≠ 400 + (a + 35 + 8 * p)) → s j = sc j) → xK z (xw ad (cm ad ca (W, U, s, ia, la)) 187) 0 0 31 [(2, .int (nI k)), (0, .ref (ad a)), (1, .ref (ad b))] [] := by
    intro n
    induction n with
    | zero => intro k W s h; exact absurd h (Nat.not_lt_zero _)
    | succ n ih =>
      intro k W s hn hk w1 w2 s1 s2
      refine k_iload_n (pc := 31) C dX2_copy_31 rfl 0 rfl ?_
      refine k_iconst (pc := 32) (v := nI 4) C dX2_copy_32 (by decide) ?_
      refine k_icmp_ge (pc := 33) (tgt := 57) C dX2_copy_33 (by decide) (fun c33 => ?_) (fun c33 => ?_)
      · rw [q_le (by decide) (by omega)] at c33
        exact r_v (pc := 57) C E (⟨W, s, rfl, fun j hj => w1 j (by omega) hj, w2, fun fp fq hf p hp => by have := s1 p (by omega); rw [this.1, this.2]; exact hf p hp, s2⟩) dX2_copy_57
      · rw [q_le (by decide) (by omega)] at c33
        have hk9 : k < 4 := by omega
        refine k_aload_n (pc := 36) C dX2_copy_36 rfl 1 rfl ?_
        refine gf_X2_19 (pc := 37) C (a) (by omega) (cm_L0 ha) rfl dX2_copy_37 ?_
        refine k_iload_n (pc := 40) C dX2_copy_40 rfl 0 rfl ?_
        refine k_aald (pc := 41) C E (a + 2) (by omega) 3 rfl rfl (cm_L2 ha) (k) rfl (by omega) (by decide) (a + 35 + 8 * k) rfl dX2_copy_41 ?_
        refine k_aload_n (pc := 42) C dX2_copy_42 rfl 2 rfl ?_
        refine gf_X2_19 (pc := 43) C (b) (by omega) (cm_L0 hb) rfl dX2_copy_43 ?_
        refine k_iload_n (pc := 46) C dX2_copy_46 rfl 0 rfl ?_
        refine k_aald (pc := 47) C E (b + 2) (by omega) 3 rfl rfl (cm_L2 hb) (k) rfl (by omega) (by decide) (b + 35 + 8 * k) rfl dX2_copy_47 ?_
        refine cv_X2_29 (pc := 48) C E (c3_copy (pL ha hk9) (pL hb hk9) (by omega)) rfl (by omega) (cm_P (pL ha hk9)) (by decide) rfl (Nat.le_of_ble_eq_true rfl) dX2_copy_48 (fun M48 h48 => ?_)
        subst h48
        refine k_iinc (pc := 51) (v := nI (k + 1)) (lv' := [(2, .int (nI (k + 1))), (0, .ref (ad (a))), (1, .ref (ad (b)))]) C dX2_copy_51 (k := 0) rfl (nI_1 _) (by decide) rfl ?_
        refine k_goto (pc := 54) (tgt := 31) C dX2_copy_54 (by decide) ?_
        refine k_sub [0, 1, 2] rfl ?_
        exact ih (k + 1) _ _ (by omega) (by omega) (fun j h1 h2 => by
          unfold up3
          by_cases e : j < 16 + 3 * k
          · have hi : idc j ≤ 36 + 8 * k := by unfold idc; split <;> omega
            have hg := idc_ge j
            rw [upn (by omega), upn (by omega), upn (by omega)]; exact w1 j e h2
          · obtain ⟨t, ht, rfl⟩ : ∃ t, t < 3 ∧ j = 16 + 3 * k + t := ⟨j - (16 + 3 * k), by omega, by omega⟩
            rw [idc_p ht]
            rcases (show t = 0 ∨ t = 1 ∨ t = 2 by omega) with e | e | e <;> subst e
            · rw [show a + (38 + 8 * k + 2 * 0 - 1) = a + 35 + 8 * k + 2 by omega, upn (by omega), upn (by omega), ups, w2 _ (by omega)]; congr 1; omega
            · rw [show a + (38 + 8 * k + 2 * 1 - 1) = a + 35 + 8 * k + 4 by omega, upn (by omega), ups, w2 _ (by omega)]; congr 1; omega
            · rw [show a + (38 + 8 * k + 2 * 2 - 1) = a + 35 + 8 * k + 6 by omega, ups, w2 _ (by omega)]; congr 1; omega) (fun j hj => by unfold up3; rw [upn (by omega), upn (by omega), upn (by omega)]; exact w2 j hj) (fun p hp => by
          by_cases e : p = k
          · subst e
            rw [upIn (by omega), upIs, upIs, s2 _ (fun q hq => ⟨by omega, by omega⟩), s2 _ (fun q hq => ⟨by omega, by omega⟩)]
            exact ⟨rfl, rfl⟩
          · rw [upIn (by omega), upIn (by omega), upIn (by omega), upIn (by omega)]; exact s1 p (by omega)) (fun j hj => by rw [upIn (hj k hk9).2, upIn (hj k hk9).1]; exact s2 j hj)
  have loop1 : ∀ (n k : Nat) (W : Nat → Nat), 16 - k < n → k ≤ 16 → (∀ j, j < k → W (a + 3 + 2 * j) = V (b + 3 + 2 * j)) → (∀ j, (j < a + 3 ∨ a + 3 + 2 * k ≤ j) → W j = V j) → xK z (xw ad (cm ad ca (W, U, sc, ia, la)) 187) 0 0 2 [(2, .int (nI k)), (0, .ref (ad a)), (1, .ref (ad b))] [] := by
    intro n
    induction n with
    | zero => intro k W h; exact absurd h (Nat.not_lt_zero _)
    | succ n ih =>
      intro k W hn hk w1 w2
      refine k_iload_n (pc := 2) C dX2_copy_2 rfl 0 rfl ?_
      refine k_bipush (pc := 3) (v := nI 16) C dX2_copy_3 (by decide) ?_
      refine k_icmp_ge (pc := 5) (tgt := 29) C dX2_copy_5 (by decide) (fun c5 => ?_) (fun c5 => ?_)
      · rw [q_le (by decide) (by omega)] at c5
        refine k_iconst (pc := 29) (v := nI 0) C dX2_copy_29 (by decide) ?_
        refine k_istore_n (pc := 30) (lv' := [(2, .int (nI 0)), (0, .ref (ad (a))), (1, .ref (ad (b)))]) C dX2_copy_30 rfl (by decide) rfl ?_
        refine k_sub [0, 1, 2] rfl ?_
        exact loop2 5 0 W sc (by decide) (by decide) (fun j h1 h2 => by rw [idc_r (by omega)]; have := w1 j (by omega); rw [show a + (4 + 2 * j - 1) = a + 3 + 2 * j by omega, show b + (4 + 2 * j - 1) = b + 3 + 2 * j by omega]; exact this) (fun j hj => w2 j (by omega)) (fun p hp => absurd hp (Nat.not_lt_zero _)) (fun _ _ => rfl)
      · rw [q_le (by decide) (by omega)] at c5
        have hk9 : k < 16 := by omega
        refine k_aload_n (pc := 8) C dX2_copy_8 rfl 1 rfl ?_
        refine gf_X2_11 (pc := 9) C (a) (by omega) (cm_L0 ha) rfl dX2_copy_9 ?_
        refine k_iload_n (pc := 12) C dX2_copy_12 rfl 0 rfl ?_
        refine k_aald (pc := 13) C E (a + 1) (by omega) 2 rfl rfl (cm_L1 ha) (k) rfl (by omega) (by decide) (a + 3 + 2 * k) rfl dX2_copy_13 ?_
        refine k_aload_n (pc := 14) C dX2_copy_14 rfl 2 rfl ?_
        refine gf_X2_11 (pc := 15) C (b) (by omega) (cm_L0 hb) rfl dX2_copy_15 ?_
        refine k_iload_n (pc := 18) C dX2_copy_18 rfl 0 rfl ?_
        refine k_aald (pc := 19) C E (b + 1) (by omega) 2 rfl rfl (cm_L1 hb) (k) rfl (by omega) (by decide) (b + 3 + 2 * k) rfl dX2_copy_19 ?_
        refine cv_X2_25 (pc := 20) C E (c_copy (wL ha hk9) (wL hb hk9) (by omega)) rfl (by omega) (cm_w (wL ha hk9)) (by decide) rfl (Nat.le_of_ble_eq_true rfl) dX2_copy_20 (fun M20 h20 => ?_)
        subst h20
        refine k_iinc (pc := 23) (v := nI (k + 1)) (lv' := [(2, .int (nI (k + 1))), (0, .ref (ad (a))), (1, .ref (ad (b)))]) C dX2_copy_23 (k := 0) rfl (nI_1 _) (by decide) rfl ?_
        refine k_goto (pc := 26) (tgt := 2) C dX2_copy_26 (by decide) ?_
        refine k_sub [0, 1, 2] rfl ?_
        exact ih (k + 1) _ (by omega) (by omega) (fun j hj => by
          by_cases e : j = k
          · subst e; rw [ups, w2 _ (by omega)]
          · rw [upn (by omega)]; exact w1 j (by omega)) (fun j hj => by rw [upn (by omega)]; exact w2 j (by omega))
  refine k_iconst (pc := 0) (v := nI 0) C dX2_copy_0 (by decide) ?_
  refine k_istore_n (pc := 1) (lv' := [(2, .int (nI 0)), (0, .ref (ad (a))), (1, .ref (ad (b)))]) C dX2_copy_1 rfl (by decide) rfl ?_
  exact loop1 17 0 V (by decide) (by decide) (fun j hj => absurd hj (Nat.not_lt_zero _)) (fun _ _ => rfl)
set_option maxHeartbeats 4000000 in
set_option maxRecDepth 100000 in
/-- perform -/
theorem c6_perform {T : Nat → Nat} (hT : RC V T) (hB : TB T) {fp fq : Nat → Nat} (hF : FC sc fp fq) (hFB : FB fp fq) {t0 r0 a0 b0 : Int32} : xI l D (xty ca) yX6_perform cX6_perform 5 (some .int) 7 550 [.ref (ad 0), .int t0, .int r0, .int a0, .int b0] ad (cm ad ca (V, U, sc, ia, la)) (fun r M' => ∃ V', M' = cm ad ca (V', U, sc, ia, la) ∧ r = (sAct T fp fq t0 r0 a0 b0).1 ∧ RC V' (sAct T fp fq t0 r0 a0 b0).2 ∧ ∀ k, 68 ≤ k → k < 135 → V' k = V k) := by
  refine xM.of (by decide) (Nat.le_of_ble_eq_true rfl) (fun z C E => ?_)
  refine k_iload_n (pc := 0) C dX6_perform_0 rfl 1 rfl ?_
  by_cases n0 : t0 = 0
  · rw [n0]
    refine k_tableIn (pc := 1) (tgt := 32) C dX6_perform_1 (by decide) (by decide) rfl (by decide) ?_
    refine k_aload_n (pc := 32) C dX6_perform_32 rfl 0 rfl ?_
    refine k_iload_n (pc := 33) C dX6_perform_33 rfl 2 rfl ?_
    refine k_iload_n (pc := 34) C dX6_perform_34 rfl 3 rfl ?_
    refine k_iload (pc := 35) C dX6_perform_35 4 rfl ?_
    refine cv_X6_281 (pc := 37) C E (c6_add hT hB) rfl (by decide) cm_0 (by decide) rfl (Nat.le_of_ble_eq_true rfl) dX6_perform_37 (fun r37 M37 h37 => ?_)
    exact r_i (pc := 40) C E (by
  unfold sAct
  rw [if_pos n0]
  exact h37) dX6_perform_40
  by_cases n1 : t0 = 1
  · rw [n1]
    refine k_tableIn (pc := 1) (tgt := 41) C dX6_perform_1 (by decide) (by decide) rfl (by decide) ?_
    refine k_aload_n (pc := 41) C dX6_perform_41 rfl 0 rfl ?_
    refine k_iload_n (pc := 42) C dX6_perform_42 rfl 2 rfl ?_
    refine k_iload_n (pc := 43) C dX6_perform_43 rfl 3 rfl ?_
    refine k_iload (pc := 44) C dX6_perform_44 4 rfl ?_
    refine cv_X6_284 (pc := 46) C E (c6_take hT hB) rfl (by decide) cm_0 (by decide) rfl (Nat.le_of_ble_eq_true rfl) dX6_perform_46 (fun r46 M46 h46 => ?_)
    exact r_i (pc := 49) C E (by
  unfold sAct
  rw [if_neg n0, if_pos n1]
  exact h46) dX6_perform_49
  by_cases n2 : t0 = 2
  · rw [n2]
    refine k_tableIn (pc := 1) (tgt := 50) C dX6_perform_1 (by decide) (by decide) rfl (by decide) ?_
    refine k_aload_n (pc := 50) C dX6_perform_50 rfl 0 rfl ?_
    refine k_iload (pc := 51) C dX6_perform_51 4 rfl ?_
    refine k_iload_n (pc := 53) C dX6_perform_53 rfl 2 rfl ?_
    refine k_iconst (pc := 54) (v := nI 1) C dX6_perform_54 (by decide) ?_
    refine k_iand (pc := 55) C dX6_perform_55 ?_
    refine k_eqi (y := r0 &&& 1) (rfl) ?_
    refine k_iload_n (pc := 56) C dX6_perform_56 rfl 3 rfl ?_
    refine k_iload_n (pc := 57) C dX6_perform_57 rfl 2 rfl ?_
    refine cv_X6_287 (pc := 58) C E (c6_give hT hB hF hFB) rfl (by decide) cm_0 (by decide) rfl (Nat.le_of_ble_eq_true rfl) dX6_perform_58 (fun r58 M58 h58 => ?_)
    exact r_i (pc := 61) C E (by
  unfold sAct
  rw [if_neg n0, if_neg n1, if_pos n2]
  exact h58) dX6_perform_61
  by_cases n3 : t0 = 3
  · rw [n3]
    refine k_tableIn (pc := 1) (tgt := 62) C dX6_perform_1 (by decide) (by decide) rfl (by decide) ?_
    refine k_aload_n (pc := 62) C dX6_perform_62 rfl 0 rfl ?_
    refine k_iload_n (pc := 63) C dX6_perform_63 rfl 2 rfl ?_
    refine k_iload_n (pc := 64) C dX6_perform_64 rfl 3 rfl ?_
    refine k_iload (pc := 65) C dX6_perform_65 4 rfl ?_
    refine k_i2l (pc := 67) C dX6_perform_67 rfl ?_
    refine k_ldc2 (pc := 68) C kc_X6_290 dX6_perform_68 ?_
    refine k_eql (y := lN 2) rfl ?_
    refine k_iconst (pc := 71) (v := nI 2) C dX6_perform_71 (by decide) ?_
    refine cv_X6_120 (pc := 72) C E (c6_times hT hB) rfl (by decide) cm_0 (by decide) rfl (Nat.le_of_ble_eq_true rfl) dX6_perform_72 (fun r72 M72 h72 => ?_)
    exact r_i (pc := 75) C E (by
  unfold sAct
  rw [if_neg n0, if_neg n1, if_neg n2, if_pos n3]
  exact h72) dX6_perform_75
  refine k_tableOut (pc := 1) (tgt := 76) C dX6_perform_1 (swOut n0 n1 n2 n3) (by decide) ?_
  refine k_aload_n (pc := 76) C dX6_perform_76 rfl 0 rfl ?_
  refine k_iload_n (pc := 77) C dX6_perform_77 rfl 2 rfl ?_
  refine k_iload_n (pc := 78) C dX6_perform_78 rfl 3 rfl ?_
  refine k_iload (pc := 79) C dX6_perform_79 4 rfl ?_
  refine cv_X6_157 (pc := 81) C E (c6_divide hT hB) rfl (by decide) cm_0 (by decide) rfl (Nat.le_of_ble_eq_true rfl) dX6_perform_81 (fun r81 M81 h81 => ?_)
  exact r_i (pc := 84) C E (by
  unfold sAct
  rw [if_neg n0, if_neg n1, if_neg n2, if_neg n3]
  exact h81) dX6_perform_84
set_option maxHeartbeats 4000000 in
set_option maxRecDepth 100000 in
/-- done -/
theorem c6_done {T : Nat → Nat} (hT : RC V T) (hB : TB T) {fp fq : Nat → Nat} (hF : FC sc fp fq) (hFB : FB fp fq) {n : Nat} (hn : sc 0 = nI n) (hn9 : n ≤ 12) {g : Nat → Int32 × Int32 × Int32 × Int32} (hg : ∀ k, k < n → ia (162 + k) 0 = (g k).1 ∧ ia (162 + k) 1 = (g k).2.1 ∧ ia (162 + k) 2 = (g k).2.2.1 ∧ ia (162 + k) 3 = (g k).2.2.2) : xI l D (xty ca) yX6_done cX6_done 4 (some .int) 8 650 [.ref (ad 0)] ad (cm ad ca (V, U, sc, ia, la)) (fun r M' => ∃ V' sc', M' = cm ad ca (V', U, sc', ia, la) ∧ r = (sRow fp fq T g n n 0 T (sc 3)).1 ∧ RC V' (sRow fp fq T g n n 0 T (sc 3)).2.1 ∧ sc' 3 = (sRow fp fq T g n n 0 T (sc 3)).2.2.1 ∧ sc' 4 = (sRow fp fq T g n n 0 T (sc 3)).2.2.2 ∧ sc' 0 = 0 ∧ FC sc' fp fq ∧ ∀ k, k < 200 → k ≠ 0 → k ≠ 3 → k ≠ 4 → sc' k = sc k) := by
  refine xM.of (by decide) (Nat.le_of_ble_eq_true rfl) (fun z C E => ?_)
  obtain ⟨R, hR⟩ : ∃ R, R = sRow fp fq T g n n 0 T (sc 3) := ⟨_, rfl⟩
  have loop : ∀ (m k : Nat) (T9 W : Nat → Nat) (s : Nat → Int32) (c : Int32), k + m = n → RC W T9 → TB T9 → RB W T → FC s fp fq → FL s 68 fp fq → s 3 = c → s 4 = 0 → s 0 = 0 → (∀ j, j < 200 → j ≠ 0 → j ≠ 3 → j ≠ 4 → s j = sc j) → sRow fp fq T g n m k T9 c = R → xK z (xw ad (cm ad ca (W, U, s, ia, la)) 187) 0 0 28 [(2, .int (nI k)), (1, .int (nI n)), (0, .ref (ad 0))] [] := by
    intro m
    induction m with
    | zero =>
      intro k T9 W s c hk wT wB wb sF sL s3 s4 s0 sf hr
      refine k_iload_n (pc := 28) C dX6_done_28 rfl 0 rfl ?_
      refine k_iload_n (pc := 29) C dX6_done_29 rfl 1 rfl ?_
      refine k_icmp_ge (pc := 30) (tgt := 122) C dX6_done_30 (by decide) (fun c30 => ?_) (fun c30 => ?_)
      · rw [q_le (by omega) (by omega)] at c30
        refine k_iload_n (pc := 122) C dX6_done_122 rfl 1 rfl ?_
        exact r_i (pc := 123) C E (by
  rw [← hR, ← hr]
  exact ⟨W, s, rfl, rfl, wT, s3, s4, s0, sF, sf⟩) dX6_done_123
      · rw [q_le (by omega) (by omega)] at c30
        exact absurd (by omega) c30
    | succ m ih =>
      intro k T9 W s c hk0 wT wB wb sF sL s3 s4 s0 sf hr
      have hk : k < 12 := by omega
      obtain ⟨g1, g2, g3, g4⟩ := hg k (by omega)
      rw [sRow] at hr
      refine k_iload_n (pc := 28) C dX6_done_28 rfl 0 rfl ?_
      refine k_iload_n (pc := 29) C dX6_done_29 rfl 1 rfl ?_
      refine k_icmp_ge (pc := 30) (tgt := 122) C dX6_done_30 (by decide) (fun c30 => ?_) (fun c30 => ?_)
      · rw [q_le (by omega) (by omega)] at c30
        exact absurd c30 (by omega)
      · rw [q_le (by omega) (by omega)] at c30
        refine k_aload_n (pc := 33) C dX6_done_33 rfl 2 rfl ?_
        refine k_dup (pc := 34) C dX6_done_34 rfl ?_
        refine gf_X6_62 (pc := 35) C (0) (by decide) cm_0 rfl dX6_done_35 ?_
        refine k_iconst (pc := 38) (v := nI 1) C dX6_done_38 (by decide) ?_
        refine k_iadd (pc := 39) C dX6_done_39 ?_
        refine k_eqi (y := c + 1) (by rw [s3]; rfl) ?_
        refine pf_X6_62 (pc := 40) C (0) (by decide) cm_0 (Nat.le_of_ble_eq_true rfl) dX6_done_40 ?_
        rw [cm_s3]
        obtain ⟨s1, hs1⟩ : ∃ s9, s9 = va_up s 3 (c + 1) := ⟨_, rfl⟩
        rw [← hs1]
        have F1 : FC s1 fp fq := by rw [hs1]; exact sF.up (by decide)
        have L1 : FL s1 68 fp fq := by rw [hs1]; exact sL.up (by decide)
        refine k_aload_n (pc := 43) C dX6_done_43 rfl 2 rfl ?_
        refine k_aload_n (pc := 44) C dX6_done_44 rfl 2 rfl ?_
        refine gf_X6_49 (pc := 45) C (0) (by decide) cm_0 rfl dX6_done_45 ?_
        refine k_iload_n (pc := 48) C dX6_done_48 rfl 0 rfl ?_
        refine k_aald (pc := 49) C E (161) (by decide) 4 rfl rfl cm_161 (k) rfl (by omega) (by decide) (162 + k) rfl dX6_done_49 ?_
        refine k_iconst (pc := 50) (v := nI 0) C dX6_done_50 (by decide) ?_
        refine k_iald (pc := 51) C E (162 + k) (by omega) (cm_row hk) (0) rfl (by decide) (by decide) dX6_done_51 ?_
        refine k_eqi (y := (g k).1) (g1) ?_
        refine k_aload_n (pc := 52) C dX6_done_52 rfl 2 rfl ?_
        refine gf_X6_49 (pc := 53) C (0) (by decide) cm_0 rfl dX6_done_53 ?_
        refine k_iload_n (pc := 56) C dX6_done_56 rfl 0 rfl ?_
        refine k_aald (pc := 57) C E (161) (by decide) 4 rfl rfl cm_161 (k) rfl (by omega) (by decide) (162 + k) rfl dX6_done_57 ?_
        refine k_iconst (pc := 58) (v := nI 1) C dX6_done_58 (by decide) ?_
        refine k_iald (pc := 59) C E (162 + k) (by omega) (cm_row hk) (1) rfl (by decide) (by decide) dX6_done_59 ?_
        refine k_eqi (y := (g k).2.1) (g2) ?_
        refine k_aload_n (pc := 60) C dX6_done_60 rfl 2 rfl ?_
        refine gf_X6_49 (pc := 61) C (0) (by decide) cm_0 rfl dX6_done_61 ?_
        refine k_iload_n (pc := 64) C dX6_done_64 rfl 0 rfl ?_
        refine k_aald (pc := 65) C E (161) (by decide) 4 rfl rfl cm_161 (k) rfl (by omega) (by decide) (162 + k) rfl dX6_done_65 ?_
        refine k_iconst (pc := 66) (v := nI 2) C dX6_done_66 (by decide) ?_
        refine k_iald (pc := 67) C E (162 + k) (by omega) (cm_row hk) (2) rfl (by decide) (by decide) dX6_done_67 ?_
        refine k_eqi (y := (g k).2.2.1) (g3) ?_
        refine k_aload_n (pc := 68) C dX6_done_68 rfl 2 rfl ?_
        refine gf_X6_49 (pc := 69) C (0) (by decide) cm_0 rfl dX6_done_69 ?_
        refine k_iload_n (pc := 72) C dX6_done_72 rfl 0 rfl ?_
        refine k_aald (pc := 73) C E (161) (by decide) 4 rfl rfl cm_161 (k) rfl (by omega) (by decide) (162 + k) rfl dX6_done_73 ?_
        refine k_iconst (pc := 74) (v := nI 3) C dX6_done_74 (by decide) ?_
        refine k_iald (pc := 75) C E (162 + k) (by omega) (cm_row hk) (3) rfl (by decide) (by decide) dX6_done_75 ?_
        refine k_eqi (y := (g k).2.2.2) (g4) ?_
        refine cv_X6_269 (pc := 76) C E (c6_perform wT wB F1 hFB) rfl (by decide) cm_0 (by decide) rfl (Nat.le_of_ble_eq_true rfl) dX6_done_76 (fun r76 M76 h76 => ?_)
        obtain ⟨W1, rfl, hr1, wT1, wf1⟩ := h76
        have wb1 : RB W1 T := fun j hj => by rw [wf1 _ (by have := idc_ge j; omega) (by have := idc_lt hj; omega)]; exact wb j hj
        have wB1 := sAct_TB (fp := fp) (fq := fq) wB hFB (g k).1 (g k).2.1 (g k).2.2.1 (g k).2.2.2
        refine k_istore_n (pc := 79) (lv' := [(3, .int (r76)), (2, .int (nI k)), (1, .int (nI n)), (0, .ref (ad (0)))]) C dX6_done_79 rfl (by decide) rfl ?_
        refine k_iload_n (pc := 80) C dX6_done_80 rfl 0 rfl ?_
        refine k_iconst (pc := 81) (v := nI 1) C dX6_done_81 (by decide) ?_
        refine k_icmp_eq (pc := 82) (tgt := 116) C dX6_done_82 (by decide) (fun c82 => ?_) (fun c82 => ?_)
        · rw [show nI 1 = (1 : Int32) from rfl, hr1] at c82
          refine k_iinc (pc := 116) (v := nI (k + 1)) (lv' := [(2, .int (nI (k + 1))), (3, .int (r76)), (1, .int (nI n)), (0, .ref (ad (0)))]) C dX6_done_116 (k := 1) rfl (nI_1 _) (by decide) rfl ?_
          refine k_goto (pc := 119) (tgt := 28) C dX6_done_119 (by decide) ?_
          refine k_sub [0, 2, 3] rfl ?_
          rw [if_pos c82] at hr
          exact ih (k + 1) _ W1 s1 (c + 1) (by omega) wT1 wB1 wb1 F1 L1 (by rw [hs1, upIs]) (by rw [hs1, upIn (by decide), s4]) (by rw [hs1, upIn (by decide), s0]) (fun j j0 j1 j2 j3 => by rw [hs1, upIn j2]; exact sf j j0 j1 j2 j3) hr
        · rw [show nI 1 = (1 : Int32) from rfl, hr1] at c82
          refine k_aload_n (pc := 85) C dX6_done_85 rfl 3 rfl ?_
          refine gf_X6_10 (pc := 86) C (0) (by decide) cm_0 rfl dX6_done_86 ?_
          refine k_aload_n (pc := 89) C dX6_done_89 rfl 3 rfl ?_
          refine gf_X6_16 (pc := 90) C (0) (by decide) cm_0 rfl dX6_done_90 ?_
          refine cv_X6_266 (pc := 93) C E (c2_copy (a := 1) (b := 68) (Or.inl rfl) (Or.inr rfl) (by decide)) rfl (by decide) cm_1 (by decide) rfl (Nat.le_of_ble_eq_true rfl) dX6_done_93 (fun M93 h93 => ?_)
          obtain ⟨W2, s2, rfl, x1, x2, x3, x4⟩ := h93
          have wT2 : RC W2 T := fun j hj => by have h8 := x1 j hj; rw [show 1 + (idc j - 1) = idc j by have := idc_ge j; omega] at h8; rw [h8]; exact wb1 j hj
          have F2 : FC s2 fp fq := x3 fp fq L1
          have f2 : ∀ j, j < 200 → s2 j = s1 j := fun j hj => x4 j (fun p hp => ⟨by omega, by omega⟩)
          rw [if_neg c82] at hr
          refine k_aload_n (pc := 96) C dX6_done_96 rfl 3 rfl ?_
          refine k_iload_n (pc := 97) C dX6_done_97 rfl 0 rfl ?_
          refine k_bipush (pc := 98) (v := (-5)) C dX6_done_98 (by decide) ?_
          refine k_icmp_ne (pc := 100) (tgt := 107) C dX6_done_100 (by decide) (fun c100 => ?_) (fun c100 => ?_)
          · rw [hr1] at c100
            refine k_iload_n (pc := 107) C dX6_done_107 rfl 0 rfl ?_
            refine pf_X6_65 (pc := 108) C (0) (by decide) cm_0 (Nat.le_of_ble_eq_true rfl) dX6_done_108 ?_
            rw [cm_s4]
            refine k_bipush (pc := 111) (v := (-10)) C dX6_done_111 (by decide) ?_
            refine k_iload_n (pc := 113) C dX6_done_113 rfl 1 rfl ?_
            refine k_isub (pc := 114) C dX6_done_114 ?_
            refine k_eqi (y := iz (-10 - (k : Int))) (by rw [show (-10 : Int32) = iz (-10) by decide, iz_n k, iz_sub]) ?_
            exact r_i (pc := 115) C E (by
  rw [← hR, ← hr]
  first
    | (rw [if_pos c100]
       refine ⟨W2, _, rfl, rfl, wT2, ?_, upIs, ?_, F2.up (by decide), ?_⟩
       · rw [upIn (by decide), f2 3 (by decide), hs1, upIs]
       · rw [upIn (by decide), f2 0 (by decide), hs1, upIn (by decide), s0]
       · intro j j0 j1 j2 j3
         rw [upIn j3, f2 j j0, hs1, upIn j2]; exact sf j j0 j1 j2 j3)
    | (rw [if_neg c100]
       refine ⟨W2, _, rfl, rfl, wT2, ?_, upIs.trans hr1, ?_, F2.up (by decide), ?_⟩
       · rw [upIn (by decide), f2 3 (by decide), hs1, upIs]
       · rw [upIn (by decide), f2 0 (by decide), hs1, upIn (by decide), s0]
       · intro j j0 j1 j2 j3
         rw [upIn j3, f2 j j0, hs1, upIn j2]; exact sf j j0 j1 j2 j3)) dX6_done_115
          · rw [hr1] at c100
            refine k_iconst (pc := 103) (v := nI 1) C dX6_done_103 (by decide) ?_
            refine k_goto (pc := 104) (tgt := 108) C dX6_done_104 (by decide) ?_
            refine pf_X6_65 (pc := 108) C (0) (by decide) cm_0 (Nat.le_of_ble_eq_true rfl) dX6_done_108 ?_
            rw [cm_s4]
            refine k_bipush (pc := 111) (v := (-10)) C dX6_done_111 (by decide) ?_
            refine k_iload_n (pc := 113) C dX6_done_113 rfl 1 rfl ?_
            refine k_isub (pc := 114) C dX6_done_114 ?_
            refine k_eqi (y := iz (-10 - (k : Int))) (by rw [show (-10 : Int32) = iz (-10) by decide, iz_n k, iz_sub]) ?_
            exact r_i (pc := 115) C E (by
  rw [← hR, ← hr]
  first
    | (rw [if_pos c100]
       refine ⟨W2, _, rfl, rfl, wT2, ?_, upIs, ?_, F2.up (by decide), ?_⟩
       · rw [upIn (by decide), f2 3 (by decide), hs1, upIs]
       · rw [upIn (by decide), f2 0 (by decide), hs1, upIn (by decide), s0]
       · intro j j0 j1 j2 j3
         rw [upIn j3, f2 j j0, hs1, upIn j2]; exact sf j j0 j1 j2 j3)
    | (rw [if_neg c100]
       refine ⟨W2, _, rfl, rfl, wT2, ?_, upIs.trans hr1, ?_, F2.up (by decide), ?_⟩
       · rw [upIn (by decide), f2 3 (by decide), hs1, upIs]
       · rw [upIn (by decide), f2 0 (by decide), hs1, upIn (by decide), s0]
       · intro j j0 j1 j2 j3
         rw [upIn j3, f2 j j0, hs1, upIn j2]; exact sf j j0 j1 j2 j3)) dX6_done_115
  refine k_aload_n (pc := 0) C dX6_done_0 rfl 0 rfl ?_
  refine gf_X6_52 (pc := 1) C (0) (by decide) cm_0 rfl dX6_done_1 ?_
  refine k_eqi (y := nI n) (hn) ?_
  refine k_istore_n (pc := 4) (lv' := [(1, .int (nI n)), (0, .ref (ad (0)))]) C dX6_done_4 rfl (by decide) rfl ?_
  refine k_aload_n (pc := 5) C dX6_done_5 rfl 1 rfl ?_
  refine k_iconst (pc := 6) (v := nI 0) C dX6_done_6 (by decide) ?_
  refine pf_X6_52 (pc := 7) C (0) (by decide) cm_0 (Nat.le_of_ble_eq_true rfl) dX6_done_7 ?_
  rw [cm_s0]
  refine k_aload_n (pc := 10) C dX6_done_10 rfl 1 rfl ?_
  refine k_iconst (pc := 11) (v := nI 0) C dX6_done_11 (by decide) ?_
  refine pf_X6_65 (pc := 12) C (0) (by decide) cm_0 (Nat.le_of_ble_eq_true rfl) dX6_done_12 ?_
  rw [cm_s4]
  refine k_aload_n (pc := 15) C dX6_done_15 rfl 1 rfl ?_
  refine gf_X6_16 (pc := 16) C (0) (by decide) cm_0 rfl dX6_done_16 ?_
  refine k_aload_n (pc := 19) C dX6_done_19 rfl 1 rfl ?_
  refine gf_X6_10 (pc := 20) C (0) (by decide) cm_0 rfl dX6_done_20 ?_
  refine cv_X6_266 (pc := 23) C E (c2_copy (a := 68) (b := 1) (Or.inr rfl) (Or.inl rfl) (by decide)) rfl (by decide) cm_68 (by decide) rfl (Nat.le_of_ble_eq_true rfl) dX6_done_23 (fun M23 h23 => ?_)
  obtain ⟨W2, s2, rfl, x1, x2, x3, x4⟩ := h23
  have f2 : ∀ j, j < 200 → s2 j = va_up (va_up sc 0 (nI 0)) 4 (nI 0) j := fun j hj => x4 j (fun p hp => ⟨by omega, by omega⟩)
  have F1 : FC (va_up (va_up sc 0 (nI 0)) 4 (nI 0)) fp fq := (hF.up (by decide)).up (by decide)
  have F2 : FC s2 fp fq := fun p hp => by rw [x4 _ (fun q hq => ⟨by omega, by omega⟩), x4 _ (fun q hq => ⟨by omega, by omega⟩)]; exact F1 p hp
  have wT2 : RC W2 T := hT.o (fun j hj => x2 j (by omega))
  have wb2 : RB W2 T := fun j hj => by rw [x1 j hj, show 1 + (idc j - 1) = idc j by have := idc_ge j; omega]; exact hT j hj
  refine k_iconst (pc := 26) (v := nI 0) C dX6_done_26 (by decide) ?_
  refine k_istore_n (pc := 27) (lv' := [(2, .int (nI 0)), (1, .int (nI n)), (0, .ref (ad (0)))]) C dX6_done_27 rfl (by decide) rfl ?_
  refine k_sub [0, 1, 2] rfl ?_
  exact loop n 0 T W2 s2 (sc 3) (by omega) wT2 hB wb2 F2 (x3 fp fq F1) (by rw [f2 3 (by decide), upIn (by decide), upIn (by decide)]) (by rw [f2 4 (by decide), upIs]; rfl) (by rw [f2 0 (by decide), upIn (by decide), upIs]; rfl) (fun j j0 j1 j2 j3 => by rw [f2 j j0, upIn j3, upIn j1]) hR.symm
end EG
