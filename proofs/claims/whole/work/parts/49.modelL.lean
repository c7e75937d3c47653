section ML
variable {l : Launch} {D : va_G} {ca : Nat → ClassId} {ad : Nat → Nat} {V U : Nat → Nat} {sc : Nat → Int32} {ia : Nat → Nat → Int32} {la : Nat → Nat → Int64}
/-! ===== figures and texts ===== -/
def isND (v c : Nat) : Prop := 1 ≤ c ∧ v < 10 ^ c ∧ (c = 1 ∨ 10 ^ (c - 1) ≤ v)
theorem isND_u {v c d : Nat} (h : isND v c) (g : isND v d) : c = d := by
  obtain ⟨h1, h2, h3⟩ := h
  obtain ⟨g1, g2, g3⟩ := g
  have a : ¬ c < d := fun q => by
    rcases g3 with e | e
    · omega
    · have := Nat.pow_le_pow_right (n := 10) (by decide) (show c ≤ d - 1 by omega)
      omega
  have b : ¬ d < c := fun q => by
    rcases h3 with e | e
    · omega
    · have := Nat.pow_le_pow_right (n := 10) (by decide) (show d ≤ c - 1 by omega)
      omega
  omega
theorem isND_le {v c : Nat} (hv : v < 2 ^ 256) (h : isND v c) : c ≤ 78 := by
  obtain ⟨h1, h2, h3⟩ := h
  rcases h3 with e | e
  · omega
  · rcases Nat.lt_or_ge 78 c with q | q
    · have := Nat.pow_le_pow_right (n := 10) (by decide) (show 78 ≤ c - 1 by omega)
      omega
    · exact q
theorem p10 (k : Nat) : 0 < 10 ^ k := Nat.pow_pos (by decide)
theorem d10_lt {v k : Nat} (hv : v < 2 ^ 256) (h : ¬ v / 10 ^ k = 0) : k < 78 := by
  rcases Nat.lt_or_ge k 78 with q | q
  · exact q
  · have := Nat.pow_le_pow_right (n := 10) (by decide) q
    exact absurd (Nat.div_eq_of_lt (by omega)) h
theorem d10_s (v k : Nat) : v / 10 ^ (k + 1) = v / 10 ^ k / 10 := by rw [Nat.pow_succ, Nat.div_div_eq_div_mul]
theorem isND_of {v k : Nat} (h1 : ¬ k = 0) (h2 : v / 10 ^ k = 0) (h3 : k ≤ 1 ∨ ¬ v / 10 ^ (k - 1) = 0) : isND v k := by
  refine ⟨by omega, ?_, ?_⟩
  · rcases Nat.lt_or_ge v (10 ^ k) with q | q
    · exact q
    · have := Nat.div_pos q (p10 k)
      omega
  · rcases h3 with q | q
    · left; omega
    · right
      rcases Nat.lt_or_ge v (10 ^ (k - 1)) with t | t
      · exact absurd (Nat.div_eq_of_lt t) q
      · exact t
/-- the text of a number from figure i on -/
def ptx (u v : Nat) : Nat → List Int32
  | 0 => [nI (48 + v / 10 ^ 0 % 10)]
  | i + 1 => nI (48 + v / 10 ^ (i + 1) % 10) :: ((if u < i + 1 ∧ (i + 1 - u) % 3 = 0 then [nI 44] else if i + 1 = u then [nI 46] else []) ++ ptx u v i)
def pm (u v : Nat) : Nat → List Int32
  | 0 => []
  | k + 1 => (if k + 1 = u then [nI 46] else []) ++ ptx u v k
theorem pm_s (u v k : Nat) : pm u v (k + 1) = (if k + 1 = u then [nI 46] else []) ++ nI (48 + v / 10 ^ k % 10) :: ((if u < k ∧ (k - u) % 3 = 0 then [nI 44] else []) ++ pm u v k) := by
  show (if k + 1 = u then [nI 46] else []) ++ ptx u v k = _
  congr 1
  cases k with
  | zero => simp [ptx, pm]
  | succ j =>
    simp only [ptx, pm]
    congr 1
    by_cases h : u < j + 1 ∧ (j + 1 - u) % 3 = 0
    · rw [if_pos h, if_pos h, if_neg (by omega)]; rfl
    · rw [if_neg h, if_neg h]; rfl
theorem pm_e {u v k : Nat} (h : u ≤ k) : pm u v (k + 1) = ptx u v k := by
  show (if k + 1 = u then [nI 46] else []) ++ ptx u v k = _
  rw [if_neg (by omega)]; rfl
theorem ptx_len (u v i : Nat) : (ptx u v i).length = i + 1 + (i - u) / 3 + (if 0 < u ∧ u ≤ i then 1 else 0) := by
  induction i with
  | zero =>
    simp only [ptx, List.length_singleton]
    rw [if_neg (by omega)]
    omega
  | succ i ih =>
    simp only [ptx, List.length_cons, List.length_append, ih]
    by_cases h : u < i + 1 ∧ (i + 1 - u) % 3 = 0
    · rw [if_pos h, List.length_singleton]
      by_cases h2 : 0 < u
      · rw [if_pos (by omega), if_pos (by omega)]; omega
      · rw [if_neg (by omega), if_neg (by omega)]; omega
    · rw [if_neg h]
      by_cases h2 : i + 1 = u
      · rw [if_pos h2, List.length_singleton, if_neg (by omega), if_pos (by omega)]; omega
      · rw [if_neg h2, List.length_nil]
        by_cases h3 : 0 < u ∧ u ≤ i
        · rw [if_pos h3, if_pos (by omega)]; omega
        · rw [if_neg h3, if_neg (by omega)]; omega
/-- a list written into an array from place n on -/
def wr (a : Nat → Int32) (n : Nat) : List Int32 → (Nat → Int32)
  | [] => a
  | x :: t => wr (upd a n x) (n + 1) t
theorem wr_lo {a : Nat → Int32} {n k : Nat} (h : k < n) (t : List Int32) : wr a n t k = a k := by
  induction t generalizing a n with
  | nil => rfl
  | cons x t ih =>
    rw [wr, ih (by omega)]
    simp [upd, show ¬ k = n by omega]
theorem wr_at {a : Nat → Int32} {n j : Nat} (t : List Int32) (h : j < t.length) : wr a n t (n + j) = t.getD j 0 := by
  induction t generalizing a n j with
  | nil => exact absurd h (Nat.not_lt_zero _)
  | cons x t ih =>
    rw [wr]
    cases j with
    | zero => rw [wr_lo (by omega)]; simp [upd]
    | succ j =>
      rw [show n + (j + 1) = n + 1 + j by omega, ih (by simpa using h)]
      simp
theorem dgq {X : Nat} : X / 10 % 4294967296 = (X / 4294967296 % 10 * 4294967296 + X % 4294967296) / 10 ∧ X % 10 = (X / 4294967296 % 10 * 4294967296 + X % 4294967296) % 10 := by omega
theorem upSelf {α : Type} (f : Nat → α) (k : Nat) : va_up f k (f k) = f := by
  funext j
  by_cases h : j = k
  · subst h; simp [va_up]
  · simp [va_up, h]
set_option maxHeartbeats 4000000 in
set_option maxRecDepth 100000 in
/-- figuresOf -/
theorem c7_figuresOf {a : Nat} (ha : a < 16) (hb : U a < 2 ^ 256) : xV l D (xty ca) yX7_figuresOf cX7_figuresOf 5 none 1 50 [.ref (ad 174), .int (nI a)] ad (cm ad ca (V, U, sc, ia, la)) (fun M' => ∃ c W f, M' = cm ad ca (V, W, va_up sc 38 (nI c), va_up ia 185 f, la) ∧ isND (U a) c ∧ (∀ k, k < c → f k = nI (U a / 10 ^ k % 10)) ∧ ∀ k, 31 ≠ k → W k = U k) := by
  refine xM.of (by decide) (Nat.le_of_ble_eq_true rfl) (fun z C E => ?_)
  obtain ⟨v, hv⟩ : ∃ v, v = U a := ⟨_, rfl⟩
  rw [← hv] at hb
  have loop : ∀ (n k : Nat) (W : Nat → Nat) (f : Nat → Int32), 79 - k < n → k ≤ 78 → W 31 = v / 10 ^ k → (∀ j, 31 ≠ j → W j = U j) → (∀ j, j < k → f j = nI (v / 10 ^ j % 10)) → (k ≤ 1 ∨ ¬ v / 10 ^ (k - 1) = 0) → xK z (xw ad (cm ad ca (V, W, va_up sc 38 (nI k), va_up ia 185 f, la)) 187) 0 0 12 [(0, .ref (ad 174)), (1, .int (nI a))] [] := by
    intro n
    induction n with
    | zero => intro k W f h; exact absurd h (Nat.not_lt_zero _)
    | succ n ih =>
      intro k W f hn hk w1 wf hf hl
      refine k_aload_n (pc := 12) C dX7_figuresOf_12 rfl 0 rfl ?_
      refine gf_X7_131 (pc := 13) C (174) (by decide) cm_174 rfl dX7_figuresOf_13 ?_
      refine k_eqi (y := nI k) (upIs) ?_
      refine k_if_eq (pc := 16) (tgt := 28) C dX7_figuresOf_16 (by decide) (fun c16 => ?_) (fun c16 => ?_)
      · rw [q_eq0 (by omega)] at c16
        refine k_lconst (pc := 28) (v := lN 0) C dX7_figuresOf_28 (by decide) ?_
        refine k_lstore_n (pc := 29) (lv' := [(2, .long (lN 0)), (0, .ref (ad (174))), (1, .int (nI a))]) C dX7_figuresOf_29 rfl (by decide) rfl ?_
        refine k_bipush (pc := 30) (v := iz (((12 : Nat) : Int) - 1)) C dX7_figuresOf_30 (by decide) ?_
        refine k_istore (pc := 32) (lv' := [(4, .int (iz (((12 : Nat) : Int) - 1))), (2, .long (lN 0)), (0, .ref (ad (174))), (1, .int (nI a))]) C dX7_figuresOf_32 (by decide) rfl ?_
        have hk78 : k < 78 := by first | (rw [c16]; decide) | exact d10_lt hb c25
        have hkl : k + 1 ≤ 1 ∨ ¬ v / 10 ^ (k + 1 - 1) = 0 := by first | (left; omega) | (right; exact c25)
        obtain ⟨x, hx⟩ : ∃ x, x = v / 10 ^ k := ⟨_, rfl⟩
        have hx9 : x < 2 ^ 256 := by rw [hx]; exact Nat.lt_of_le_of_lt (Nat.div_le_self _ _) hb
        have il : ∀ c : Nat, c ≤ 12 → xK z (xw ad (cm ad ca (V, (va_up W 31 (bq c x (x / 10))), va_up sc 38 (nI k), va_up ia 185 f, la)) 187) 0 0 34 [(4, .int (iz ((c : Int) - 1))), (2, .long (lN (x / 4294967296 ^ c % 10))), (0, .ref (ad 174)), (1, .int (nI a))] [] := by
          intro c
          induction c with
          | zero =>
            intro hc
            refine k_iload (pc := 34) C dX7_figuresOf_34 0 rfl ?_
            refine k_if_lt (pc := 36) (tgt := 84) C dX7_figuresOf_36 (by decide) (fun c36 => ?_) (fun c36 => ?_)
            · rw [iz_lt0 (by omega) (by omega)] at c36
              refine k_aload_n (pc := 84) C dX7_figuresOf_84 rfl 2 rfl ?_
              refine gf_X7_48 (pc := 85) C (174) (by decide) cm_174 rfl dX7_figuresOf_85 ?_
              refine k_aload_n (pc := 88) C dX7_figuresOf_88 rfl 2 rfl ?_
              refine gf_X7_131 (pc := 89) C (174) (by decide) cm_174 rfl dX7_figuresOf_89 ?_
              refine k_eqi (y := nI k) (upIs) ?_
              refine k_lload_n (pc := 92) C dX7_figuresOf_92 rfl 1 rfl ?_
              refine k_l2i (pc := 93) C dX7_figuresOf_93 rfl ?_
              refine k_eqi (y := nI (x % 10)) (by rw [Nat.pow_zero, Nat.div_one]; exact lN_i _) ?_
              refine k_iast (pc := 94) C E (185) (by decide) cm_185 (k) rfl (by omega) (by decide) dX7_figuresOf_94 ?_
              rw [cm_a185, upIs, bx_uu]
              refine k_aload_n (pc := 95) C dX7_figuresOf_95 rfl 2 rfl ?_
              refine k_dup (pc := 96) C dX7_figuresOf_96 rfl ?_
              refine gf_X7_131 (pc := 97) C (174) (by decide) cm_174 rfl dX7_figuresOf_97 ?_
              refine k_eqi (y := nI k) (upIs) ?_
              refine k_iconst (pc := 100) (v := nI 1) C dX7_figuresOf_100 (by decide) ?_
              refine k_iadd (pc := 101) C dX7_figuresOf_101 ?_
              refine k_eqi (y := nI (k + 1)) (nI_add _ _) ?_
              refine pf_X7_131 (pc := 102) C (174) (by decide) cm_174 (Nat.le_of_ble_eq_true rfl) dX7_figuresOf_102 ?_
              rw [cm_s38, bx_uu]
              refine k_goto (pc := 105) (tgt := 12) C dX7_figuresOf_105 (by decide) ?_
              refine k_sub [2, 3] rfl ?_
              exact ih (k + 1) _ _ (by omega) (by omega) (by rw [ups, bq_0, hx, d10_s]) (fun j hj => by rw [upn hj]; exact wf j hj) (fun j hj => by
                by_cases e : j = k
                · subst e; simp [upd, hx]
                · simp [upd, e]; exact hf j (by omega)) hkl
            · rw [iz_lt0 (by omega) (by omega)] at c36
              exact absurd (by decide) c36
          | succ c ic =>
            intro hc
            obtain ⟨X, hX⟩ : ∃ X, X = x / 4294967296 ^ c := ⟨_, rfl⟩
            rw [dq_s, ← hX]
            obtain ⟨s1, s2⟩ := dgq (X := X)
            have s5 : x / 10 / 4294967296 ^ c = X / 10 := by rw [hX, Nat.div_div_eq_div_mul, Nat.div_div_eq_div_mul, Nat.mul_comm]
            refine k_iload (pc := 34) C dX7_figuresOf_34 0 rfl ?_
            refine k_if_lt (pc := 36) (tgt := 84) C dX7_figuresOf_36 (by decide) (fun c36 => ?_) (fun c36 => ?_)
            · rw [iz_lt0 (by omega) (by omega)] at c36
              exact absurd c36 (by omega)
            · rw [iz_lt0 (by omega) (by omega)] at c36
              refine k_lload_n (pc := 39) C dX7_figuresOf_39 rfl 1 rfl ?_
              refine k_bipush (pc := 40) (v := nI 32) C dX7_figuresOf_40 (by decide) ?_
              refine k_lshl (pc := 42) C dX7_figuresOf_42 rfl ?_
              refine k_eql (y := lN (X / 4294967296 % 10 * 4294967296)) (wb_shl (X / 4294967296 % 10) (k := 32) (by decide)) ?_
              refine k_aload_n (pc := 43) C dX7_figuresOf_43 rfl 2 rfl ?_
              refine gf_X7_7 (pc := 44) C (174) (by decide) cm_174 rfl dX7_figuresOf_44 ?_
              refine k_sipush (pc := 47) (v := nI (12 * 31)) C dX7_figuresOf_47 (by decide) ?_
              refine k_iload (pc := 50) C dX7_figuresOf_50 0 rfl ?_
              refine k_eqi (y := nI c) (iz_pos (t := ((c + 1 : Nat) : Int) - 1) (by omega) |>.trans (congrArg nI (by omega))) ?_
              refine k_iadd (pc := 52) C dX7_figuresOf_52 ?_
              refine k_eqi (y := nI (12 * 31 + c)) (nI_add _ _) ?_
              refine k_lald (pc := 53) C E (175) (by decide) cm_175 (12 * 31 + c) rfl (by omega) (by decide) dX7_figuresOf_53 ?_
              refine k_eql (y := lN (X % 4294967296)) (by rw [mw_at _ (by decide) (by omega), ups, bq_lo (Nat.lt_succ_self c), hX]) ?_
              refine k_lor (pc := 54) C dX7_figuresOf_54 ?_
              refine k_eql (y := lN (X / 4294967296 % 10 * 4294967296 + X % 4294967296)) (g_or (k := 32) (p := 4294967296) rfl (by omega) (by omega)) ?_
              refine k_lstore_n (pc := 55) (lv' := [(2, .long (lN (X / 4294967296 % 10 * 4294967296 + X % 4294967296))), (4, .int (iz (((c + 1 : Nat) : Int) - 1))), (0, .ref (ad (174))), (1, .int (nI a))]) C dX7_figuresOf_55 rfl (by decide) rfl ?_
              refine k_aload_n (pc := 56) C dX7_figuresOf_56 rfl 2 rfl ?_
              refine gf_X7_7 (pc := 57) C (174) (by decide) cm_174 rfl dX7_figuresOf_57 ?_
              refine k_sipush (pc := 60) (v := nI (12 * 31)) C dX7_figuresOf_60 (by decide) ?_
              refine k_iload (pc := 63) C dX7_figuresOf_63 1 rfl ?_
              refine k_eqi (y := nI c) (iz_pos (t := ((c + 1 : Nat) : Int) - 1) (by omega) |>.trans (congrArg nI (by omega))) ?_
              refine k_iadd (pc := 65) C dX7_figuresOf_65 ?_
              refine k_eqi (y := nI (12 * 31 + c)) (nI_add _ _) ?_
              refine k_lload_n (pc := 66) C dX7_figuresOf_66 rfl 0 rfl ?_
              refine k_ldc2 (pc := 67) C kc_X7_117 dX7_figuresOf_67 ?_
              refine k_eql (y := lN 10) rfl ?_
              refine k_ldiv (pc := 70) C dX7_figuresOf_70 (lN_ne0 (by decide) (by decide)) ?_
              refine k_eql (y := lN ((X / 4294967296 % 10 * 4294967296 + X % 4294967296) / 10)) (pk_lDiv (by omega) (by decide) (by decide)) ?_
              refine k_last (pc := 71) C E (175) (by decide) cm_175 (12 * 31 + c) rfl (by omega) (by decide) dX7_figuresOf_71 ?_
              refine k_w (w' := xw ad (cm ad ca (V, (va_up W 31 (bq c x (x / 10))), va_up sc 38 (nI k), va_up ia 185 f, la)) 187) (by rw [mw_bd (by decide) (by omega) (by rw [s5, s1]), cm_upU]) ?_
              refine k_lload_n (pc := 72) C dX7_figuresOf_72 rfl 0 rfl ?_
              refine k_ldc2 (pc := 73) C kc_X7_117 dX7_figuresOf_73 ?_
              refine k_eql (y := lN 10) rfl ?_
              refine k_lrem (pc := 76) C dX7_figuresOf_76 (lN_ne0 (by decide) (by decide)) ?_
              refine k_eql (y := lN (X % 10)) (by rw [s2]; exact pk_lRem (by omega) (by decide) (by decide)) ?_
              refine k_lstore_n (pc := 77) (lv' := [(2, .long (lN (X % 10))), (4, .int (iz (((c + 1 : Nat) : Int) - 1))), (0, .ref (ad (174))), (1, .int (nI a))]) C dX7_figuresOf_77 rfl (by decide) rfl ?_
              refine k_iinc (pc := 78) (v := iz ((c : Int) - 1)) (lv' := [(4, .int (iz ((c : Int) - 1))), (2, .long (lN (X % 10))), (0, .ref (ad (174))), (1, .int (nI a))]) C dX7_figuresOf_78 (k := 1) rfl (show iz (((c + 1 : Nat) : Int) - 1) + iz (-1) = _ by rw [iz_add]; congr 1; omega) (by decide) rfl ?_
              refine k_goto (pc := 81) (tgt := 34) C dX7_figuresOf_81 (by decide) ?_
              refine k_sub [0, 1, 2, 3] rfl ?_
              have h9 := ic (by omega)
              rw [← hX] at h9
              exact h9
        refine k_sub [0, 1, 2, 3] rfl ?_
        have h9 := il 12 (by decide)
        have e9 : bq 12 x (x / 10) = W 31 := by
          rw [w1, ← hx]
          unfold bq
          rw [Nat.mod_eq_of_lt (show x < 4294967296 ^ 12 by omega), Nat.div_eq_of_lt (show x / 10 < 4294967296 ^ 12 by omega), Nat.zero_mul, Nat.add_zero]
        rw [e9, up_self, Nat.div_eq_of_lt (show x < 4294967296 ^ 12 by omega), Nat.zero_mod] at h9
        exact h9
      · rw [q_eq0 (by omega)] at c16
        refine k_aload_n (pc := 19) C dX7_figuresOf_19 rfl 0 rfl ?_
        refine k_bipush (pc := 20) (v := nI 31) C dX7_figuresOf_20 (by decide) ?_
        refine cv_X7_99 (pc := 22) C E (c7_isZero (a := 31) (by decide) (by rw [w1]; have := Nat.div_le_self v (10 ^ k); omega)) rfl (by decide) cm_174 (by decide) rfl (Nat.le_of_ble_eq_true rfl) dX7_figuresOf_22 (fun r22 M22 h22 => ?_)
        obtain ⟨rfl, rfl⟩ := h22
        refine k_if_ne (pc := 25) (tgt := 108) C dX7_figuresOf_25 (by decide) (fun c25 => ?_) (fun c25 => ?_)
        · simp only [b01, Decidable.not_not, w1] at c25
          exact r_v (pc := 108) C E (⟨k, W, f, rfl, by rw [← hv]; exact isND_of c16 c25 hl, fun j hj => by rw [← hv]; exact hf j hj, wf⟩) dX7_figuresOf_108
        · simp only [b01, Decidable.not_not, w1] at c25
          refine k_lconst (pc := 28) (v := lN 0) C dX7_figuresOf_28 (by decide) ?_
          refine k_lstore_n (pc := 29) (lv' := [(2, .long (lN 0)), (0, .ref (ad (174))), (1, .int (nI a))]) C dX7_figuresOf_29 rfl (by decide) rfl ?_
          refine k_bipush (pc := 30) (v := iz (((12 : Nat) : Int) - 1)) C dX7_figuresOf_30 (by decide) ?_
          refine k_istore (pc := 32) (lv' := [(4, .int (iz (((12 : Nat) : Int) - 1))), (2, .long (lN 0)), (0, .ref (ad (174))), (1, .int (nI a))]) C dX7_figuresOf_32 (by decide) rfl ?_
          have hk78 : k < 78 := by first | (rw [c16]; decide) | exact d10_lt hb c25
          have hkl : k + 1 ≤ 1 ∨ ¬ v / 10 ^ (k + 1 - 1) = 0 := by first | (left; omega) | (right; exact c25)
          obtain ⟨x, hx⟩ : ∃ x, x = v / 10 ^ k := ⟨_, rfl⟩
          have hx9 : x < 2 ^ 256 := by rw [hx]; exact Nat.lt_of_le_of_lt (Nat.div_le_self _ _) hb
          have il : ∀ c : Nat, c ≤ 12 → xK z (xw ad (cm ad ca (V, (va_up W 31 (bq c x (x / 10))), va_up sc 38 (nI k), va_up ia 185 f, la)) 187) 0 0 34 [(4, .int (iz ((c : Int) - 1))), (2, .long (lN (x / 4294967296 ^ c % 10))), (0, .ref (ad 174)), (1, .int (nI a))] [] := by
            intro c
            induction c with
            | zero =>
              intro hc
              refine k_iload (pc := 34) C dX7_figuresOf_34 0 rfl ?_
              refine k_if_lt (pc := 36) (tgt := 84) C dX7_figuresOf_36 (by decide) (fun c36 => ?_) (fun c36 => ?_)
              · rw [iz_lt0 (by omega) (by omega)] at c36
                refine k_aload_n (pc := 84) C dX7_figuresOf_84 rfl 2 rfl ?_
                refine gf_X7_48 (pc := 85) C (174) (by decide) cm_174 rfl dX7_figuresOf_85 ?_
                refine k_aload_n (pc := 88) C dX7_figuresOf_88 rfl 2 rfl ?_
                refine gf_X7_131 (pc := 89) C (174) (by decide) cm_174 rfl dX7_figuresOf_89 ?_
                refine k_eqi (y := nI k) (upIs) ?_
                refine k_lload_n (pc := 92) C dX7_figuresOf_92 rfl 1 rfl ?_
                refine k_l2i (pc := 93) C dX7_figuresOf_93 rfl ?_
                refine k_eqi (y := nI (x % 10)) (by rw [Nat.pow_zero, Nat.div_one]; exact lN_i _) ?_
                refine k_iast (pc := 94) C E (185) (by decide) cm_185 (k) rfl (by omega) (by decide) dX7_figuresOf_94 ?_
                rw [cm_a185, upIs, bx_uu]
                refine k_aload_n (pc := 95) C dX7_figuresOf_95 rfl 2 rfl ?_
                refine k_dup (pc := 96) C dX7_figuresOf_96 rfl ?_
                refine gf_X7_131 (pc := 97) C (174) (by decide) cm_174 rfl dX7_figuresOf_97 ?_
                refine k_eqi (y := nI k) (upIs) ?_
                refine k_iconst (pc := 100) (v := nI 1) C dX7_figuresOf_100 (by decide) ?_
                refine k_iadd (pc := 101) C dX7_figuresOf_101 ?_
                refine k_eqi (y := nI (k + 1)) (nI_add _ _) ?_
                refine pf_X7_131 (pc := 102) C (174) (by decide) cm_174 (Nat.le_of_ble_eq_true rfl) dX7_figuresOf_102 ?_
                rw [cm_s38, bx_uu]
                refine k_goto (pc := 105) (tgt := 12) C dX7_figuresOf_105 (by decide) ?_
                refine k_sub [2, 3] rfl ?_
                exact ih (k + 1) _ _ (by omega) (by omega) (by rw [ups, bq_0, hx, d10_s]) (fun j hj => by rw [upn hj]; exact wf j hj) (fun j hj => by
                  by_cases e : j = k
                  · subst e; simp [upd, hx]
                  · simp [upd, e]; exact hf j (by omega)) hkl
              · rw [iz_lt0 (by omega) (by omega)] at c36
                exact absurd (by decide) c36
            | succ c ic =>
              intro hc
              obtain ⟨X, hX⟩ : ∃ X, X = x / 4294967296 ^ c := ⟨_, rfl⟩
              rw [dq_s, ← hX]
              obtain ⟨s1, s2⟩ := dgq (X := X)
              have s5 : x / 10 / 4294967296 ^ c = X / 10 := by rw [hX, Nat.div_div_eq_div_mul, Nat.div_div_eq_div_mul, Nat.mul_comm]
              refine k_iload (pc := 34) C dX7_figuresOf_34 0 rfl ?_
              refine k_if_lt (pc := 36) (tgt := 84) C dX7_figuresOf_36 (by decide) (fun c36 => ?_) (fun c36 => ?_)
              · rw [iz_lt0 (by omega) (by omega)] at c36
                exact absurd c36 (by omega)
              · rw [iz_lt0 (by omega) (by omega)] at c36
                refine k_lload_n (pc := 39) C dX7_figuresOf_39 rfl 1 rfl ?_
                refine k_bipush (pc := 40) (v := nI 32) C dX7_figuresOf_40 (by decide) ?_
                refine k_lshl (pc := 42) C dX7_figuresOf_42 rfl ?_
                refine k_eql (y := lN (X / 4294967296 % 10 * 4294967296)) (wb_shl (X / 4294967296 % 10) (k := 32) (by decide)) ?_
                refine k_aload_n (pc := 43) C dX7_figuresOf_43 rfl 2 rfl ?_
                refine gf_X7_7 (pc := 44) C (174) (by decide) cm_174 rfl dX7_figuresOf_44 ?_
                refine k_sipush (pc := 47) (v := nI (12 * 31)) C dX7_figuresOf_47 (by decide) ?_
                refine k_iload (pc := 50) C dX7_figuresOf_50 0 rfl ?_
                refine k_eqi (y := nI c) (iz_pos (t := ((c + 1 : Nat) : Int) - 1) (by omega) |>.trans (congrArg nI (by omega))) ?_
                refine k_iadd (pc := 52) C dX7_figuresOf_52 ?_
                refine k_eqi (y := nI (12 * 31 + c)) (nI_add _ _) ?_
                refine k_lald (pc := 53) C E (175) (by decide) cm_175 (12 * 31 + c) rfl (by omega) (by decide) dX7_figuresOf_53 ?_
                refine k_eql (y := lN (X % 4294967296)) (by rw [mw_at _ (by decide) (by omega), ups, bq_lo (Nat.lt_succ_self c), hX]) ?_
                refine k_lor (pc := 54) C dX7_figuresOf_54 ?_
                refine k_eql (y := lN (X / 4294967296 % 10 * 4294967296 + X % 4294967296)) (g_or (k := 32) (p := 4294967296) rfl (by omega) (by omega)) ?_
                refine k_lstore_n (pc := 55) (lv' := [(2, .long (lN (X / 4294967296 % 10 * 4294967296 + X % 4294967296))), (4, .int (iz (((c + 1 : Nat) : Int) - 1))), (0, .ref (ad (174))), (1, .int (nI a))]) C dX7_figuresOf_55 rfl (by decide) rfl ?_
                refine k_aload_n (pc := 56) C dX7_figuresOf_56 rfl 2 rfl ?_
                refine gf_X7_7 (pc := 57) C (174) (by decide) cm_174 rfl dX7_figuresOf_57 ?_
                refine k_sipush (pc := 60) (v := nI (12 * 31)) C dX7_figuresOf_60 (by decide) ?_
                refine k_iload (pc := 63) C dX7_figuresOf_63 1 rfl ?_
                refine k_eqi (y := nI c) (iz_pos (t := ((c + 1 : Nat) : Int) - 1) (by omega) |>.trans (congrArg nI (by omega))) ?_
                refine k_iadd (pc := 65) C dX7_figuresOf_65 ?_
                refine k_eqi (y := nI (12 * 31 + c)) (nI_add _ _) ?_
                refine k_lload_n (pc := 66) C dX7_figuresOf_66 rfl 0 rfl ?_
                refine k_ldc2 (pc := 67) C kc_X7_117 dX7_figuresOf_67 ?_
                refine k_eql (y := lN 10) rfl ?_
                refine k_ldiv (pc := 70) C dX7_figuresOf_70 (lN_ne0 (by decide) (by decide)) ?_
                refine k_eql (y := lN ((X / 4294967296 % 10 * 4294967296 + X % 4294967296) / 10)) (pk_lDiv (by omega) (by decide) (by decide)) ?_
                refine k_last (pc := 71) C E (175) (by decide) cm_175 (12 * 31 + c) rfl (by omega) (by decide) dX7_figuresOf_71 ?_
                refine k_w (w' := xw ad (cm ad ca (V, (va_up W 31 (bq c x (x / 10))), va_up sc 38 (nI k), va_up ia 185 f, la)) 187) (by rw [mw_bd (by decide) (by omega) (by rw [s5, s1]), cm_upU]) ?_
                refine k_lload_n (pc := 72) C dX7_figuresOf_72 rfl 0 rfl ?_
                refine k_ldc2 (pc := 73) C kc_X7_117 dX7_figuresOf_73 ?_
                refine k_eql (y := lN 10) rfl ?_
                refine k_lrem (pc := 76) C dX7_figuresOf_76 (lN_ne0 (by decide) (by decide)) ?_
                refine k_eql (y := lN (X % 10)) (by rw [s2]; exact pk_lRem (by omega) (by decide) (by decide)) ?_
                refine k_lstore_n (pc := 77) (lv' := [(2, .long (lN (X % 10))), (4, .int (iz (((c + 1 : Nat) : Int) - 1))), (0, .ref (ad (174))), (1, .int (nI a))]) C dX7_figuresOf_77 rfl (by decide) rfl ?_
                refine k_iinc (pc := 78) (v := iz ((c : Int) - 1)) (lv' := [(4, .int (iz ((c : Int) - 1))), (2, .long (lN (X % 10))), (0, .ref (ad (174))), (1, .int (nI a))]) C dX7_figuresOf_78 (k := 1) rfl (show iz (((c + 1 : Nat) : Int) - 1) + iz (-1) = _ by rw [iz_add]; congr 1; omega) (by decide) rfl ?_
                refine k_goto (pc := 81) (tgt := 34) C dX7_figuresOf_81 (by decide) ?_
                refine k_sub [0, 1, 2, 3] rfl ?_
                have h9 := ic (by omega)
                rw [← hX] at h9
                exact h9
          refine k_sub [0, 1, 2, 3] rfl ?_
          have h9 := il 12 (by decide)
          have e9 : bq 12 x (x / 10) = W 31 := by
            rw [w1, ← hx]
            unfold bq
            rw [Nat.mod_eq_of_lt (show x < 4294967296 ^ 12 by omega), Nat.div_eq_of_lt (show x / 10 < 4294967296 ^ 12 by omega), Nat.zero_mul, Nat.add_zero]
          rw [e9, up_self, Nat.div_eq_of_lt (show x < 4294967296 ^ 12 by omega), Nat.zero_mod] at h9
          exact h9
  refine k_aload_n (pc := 0) C dX7_figuresOf_0 rfl 0 rfl ?_
  refine k_bipush (pc := 1) (v := nI 31) C dX7_figuresOf_1 (by decide) ?_
  refine k_iload_n (pc := 3) C dX7_figuresOf_3 rfl 1 rfl ?_
  refine cv_X7_72 (pc := 4) C E (c7_copy (t := 31) (a := a) (by decide) (by omega)) rfl (by decide) cm_174 (by decide) rfl (Nat.le_of_ble_eq_true rfl) dX7_figuresOf_4 (fun M4 h4 => ?_)
  subst h4
  rw [← hv]
  refine k_aload_n (pc := 7) C dX7_figuresOf_7 rfl 0 rfl ?_
  refine k_iconst (pc := 8) (v := nI 0) C dX7_figuresOf_8 (by decide) ?_
  refine pf_X7_131 (pc := 9) C (174) (by decide) cm_174 (Nat.le_of_ble_eq_true rfl) dX7_figuresOf_9 ?_
  rw [cm_s38]
  have h0 := loop 80 0 (va_up U 31 v) (ia 185) (by decide) (by decide) (by rw [ups, Nat.pow_zero, Nat.div_one]) (fun j hj => upn hj) (fun j hj => absurd hj (Nat.not_lt_zero _)) (Or.inl (by decide))
  rw [upSelf] at h0
  exact h0
set_option maxHeartbeats 4000000 in
set_option maxRecDepth 100000 in
/-- figures -/
theorem c7_figures {T : Nat → Nat} (hT : RM U T) (hB : TB T) {x0 : Int32} : xI l D (xty ca) yX7_figures cX7_figures 2 (some .int) 2 120 [.ref (ad 174), .int x0] ad (cm ad ca (V, U, sc, ia, la)) (fun r M' => ∃ U' sc' ia', M' = cm ad ca (V, U', sc', ia', la) ∧ RM U' T ∧ (∀ k, k ≠ 38 → sc' k = sc k) ∧ (∀ k, k ≠ 185 → ia' k = ia k) ∧ (if inR x0 16 then ∃ c, r = nI c ∧ isND (T (rI x0)) c else r = -1)) := by
  refine xM.of (by decide) (Nat.le_of_ble_eq_true rfl) (fun z C E => ?_)
  refine k_iload_n (pc := 0) C dX7_figures_0 rfl 1 rfl ?_
  refine cs_X7_85 (pc := 1) C E (c7_isRegister) rfl (by decide) rfl (Nat.le_of_ble_eq_true rfl) dX7_figures_1 (fun r1 M1 h1 => ?_)
  obtain ⟨rfl, rfl⟩ := h1
  refine k_if_ne (pc := 4) (tgt := 9) C dX7_figures_4 (by decide) (fun c4 => ?_) (fun c4 => ?_)
  · simp only [b01, Decidable.not_not] at c4
    obtain ⟨x, hx, rfl⟩ := inR_k c4
    have hTx := hT x (by omega)
    have bx1 := hB.1 x hx
    refine k_aload_n (pc := 9) C dX7_figures_9 rfl 0 rfl ?_
    refine k_iload_n (pc := 10) C dX7_figures_10 rfl 1 rfl ?_
    refine cv_X7_134 (pc := 11) C E (c7_figuresOf hx (by rw [hTx]; exact bx1)) rfl (by decide) cm_174 (by decide) rfl (Nat.le_of_ble_eq_true rfl) dX7_figures_11 (fun M11 h11 => ?_)
    obtain ⟨c, W, f, rfl, hc, hf, hw⟩ := h11
    rw [hTx] at hc hf
    refine k_aload_n (pc := 14) C dX7_figures_14 rfl 0 rfl ?_
    refine gf_X7_131 (pc := 15) C (174) (by decide) cm_174 rfl dX7_figures_15 ?_
    exact r_i (pc := 18) C E (⟨W, _, _, rfl, hT.o (fun k hk => hw k (by omega)), fun k hk => upIn hk, fun k hk => upIn hk, by rw [if_pos c4, rI_n (show x < 2147483648 by omega)]; exact ⟨c, upIs, hc⟩⟩) dX7_figures_18
  · simp only [b01, Decidable.not_not] at c4
    refine k_iconst (pc := 7) (v := (-1)) C dX7_figures_7 (by decide) ?_
    exact r_i (pc := 8) C E (⟨U, sc, ia, rfl, hT, fun _ _ => rfl, fun _ _ => rfl, by rw [if_neg c4]⟩) dX7_figures_8
set_option maxHeartbeats 4000000 in
set_option maxRecDepth 100000 in
/-- figure -/
theorem c7_figure {T : Nat → Nat} (hT : RM U T) (hB : TB T) {x0 i0 : Int32} : xI l D (xty ca) yX7_figure cX7_figure 3 (some .int) 2 120 [.ref (ad 174), .int x0, .int i0] ad (cm ad ca (V, U, sc, ia, la)) (fun r M' => ∃ U' sc' ia', M' = cm ad ca (V, U', sc', ia', la) ∧ RM U' T ∧ (∀ k, k ≠ 30 → k ≠ 38 → sc' k = sc k) ∧ (∀ k, k ≠ 185 → ia' k = ia k) ∧ (if inR x0 16 then ∃ c, isND (T (rI x0)) c ∧ (if inR i0 c then sc' 30 = 0 ∧ r = nI (T (rI x0) / 10 ^ rI i0 % 10) else sc' 30 = 1 ∧ r = 0) else sc' 30 = 0 ∧ r = -1)) := by
  refine xM.of (by decide) (Nat.le_of_ble_eq_true rfl) (fun z C E => ?_)
  refine k_aload_n (pc := 0) C dX7_figure_0 rfl 0 rfl ?_
  refine k_iconst (pc := 1) (v := nI 0) C dX7_figure_1 (by decide) ?_
  refine pf_X7_51 (pc := 2) C (174) (by decide) cm_174 (Nat.le_of_ble_eq_true rfl) dX7_figure_2 ?_
  rw [cm_s30]
  refine k_iload_n (pc := 5) C dX7_figure_5 rfl 1 rfl ?_
  refine cs_X7_85 (pc := 6) C E (c7_isRegister) rfl (by decide) rfl (Nat.le_of_ble_eq_true rfl) dX7_figure_6 (fun r6 M6 h6 => ?_)
  obtain ⟨rfl, rfl⟩ := h6
  refine k_if_ne (pc := 9) (tgt := 14) C dX7_figure_9 (by decide) (fun c9 => ?_) (fun c9 => ?_)
  · simp only [b01, Decidable.not_not] at c9
    obtain ⟨x, hx, rfl⟩ := inR_k c9
    have hTx := hT x (by omega)
    have bx1 := hB.1 x hx
    refine k_aload_n (pc := 14) C dX7_figure_14 rfl 0 rfl ?_
    refine k_iload_n (pc := 15) C dX7_figure_15 rfl 1 rfl ?_
    refine cv_X7_134 (pc := 16) C E (c7_figuresOf hx (by rw [hTx]; exact bx1)) rfl (by decide) cm_174 (by decide) rfl (Nat.le_of_ble_eq_true rfl) dX7_figure_16 (fun M16 h16 => ?_)
    obtain ⟨c, W, f, rfl, hc, hf, hw⟩ := h16
    rw [hTx] at hc hf
    have hc78 := isND_le bx1 hc
    refine k_aload_n (pc := 19) C dX7_figure_19 rfl 0 rfl ?_
    refine k_iload_n (pc := 20) C dX7_figure_20 rfl 2 rfl ?_
    refine k_i2l (pc := 21) C dX7_figure_21 rfl ?_
    refine k_lconst (pc := 22) (v := lN 0) C dX7_figure_22 (by decide) ?_
    refine k_aload_n (pc := 23) C dX7_figure_23 rfl 0 rfl ?_
    refine gf_X7_131 (pc := 24) C (174) (by decide) cm_174 rfl dX7_figure_24 ?_
    refine k_eqi (y := nI c) (upIs) ?_
    refine k_iconst (pc := 27) (v := nI 1) C dX7_figure_27 (by decide) ?_
    refine k_isub (pc := 28) C dX7_figure_28 ?_
    refine k_eqi (y := iz ((c : Int) - 1)) (sub1z) ?_
    refine k_i2l (pc := 29) C dX7_figure_29 rfl ?_
    refine cs_X7_56 (pc := 30) C E (c7_in) rfl (by decide) rfl (Nat.le_of_ble_eq_true rfl) dX7_figure_30 (fun r30 M30 h30 => ?_)
    obtain ⟨rfl, rfl⟩ := h30
    simp only [in_rz (show c < 2147483648 by omega)]
    refine k_if_eq (pc := 33) (tgt := 40) C dX7_figure_33 (by decide) (fun c33 => ?_) (fun c33 => ?_)
    · simp only [b01, Decidable.not_not] at c33
      refine k_iconst (pc := 40) (v := nI 1) C dX7_figure_40 (by decide) ?_
      refine pf_X7_51 (pc := 41) C (174) (by decide) cm_174 (Nat.le_of_ble_eq_true rfl) dX7_figure_41 ?_
      rw [cm_s30]
      refine k_aload_n (pc := 44) C dX7_figure_44 rfl 0 rfl ?_
      refine gf_X7_51 (pc := 45) C (174) (by decide) cm_174 rfl dX7_figure_45 ?_
      refine k_if_le (pc := 48) (tgt := 55) C dX7_figure_48 (by decide) (fun c48 => ?_) (fun c48 => ?_)
      · rw [upIs] at c48; exact absurd c48 (by decide)
      · skip
        refine k_iconst (pc := 51) (v := nI 0) C dX7_figure_51 (by decide) ?_
        refine k_goto (pc := 52) (tgt := 61) C dX7_figure_52 (by decide) ?_
        exact r_i (pc := 61) C E (by
  refine ⟨W, _, _, rfl, hT.o (fun k hk => hw k (by omega)), fun k h1 h2 => by rw [upIn h1, upIn h2, upIn h1], fun k hk => upIn hk, ?_⟩
  rw [if_pos c9, rI_n (show x < 2147483648 by omega)]
  refine ⟨c, hc, ?_⟩
  first
    | (rw [if_pos c33, rI_n (show i < 2147483648 by omega)]; exact ⟨upIs, by rw [upIs]; exact hf i hi⟩)
    | (rw [if_neg c33]; exact ⟨upIs, rfl⟩)) dX7_figure_61
    · simp only [b01, Decidable.not_not] at c33
      obtain ⟨i, hi, rfl⟩ := inR_k c33
      refine k_iconst (pc := 36) (v := nI 0) C dX7_figure_36 (by decide) ?_
      refine k_goto (pc := 37) (tgt := 41) C dX7_figure_37 (by decide) ?_
      refine pf_X7_51 (pc := 41) C (174) (by decide) cm_174 (Nat.le_of_ble_eq_true rfl) dX7_figure_41 ?_
      rw [cm_s30]
      refine k_aload_n (pc := 44) C dX7_figure_44 rfl 0 rfl ?_
      refine gf_X7_51 (pc := 45) C (174) (by decide) cm_174 rfl dX7_figure_45 ?_
      refine k_if_le (pc := 48) (tgt := 55) C dX7_figure_48 (by decide) (fun c48 => ?_) (fun c48 => ?_)
      · skip
        refine k_aload_n (pc := 55) C dX7_figure_55 rfl 0 rfl ?_
        refine gf_X7_48 (pc := 56) C (174) (by decide) cm_174 rfl dX7_figure_56 ?_
        refine k_iload_n (pc := 59) C dX7_figure_59 rfl 2 rfl ?_
        refine k_iald (pc := 60) C E (185) (by decide) cm_185 (i) rfl (by omega) (by decide) dX7_figure_60 ?_
        exact r_i (pc := 61) C E (by
  refine ⟨W, _, _, rfl, hT.o (fun k hk => hw k (by omega)), fun k h1 h2 => by rw [upIn h1, upIn h2, upIn h1], fun k hk => upIn hk, ?_⟩
  rw [if_pos c9, rI_n (show x < 2147483648 by omega)]
  refine ⟨c, hc, ?_⟩
  first
    | (rw [if_pos c33, rI_n (show i < 2147483648 by omega)]; exact ⟨upIs, by rw [upIs]; exact hf i hi⟩)
    | (rw [if_neg c33]; exact ⟨upIs, rfl⟩)) dX7_figure_61
      · rw [upIs] at c48; exact absurd (by decide) c48
  · simp only [b01, Decidable.not_not] at c9
    refine k_iconst (pc := 12) (v := (-1)) C dX7_figure_12 (by decide) ?_
    exact r_i (pc := 13) C E (⟨U, _, ia, rfl, hT, fun k h1 _ => upIn h1, fun _ _ => rfl, by rw [if_neg c9]; exact ⟨rfl, rfl⟩⟩) dX7_figure_13
set_option maxHeartbeats 4000000 in
set_option maxRecDepth 100000 in
/-- print -/
theorem c7_print {T : Nat → Nat} (hT : RM U T) (hB : TB T) {x0 : Int32} {u : Nat} (hu : sc 31 = nI u) (hu9 : u ≤ 12) : xI l D (xty ca) yX7_print cX7_print 3 (some .int) 2 120 [.ref (ad 174), .int x0] ad (cm ad ca (V, U, sc, ia, la)) (fun r M' => ∃ U' sc' ia', M' = cm ad ca (V, U', sc', ia', la) ∧ RM U' T ∧ (∀ k, k ≠ 34 → k ≠ 38 → sc' k = sc k) ∧ (∀ k, k ≠ 180 → k ≠ 185 → ia' k = ia k) ∧ (if inR x0 16 then ∃ c, isND (T (rI x0)) c ∧ r = nI (ptx u (T (rI x0)) (max (c - 1) u)).length ∧ sc' 34 = nI (ptx u (T (rI x0)) (max (c - 1) u)).length ∧ (∀ j, j < (ptx u (T (rI x0)) (max (c - 1) u)).length → ia' 180 j = (ptx u (T (rI x0)) (max (c - 1) u)).getD j 0) else r = -1 ∧ sc' 34 = sc 34 ∧ ia' 180 = ia 180)) := by
  refine xM.of (by decide) (Nat.le_of_ble_eq_true rfl) (fun z C E => ?_)
  refine k_iload_n (pc := 0) C dX7_print_0 rfl 1 rfl ?_
  refine cs_X7_85 (pc := 1) C E (c7_isRegister) rfl (by decide) rfl (Nat.le_of_ble_eq_true rfl) dX7_print_1 (fun r1 M1 h1 => ?_)
  obtain ⟨rfl, rfl⟩ := h1
  refine k_if_ne (pc := 4) (tgt := 9) C dX7_print_4 (by decide) (fun c4 => ?_) (fun c4 => ?_)
  · simp only [b01, Decidable.not_not] at c4
    obtain ⟨x, hx, rfl⟩ := inR_k c4
    have hTx := hT x (by omega)
    have bx1 := hB.1 x hx
    refine k_aload_n (pc := 9) C dX7_print_9 rfl 0 rfl ?_
    refine k_iload_n (pc := 10) C dX7_print_10 rfl 1 rfl ?_
    refine cv_X7_134 (pc := 11) C E (c7_figuresOf hx (by rw [hTx]; exact bx1)) rfl (by decide) cm_174 (by decide) rfl (Nat.le_of_ble_eq_true rfl) dX7_print_11 (fun M11 h11 => ?_)
    obtain ⟨c, W, f, rfl, hc, hf, hw⟩ := h11
    rw [hTx] at hc hf
    have hc78 := isND_le bx1 hc
    obtain ⟨v, hv⟩ : ∃ v, v = T x := ⟨_, rfl⟩
    rw [← hv] at hc
    obtain ⟨t, ht⟩ : ∃ t, t = ptx u v (max (c - 1) u) := ⟨_, rfl⟩
    have htl : t.length ≤ 120 := by rw [ht, ptx_len]; split <;> omega
    have tloop : ∀ (s2 : Nat → Int32) (i2 : Nat → Nat → Int32) (A : Nat → Int32), s2 31 = nI u → (∀ j, j ≤ max (c - 1) u → i2 185 j = nI (v / 10 ^ j % 10)) → (∀ k, k ≠ 34 → k ≠ 38 → s2 k = sc k) → (∀ k, k ≠ 180 → k ≠ 185 → i2 k = ia k) → (∀ j, j < t.length → A j = t.getD j 0) → ∀ (e n : Nat) (a : Nat → Int32), e ≤ max (c - 1) u + 1 → n + (pm u v e).length = t.length → wr a n (pm u v e) = A → xK z (xw ad (cm ad ca (V, W, va_up s2 34 (nI n), va_up i2 180 a, la)) 187) 0 0 60 [(2, .int (iz ((e : Int) - 1))), (0, .ref (ad 174)), (1, .int (nI x))] [] := by
      intro s2 i2 A h31 hg hs hi hA e
      induction e with
      | zero =>
        intro n a he hn ha
        refine k_iload_n (pc := 60) C dX7_print_60 rfl 0 rfl ?_
        refine k_if_lt (pc := 61) (tgt := 124) C dX7_print_61 (by decide) (fun c61 => ?_) (fun c61 => ?_)
        · rw [iz_lt0 (by omega) (by omega)] at c61
          refine k_aload_n (pc := 124) C dX7_print_124 rfl 1 rfl ?_
          refine gf_X7_137 (pc := 125) C (174) (by decide) cm_174 rfl dX7_print_125 ?_
          refine k_eqi (y := nI n) (upIs) ?_
          exact r_i (pc := 128) C E (by
      refine ⟨W, _, _, rfl, hT.o (fun k hk => hw k (by omega)), fun k h1 h2 => by rw [upIn h1, hs k h1 h2], fun k h1 h2 => by rw [upIn h1, hi k h1 h2], ?_⟩
      rw [if_pos c4, rI_n (show x < 2147483648 by omega), ← hv]
      simp only [pm, List.length_nil, Nat.add_zero] at hn
      refine ⟨c, hc, ?_⟩
      rw [← ht, ← hn]
      refine ⟨rfl, upIs, fun j hj => ?_⟩
      rw [upIs]
      rw [hn] at hj
      have h8 := hA j hj
      rw [← ha] at h8
      exact h8) dX7_print_128
        · rw [iz_lt0 (by omega) (by omega)] at c61
          exact absurd (by decide) c61
      | succ k ih =>
        intro n a he hn ha
        rw [pm_s] at hn ha
        refine k_iload_n (pc := 60) C dX7_print_60 rfl 0 rfl ?_
        refine k_if_lt (pc := 61) (tgt := 124) C dX7_print_61 (by decide) (fun c61 => ?_) (fun c61 => ?_)
        · rw [iz_lt0 (by omega) (by omega)] at c61
          exact absurd c61 (by omega)
        · rw [iz_lt0 (by omega) (by omega)] at c61
          refine k_iload_n (pc := 64) C dX7_print_64 rfl 0 rfl ?_
          refine k_eqi (y := nI k) (iz_pos (t := ((k + 1 : Nat) : Int) - 1) (by omega) |>.trans (congrArg nI (by omega))) ?_
          refine k_aload_n (pc := 65) C dX7_print_65 rfl 1 rfl ?_
          refine gf_X7_23 (pc := 66) C (174) (by decide) cm_174 rfl dX7_print_66 ?_
          refine k_eqi (y := nI u) (by rw [upIn (by decide)]; exact h31) ?_
          refine k_iconst (pc := 69) (v := nI 1) C dX7_print_69 (by decide) ?_
          refine k_isub (pc := 70) C dX7_print_70 ?_
          refine k_eqi (y := iz ((u : Int) - 1)) (sub1z) ?_
          refine k_icmp_ne (pc := 71) (tgt := 80) C dX7_print_71 (by decide) (fun c71 => ?_) (fun c71 => ?_)
          · rw [← Int32.toInt_inj, nI_toInt (by omega), iz_toInt (by omega) (by omega)] at c71
            rw [if_neg (show ¬ k + 1 = u by omega)] at hn ha
            refine k_aload_n (pc := 80) C dX7_print_80 rfl 1 rfl ?_
            refine k_bipush (pc := 81) (v := nI 48) C dX7_print_81 (by decide) ?_
            refine k_aload_n (pc := 83) C dX7_print_83 rfl 1 rfl ?_
            refine gf_X7_48 (pc := 84) C (174) (by decide) cm_174 rfl dX7_print_84 ?_
            refine k_iload_n (pc := 87) C dX7_print_87 rfl 0 rfl ?_
            refine k_eqi (y := nI k) (iz_pos (t := ((k + 1 : Nat) : Int) - 1) (by omega) |>.trans (congrArg nI (by omega))) ?_
            refine k_iald (pc := 88) C E (185) (by decide) cm_185 (k) rfl (by omega) (by decide) dX7_print_88 ?_
            refine k_eqi (y := nI (v / 10 ^ k % 10)) (by rw [upIn (by decide)]; exact hg k (by omega)) ?_
            refine k_iadd (pc := 89) C dX7_print_89 ?_
            refine k_eqi (y := nI (48 + v / 10 ^ k % 10)) (nI_add _ _) ?_
            refine cv_X7_140 (pc := 90) C E (c7_say (n := n) (x0 := nI (48 + v / 10 ^ k % 10)) upIs (by simp only [List.length_append, List.length_cons, List.length_nil, List.length_singleton] at hn; omega)) rfl (by decide) cm_174 (by decide) rfl (Nat.le_of_ble_eq_true rfl) dX7_print_90 (fun M90 h90 => ?_)
            subst h90
            rw [bx_uu, bx_uu, upIs]
            refine k_iload_n (pc := 93) C dX7_print_93 rfl 0 rfl ?_
            refine k_eqi (y := nI k) (iz_pos (t := ((k + 1 : Nat) : Int) - 1) (by omega) |>.trans (congrArg nI (by omega))) ?_
            refine k_aload_n (pc := 94) C dX7_print_94 rfl 1 rfl ?_
            refine gf_X7_23 (pc := 95) C (174) (by decide) cm_174 rfl dX7_print_95 ?_
            refine k_eqi (y := nI u) (by rw [upIn (by decide)]; exact h31) ?_
            refine k_icmp_le (pc := 98) (tgt := 118) C dX7_print_98 (by decide) (fun c98 => ?_) (fun c98 => ?_)
            · rw [q_le (by omega) (by omega)] at c98
              rw [if_neg (show ¬ (u < k ∧ (k - u) % 3 = 0) by omega)] at hn ha
              refine k_iinc (pc := 118) (v := iz ((k : Int) - 1)) (lv' := [(2, .int (iz ((k : Int) - 1))), (0, .ref (ad (174))), (1, .int (nI x))]) C dX7_print_118 (k := 0) rfl (show iz (((k + 1 : Nat) : Int) - 1) + iz (-1) = _ by rw [iz_add]; congr 1; omega) (by decide) rfl ?_
              refine k_goto (pc := 121) (tgt := 60) C dX7_print_121 (by decide) ?_
              refine k_sub [0, 1, 2] rfl ?_
              exact ih (n + 1) (upd a n (nI (48 + v / 10 ^ k % 10))) (by omega) (by simp only [List.length_append, List.length_cons, List.length_nil, List.length_singleton] at hn; omega) (by simp only [List.nil_append, List.singleton_append, List.cons_append, wr] at ha; exact ha)
            · rw [q_le (by omega) (by omega)] at c98
              skip
              refine k_iload_n (pc := 101) C dX7_print_101 rfl 0 rfl ?_
              refine k_eqi (y := nI k) (iz_pos (t := ((k + 1 : Nat) : Int) - 1) (by omega) |>.trans (congrArg nI (by omega))) ?_
              refine k_aload_n (pc := 102) C dX7_print_102 rfl 1 rfl ?_
              refine gf_X7_23 (pc := 103) C (174) (by decide) cm_174 rfl dX7_print_103 ?_
              refine k_eqi (y := nI u) (by rw [upIn (by decide)]; exact h31) ?_
              refine k_isub (pc := 106) C dX7_print_106 ?_
              refine k_eqi (y := nI (k - u)) (pk_sub (by omega)) ?_
              refine k_iconst (pc := 107) (v := nI 3) C dX7_print_107 (by decide) ?_
              refine k_irem (pc := 108) C dX7_print_108 (by decide) ?_
              refine k_eqi (y := nI ((k - u) % 3)) (pk_rem (by omega) (by decide) (by decide)) ?_
              refine k_if_ne (pc := 109) (tgt := 118) C dX7_print_109 (by decide) (fun c109 => ?_) (fun c109 => ?_)
              · rw [q_eq0 (by omega)] at c109
                rw [if_neg (show ¬ (u < k ∧ (k - u) % 3 = 0) by omega)] at hn ha
                refine k_iinc (pc := 118) (v := iz ((k : Int) - 1)) (lv' := [(2, .int (iz ((k : Int) - 1))), (0, .ref (ad (174))), (1, .int (nI x))]) C dX7_print_118 (k := 0) rfl (show iz (((k + 1 : Nat) : Int) - 1) + iz (-1) = _ by rw [iz_add]; congr 1; omega) (by decide) rfl ?_
                refine k_goto (pc := 121) (tgt := 60) C dX7_print_121 (by decide) ?_
                refine k_sub [0, 1, 2] rfl ?_
                exact ih (n + 1) (upd a n (nI (48 + v / 10 ^ k % 10))) (by omega) (by simp only [List.length_append, List.length_cons, List.length_nil, List.length_singleton] at hn; omega) (by simp only [List.nil_append, List.singleton_append, List.cons_append, wr] at ha; exact ha)
              · rw [q_eq0 (by omega)] at c109
                rw [if_pos (show (u < k ∧ (k - u) % 3 = 0) by omega)] at hn ha
                refine k_aload_n (pc := 112) C dX7_print_112 rfl 1 rfl ?_
                refine k_bipush (pc := 113) (v := nI 44) C dX7_print_113 (by decide) ?_
                refine cv_X7_140 (pc := 115) C E (c7_say (n := (n + 1)) (x0 := nI 44) upIs (by simp only [List.length_append, List.length_cons, List.length_nil, List.length_singleton] at hn; omega)) rfl (by decide) cm_174 (by decide) rfl (Nat.le_of_ble_eq_true rfl) dX7_print_115 (fun M115 h115 => ?_)
                subst h115
                rw [bx_uu, bx_uu, upIs]
                refine k_iinc (pc := 118) (v := iz ((k : Int) - 1)) (lv' := [(2, .int (iz ((k : Int) - 1))), (0, .ref (ad (174))), (1, .int (nI x))]) C dX7_print_118 (k := 0) rfl (show iz (((k + 1 : Nat) : Int) - 1) + iz (-1) = _ by rw [iz_add]; congr 1; omega) (by decide) rfl ?_
                refine k_goto (pc := 121) (tgt := 60) C dX7_print_121 (by decide) ?_
                refine k_sub [0, 1, 2] rfl ?_
                exact ih ((n + 1) + 1) (upd (upd a n (nI (48 + v / 10 ^ k % 10))) (n + 1) (nI 44)) (by omega) (by simp only [List.length_append, List.length_cons, List.length_nil, List.length_singleton] at hn; omega) (by simp only [List.nil_append, List.singleton_append, List.cons_append, wr] at ha; exact ha)
          · rw [← Int32.toInt_inj, nI_toInt (by omega), iz_toInt (by omega) (by omega)] at c71
            rw [if_pos (show k + 1 = u by omega)] at hn ha
            refine k_aload_n (pc := 74) C dX7_print_74 rfl 1 rfl ?_
            refine k_bipush (pc := 75) (v := nI 46) C dX7_print_75 (by decide) ?_
            refine cv_X7_140 (pc := 77) C E (c7_say (n := n) (x0 := nI 46) upIs (by simp only [List.length_append, List.length_cons, List.length_nil, List.length_singleton] at hn; omega)) rfl (by decide) cm_174 (by decide) rfl (Nat.le_of_ble_eq_true rfl) dX7_print_77 (fun M77 h77 => ?_)
            subst h77
            rw [bx_uu, bx_uu, upIs]
            refine k_aload_n (pc := 80) C dX7_print_80 rfl 1 rfl ?_
            refine k_bipush (pc := 81) (v := nI 48) C dX7_print_81 (by decide) ?_
            refine k_aload_n (pc := 83) C dX7_print_83 rfl 1 rfl ?_
            refine gf_X7_48 (pc := 84) C (174) (by decide) cm_174 rfl dX7_print_84 ?_
            refine k_iload_n (pc := 87) C dX7_print_87 rfl 0 rfl ?_
            refine k_eqi (y := nI k) (iz_pos (t := ((k + 1 : Nat) : Int) - 1) (by omega) |>.trans (congrArg nI (by omega))) ?_
            refine k_iald (pc := 88) C E (185) (by decide) cm_185 (k) rfl (by omega) (by decide) dX7_print_88 ?_
            refine k_eqi (y := nI (v / 10 ^ k % 10)) (by rw [upIn (by decide)]; exact hg k (by omega)) ?_
            refine k_iadd (pc := 89) C dX7_print_89 ?_
            refine k_eqi (y := nI (48 + v / 10 ^ k % 10)) (nI_add _ _) ?_
            refine cv_X7_140 (pc := 90) C E (c7_say (n := (n + 1)) (x0 := nI (48 + v / 10 ^ k % 10)) upIs (by simp only [List.length_append, List.length_cons, List.length_nil, List.length_singleton] at hn; omega)) rfl (by decide) cm_174 (by decide) rfl (Nat.le_of_ble_eq_true rfl) dX7_print_90 (fun M90 h90 => ?_)
            subst h90
            rw [bx_uu, bx_uu, upIs]
            refine k_iload_n (pc := 93) C dX7_print_93 rfl 0 rfl ?_
            refine k_eqi (y := nI k) (iz_pos (t := ((k + 1 : Nat) : Int) - 1) (by omega) |>.trans (congrArg nI (by omega))) ?_
            refine k_aload_n (pc := 94) C dX7_print_94 rfl 1 rfl ?_
            refine gf_X7_23 (pc := 95) C (174) (by decide) cm_174 rfl dX7_print_95 ?_
            refine k_eqi (y := nI u) (by rw [upIn (by decide)]; exact h31) ?_
            refine k_icmp_le (pc := 98) (tgt := 118) C dX7_print_98 (by decide) (fun c98 => ?_) (fun c98 => ?_)
            · rw [q_le (by omega) (by omega)] at c98
              rw [if_neg (show ¬ (u < k ∧ (k - u) % 3 = 0) by omega)] at hn ha
              refine k_iinc (pc := 118) (v := iz ((k : Int) - 1)) (lv' := [(2, .int (iz ((k : Int) - 1))), (0, .ref (ad (174))), (1, .int (nI x))]) C dX7_print_118 (k := 0) rfl (show iz (((k + 1 : Nat) : Int) - 1) + iz (-1) = _ by rw [iz_add]; congr 1; omega) (by decide) rfl ?_
              refine k_goto (pc := 121) (tgt := 60) C dX7_print_121 (by decide) ?_
              refine k_sub [0, 1, 2] rfl ?_
              exact ih ((n + 1) + 1) (upd (upd a n (nI 46)) (n + 1) (nI (48 + v / 10 ^ k % 10))) (by omega) (by simp only [List.length_append, List.length_cons, List.length_nil, List.length_singleton] at hn; omega) (by simp only [List.nil_append, List.singleton_append, List.cons_append, wr] at ha; exact ha)
            · rw [q_le (by omega) (by omega)] at c98
              skip
              refine k_iload_n (pc := 101) C dX7_print_101 rfl 0 rfl ?_
              refine k_eqi (y := nI k) (iz_pos (t := ((k + 1 : Nat) : Int) - 1) (by omega) |>.trans (congrArg nI (by omega))) ?_
              refine k_aload_n (pc := 102) C dX7_print_102 rfl 1 rfl ?_
              refine gf_X7_23 (pc := 103) C (174) (by decide) cm_174 rfl dX7_print_103 ?_
              refine k_eqi (y := nI u) (by rw [upIn (by decide)]; exact h31) ?_
              refine k_isub (pc := 106) C dX7_print_106 ?_
              refine k_eqi (y := nI (k - u)) (pk_sub (by omega)) ?_
              refine k_iconst (pc := 107) (v := nI 3) C dX7_print_107 (by decide) ?_
              refine k_irem (pc := 108) C dX7_print_108 (by decide) ?_
              refine k_eqi (y := nI ((k - u) % 3)) (pk_rem (by omega) (by decide) (by decide)) ?_
              refine k_if_ne (pc := 109) (tgt := 118) C dX7_print_109 (by decide) (fun c109 => ?_) (fun c109 => ?_)
              · rw [q_eq0 (by omega)] at c109
                rw [if_neg (show ¬ (u < k ∧ (k - u) % 3 = 0) by omega)] at hn ha
                refine k_iinc (pc := 118) (v := iz ((k : Int) - 1)) (lv' := [(2, .int (iz ((k : Int) - 1))), (0, .ref (ad (174))), (1, .int (nI x))]) C dX7_print_118 (k := 0) rfl (show iz (((k + 1 : Nat) : Int) - 1) + iz (-1) = _ by rw [iz_add]; congr 1; omega) (by decide) rfl ?_
                refine k_goto (pc := 121) (tgt := 60) C dX7_print_121 (by decide) ?_
                refine k_sub [0, 1, 2] rfl ?_
                exact ih ((n + 1) + 1) (upd (upd a n (nI 46)) (n + 1) (nI (48 + v / 10 ^ k % 10))) (by omega) (by simp only [List.length_append, List.length_cons, List.length_nil, List.length_singleton] at hn; omega) (by simp only [List.nil_append, List.singleton_append, List.cons_append, wr] at ha; exact ha)
              · rw [q_eq0 (by omega)] at c109
                rw [if_pos (show (u < k ∧ (k - u) % 3 = 0) by omega)] at hn ha
                refine k_aload_n (pc := 112) C dX7_print_112 rfl 1 rfl ?_
                refine k_bipush (pc := 113) (v := nI 44) C dX7_print_113 (by decide) ?_
                refine cv_X7_140 (pc := 115) C E (c7_say (n := ((n + 1) + 1)) (x0 := nI 44) upIs (by simp only [List.length_append, List.length_cons, List.length_nil, List.length_singleton] at hn; omega)) rfl (by decide) cm_174 (by decide) rfl (Nat.le_of_ble_eq_true rfl) dX7_print_115 (fun M115 h115 => ?_)
                subst h115
                rw [bx_uu, bx_uu, upIs]
                refine k_iinc (pc := 118) (v := iz ((k : Int) - 1)) (lv' := [(2, .int (iz ((k : Int) - 1))), (0, .ref (ad (174))), (1, .int (nI x))]) C dX7_print_118 (k := 0) rfl (show iz (((k + 1 : Nat) : Int) - 1) + iz (-1) = _ by rw [iz_add]; congr 1; omega) (by decide) rfl ?_
                refine k_goto (pc := 121) (tgt := 60) C dX7_print_121 (by decide) ?_
                refine k_sub [0, 1, 2] rfl ?_
                exact ih (((n + 1) + 1) + 1) (upd (upd (upd a n (nI 46)) (n + 1) (nI (48 + v / 10 ^ k % 10))) ((n + 1) + 1) (nI 44)) (by omega) (by simp only [List.length_append, List.length_cons, List.length_nil, List.length_singleton] at hn; omega) (by simp only [List.nil_append, List.singleton_append, List.cons_append, wr] at ha; exact ha)
    have pad : ∀ (n k : Nat) (f : Nat → Int32), 13 - k < n → c ≤ k → (k = c ∨ k ≤ u + 1) → (∀ j, j < k → f j = nI (v / 10 ^ j % 10)) → xK z (xw ad (cm ad ca (V, W, va_up sc 38 (nI k), va_up ia 185 f, la)) 187) 0 0 14 [(0, .ref (ad 174)), (1, .int (nI x))] [] := by
      intro n
      induction n with
      | zero => intro k f h; exact absurd h (Nat.not_lt_zero _)
      | succ n ih =>
        intro k f hn hk hk2 hf2
        have hk9 : k ≤ 78 := by omega
        refine k_aload_n (pc := 14) C dX7_print_14 rfl 0 rfl ?_
        refine gf_X7_131 (pc := 15) C (174) (by decide) cm_174 rfl dX7_print_15 ?_
        refine k_eqi (y := nI k) (upIs) ?_
        refine k_aload_n (pc := 18) C dX7_print_18 rfl 0 rfl ?_
        refine gf_X7_23 (pc := 19) C (174) (by decide) cm_174 rfl dX7_print_19 ?_
        refine k_eqi (y := nI u) (by rw [upIn (by decide)]; exact hu) ?_
        refine k_icmp_gt (pc := 22) (tgt := 48) C dX7_print_22 (by decide) (fun c22 => ?_) (fun c22 => ?_)
        · rw [q_lt (by omega) (by omega)] at c22
          refine k_aload_n (pc := 48) C dX7_print_48 rfl 0 rfl ?_
          refine k_iconst (pc := 49) (v := nI 0) C dX7_print_49 (by decide) ?_
          refine pf_X7_137 (pc := 50) C (174) (by decide) cm_174 (Nat.le_of_ble_eq_true rfl) dX7_print_50 ?_
          rw [cm_s34]
          refine k_aload_n (pc := 53) C dX7_print_53 rfl 0 rfl ?_
          refine gf_X7_131 (pc := 54) C (174) (by decide) cm_174 rfl dX7_print_54 ?_
          refine k_eqi (y := nI k) (by rw [upIn (by decide)]; exact upIs) ?_
          refine k_iconst (pc := 57) (v := nI 1) C dX7_print_57 (by decide) ?_
          refine k_isub (pc := 58) C dX7_print_58 ?_
          refine k_eqi (y := iz ((k : Int) - 1)) (sub1z) ?_
          refine k_istore_n (pc := 59) (lv' := [(2, .int (iz ((k : Int) - 1))), (0, .ref (ad (174))), (1, .int (nI x))]) C dX7_print_59 rfl (by decide) rfl ?_
          refine k_sub [0, 1, 2] rfl ?_
          have hc1 := hc.1
          have e9 : max (c - 1) u + 1 = k := by omega
          have h9 := tloop (va_up sc 38 (nI k)) (va_up ia 185 f) (wr (ia 180) 0 t) (by rw [upIn (by decide)]; exact hu) (fun j hj => by rw [upIs]; exact hf2 j (by omega)) (fun k h1 h2 => upIn h2) (fun k h1 h2 => upIn h2) (fun j hj => by have h8 := wr_at (a := ia 180) (n := 0) t hj; rw [Nat.zero_add] at h8; exact h8) (max (c - 1) u + 1) 0 (ia 180) (Nat.le_refl _) (by rw [pm_e (Nat.le_max_right _ _), ← ht, Nat.zero_add]) (by rw [pm_e (Nat.le_max_right _ _), ← ht])
          rw [e9] at h9
          have e8 : va_up (va_up ia 185 f) 180 (ia 180) = va_up ia 185 f := by
            have h7 := upSelf (va_up ia 185 f) 180
            rw [show va_up ia 185 f 180 = ia 180 from upIn (by decide)] at h7
            exact h7
          rw [e8] at h9
          exact h9
        · rw [q_lt (by omega) (by omega)] at c22
          refine k_aload_n (pc := 25) C dX7_print_25 rfl 0 rfl ?_
          refine gf_X7_48 (pc := 26) C (174) (by decide) cm_174 rfl dX7_print_26 ?_
          refine k_aload_n (pc := 29) C dX7_print_29 rfl 0 rfl ?_
          refine gf_X7_131 (pc := 30) C (174) (by decide) cm_174 rfl dX7_print_30 ?_
          refine k_eqi (y := nI k) (upIs) ?_
          refine k_iconst (pc := 33) (v := nI 0) C dX7_print_33 (by decide) ?_
          refine k_iast (pc := 34) C E (185) (by decide) cm_185 (k) rfl (by omega) (by decide) dX7_print_34 ?_
          rw [cm_a185, upIs, bx_uu]
          refine k_aload_n (pc := 35) C dX7_print_35 rfl 0 rfl ?_
          refine k_dup (pc := 36) C dX7_print_36 rfl ?_
          refine gf_X7_131 (pc := 37) C (174) (by decide) cm_174 rfl dX7_print_37 ?_
          refine k_eqi (y := nI k) (upIs) ?_
          refine k_iconst (pc := 40) (v := nI 1) C dX7_print_40 (by decide) ?_
          refine k_iadd (pc := 41) C dX7_print_41 ?_
          refine k_eqi (y := nI (k + 1)) (nI_add _ _) ?_
          refine pf_X7_131 (pc := 42) C (174) (by decide) cm_174 (Nat.le_of_ble_eq_true rfl) dX7_print_42 ?_
          rw [cm_s38, bx_uu]
          refine k_goto (pc := 45) (tgt := 14) C dX7_print_45 (by decide) ?_
          refine k_sub [0, 1] rfl ?_
          exact ih (k + 1) _ (by omega) (by omega) (by omega) (fun j hj => by
            by_cases e : j = k
            · subst e
              have h7 : v < 10 ^ j := Nat.lt_of_lt_of_le hc.2.1 (Nat.pow_le_pow_right (by decide) hk)
              simp [upd, Nat.div_eq_of_lt h7]
            · simp [upd, e]; exact hf2 j (by omega))
    refine k_sub [0, 1] rfl ?_
    exact pad 14 c f (by omega) (Nat.le_refl _) (Or.inl rfl) (fun j hj => by rw [hv]; exact hf j hj)
  · simp only [b01, Decidable.not_not] at c4
    refine k_iconst (pc := 7) (v := (-1)) C dX7_print_7 (by decide) ?_
    exact r_i (pc := 8) C E (⟨U, sc, ia, rfl, hT, fun _ _ _ => rfl, fun _ _ _ => rfl, by rw [if_neg c4]; exact ⟨rfl, rfl, rfl⟩⟩) dX7_print_8
end ML
