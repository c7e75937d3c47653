/-! ===== Newton's root ===== -/
theorem ex_sqrt (N : Nat) : ∃ s, s * s ≤ N ∧ N < (s + 1) * (s + 1) := by
  induction N with
  | zero => exact ⟨0, by decide, by decide⟩
  | succ N ih =>
    obtain ⟨s, h1, h2⟩ := ih
    rcases Nat.lt_or_ge (N + 1) ((s + 1) * (s + 1)) with h | h
    · exact ⟨s, by omega, h⟩
    · refine ⟨s + 1, h, ?_⟩
      have : (s + 1) * (s + 1) < (s + 1 + 1) * (s + 1 + 1) := Nat.mul_lt_mul_of_lt_of_le (by omega) (by omega) (by omega)
      omega
/-- the next guess is not below the root -/
theorem nw_ge {N s x : Nat} (h1 : s * s ≤ N) (hx : s ≤ x) (hx0 : 0 < x) : s ≤ (N / x + x) / 2 := by
  rcases Nat.lt_or_ge (2 * s) x with h | h
  · generalize N / x = q
    omega
  · obtain ⟨d, rfl⟩ := Nat.exists_eq_add_of_le hx
    obtain ⟨e, rfl⟩ : ∃ e, s = d + e := ⟨s - d, by omega⟩
    have h3 : e ≤ N / (d + e + d) := (Nat.le_div_iff_mul_le hx0).mpr (by
      have : e * (d + e + d) ≤ (d + e) * (d + e) := by
        have a1 : e * (d + e + d) = e * d + e * e + e * d := by rw [Nat.mul_add, Nat.mul_add]
        have a2 : (d + e) * (d + e) = d * d + e * d + (e * d + e * e) := by
          rw [Nat.add_mul, Nat.mul_add, Nat.mul_add, Nat.mul_comm d e]
        omega
      omega)
    omega
/-- how near the next guess is -/
theorem nw_near {N s x : Nat} (h2 : N < (s + 1) * (s + 1)) (hx : s ≤ x) (hx0 : 0 < x) (hy : s ≤ (N / x + x) / 2) : 2 * (s + (x - s)) * ((N / x + x) / 2 - s) ≤ (x - s) * (x - s) + 2 * s := by
  obtain ⟨d, rfl⟩ := Nat.exists_eq_add_of_le hx
  rw [Nat.add_sub_cancel_left]
  obtain ⟨y, hye⟩ : ∃ y, y = (N / (s + d) + (s + d)) / 2 := ⟨_, rfl⟩
  rw [← hye] at hy ⊢
  obtain ⟨t, rfl⟩ := Nat.exists_eq_add_of_le hy
  rw [Nat.add_sub_cancel_left]
  have a1 : 2 * (s + t) ≤ N / (s + d) + (s + d) := by omega
  have a2 : N / (s + d) * (s + d) ≤ N := Nat.div_mul_le_self _ _
  have a3 : 2 * (s + t) * (s + d) ≤ N + (s + d) * (s + d) := by
    calc 2 * (s + t) * (s + d) ≤ (N / (s + d) + (s + d)) * (s + d) := Nat.mul_le_mul_right _ a1
      _ = N / (s + d) * (s + d) + (s + d) * (s + d) := Nat.add_mul _ _ _
      _ ≤ N + (s + d) * (s + d) := Nat.add_le_add_right a2 _
  grind
theorem nw_lin {s d d' : Nat} (h0 : 0 < s + d) (h : 2 * (s + d) * d' ≤ d * d + 2 * s) : 2 * d' ≤ d + 2 := by
  have h1 : (s + d) * (2 * d') ≤ (s + d) * (d + 2) := by
    have : (s + d) * (2 * d') = 2 * (s + d) * d' := by grind
    have h3 : d * d + 2 * s ≤ (s + d) * (d + 2) := by
      have : (s + d) * (d + 2) = s * d + 2 * s + d * d + 2 * d := by grind
      omega
    omega
  exact Nat.le_of_mul_le_mul_left h1 h0
theorem nw_quad {t s d d' : Nat} (ht : 2 ≤ t) (hs : 9 ≤ s) (h1 : t * d ≤ s + 3 * t) (h : 2 * (s + d) * d' ≤ d * d + 2 * s) : 2 * (t * t) * d' ≤ s + 3 * (2 * (t * t)) := by
  have a1 : t * d * (t * d) ≤ (s + 3 * t) * (s + 3 * t) := Nat.mul_le_mul h1 h1
  have a2 : (s + 3 * t) * (s + 3 * t) = s * s + 6 * (s * t) + 9 * (t * t) := by grind
  have a3 : 2 * s * d' ≤ d * d + 2 * s := Nat.le_trans (Nat.mul_le_mul_right _ (by omega)) h
  have a4 : t * t * (2 * s * d') ≤ t * t * (d * d + 2 * s) := Nat.mul_le_mul_left _ a3
  have a5 : t * t * (2 * s * d') = s * (2 * (t * t) * d') := by grind
  have a6 : t * t * (d * d + 2 * s) = t * d * (t * d) + 2 * (s * (t * t)) := by grind
  have a7 : 9 * (t * t) ≤ s * (t * t) := Nat.mul_le_mul_right _ hs
  have a8 : 6 * (s * t) ≤ 3 * (s * (t * t)) := by
    have : s * t * 2 ≤ s * t * t := Nat.mul_le_mul_left _ ht
    have e : s * t * t = s * (t * t) := Nat.mul_assoc _ _ _
    omega
  have a9 : s * (2 * (t * t) * d') < s * (s + 3 * (2 * (t * t)) + 1) := by
    have e : s * (s + 3 * (2 * (t * t)) + 1) = s * s + 6 * (s * (t * t)) + s := by grind
    omega
  have := Nat.lt_of_mul_lt_mul_left a9
  omega
def Bd (k s d : Nat) : Prop := (k ≤ 9 ∧ 2 ^ k * d ≤ 255 * s + 2 ^ (k + 1)) ∨ (10 ≤ k ∧ k ≤ 15 ∧ s < 9 ∧ 2 ^ k * d ≤ 255 * s + 2 ^ (k + 1)) ∨ (10 ≤ k ∧ k ≤ 15 ∧ 9 ≤ s ∧ 2 ^ (2 ^ (k - 8) - 1) * d ≤ s + 3 * 2 ^ (2 ^ (k - 8) - 1)) ∨ (15 ≤ k ∧ d + (k - 15) ≤ 3)
theorem bd_lin {k s d d' : Nat} (h1 : 2 ^ k * d ≤ 255 * s + 2 ^ (k + 1)) (h : 2 * d' ≤ d + 2) : 2 ^ (k + 1) * d' ≤ 255 * s + 2 ^ (k + 1 + 1) := by
  have a1 : 2 ^ k * (2 * d') ≤ 2 ^ k * (d + 2) := Nat.mul_le_mul_left _ h
  rw [Nat.mul_add] at a1
  have e1 : 2 ^ (k + 1) * d' = 2 ^ k * (2 * d') := by rw [Nat.pow_succ, Nat.mul_assoc]
  have e2 : 2 ^ (k + 1) = 2 ^ k * 2 := by rw [Nat.pow_succ]
  have e3 : 2 ^ (k + 1 + 1) = 2 ^ k * 2 * 2 := by rw [Nat.pow_succ, Nat.pow_succ]
  rw [e1, e3]
  rw [e2] at h1
  omega
theorem bd_quad {a s d d' : Nat} (ha : 1 ≤ a) (hs : 9 ≤ s) (h1 : 2 ^ a * d ≤ s + 3 * 2 ^ a) (h : 2 * (s + d) * d' ≤ d * d + 2 * s) : 2 ^ (2 * a + 1) * d' ≤ s + 3 * 2 ^ (2 * a + 1) := by
  have ht : 2 ≤ 2 ^ a := by
    have := Nat.pow_le_pow_right (n := 2) (by decide) ha
    omega
  have h2 := nw_quad ht hs h1 h
  have e : 2 ^ (2 * a + 1) = 2 * (2 ^ a * 2 ^ a) := by rw [Nat.pow_succ, show 2 * a = a + a by omega, Nat.pow_add, Nat.mul_comm]
  rw [e]
  exact h2
theorem bd_step {k s d d' : Nat} (hs : s < 2 ^ 100) (hb : Bd k s d) (h0 : 0 < s + d) (hlt : d' < d) (h : 2 * (s + d) * d' ≤ d * d + 2 * s) : Bd (k + 1) s d' := by
  have hl := nw_lin h0 h
  rcases hb with ⟨h1, h2⟩ | ⟨h1, h2, h3, h4⟩ | ⟨h1, h2, h3, h4⟩ | ⟨h1, h2⟩
  · rcases Nat.lt_or_ge k 9 with h9 | h9
    · exact Or.inl ⟨by omega, bd_lin h2 hl⟩
    · have : k = 9 := by omega
      subst this
      rcases Nat.lt_or_ge s 9 with h8 | h8
      · exact Or.inr (Or.inl ⟨by decide, by decide, h8, bd_lin h2 hl⟩)
      · refine Or.inr (Or.inr (Or.inl ⟨by decide, by decide, h8, ?_⟩))
        exact bd_quad (a := 1) (by decide) h8 (by omega) h
  · rcases Nat.lt_or_ge k 15 with h9 | h9
    · exact Or.inr (Or.inl ⟨by omega, by omega, h3, bd_lin h4 hl⟩)
    · have : k = 15 := by omega
      subst this
      exact Or.inr (Or.inr (Or.inr ⟨by decide, by omega⟩))
  · rcases Nat.lt_or_ge k 15 with h9 | h9
    · refine Or.inr (Or.inr (Or.inl ⟨by omega, by omega, h3, ?_⟩))
      have h5 := bd_quad (a := 2 ^ (k - 8) - 1) (by
        have := Nat.pow_le_pow_right (show 2 > 0 by decide) (show 2 ≤ k - 8 by omega)
        omega) h3 h4 h
      have e : 2 * (2 ^ (k - 8) - 1) + 1 = 2 ^ (k + 1 - 8) - 1 := by
        have e1 : 2 ^ (k + 1 - 8) = 2 ^ (k - 8) * 2 := by rw [← Nat.pow_succ]; congr 1; omega
        have := Nat.pow_pos (n := k - 8) (show 0 < 2 by decide)
        omega
      rw [e] at h5
      exact h5
    · have : k = 15 := by omega
      subst this
      have h5 : (2 : Nat) ^ (2 ^ (15 - 8) - 1) = 170141183460469231731687303715884105728 := by decide
      rw [h5] at h4
      exact Or.inr (Or.inr (Or.inr ⟨by decide, by omega⟩))
  · exact Or.inr (Or.inr (Or.inr ⟨by omega, by omega⟩))
/-- from a guess that is not the root the next one is less -/
theorem nw_stop {N s x : Nat} (h2 : N < (s + 1) * (s + 1)) (hx : s ≤ x) (h : x ≤ (N / x + x) / 2) : x = s := by
  rcases Nat.lt_or_ge s x with h3 | h3
  · have h4 : N < x * x := Nat.lt_of_lt_of_le h2 (Nat.mul_le_mul h3 h3)
    have h5 : N / x < x := Nat.div_lt_of_lt_mul h4
    omega
  · omega
theorem nw_start {N s u : Nat} (h1 : s * s ≤ N) (h2 : N < (s + 1) * (s + 1)) (h3 : N < 65536 ^ u) (h4 : 0 < u → 65536 ^ (u - 1) ≤ N) : s ≤ 256 ^ u ∧ 256 ^ u - s ≤ 255 * s + 1 := by
  have e : ∀ n : Nat, 65536 ^ n = 256 ^ n * 256 ^ n := fun n => by rw [← Nat.mul_pow]
  constructor
  · rcases Nat.lt_or_ge (256 ^ u) s with h | h
    · have := Nat.mul_le_mul (Nat.le_of_lt h) (Nat.le_of_lt h)
      rw [← e] at this
      omega
    · exact h
  · rcases Nat.eq_zero_or_pos u with h0 | h0
    · subst h0
      simp
      omega
    · have h5 := h4 h0
      obtain ⟨k, rfl⟩ : ∃ k, u = k + 1 := ⟨u - 1, by omega⟩
      rw [Nat.add_sub_cancel] at h5
      have h6 : 256 ^ k ≤ s := by
        rcases Nat.lt_or_ge s (256 ^ k) with h | h
        · have := Nat.mul_le_mul (show s + 1 ≤ 256 ^ k from h) (show s + 1 ≤ 256 ^ k from h)
          rw [← e] at this
          omega
        · exact h
      rw [Nat.pow_succ]
      omega
