/-! ===== a division's state ===== -/
def wq (V : Nat → Nat) (q r d : Nat) : Nat → Nat := va_up (va_up (va_up V 144 d) 142 r) 140 q
section WQ
variable {V : Nat → Nat} {q r d x : Nat}
theorem wq_s : va_up V 140 x = wq V x (V 142) (V 144) := by
  funext k
  by_cases h1 : k = 140 <;> by_cases h2 : k = 142 <;> by_cases h3 : k = 144 <;> simp [wq, va_up, h1, h2, h3]
theorem wq_u0 : va_up (wq V q r d) 140 x = wq V x r d := by
  funext k
  by_cases h1 : k = 140 <;> by_cases h2 : k = 142 <;> by_cases h3 : k = 144 <;> simp [wq, va_up, h1, h2, h3]
theorem wq_u2 : va_up (wq V q r d) 142 x = wq V q x d := by
  funext k
  by_cases h1 : k = 140 <;> by_cases h2 : k = 142 <;> by_cases h3 : k = 144 <;> simp [wq, va_up, h1, h2, h3]
theorem wq_u4 : va_up (wq V q r d) 144 x = wq V q r x := by
  funext k
  by_cases h1 : k = 140 <;> by_cases h2 : k = 142 <;> by_cases h3 : k = 144 <;> simp [wq, va_up, h1, h2, h3]
theorem wq_0 : wq V q r d 140 = q := by simp [wq, va_up]
theorem wq_2 : wq V q r d 142 = r := by simp [wq, va_up]
theorem wq_4 : wq V q r d 144 = d := by simp [wq, va_up]
theorem wq_o {k : Nat} (h : k < 140 ∨ 144 < k) : wq V q r d k = V k := by
  simp [wq, va_up, show k ≠ 140 by omega, show k ≠ 142 by omega, show k ≠ 144 by omega]
end WQ
theorem norm1 {t : Nat} (h0 : 0 < t) (h1 : t < 65536) : 65536 ≤ 2 * (t * (65536 / (t + 1))) := by
  obtain ⟨f, hf⟩ : ∃ f, f = 65536 / (t + 1) := ⟨_, rfl⟩
  have e := Nat.div_add_mod 65536 (t + 1)
  have s := Nat.mod_lt 65536 (show 0 < t + 1 by omega)
  have hf1 : 1 ≤ f := by rw [hf]; exact Nat.div_pos (by omega) (by omega)
  generalize 65536 % (t + 1) = r at e s
  rw [← hf] at e ⊢
  rw [Nat.add_mul, Nat.one_mul] at e
  rcases Nat.lt_or_ge f 2 with h | h
  · have : f = 1 := by omega
    subst this
    omega
  · rcases Nat.lt_or_ge t 2 with h2 | h2
    · have : t = 1 := by omega
      subst this
      omega
    · obtain ⟨k, rfl⟩ : ∃ k, t = k + 1 := ⟨t - 1, by omega⟩
      rw [Nat.add_mul, Nat.one_mul] at e ⊢
      have h3 : k * 2 ≤ k * f := Nat.mul_le_mul_left _ h
      omega
theorem norm2 {Bv n : Nat} (hn : 0 < n) (h1 : 65536 ^ (n - 1) ≤ Bv) (h2 : Bv < 65536 ^ n) : 65536 ^ n ≤ 2 * (Bv * (65536 / (Bv / 65536 ^ (n - 1) % 65536 + 1))) ∧ Bv * (65536 / (Bv / 65536 ^ (n - 1) % 65536 + 1)) < 65536 ^ n ∧ 0 < 65536 / (Bv / 65536 ^ (n - 1) % 65536 + 1) ∧ 65536 / (Bv / 65536 ^ (n - 1) % 65536 + 1) < 65536 := by
  obtain ⟨k, rfl⟩ : ∃ k, n = k + 1 := ⟨n - 1, by omega⟩
  rw [Nat.add_sub_cancel] at *
  obtain ⟨P, hP⟩ : ∃ P, P = 65536 ^ k := ⟨_, rfl⟩
  have hPp : 0 < P := by rw [hP]; exact pw_pos k
  rw [Nat.pow_succ] at h2 ⊢
  rw [← hP] at h1 h2 ⊢
  have t1 : Bv / P < 65536 := Nat.div_lt_of_lt_mul h2
  have t0 : 0 < Bv / P := Nat.div_pos h1 hPp
  rw [Nat.mod_eq_of_lt t1]
  have hlo := Nat.div_mul_le_self Bv P
  have hhi : Bv < (Bv / P + 1) * P := Nat.lt_mul_of_div_lt (Nat.lt_succ_self _) hPp
  generalize Bv / P = t at t0 t1 hlo hhi ⊢
  have hn1 := norm1 t0 t1
  have hf1 : 0 < 65536 / (t + 1) := Nat.div_pos (by omega) (by omega)
  have hfm : 65536 / (t + 1) * (t + 1) ≤ 65536 := Nat.div_mul_le_self _ _
  have hf2 : 65536 / (t + 1) < 65536 := Nat.div_lt_self (by decide) (by omega)
  generalize 65536 / (t + 1) = f at hn1 hf1 hfm hf2 ⊢
  refine ⟨?_, ?_, hf1, hf2⟩
  · calc P * 65536 ≤ P * (2 * (t * f)) := Nat.mul_le_mul_left _ hn1
      _ = 2 * (t * P * f) := by
        rw [Nat.mul_left_comm, ← Nat.mul_assoc P, Nat.mul_comm P t]
      _ ≤ 2 * (Bv * f) := Nat.mul_le_mul_left _ (Nat.mul_le_mul_right _ hlo)
  · calc Bv * f < (t + 1) * P * f := Nat.mul_lt_mul_of_pos_right hhi hf1
      _ = P * (f * (t + 1)) := by
        rw [Nat.mul_comm (t + 1) P, Nat.mul_assoc, Nat.mul_comm (t + 1) f]
      _ ≤ P * 65536 := Nat.mul_le_mul_left _ hfm
/-- a limb of the quotient, and what is left -/
theorem split_step {R0 Dv c : Nat} : R0 % (Dv * 65536 ^ (c + 1)) / 65536 ^ c / Dv = R0 / Dv / 65536 ^ c % 65536 ∧ R0 % (Dv * 65536 ^ (c + 1)) % 65536 ^ c + R0 % (Dv * 65536 ^ (c + 1)) / 65536 ^ c % Dv * 65536 ^ c = R0 % (Dv * 65536 ^ c) := by
  constructor
  · rw [Nat.div_div_eq_div_mul, Nat.div_div_eq_div_mul, Nat.mul_comm (65536 ^ c) Dv, Nat.pow_succ, ← Nat.mul_assoc, Nat.mod_mul_right_div_self]
  · rw [Nat.mul_comm (_ % Dv), ← Nat.mod_mul, Nat.mul_comm (65536 ^ c) Dv]
    exact Nat.mod_mod_of_dvd _ ⟨65536, by rw [Nat.pow_succ, Nat.mul_assoc]⟩
theorem split_end {A Bv f : Nat} (hf : 0 < f) : A * f / (Bv * f) = A / Bv ∧ A * f % (Bv * f) / f = A % Bv := by
  refine ⟨Nat.mul_div_mul_right _ _ hf, ?_⟩
  rw [Nat.mul_mod_mul_right, Nat.mul_div_cancel _ hf]
theorem cmp_e0 (a b : Nat) : (cmpN a b = 0) = (a = b) := by
  unfold cmpN
  by_cases h1 : a < b
  · rw [if_pos h1]; simp; omega
  · rw [if_neg h1]
    by_cases h2 : a = b
    · rw [if_pos h2]; simp [h2]
    · rw [if_neg h2]; simp [h2]
theorem cmp_l0 (a b : Nat) : (cmpN a b < 0) = (a < b) := by
  unfold cmpN
  by_cases h1 : a < b
  · rw [if_pos h1]; simp [h1]
  · rw [if_neg h1]
    by_cases h2 : a = b
    · rw [if_pos h2]; simp [h2]
    · rw [if_neg h2]; simp [h1]
theorem cmp_le0 (a b : Nat) : (cmpN a b ≤ 0) = (a ≤ b) := by
  unfold cmpN
  by_cases h1 : a < b
  · rw [if_pos h1]; simp [Nat.le_of_lt h1]
  · rw [if_neg h1]
    by_cases h2 : a = b
    · rw [if_pos h2]; simp [h2]
    · rw [if_neg h2, eq_false (show ¬ a ≤ b by omega), eq_false (show ¬ ((1 : Int32) ≤ 0) by decide)]
theorem cmp_ge0 (a b : Nat) : (0 ≤ cmpN a b) = (b ≤ a) := by
  unfold cmpN
  by_cases h1 : a < b
  · rw [if_pos h1, eq_false (show ¬ b ≤ a by omega), eq_false (show ¬ ((0 : Int32) ≤ -1) by decide)]
  · rw [if_neg h1]
    by_cases h2 : a = b
    · rw [if_pos h2]; simp [h2]
    · rw [if_neg h2, eq_true (show b ≤ a by omega), eq_true (show ((0 : Int32) ≤ 1) by decide)]
theorem cmp_g0 (a b : Nat) : (0 < cmpN a b) = (b < a) := by
  unfold cmpN
  by_cases h1 : a < b
  · rw [if_pos h1, eq_false (show ¬ b < a by omega), eq_false (show ¬ ((0 : Int32) < -1) by decide)]
  · rw [if_neg h1]
    by_cases h2 : a = b
    · rw [if_pos h2]; simp [h2]
    · rw [if_neg h2, eq_true (show b < a by omega), eq_true (show ((0 : Int32) < 1) by decide)]
/-- whether a quotient q with the rest r by b goes up, by a WAY w -/
def gU (w q r b : Nat) : Bool := if w = 0 ∨ r = 0 then false else if w = 1 then true else if b < 2 * r then true else if 2 * r < b then false else (decide (w = 2) || (decide (w = 4) && decide (q % 2 = 1)))
