section DB
variable {l : Launch} {D : va_G} {ca : Nat → ClassId} {ad : Nat → Nat} {V U : Nat → Nat} {sc : Nat → Int32} {ia : Nat → Nat → Int32} {la : Nat → Nat → Int64}
/-- a fact kept out of omega's sight -/
def Hid (p : Prop) : Prop := p
/-- what is left behind the right limb -/
theorem tfr_ok {R Dv j n : Nat} {m : Int} (hR : R < 65536 ^ (j + n + 1)) (hD : Dv < 65536 ^ n) (h : m = ((R / 65536 ^ j / Dv : Nat) : Int)) : tfr R Dv j n m = R % 65536 ^ j + R / 65536 ^ j % Dv * 65536 ^ j ∧ 0 ≤ ((R / 65536 ^ j : Nat) : Int) - m * (Dv : Int) := by
  unfold tfr
  subst h
  have h1 := Nat.div_add_mod (R / 65536 ^ j) Dv
  have h2 : ((R / 65536 ^ j : Nat) : Int) - ((R / 65536 ^ j / Dv : Nat) : Int) * (Dv : Int) = ((R / 65536 ^ j % Dv : Nat) : Int) := by
    rw [← Int.natCast_mul, Nat.mul_comm]
    omega
  rw [h2]
  have h3 : R / 65536 ^ j < 65536 ^ (n + 1) := Nat.div_lt_of_lt_mul (by rw [← Nat.pow_add]; exact hR)
  have h4 : R / 65536 ^ j % Dv < 65536 ^ (n + 1) := Nat.lt_of_le_of_lt (Nat.mod_le _ _) h3
  refine ⟨?_, by omega⟩
  rw [← Int.natCast_emod, Int.toNat_natCast, Nat.mod_eq_of_lt h4]
/-- one too many, then one back -/
theorem tfr_back {R Dv j n : Nat} {m : Int} (hR : R < 65536 ^ (j + n + 1)) (hD : Dv < 65536 ^ n) (hD0 : 0 < Dv) (h : m = ((R / 65536 ^ j / Dv : Nat) : Int) + 1) : tfr (tfr R Dv j n m) Dv j n (-1) = R % 65536 ^ j + R / 65536 ^ j % Dv * 65536 ^ j ∧ ((R / 65536 ^ j : Nat) : Int) - m * (Dv : Int) < 0 := by
  have h1 := Nat.div_add_mod (R / 65536 ^ j) Dv
  have hm9 := Nat.mod_lt (R / 65536 ^ j) hD0
  have h2 : ((R / 65536 ^ j : Nat) : Int) - m * (Dv : Int) = ((R / 65536 ^ j % Dv : Nat) : Int) - (Dv : Int) := by
    rw [h, Int.add_mul, ← Int.natCast_mul, Nat.mul_comm, Int.one_mul]
    omega
  have h3 : Dv < 65536 ^ (n + 1) := Nat.lt_of_lt_of_le hD (pw_le (by omega))
  refine ⟨?_, by omega⟩
  have e1 : tfr R Dv j n m % 65536 ^ j = R % 65536 ^ j := by
    unfold tfr
    rw [Nat.add_mul_mod_self_right, Nat.mod_mod]
  have e2 : tfr R Dv j n m / 65536 ^ j = ((((R / 65536 ^ j : Nat) : Int) - m * (Dv : Int)) % ((65536 ^ (n + 1) : Nat) : Int)).toNat := by
    have := tfr_hi R Dv j n 0 m
    rw [Nat.zero_add, Nat.pow_zero, Nat.div_one] at this
    exact this
  generalize tfr R Dv j n m = T9 at e1 e2 ⊢
  unfold tfr
  rw [e1, e2, h2]
  obtain ⟨B, hB⟩ : ∃ B, B = 65536 ^ (n + 1) := ⟨_, rfl⟩
  rw [← hB] at h3 ⊢
  obtain ⟨r, hr⟩ : ∃ r, r = R / 65536 ^ j % Dv := ⟨_, rfl⟩
  rw [← hr] at hm9 ⊢
  congr 2
  have e3 : ((r : Int) - (Dv : Int)) % (B : Int) = (r : Int) - (Dv : Int) + B := by
    rw [← Int.add_emod_right]
    exact Int.emod_eq_of_lt (by omega) (by omega)
  rw [e3, Int.toNat_of_nonneg (by omega), show (r : Int) - (Dv : Int) + B - -1 * (Dv : Int) = (r : Int) + B by omega, Int.add_emod_right, Int.emod_eq_of_lt (by omega) (by omega)]
  rfl
end DB
