section DB
variable {l : Launch} {D : va_G} {ca : Nat → ClassId} {ad : Nat → Nat} {V U : Nat → Nat} {sc : Nat → Int32} {ia : Nat → Nat → Int32} {la : Nat → Nat → Int64}
theorem dig3 {z a0 a1 a2 : Nat} (h : z < 281474976710656) (e0 : a0 = z % 65536) (e1 : a1 = z / 65536 % 65536) (e2 : a2 = z / 65536 / 65536 % 65536) : a2 * 4294967296 + a1 * 65536 + a0 = z := by omega
/-- the guess out of the leading limbs -/
theorem guess_limb {R Dv j n : Nat} (hn : 0 < n) (hD1 : 65536 ^ n ≤ 2 * Dv) (hD2 : Dv < 65536 ^ n) (hR : R < Dv * 65536 ^ (j + 1)) :
    R / 65536 ^ j / Dv ≤ min ((R / 65536 ^ (j + n) % 65536 * 4294967296 + R / 65536 ^ (j + n - 1) % 65536 * 65536 + la0 R (((j + n : Nat) : Int) - 2)) / (Dv / 65536 ^ (n - 1) % 65536 * 65536 + la0 Dv ((n : Int) - 2))) 65535 ∧ min ((R / 65536 ^ (j + n) % 65536 * 4294967296 + R / 65536 ^ (j + n - 1) % 65536 * 65536 + la0 R (((j + n : Nat) : Int) - 2)) / (Dv / 65536 ^ (n - 1) % 65536 * 65536 + la0 Dv ((n : Int) - 2))) 65535 ≤ R / 65536 ^ j / Dv + 1 ∧ 0 < Dv / 65536 ^ (n - 1) % 65536 * 65536 + la0 Dv ((n : Int) - 2) := by
  have hX : R / 65536 ^ j < Dv * 65536 := Nat.div_lt_of_lt_mul (by rw [Nat.mul_left_comm, ← Nat.pow_succ]; exact hR)
  have hpj : ∀ k, R / 65536 ^ (j + k) = R / 65536 ^ j / 65536 ^ k := fun k => by rw [Nat.pow_add, Nat.div_div_eq_div_mul]
  obtain ⟨X, hXe⟩ : ∃ X, X = R / 65536 ^ j := ⟨_, rfl⟩
  rw [← hXe] at hX ⊢
  have hXe' : ∀ k, R / 65536 ^ (j + k) = X / 65536 ^ k := fun k => by rw [hpj, ← hXe]
  rcases Nat.lt_or_ge n 2 with h1 | h1
  · have : n = 1 := by omega
    subst this
    clear hR
    rw [Nat.pow_one] at hD1 hD2
    have e1 : la0 Dv (((1 : Nat) : Int) - 2) = 0 := by unfold la0; rw [if_pos (by decide)]
    have e2 : la0 R (((j + 1 : Nat) : Int) - 2) < 65536 := la0_lt _ _
    generalize la0 R (((j + 1 : Nat) : Int) - 2) = r at e2 ⊢
    rw [e1]
    have e3 : X / 65536 ^ 1 < 65536 := by
      rw [Nat.pow_one]
      exact Nat.div_lt_of_lt_mul (Nat.lt_trans hX (Nat.mul_lt_mul_of_pos_right hD2 (by decide)))
    have e4 : R / 65536 ^ (j + 1) % 65536 * 4294967296 + R / 65536 ^ (j + 1 - 1) % 65536 * 65536 + r = X * 65536 + r := by
      rw [hXe', show j + 1 - 1 = j + 0 by omega, hXe', Nat.pow_zero, Nat.div_one]
      rw [Nat.pow_one] at e3 ⊢
      clear hXe' hpj hXe
      omega
    have e5 : Dv / 65536 ^ (1 - 1) % 65536 * 65536 + 0 = Dv * 65536 := by
      rw [Nat.sub_self, Nat.pow_zero, Nat.div_one, Nat.mod_eq_of_lt hD2, Nat.add_zero]
    rw [e4, e5]
    have e6 : (X * 65536 + r) / (Dv * 65536) = X / Dv := by
      rw [Nat.mul_comm Dv, ← Nat.div_div_eq_div_mul]
      congr 1
      omega
    have e7 : X / Dv < 65536 := Nat.div_lt_of_lt_mul (by rw [Nat.mul_comm] at hX; rw [Nat.mul_comm]; exact Nat.mul_comm 65536 Dv ▸ hX)
    rw [e6]
    exact ⟨by omega, by omega, by omega⟩
  · obtain ⟨k, rfl⟩ : ∃ k, n = k + 2 := ⟨n - 2, by omega⟩
    obtain ⟨P, hP⟩ : ∃ P, P = 65536 ^ k := ⟨_, rfl⟩
    have hPp : 0 < P := by rw [hP]; exact pw_pos k
    have eP1 : 65536 ^ (k + 1) = P * 65536 := by rw [hP, Nat.pow_succ]
    have eP2 : 65536 ^ (k + 2) = P * 65536 * 65536 := by rw [hP, Nat.pow_succ, Nat.pow_succ]
    have e1 : la0 Dv (((k + 2 : Nat) : Int) - 2) = Dv / P % 65536 := by
      unfold la0
      rw [if_neg (by omega), show (((k + 2 : Nat) : Int) - 2).toNat = k by omega, hP]
    have e2 : la0 R (((j + (k + 2) : Nat) : Int) - 2) = X / P % 65536 := by
      unfold la0
      rw [if_neg (by omega), show (((j + (k + 2) : Nat) : Int) - 2).toNat = j + k by omega, hXe', hP]
    have e3 : R / 65536 ^ (j + (k + 2)) = X / P / 65536 / 65536 := by rw [hXe', eP2, ← Nat.div_div_eq_div_mul, ← Nat.div_div_eq_div_mul]
    have e4 : R / 65536 ^ (j + (k + 2) - 1) = X / P / 65536 := by rw [show j + (k + 2) - 1 = j + (k + 1) by omega, hXe', eP1, ← Nat.div_div_eq_div_mul]
    have e5 : Dv / 65536 ^ (k + 2 - 1) = Dv / P / 65536 := by rw [show k + 2 - 1 = k + 1 by omega, eP1, ← Nat.div_div_eq_div_mul]
    rw [e1, e2, e3, e4, e5]
    rw [eP2] at hD1 hD2
    have b1 : Dv / P < 4294967296 := Nat.div_lt_of_lt_mul (by rw [Nat.mul_assoc] at hD2; exact hD2)
    have b2 : X / P < 281474976710656 := Nat.div_lt_of_lt_mul (by
      have := Nat.mul_lt_mul_of_pos_right hD2 (show 0 < 65536 by decide)
      rw [Nat.mul_assoc, Nat.mul_assoc] at this
      exact Nat.lt_trans hX this)
    have b3 : 2147483648 ≤ Dv / P := by
      rw [Nat.le_div_iff_mul_le hPp]
      rw [Nat.mul_assoc, Nat.mul_comm] at hD1
      omega
    rw [dig3 b2 rfl rfl rfl, show Dv / P / 65536 % 65536 * 65536 + Dv / P % 65536 = Dv / P by omega]
    have g := guess_ok (X := X) (D := Dv) (H := X / P) (L := Dv / P) (P := P) (Nat.div_mul_le_self _ _) (Nat.lt_mul_of_div_lt (Nat.lt_succ_self _) hPp) (Nat.div_mul_le_self _ _) (Nat.lt_mul_of_div_lt (Nat.lt_succ_self _) hPp) (by omega) hX
    exact ⟨g.1, g.2, by omega⟩

end DB
