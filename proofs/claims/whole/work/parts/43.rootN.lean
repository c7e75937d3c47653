/-! ===== a bit cleared; a root bit by bit ===== -/
theorem clr {D r : Nat} (hr : r < 32) (hD : D % 2 ^ (r + 1) = 0) (hlt : D < 4294967296) : lN (D + 2 ^ r) &&& (lN (2 ^ r) ^^^ (-1)) = lN D := by
  have h1 : D = D / 2 ^ (r + 1) * 2 ^ (r + 1) := by
    have := Nat.div_add_mod D (2 ^ (r + 1))
    rw [hD, Nat.add_zero, Nat.mul_comm] at this
    exact this.symm
  have hp : 2 ^ r < 2 ^ (r + 1) := Nat.pow_lt_pow_right (by decide) (by omega)
  have hp3 : 2 ^ r ≤ 2 ^ 31 := Nat.pow_le_pow_right (by decide) (by omega)
  have h2 : lN (D + 2 ^ r) = lN D ||| lN (2 ^ r) := by
    rw [h1]
    exact (g_or (k := r + 1) (p := 2 ^ (r + 1)) rfl hp (by omega)).symm
  have hb : D.testBit r = false := by
    rw [Nat.testBit_eq_decide_div_mod_eq]
    have : D / 2 ^ r % 2 = 0 := by
      rw [h1, Nat.pow_succ, ← Nat.mul_assoc, Nat.mul_comm _ (2 ^ r), Nat.mul_comm _ 2]
      rw [Nat.mul_left_comm, Nat.mul_div_cancel_left _ (p2pos r), Nat.mul_mod_right]
    simp [this]
  rw [h2]
  apply wb_inj
  apply BitVec.eq_of_getLsbD_eq
  intro i hi
  have e1 : ((lN D ||| lN (2 ^ r)) &&& (lN (2 ^ r) ^^^ (-1))).toBitVec = ((lN D).toBitVec ||| (lN (2 ^ r)).toBitVec) &&& ((lN (2 ^ r)).toBitVec ^^^ BitVec.allOnes 64) := rfl
  rw [e1]
  simp only [BitVec.getLsbD_and, BitVec.getLsbD_or, BitVec.getLsbD_xor, BitVec.getLsbD_allOnes, wb_tb, BitVec.getLsbD_ofNat]
  by_cases hir : i = r
  · subst hir
    simp [hb, hi]
  · have : (2 ^ r).testBit i = false := by
      rw [Nat.testBit_two_pow]
      simp
      omega
    simp [this, hi]
theorem rbit (m c : Nat) : (m * 2 ^ (c + 1) / 4294967296 ^ (c / 32) % 4294967296) % 2 ^ (c % 32 + 1) = 0 := by
  obtain ⟨q, hq⟩ : ∃ q, q = c / 32 := ⟨_, rfl⟩
  obtain ⟨r, hr⟩ : ∃ r, r = c % 32 := ⟨_, rfl⟩
  have hr9 : r < 32 := by omega
  rw [← hq, ← hr]
  have e2 : m * 2 ^ (c + 1) = 4294967296 ^ q * (m * 2 ^ (r + 1)) := by
    rw [show c + 1 = 32 * q + (r + 1) by omega, Nat.pow_add, ← q_2, Nat.mul_left_comm]
  have e3 : (4294967296 : Nat) = 2 ^ (r + 1) * 2 ^ (31 - r) := by
    rw [← Nat.pow_add, show r + 1 + (31 - r) = 32 by omega]
  rw [e2, Nat.mul_div_cancel_left _ (qw_pos q)]
  have e4 : m * 2 ^ (r + 1) % 4294967296 = m % 2 ^ (31 - r) * 2 ^ (r + 1) := by
    rw [e3, Nat.mul_comm m, Nat.mul_mod_mul_left, Nat.mul_comm]
  rw [e4, Nat.mul_mod_left]
