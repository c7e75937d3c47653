/-! ===== the model's product and division: numbers ===== -/
theorem mulsplitQ (x p : Nat) : p * x = 4294967296 * (p * (x / 4294967296)) + p * (x % 4294967296) := by
  have h := Nat.div_add_mod x 4294967296
  calc p * x = p * (4294967296 * (x / 4294967296) + x % 4294967296) := by rw [h]
    _ = 4294967296 * (p * (x / 4294967296)) + p * (x % 4294967296) := by rw [Nat.mul_add, Nat.mul_left_comm]
theorem mulsplitH (p y : Nat) : p * y = 65536 * (p * (y / 65536)) + p * (y % 65536) := by
  have h := Nat.div_add_mod y 65536
  calc p * y = p * (65536 * (y / 65536) + y % 65536) := by rw [h]
    _ = 65536 * (p * (y / 65536)) + p * (y % 65536) := by rw [Nat.mul_add, Nat.mul_left_comm]
theorem prod_stepQ (a t b : Nat) : (a % 4294967296 ^ (t + 1) * b) / 4294967296 ^ t = (a % 4294967296 ^ t * b) / 4294967296 ^ t + a / 4294967296 ^ t % 4294967296 * b := by
  rw [Nat.mod_pow_succ, Nat.add_mul, Nat.mul_assoc, Nat.add_mul_div_left _ _ (qw_pos t)]
theorem lshrN {n r : Nat} (hn : n < 4611686018427387904) (hr : r < 64) : lN n >>> ((nI r).toInt64 &&& 63) = lN (n / 2 ^ r) := by
  apply pf_shr
  · rw [wb_c r hr, wb_tb]
    show ((BitVec.ofNat 64 r).smod 64).toNat = r
    rw [wb_sm r hr, BitVec.toNat_ofNat]
    omega
  · exact hn
theorem p2pos (r : Nat) : 0 < 2 ^ r := Nat.pow_pos (by decide)
theorem q_2 (i : Nat) : 4294967296 ^ i = 2 ^ (32 * i) := by rw [Nat.pow_mul]
theorem bit_at (x c : Nat) : x / 4294967296 ^ (c / 32) % 4294967296 / 2 ^ (c % 32) % 2 = x / 2 ^ c % 2 := by
  rw [q_2]
  obtain ⟨q, hq⟩ : ∃ q, q = c / 32 := ⟨_, rfl⟩
  obtain ⟨r, hr⟩ : ∃ r, r = c % 32 := ⟨_, rfl⟩
  rw [← hq, ← hr, show c = 32 * q + r by omega, Nat.pow_add, ← Nat.div_div_eq_div_mul]
  generalize x / 2 ^ (32 * q) = y
  have hr9 : r < 32 := by omega
  obtain ⟨d, hd⟩ : ∃ d, 32 = r + (1 + d) := ⟨31 - r, by omega⟩
  have e : (4294967296 : Nat) = 2 ^ r * (2 * 2 ^ d) := by
    have : (4294967296 : Nat) = 2 ^ 32 := by decide
    rw [this, hd, Nat.pow_add, Nat.pow_add, Nat.pow_one]
  have h1 := Nat.mod_add_div y 4294967296
  conv => rhs; rw [← h1, e, Nat.mul_assoc, Nat.add_mul_div_left _ _ (p2pos r), Nat.mul_assoc, Nat.add_mul_mod_self_left]
  rw [← e]
/-- a bit above which nothing is set, and below -/
theorem add_bit {m c : Nat} (j : Nat) : (m * 2 ^ (c + 1) + 2 ^ c) / 4294967296 ^ j % 4294967296 = if j = c / 32 then m * 2 ^ (c + 1) / 4294967296 ^ j % 4294967296 + 2 ^ (c % 32) else m * 2 ^ (c + 1) / 4294967296 ^ j % 4294967296 := by
  obtain ⟨q, hq⟩ : ∃ q, q = c / 32 := ⟨_, rfl⟩
  obtain ⟨r, hr⟩ : ∃ r, r = c % 32 := ⟨_, rfl⟩
  have hr9 : r < 32 := by omega
  have hc : c = 32 * q + r := by omega
  rw [← hq, ← hr]
  have e1 : 2 ^ c = 4294967296 ^ q * 2 ^ r := by rw [q_2, ← Nat.pow_add, hc]
  have e2 : m * 2 ^ (c + 1) = 4294967296 ^ q * (m * 2 ^ (r + 1)) := by
    rw [show c + 1 = 32 * q + (r + 1) by omega, Nat.pow_add, ← q_2, Nat.mul_left_comm]
  have e3 : (4294967296 : Nat) = 2 ^ (r + 1) * 2 ^ (31 - r) := by
    rw [← Nat.pow_add, show r + 1 + (31 - r) = 32 by omega]
  have hp := p2pos r
  have hp2 : 2 ^ (r + 1) = 2 * 2 ^ r := by rw [Nat.pow_succ, Nat.mul_comm]
  -- the limb of the bit
  have key : (m * 2 ^ (r + 1)) % 4294967296 + 2 ^ r < 4294967296 := by
    rw [e3, Nat.mul_comm m, Nat.mul_mod_mul_left]
    have h1 := Nat.mod_lt m (p2pos (31 - r))
    have h2 : 2 ^ (r + 1) * (m % 2 ^ (31 - r)) + 2 ^ (r + 1) ≤ 2 ^ (r + 1) * 2 ^ (31 - r) := by
      rw [← Nat.mul_succ]
      exact Nat.mul_le_mul_left _ h1
    omega
  rw [e1, e2, ← Nat.mul_add]
  rcases Nat.lt_trichotomy j q with h | h | h
  · rw [if_neg (by omega)]
    obtain ⟨d, rfl⟩ := Nat.exists_eq_add_of_lt h
    have e4 : ∀ x : Nat, 4294967296 ^ (j + d + 1) * x = 4294967296 ^ j * (4294967296 * (4294967296 ^ d * x)) := fun x => by
      rw [show j + d + 1 = j + (1 + d) by omega, Nat.pow_add, Nat.pow_add, Nat.pow_one, Nat.mul_assoc, Nat.mul_assoc]
    rw [e4, e4, Nat.mul_div_cancel_left _ (qw_pos j), Nat.mul_div_cancel_left _ (qw_pos j), Nat.mul_mod_right, Nat.mul_mod_right]
  · subst h
    rw [if_pos rfl, Nat.mul_div_cancel_left _ (qw_pos j), Nat.mul_div_cancel_left _ (qw_pos j)]
    omega
  · rw [if_neg (by omega)]
    obtain ⟨d, rfl⟩ := Nat.exists_eq_add_of_lt h
    generalize m * 2 ^ (r + 1) = X at key ⊢
    generalize 2 ^ r = Y at key ⊢
    rw [show q + d + 1 = q + (1 + d) by omega, Nat.pow_add, ← Nat.div_div_eq_div_mul, ← Nat.div_div_eq_div_mul, Nat.mul_div_cancel_left _ (qw_pos q), Nat.mul_div_cancel_left _ (qw_pos q), Nat.pow_add, Nat.pow_one, ← Nat.div_div_eq_div_mul, ← Nat.div_div_eq_div_mul]
    congr 2
    omega
/-- one more bit divided -/
theorem div_bit {A B c : Nat} (hB : 0 < B) : A / 2 ^ c = 2 * (A / 2 ^ (c + 1)) + A / 2 ^ c % 2 ∧ (A / 2 ^ (c + 1) % B + A / 2 ^ (c + 1) % B + A / 2 ^ c % 2 < B → A / 2 ^ c / B = 2 * (A / 2 ^ (c + 1) / B) ∧ A / 2 ^ c % B = A / 2 ^ (c + 1) % B + A / 2 ^ (c + 1) % B + A / 2 ^ c % 2) ∧ (B ≤ A / 2 ^ (c + 1) % B + A / 2 ^ (c + 1) % B + A / 2 ^ c % 2 → A / 2 ^ c / B = 2 * (A / 2 ^ (c + 1) / B) + 1 ∧ A / 2 ^ c % B = A / 2 ^ (c + 1) % B + A / 2 ^ (c + 1) % B + A / 2 ^ c % 2 - B) := by
  have h0 : A / 2 ^ (c + 1) = A / 2 ^ c / 2 := by rw [Nat.pow_succ, Nat.div_div_eq_div_mul]
  rw [h0]
  generalize A / 2 ^ c = Y
  have h1 : Y = 2 * (Y / 2) + Y % 2 := by omega
  have h2 := Nat.div_add_mod (Y / 2) B
  have h3 := Nat.mod_lt (Y / 2) hB
  refine ⟨h1, fun h => ?_, fun h => ?_⟩
  · have e : Y = B * (2 * (Y / 2 / B)) + (Y / 2 % B + Y / 2 % B + Y % 2) := by
      rw [Nat.mul_left_comm]
      omega
    exact ⟨by conv => lhs; rw [e, Nat.mul_add_div hB, Nat.div_eq_of_lt h, Nat.add_zero], by conv => lhs; rw [e, Nat.mul_add_mod, Nat.mod_eq_of_lt h]⟩
  · have e : Y = B * (2 * (Y / 2 / B) + 1) + (Y / 2 % B + Y / 2 % B + Y % 2 - B) := by
      rw [Nat.mul_add, Nat.mul_left_comm, Nat.mul_one]
      omega
    have h4 : Y / 2 % B + Y / 2 % B + Y % 2 - B < B := by omega
    exact ⟨by conv => lhs; rw [e, Nat.mul_add_div hB, Nat.div_eq_of_lt h4, Nat.add_zero], by conv => lhs; rw [e, Nat.mul_add_mod, Nat.mod_eq_of_lt h4]⟩
theorem even_add {x b : Nat} (hx : x % 2 = 0) (hb : b ≤ 1) (j : Nat) : (x + b) / 4294967296 ^ j % 4294967296 = if j = 0 then x % 4294967296 + b else x / 4294967296 ^ j % 4294967296 := by
  rcases Nat.eq_zero_or_pos j with h | h
  · subst h
    rw [if_pos rfl, Nat.pow_zero, Nat.div_one]
    omega
  · rw [if_neg (by omega)]
    obtain ⟨k, rfl⟩ : ∃ k, j = 1 + k := ⟨j - 1, by omega⟩
    rw [Nat.pow_add, Nat.pow_one, ← Nat.div_div_eq_div_mul, ← Nat.div_div_eq_div_mul, show (x + b) / 4294967296 = x / 4294967296 by omega]
