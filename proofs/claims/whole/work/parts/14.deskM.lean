/-! ===== numbers with a sign in 64 bits; a division's guess ===== -/
def lz (t : Int) : Int64 := Int64.ofInt t
theorem lz_n (n : Nat) : lN n = lz n := rfl
theorem lz_add (a b : Int) : lz a + lz b = lz (a + b) := (Int64.ofInt_add a b).symm
theorem lz_sub (a b : Int) : lz a - lz b = lz (a - b) := (Int64.ofInt_sub a b).symm
theorem lz_mul (a b : Int) : lz a * lz b = lz (a * b) := (Int64.ofInt_mul a b).symm
theorem lz_toInt {t : Int} (h1 : -9223372036854775808 ≤ t) (h2 : t < 9223372036854775808) : (lz t).toInt = t := by
  unfold lz
  rw [Int64.toInt_ofInt]
  rw [show Int64.size = 18446744073709551616 from rfl]
  simp only [Int.bmod_def]
  omega
theorem iz_bmod (t : Int) : (iz t).toInt = t.bmod 4294967296 := by
  unfold iz
  rw [Int32.toInt_ofInt]
theorem lz_i {t : Int} (h1 : -9223372036854775808 ≤ t) (h2 : t < 9223372036854775808) : (lz t).toInt32 = iz t := by
  apply Int32.toInt_inj.mp
  rw [Int64.toInt_toInt32, lz_toInt h1 h2, iz_bmod]
theorem iz_l {t : Int} (h1 : -2147483648 ≤ t) (h2 : t < 2147483648) : (iz t).toInt64 = lz t := by
  apply Int64.toInt_inj.mp
  rw [Int32.toInt_toInt64, iz_toInt h1 h2, lz_toInt (by omega) (by omega)]
theorem lz_shr {t : Int} (h1 : -9223372036854775808 ≤ t) (h2 : t < 9223372036854775808) : lz t >>> ((nI 16).toInt64 &&& 63) = lz (t / 65536) := by
  apply Int64.toInt_inj.mp
  have h : (lz t >>> ((nI 16).toInt64 &&& 63)).toInt = (lz t).toInt >>> 16 := by
    show ((lz t).toBitVec.sshiftRight (((nI 16).toInt64 &&& 63).toBitVec.smod 64).toNat).toInt = _
    rw [show (((nI 16).toInt64 &&& 63).toBitVec.smod 64).toNat = 16 by decide, BitVec.toInt_sshiftRight]
    rfl
  rw [h, lz_toInt h1 h2, lz_toInt (by omega) (by omega), Int.shiftRight_eq_div_pow]
  rfl
theorem lz_cmp0 {t : Int} (h1 : -9223372036854775808 ≤ t) (h2 : t < 9223372036854775808) : (0 ≤ lg_cmp (lz t) (lN 0)) = (0 ≤ t) := by
  apply propext
  rw [lg_cmp_ge, Int64.le_iff_toInt_le, lz_toInt h1 h2]
  rfl
theorem idv_s (Y : Int) (i : Nat) : Y / ((65536 ^ (i + 1) : Nat) : Int) = Y / ((65536 ^ i : Nat) : Int) / 65536 := by
  rw [Nat.pow_succ, Int.natCast_mul, ← Int.ediv_ediv_of_nonneg (Int.natCast_nonneg _)]
  rfl
theorem imulsplit (m : Int) (d : Nat) : m * (d : Int) = 65536 * (m * ((d / 65536 : Nat) : Int)) + m * ((d % 65536 : Nat) : Int) := by
  have h : (d : Int) = 65536 * ((d / 65536 : Nat) : Int) + ((d % 65536 : Nat) : Int) := by omega
  conv => lhs; rw [h]
  rw [Int.mul_add, Int.mul_left_comm]
theorem mbound {m : Int} {e : Nat} (h1 : -1 ≤ m) (h2 : m ≤ 65535) (he : e ≤ 65535) : -65535 ≤ m * (e : Int) ∧ m * (e : Int) ≤ 4294836225 := by
  rcases Int.lt_or_le m 0 with h | h
  · have : m = -1 := by omega
    subst this
    omega
  · obtain ⟨g, rfl⟩ := Int.eq_ofNat_of_zero_le h
    rw [← Int.natCast_mul]
    have := Nat.mul_le_mul (show g ≤ 65535 by omega) he
    omega
theorem topdig (Y : Int) {n i : Nat} (h : i ≤ n) : (((Y % ((65536 ^ (n + 1) : Nat) : Int)).toNat / 65536 ^ i % 65536 : Nat) : Int) = Y / ((65536 ^ i : Nat) : Int) % 65536 := by
  obtain ⟨d, rfl⟩ := Nat.exists_eq_add_of_le h
  obtain ⟨P, hP⟩ : ∃ P, P = 65536 ^ i := ⟨_, rfl⟩
  have e : 65536 ^ (i + d + 1) = P * (65536 * 65536 ^ d) := by
    rw [hP, show i + d + 1 = i + (1 + d) by omega, Nat.pow_add, Nat.pow_add]
  have hPp : 0 < P := by rw [hP]; exact pw_pos i
  rw [← hP, e]
  obtain ⟨N, hN⟩ : ∃ N, N = P * (65536 * 65536 ^ d) := ⟨_, rfl⟩
  rw [← hN]
  have hNp : 0 < N := by rw [hN]; exact Nat.mul_pos hPp (Nat.mul_pos (by decide) (pw_pos d))
  have h1 : 0 ≤ Y % (N : Int) := Int.emod_nonneg _ (by omega)
  obtain ⟨y, hy⟩ := Int.eq_ofNat_of_zero_le h1
  rw [hy, Int.toNat_natCast]
  have h2 : Y = (y : Int) + (P : Int) * (65536 * ((65536 ^ d : Nat) : Int) * (Y / (N : Int))) := by
    have h3 := Int.emod_add_mul_ediv Y (N : Int)
    rw [hy] at h3
    rw [← Int.mul_assoc, show (P : Int) * (65536 * ((65536 ^ d : Nat) : Int)) = (N : Int) by rw [hN, Int.natCast_mul, Int.natCast_mul]; rfl]
    exact h3.symm
  rw [h2, Int.add_mul_ediv_left _ _ (by omega), Int.mul_assoc]
  rw [show ((y : Int) / (P : Int)) = ((y / P : Nat) : Int) from rfl]
  omega
/-- the guess of a limb is right, or one too high -/
theorem guess_ok {X D H L P : Nat} (hX1 : H * P ≤ X) (hX2 : X < (H + 1) * P) (hD1 : L * P ≤ D) (hD2 : D < (L + 1) * P) (hL : 65536 ≤ L) (hq : X < D * 65536) : X / D ≤ min (H / L) 65535 ∧ min (H / L) 65535 ≤ X / D + 1 := by
  have hP : 0 < P := by
    rcases Nat.eq_zero_or_pos P with h | h
    · subst h; omega
    · exact h
  have hD : 0 < D := Nat.lt_of_lt_of_le (Nat.mul_pos (by omega) hP) hD1
  have hq1 : X / D < 65536 := Nat.div_lt_of_lt_mul (by rw [Nat.mul_comm]; exact Nat.mul_comm 65536 D ▸ hq)
  constructor
  · have h1 : X / D * L ≤ H := by
      have h2 : X / D * L * P ≤ X := by
        rw [Nat.mul_assoc]
        exact Nat.le_trans (Nat.mul_le_mul_left _ hD1) (Nat.div_mul_le_self X D)
      have h3 : X / D * L * P < (H + 1) * P := Nat.lt_of_le_of_lt h2 hX2
      have h4 := Nat.lt_of_mul_lt_mul_right h3
      omega
    have h5 : X / D ≤ H / L := (Nat.le_div_iff_mul_le (by omega)).mpr h1
    omega
  · obtain ⟨g, hg⟩ : ∃ g, g = min (H / L) 65535 := ⟨_, rfl⟩
    rw [← hg]
    have hg1 : g * L ≤ H := by
      have : g ≤ H / L := by omega
      exact Nat.le_trans (Nat.mul_le_mul_right _ this) (Nat.div_mul_le_self H L)
    rcases Nat.eq_zero_or_pos g with h0 | h0
    · rw [h0]; exact Nat.zero_le _
    · obtain ⟨k, rfl⟩ : ∃ k, g = k + 1 := ⟨g - 1, by omega⟩
      have h1 : k * D ≤ X := by
        have h2 : k * D ≤ k * ((L + 1) * P) := Nat.mul_le_mul_left _ (Nat.le_of_lt hD2)
        have h3 : k * ((L + 1) * P) ≤ H * P := by
          rw [← Nat.mul_assoc]
          apply Nat.mul_le_mul_right
          rw [Nat.mul_add, Nat.mul_one]
          rw [Nat.add_mul, Nat.one_mul] at hg1
          omega
        omega
      have h4 : k ≤ X / D := (Nat.le_div_iff_mul_le hD).mpr h1
      omega
/-- the limb at a place with a sign: 0 ahead of the first -/
def la0 (v : Nat) (s : Int) : Nat := if s < 0 then 0 else v / 65536 ^ s.toNat % 65536
theorem la0_lt (v : Nat) (s : Int) : la0 v s < 65536 := by
  unfold la0
  split
  · decide
  · exact Nat.mod_lt _ (by decide)
