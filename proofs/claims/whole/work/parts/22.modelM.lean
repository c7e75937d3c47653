/-! ===== the model's rows: limbs of 32 bits ===== -/
theorem qw_pos (a : Nat) : 0 < 4294967296 ^ a := Nat.pow_pos (by decide)
theorem qw_le {a b : Nat} (h : a ≤ b) : 4294967296 ^ a ≤ 4294967296 ^ b := Nat.pow_le_pow_right (by decide) h
theorem dq_s (a k : Nat) : a / 4294967296 ^ (k + 1) = a / 4294967296 ^ k / 4294967296 := by
  rw [Nat.pow_succ, Nat.div_div_eq_div_mul]
def bq (k u v : Nat) : Nat := u % 4294967296 ^ k + v / 4294967296 ^ k * 4294967296 ^ k
theorem bq_hi {k u v j : Nat} (h : k ≤ j) : bq k u v / 4294967296 ^ j = v / 4294967296 ^ j := by
  obtain ⟨d, rfl⟩ := Nat.exists_eq_add_of_le h
  rw [Nat.pow_add, ← Nat.div_div_eq_div_mul, ← Nat.div_div_eq_div_mul]
  congr 1
  unfold bq
  rw [Nat.add_mul_div_right _ _ (qw_pos k), Nat.div_eq_of_lt (Nat.mod_lt _ (qw_pos k)), Nat.zero_add]
theorem bq_lo {k u v j : Nat} (h : j < k) : bq k u v / 4294967296 ^ j % 4294967296 = u / 4294967296 ^ j % 4294967296 := by
  obtain ⟨d, rfl⟩ := Nat.exists_eq_add_of_lt h
  have e : 4294967296 ^ (j + d + 1) = 4294967296 ^ j * (4294967296 * 4294967296 ^ d) := by
    rw [show j + d + 1 = j + (1 + d) by omega, Nat.pow_add, Nat.pow_add]
  have h1 : ∀ a b : Nat, (a + b * 4294967296 ^ (j + d + 1)) / 4294967296 ^ j % 4294967296 = a / 4294967296 ^ j % 4294967296 := by
    intro a b
    rw [e, show b * (4294967296 ^ j * (4294967296 * 4294967296 ^ d)) = 4294967296 ^ j * (4294967296 * (4294967296 ^ d * b)) by
      rw [Nat.mul_comm b, Nat.mul_assoc, Nat.mul_assoc], Nat.add_mul_div_left _ _ (qw_pos j)]
    omega
  unfold bq
  rw [h1]
  have h2 := h1 (u % 4294967296 ^ (j + d + 1)) (u / 4294967296 ^ (j + d + 1))
  rw [← h2, Nat.mul_comm, Nat.mod_add_div]
theorem bq_0 (u v : Nat) : bq 0 u v = v := by simp [bq, Nat.mod_one]
theorem mw_at (U : Nat → Nat) {n i : Nat} (hn : n < 80) (hi : i < 12) : mw U (12 * n + i) = lN (U n / 4294967296 ^ i % 4294967296) := by
  unfold mw
  rw [if_pos (by omega), show (12 * n + i) / 12 = n by omega, show (12 * n + i) % 12 = i by omega]
/-- a row's limb is written -/
theorem mw_up {U : Nat → Nat} {n i y v : Nat} (hn : n < 80) (hi : i < 12) (h1 : v / 4294967296 ^ i % 4294967296 = y) (h2 : ∀ j, j < 12 → j ≠ i → v / 4294967296 ^ j % 4294967296 = U n / 4294967296 ^ j % 4294967296) : vp_updL (mw U) (12 * n + i) (lN y) = mw (va_up U n v) := by
  funext x
  unfold vp_updL
  by_cases hx : x = 12 * n + i
  · subst hx
    rw [if_pos rfl, mw_at _ hn hi, ups, h1]
  · rw [if_neg hx]
    unfold mw
    by_cases h9 : x < 960
    · rw [if_pos h9, if_pos h9]
      by_cases hq : x / 12 = n
      · rw [hq, ups, h2 (x % 12) (by omega) (by omega)]
      · rw [upn (Ne.symm hq)]
    · rw [if_neg h9, if_neg h9]
theorem mw_ext {U : Nat → Nat} {n u v : Nat} (h : ∀ j, j < 12 → u / 4294967296 ^ j % 4294967296 = v / 4294967296 ^ j % 4294967296) : mw (va_up U n u) = mw (va_up U n v) := by
  funext x
  unfold mw
  by_cases h9 : x < 960
  · rw [if_pos h9, if_pos h9]
    by_cases hq : x / 12 = n
    · rw [hq, ups, ups, h (x % 12) (by omega)]
    · rw [upn (Ne.symm hq), upn (Ne.symm hq)]
  · rw [if_neg h9, if_neg h9]
/-- upwards -/
theorem mw_bq {U : Nat → Nat} {n k u v y : Nat} (hn : n < 80) (hk : k < 12) (e : u / 4294967296 ^ k % 4294967296 = y) : vp_updL (mw (va_up U n (bq k u v))) (12 * n + k) (lN y) = mw (va_up U n (bq (k + 1) u v)) := by
  rw [mw_up (v := bq (k + 1) u v) hn hk (by rw [bq_lo (Nat.lt_succ_self k), e]) (fun j hj hjk => by
    rw [ups]
    rcases Nat.lt_or_gt_of_ne hjk with h | h
    · rw [bq_lo h, bq_lo (by omega)]
    · rw [bq_hi (by omega), bq_hi (by omega)]), bx_uu]
/-- what is read of a row while another, or itself, is written upwards -/
theorem bq_rd {U : Nat → Nat} {n k u a : Nat} : va_up U n (bq k u (U n)) a / 4294967296 ^ k = U a / 4294967296 ^ k := by
  by_cases h : n = a
  · subst h
    rw [ups, bq_hi (Nat.le_refl k)]
  · rw [upn h]
theorem bq_12 (u v : Nat) : ∀ j, j < 12 → bq 12 u v / 4294967296 ^ j % 4294967296 = u / 4294967296 ^ j % 4294967296 := fun _ h => bq_lo h
section CMU
variable {ad : Nat → Nat} {ca : Nat → ClassId} {V U U' : Nat → Nat} {sc : Nat → Int32} {ia : Nat → Nat → Int32} {la : Nat → Nat → Int64}
theorem cm_upU : va_up (cm ad ca (V, U, sc, ia, la)) 175 (.inl (ca 1, 960, .inr (.inl (mw U')))) = cm ad ca (V, U', sc, ia, la) := by
  funext j
  by_cases hj : j = 175
  · subst hj
    rw [cm_175]
    simp [va_up]
  · rw [show va_up (cm ad ca (V, U, sc, ia, la)) 175 (.inl (ca 1, 960, .inr (.inl (mw U')))) j = cm ad ca (V, U, sc, ia, la) j by simp [va_up, hj]]
    show cmX ad ca V U sc ia la j = cmX ad ca V U' sc ia la j
    unfold cmX cmB
    simp only [hj, if_false]
theorem cm_extU (h : mw U = mw U') : cm ad ca (V, U, sc, ia, la) = cm ad ca (V, U', sc, ia, la) := by
  rw [← cm_upU (U := U) (U' := U), ← cm_upU (U := U) (U' := U'), h]
end CMU
theorem lmaskN {n : Nat} (h : n < 18446744073709551616) : lN n &&& lN 4294967295 = lN (n % 4294967296) := g_mask (s := 32) (p := 4294967296) rfl (by decide) h
theorem lmask16 {n : Nat} (h : n < 18446744073709551616) : lN n &&& lN 65535 = lN (n % 65536) := g_mask (s := 16) (p := 65536) rfl (by decide) h
theorem lsh32 {n : Nat} (h : n < 18446744073709551616) : ((lN n).toUInt64 >>> ((nI 32).toInt64.toUInt64 &&& Int64.toUInt64 63)).toInt64 = lN (n / 4294967296) := wb_shr (k := 32) h (by decide)
theorem lsh16 {n : Nat} (h : n < 18446744073709551616) : ((lN n).toUInt64 >>> ((nI 16).toInt64.toUInt64 &&& Int64.toUInt64 63)).toInt64 = lN (n / 65536) := wb_shr (k := 16) h (by decide)
theorem lz_and32 {t : Int} : lz t &&& lN 4294967295 = lN (t % 4294967296).toNat := by
  obtain ⟨n, hn, e⟩ := wb_of (lz t)
  have h1 : (lz t).toBitVec.toNat = (t % 18446744073709551616).toNat := by
    show (BitVec.ofInt 64 t).toNat = _
    rw [BitVec.toNat_ofInt]
    rfl
  have h2 : (lN n).toBitVec.toNat = n := wb_tn hn
  rw [e] at h1
  rw [e, lmaskN hn]
  congr 1
  omega
theorem lz_shr32 {t : Int} (h1 : -9223372036854775808 ≤ t) (h2 : t < 9223372036854775808) : lz t >>> ((nI 32).toInt64 &&& 63) = lz (t / 4294967296) := by
  apply Int64.toInt_inj.mp
  have h : (lz t >>> ((nI 32).toInt64 &&& 63)).toInt = (lz t).toInt >>> 32 := by
    show ((lz t).toBitVec.sshiftRight (((nI 32).toInt64 &&& 63).toBitVec.smod 64).toNat).toInt = _
    rw [show (((nI 32).toInt64 &&& 63).toBitVec.smod 64).toNat = 32 by decide, BitVec.toInt_sshiftRight]
    rfl
  rw [h, lz_toInt h1 h2, lz_toInt (by omega) (by omega), Int.shiftRight_eq_div_pow]
  rfl
/-- compares of longs that are 0 or more -/
theorem c_lt {a b : Nat} (ha : a < 9223372036854775808) (hb : b < 9223372036854775808) : (lg_cmp (lN a) (lN b) < 0) = (a < b) := propext ((lg_cmp_lt _ _).trans (pk_lLT ha hb))
theorem c_ge {a b : Nat} (ha : a < 9223372036854775808) (hb : b < 9223372036854775808) : (0 ≤ lg_cmp (lN a) (lN b)) = (b ≤ a) := propext ((lg_cmp_ge _ _).trans (pk_lLE hb ha))
theorem c_gt {a b : Nat} (ha : a < 9223372036854775808) (hb : b < 9223372036854775808) : (0 < lg_cmp (lN a) (lN b)) = (b < a) := propext ((lg_cmp_gt _ _).trans (pk_lLT hb ha))
theorem c_le {a b : Nat} (ha : a < 9223372036854775808) (hb : b < 9223372036854775808) : (lg_cmp (lN a) (lN b) ≤ 0) = (a ≤ b) := propext ((lg_cmp_le _ _).trans (pk_lLE ha hb))
theorem c_eq {a b : Nat} (ha : a < 9223372036854775808) (hb : b < 9223372036854775808) : (lg_cmp (lN a) (lN b) = 0) = (a = b) := propext ((lg_cmp_eq _ _).trans (pk_lEQ ha hb))
theorem md_lt (a : Nat) : a % 4294967296 < 9223372036854775808 := Nat.lt_trans (Nat.mod_lt _ (by decide)) (by decide)
