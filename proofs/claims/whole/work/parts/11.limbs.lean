/-! ===== limbs: the numbers behind the rows ===== -/
theorem q_le {a b : Nat} (ha : a < 2147483648) (hb : b < 2147483648) : (nI a ≤ nI b) = (a ≤ b) := propext (nI_leI ha hb)
theorem q_lt {a b : Nat} (ha : a < 2147483648) (hb : b < 2147483648) : (nI a < nI b) = (a < b) := propext (nI_ltI ha hb)
theorem q_eq {a b : Nat} (ha : a < 2147483648) (hb : b < 2147483648) : (nI a = nI b) = (a = b) := propext (nI_eq ha hb)
theorem q_le0 {a : Nat} (ha : a < 2147483648) : (nI a ≤ 0) = (a = 0) := propext ⟨fun h => by
  have := (nI_leI (b := 0) ha (by decide)).mp h
  omega, fun h => by subst h; decide⟩
theorem q_lt0 {a : Nat} (ha : a < 2147483648) : (nI a < 0) = False := propext ⟨fun h => nI_pos ha h, False.elim⟩
theorem q_eq0 {a : Nat} (ha : a < 2147483648) : (nI a = 0) = (a = 0) := propext ⟨fun h => by
  have := (nI_eq (b := 0) ha (by decide)).mp h
  omega, fun h => by subst h; rfl⟩
theorem dv_s (a k : Nat) : a / 65536 ^ (k + 1) = a / 65536 ^ k / 65536 := by
  rw [Nat.pow_succ, Nat.div_div_eq_div_mul]
theorem dg_lt {v i : Nat} (h : i < 24) : dg v i = nI (v / 65536 ^ i % 65536) := if_pos h
theorem dg_ge {v i : Nat} (h : ¬ i < 24) : dg v i = 0 := if_neg h
/-- the first k limbs of u, the others of v -/
def mx (k u v : Nat) : Nat → Int32 := fun j => if j < k then dg u j else dg v j
theorem mx_0 {u v : Nat} : mx 0 u v = dg v := by funext j; simp [mx]
theorem mx_24 {u v : Nat} : mx 24 u v = dg u := by
  funext j
  by_cases h : j < 24
  · simp [mx, h]
  · simp [mx, h, dg]
theorem mx_at {k u v : Nat} (h : k < 24) : mx k u v k = nI (v / 65536 ^ k % 65536) := by
  simp [mx, dg_lt h]
theorem mx_up {k u v y : Nat} (h : k < 24) (e : u / 65536 ^ k % 65536 = y) : upd (mx k u v) k (nI y) = mx (k + 1) u v := by
  funext j
  by_cases hj : j = k
  · subst hj
    simp [upd, mx, dg_lt h, e]
  · by_cases h2 : j < k
    · simp [upd, mx, hj, h2, Nat.lt_succ_of_lt h2]
    · simp [upd, mx, hj, h2, show ¬ j < k + 1 by omega]
theorem and16 {n : Nat} (h : n < 4294967296) : nI n &&& nI 65535 = nI (n % 65536) := pk_andN h 16 (by decide)
theorem ush16 {n : Nat} (h : n < 4294967296) : ((nI n).toUInt32 >>> ((nI 16).toUInt32 &&& Int32.toUInt32 31)).toInt32 = nI (n / 65536) := pk_ushrN h (nI 16) 16 (by decide)
section CMG
variable {ad : Nat → Nat} {ca : Nat → ClassId} {V U : Nat → Nat} {sc : Nat → Int32} {ia : Nat → Nat → Int32} {la : Nat → Nat → Int64} {i j : Nat}
theorem up_self (f : Nat → Nat) (k : Nat) : va_up f k (f k) = f := by
  funext x
  by_cases h : x = k
  · subst h; simp [va_up]
  · simp [va_up, h]
theorem cm_self (h : isW i) : va_up (cm ad ca (V, U, sc, ia, la)) (i + 1) (.inl (ca 0, 24, .inl (dg (V i)))) = cm ad ca (V, U, sc, ia, la) := by
  rw [cm_upV h, up_self]
theorem cm_w2 (hi : isW i) (hj : isW j) (e : va_E) : va_up (cm ad ca (V, U, sc, ia, la)) (i + 1) e j = .inr (7, [.ref (ad (j + 1))]) := by
  rw [up_n _ _ (isW_ne hj hi), cm_w hj]
theorem cm_l2 (hj : isW j) (hij : i ≠ j) (e : va_E) : va_up (cm ad ca (V, U, sc, ia, la)) (i + 1) e (j + 1) = .inl (ca 0, 24, .inl (dg (V j))) := by
  rw [up_n _ _ (by omega), cm_l hj]
end CMG
theorem and16' (n : Nat) : nI n &&& nI 65535 = nI (n % 65536) := nx_mod n
theorem b01 {P : Prop} [Decidable P] : ((if P then (1 : Int32) else 0) = 0) = ¬ P := by
  by_cases h : P <;> simp [h]
theorem b01' {P : Prop} [Decidable P] : ((if P then (1 : Int32) else 0) = 0 ∨ (if P then (1 : Int32) else 0) = 1) := by
  by_cases h : P <;> simp [h]
theorem dec1 {k : Nat} (h : 0 < k) : nI k + Int32.ofInt (-1) = nI (k - 1) := by
  have h1 := pk_m1 (k - 1)
  rw [show k - 1 + 1 = k by omega] at h1
  exact h1
theorem pw_le {a b : Nat} (h : a ≤ b) : 65536 ^ a ≤ 65536 ^ b := Nat.pow_le_pow_right (by decide) h
theorem pw_pos (a : Nat) : 0 < 65536 ^ a := Nat.pow_pos (by decide)
/-! whole numbers with a sign, in 32 bits -/
def iz (t : Int) : Int32 := Int32.ofInt t
theorem iz_n (n : Nat) : nI n = iz n := rfl
theorem iz_sub (a b : Int) : iz a - iz b = iz (a - b) := (Int32.ofInt_sub a b).symm
theorem iz_add (a b : Int) : iz a + iz b = iz (a + b) := (Int32.ofInt_add a b).symm
theorem iz_toInt {t : Int} (h1 : -2147483648 ≤ t) (h2 : t < 2147483648) : (iz t).toInt = t := by
  unfold iz
  rw [Int32.toInt_ofInt]
  rw [show Int32.size = 4294967296 from rfl]
  simp only [Int.bmod_def]
  omega
theorem iz_and (t : Int) : iz t &&& nI 65535 = nI (t % 65536).toNat := by
  have h := pk_and (iz t) (m := nI 65535) 16 (by decide)
  rw [h]
  congr 1
  have : (iz t).toBitVec.toNat = (t % 4294967296).toNat := by
    show (BitVec.ofInt 32 t).toNat = _
    rw [BitVec.toNat_ofInt]
    rfl
  rw [this]
  omega
theorem iz_shr {t : Int} (h1 : -2147483648 ≤ t) (h2 : t < 2147483648) : iz t >>> (nI 16 &&& 31) = iz (t / 65536) := by
  apply Int32.toInt_inj.mp
  rw [pk_shr (iz t) (nI 16 &&& 31) 16 (by decide), iz_toInt h1 h2, iz_toInt (by omega) (by omega), Int.shiftRight_eq_div_pow]
  rfl
theorem iz_pos {t : Int} (h : 0 ≤ t) : iz t = nI t.toNat := by
  rw [iz_n, Int.toNat_of_nonneg h]
theorem iz_lt0 {t : Int} (h1 : -2147483648 ≤ t) (h2 : t < 2147483648) : (iz t < 0) = (t < 0) := by
  apply propext
  rw [Int32.lt_iff_toInt_lt, iz_toInt h1 h2]
  rfl
/-! two numbers blended: the lower k limbs of u, the upper ones of v -/
def bl (k u v : Nat) : Nat := u % 65536 ^ k + v / 65536 ^ k * 65536 ^ k
theorem bl_hi {k u v j : Nat} (h : k ≤ j) : bl k u v / 65536 ^ j = v / 65536 ^ j := by
  obtain ⟨d, rfl⟩ := Nat.exists_eq_add_of_le h
  rw [Nat.pow_add, ← Nat.div_div_eq_div_mul, ← Nat.div_div_eq_div_mul]
  congr 1
  unfold bl
  rw [Nat.add_mul_div_right _ _ (pw_pos k), Nat.div_eq_of_lt (Nat.mod_lt _ (pw_pos k)), Nat.zero_add]
theorem bl_lo {k u v j : Nat} (h : j < k) : bl k u v / 65536 ^ j % 65536 = u / 65536 ^ j % 65536 := by
  obtain ⟨d, rfl⟩ := Nat.exists_eq_add_of_lt h
  have e : 65536 ^ (j + d + 1) = 65536 ^ j * (65536 * 65536 ^ d) := by
    rw [show j + d + 1 = j + (1 + d) by omega, Nat.pow_add, Nat.pow_add]
  have h1 : ∀ a b : Nat, (a + b * 65536 ^ (j + d + 1)) / 65536 ^ j % 65536 = a / 65536 ^ j % 65536 := by
    intro a b
    rw [e, show b * (65536 ^ j * (65536 * 65536 ^ d)) = 65536 ^ j * (65536 * (65536 ^ d * b)) by
      rw [Nat.mul_comm b, Nat.mul_assoc, Nat.mul_assoc], Nat.add_mul_div_left _ _ (pw_pos j)]
    omega
  unfold bl
  rw [h1]
  have h2 := h1 (u % 65536 ^ (j + d + 1)) (u / 65536 ^ (j + d + 1))
  rw [← h2, Nat.mul_comm, Nat.mod_add_div]
theorem bl_0 (u v : Nat) : bl 0 u v = v := by simp [bl, Nat.mod_one]
theorem bl_top {k u v : Nat} (hu : u < 65536 ^ k) (hv : v < 65536 ^ k) : bl k u v = u := by
  unfold bl
  rw [Nat.mod_eq_of_lt hu, Nat.div_eq_of_lt hv, Nat.zero_mul, Nat.add_zero]
theorem dg_ext {u v : Nat} (h : ∀ j, j < 24 → u / 65536 ^ j % 65536 = v / 65536 ^ j % 65536) : dg u = dg v := by
  funext j
  by_cases hj : j < 24
  · rw [dg_lt hj, dg_lt hj, h j hj]
  · rw [dg_ge hj, dg_ge hj]
theorem bl_24 (u v : Nat) : dg (bl 24 u v) = dg u := dg_ext fun _ hj => bl_lo hj
/-- a limb is written: upwards -/
theorem bl_up {k u v y : Nat} (e : u / 65536 ^ k % 65536 = y) : upd (dg (bl k u v)) k (nI y) = dg (bl (k + 1) u v) ∨ 24 ≤ k := by
  by_cases hk : k < 24
  · left
    funext j
    by_cases hj : j = k
    · subst hj
      rw [dg_lt hk, bl_lo (Nat.lt_succ_self j), e]
      simp [upd]
    · rw [show upd (dg (bl k u v)) k (nI y) j = dg (bl k u v) j by simp [upd, hj]]
      by_cases h24 : j < 24
      · rw [dg_lt h24, dg_lt h24]
        by_cases h2 : j < k
        · rw [bl_lo h2, bl_lo (Nat.lt_succ_of_lt h2)]
        · rw [bl_hi (by omega), bl_hi (by omega)]
      · rw [dg_ge h24, dg_ge h24]
  · right; omega
theorem bl_upd {k u v y : Nat} (hk : k < 24) (e : u / 65536 ^ k % 65536 = y) : upd (dg (bl k u v)) k (nI y) = dg (bl (k + 1) u v) := by
  rcases bl_up (v := v) e with h | h
  · exact h
  · omega
/-- a limb is written: downwards -/
theorem bl_dnd {k u v y : Nat} (hk : k < 24) (e : v / 65536 ^ k % 65536 = y) : upd (dg (bl (k + 1) u v)) k (nI y) = dg (bl k u v) := by
  funext j
  by_cases hj : j = k
  · subst hj
    rw [dg_lt hk, bl_hi (Nat.le_refl j), e]
    simp [upd]
  · rw [show upd (dg (bl (k + 1) u v)) k (nI y) j = dg (bl (k + 1) u v) j by simp [upd, hj]]
    by_cases h24 : j < 24
    · rw [dg_lt h24, dg_lt h24]
      by_cases h2 : j < k
      · rw [bl_lo h2, bl_lo (Nat.lt_succ_of_lt h2)]
      · rw [bl_hi (by omega), bl_hi (by omega)]
    · rw [dg_ge h24, dg_ge h24]
theorem cpy_dg (u v : Nat) : va_cpy (dg u) (dg v) 0 0 24 = dg u := by
  funext j
  by_cases h : j < 24
  · simp [va_cpy, h]
  · simp [va_cpy, h, dg_ge h]
/-- -1 less, 0 alike, 1 greater -/
def cmpN (a b : Nat) : Int32 := if a < b then -1 else if a = b then 0 else 1
section CMH
variable {ad : Nat → Nat} {ca : Nat → ClassId} {V U : Nat → Nat} {sc : Nat → Int32} {ia : Nat → Nat → Int32} {la : Nat → Nat → Int64} {i j : Nat}
theorem cm_lu (h : isW i) {v : Nat} : cm ad ca (va_up V i v, U, sc, ia, la) (i + 1) = .inl (ca 0, 24, .inl (dg v)) := by
  rw [cm_l h]; simp [va_up]
theorem cm_lo (h : isW j) (hij : i ≠ j) {v : Nat} : cm ad ca (va_up V i v, U, sc, ia, la) (j + 1) = .inl (ca 0, 24, .inl (dg (V j))) := by
  rw [cm_l h]; simp [va_up, Ne.symm hij]
theorem cm_ext (h : isW i) {u v : Nat} (e : dg u = dg v) : cm ad ca (va_up V i u, U, sc, ia, la) = cm ad ca (va_up V i v, U, sc, ia, la) := by
  rw [← cm_upV h, ← cm_upV h, e]
theorem cm_st (h : isW i) {u v : Nat} : va_up (cm ad ca (va_up V i u, U, sc, ia, la)) (i + 1) (.inl (ca 0, 24, .inl (dg v))) = cm ad ca (va_up V i v, U, sc, ia, la) := by
  rw [cm_upV h, bx_uu]
end CMH
theorem upn {V : Nat → Nat} {i j v : Nat} (h : i ≠ j) : va_up V i v j = V j := by simp [va_up, Ne.symm h]
theorem ups {V : Nat → Nat} {i v : Nat} : va_up V i v i = v := by simp [va_up]
theorem bl_ge {k u v : Nat} (h : 24 ≤ k) : dg (bl k u v) = dg u := dg_ext fun _ hj => bl_lo (by omega)
theorem mulsplit (x p : Nat) : x * p = 65536 * (x / 65536 * p) + x % 65536 * p := by
  have h := Nat.div_add_mod x 65536
  calc x * p = (65536 * (x / 65536) + x % 65536) * p := by rw [h]
    _ = 65536 * (x / 65536 * p) + x % 65536 * p := by rw [Nat.add_mul, Nat.mul_assoc]
theorem shr_step (x b : Nat) (hb : 0 < b) : x / b = 65536 * (x / 65536 / b) + (x / 65536 % b * 65536 + x % 65536) / b ∧ x % b = (x / 65536 % b * 65536 + x % 65536) % b ∧ (x / 65536 % b * 65536 + x % 65536) / b < 65536 := by
  obtain ⟨h, hh⟩ : ∃ h, h = x / 65536 := ⟨_, rfl⟩
  rw [← hh]
  have e1 := Nat.div_add_mod h b
  have e2 : x = b * (65536 * (h / b)) + (h % b * 65536 + x % 65536) := by
    rw [Nat.mul_left_comm]
    omega
  have e3 : h % b < b := Nat.mod_lt _ hb
  refine ⟨?_, ?_, ?_⟩
  · conv => lhs; rw [e2]
    rw [Nat.mul_add_div hb]
  · conv => lhs; rw [e2]
    rw [Nat.mul_add_mod]
  · apply Nat.div_lt_of_lt_mul
    have : h % b * 65536 + 65536 ≤ b * 65536 := by
      rw [← Nat.succ_mul]
      exact Nat.mul_le_mul_right _ e3
    omega
theorem lN_ne0 {b : Nat} (h0 : 0 < b) (h : b < 9223372036854775808) : ¬ lN b = 0 := fun e => by
  have := (pk_lEQ (a := b) (b := 0) h (by decide)).mp e
  omega
theorem prod_step (a t b : Nat) : (a % 65536 ^ (t + 1) * b) / 65536 ^ t = (a % 65536 ^ t * b) / 65536 ^ t + a / 65536 ^ t % 65536 * b := by
  rw [Nat.mod_pow_succ, Nat.add_mul, Nat.mul_assoc, Nat.add_mul_div_left _ _ (pw_pos t)]
