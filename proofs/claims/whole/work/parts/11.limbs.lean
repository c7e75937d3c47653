/-! ===== limbs: the numbers behind the rows ===== -/
theorem q_le {a b : Nat} (ha : a < 2147483648) (hb : b < 2147483648) : (nI a ≤ nI b) = (a ≤ b) := propext (nI_leI ha hb)
theorem q_lt {a b : Nat} (ha : a < 2147483648) (hb : b < 2147483648) : (nI a < nI b) = (a < b) := propext (nI_ltI ha hb)
theorem q_eq {a b : Nat} (ha : a < 2147483648) (hb : b < 2147483648) : (nI a = nI b) = (a = b) := propext (nI_eq ha hb)
theorem q_le0 {a : Nat} (ha : a < 2147483648) : (nI a ≤ 0) = (a = 0) := propext ⟨fun h => by
  have := (nI_leI (b := 0) ha (by decide)).mp h
  omega, fun h => by subst h; decide⟩
theorem q_lt0 {a : Nat} (ha : a < 2147483648) : (nI a < 0) = False := propext ⟨fun h => nI_pos ha h, False.elim⟩
theorem q_eq0 {a : Nat} (ha : a < 2147483648) : (nI a = 0) = (a = 0) := propext ⟨fun h => by
  have := (nI_eq (b := 0) ha (by decide)).mp h
  omega, fun h => by subst h; rfl⟩
theorem dv_s (a k : Nat) : a / 65536 ^ (k + 1) = a / 65536 ^ k / 65536 := by
  rw [Nat.pow_succ, Nat.div_div_eq_div_mul]
theorem dg_lt {v i : Nat} (h : i < 24) : dg v i = nI (v / 65536 ^ i % 65536) := if_pos h
theorem dg_ge {v i : Nat} (h : ¬ i < 24) : dg v i = 0 := if_neg h
/-- the first k limbs of u, the others of v -/
def mx (k u v : Nat) : Nat → Int32 := fun j => if j < k then dg u j else dg v j
theorem mx_0 {u v : Nat} : mx 0 u v = dg v := by funext j; simp [mx]
theorem mx_24 {u v : Nat} : mx 24 u v = dg u := by
  funext j
  by_cases h : j < 24
  · simp [mx, h]
  · simp [mx, h, dg]
theorem mx_at {k u v : Nat} (h : k < 24) : mx k u v k = nI (v / 65536 ^ k % 65536) := by
  simp [mx, dg_lt h]
theorem mx_up {k u v y : Nat} (h : k < 24) (e : u / 65536 ^ k % 65536 = y) : upd (mx k u v) k (nI y) = mx (k + 1) u v := by
  funext j
  by_cases hj : j = k
  · subst hj
    simp [upd, mx, dg_lt h, e]
  · by_cases h2 : j < k
    · simp [upd, mx, hj, h2, Nat.lt_succ_of_lt h2]
    · simp [upd, mx, hj, h2, show ¬ j < k + 1 by omega]
theorem and16 {n : Nat} (h : n < 4294967296) : nI n &&& nI 65535 = nI (n % 65536) := pk_andN h 16 (by decide)
theorem ush16 {n : Nat} (h : n < 4294967296) : ((nI n).toUInt32 >>> ((nI 16).toUInt32 &&& Int32.toUInt32 31)).toInt32 = nI (n / 65536) := pk_ushrN h (nI 16) 16 (by decide)
section CMG
variable {ad : Nat → Nat} {ca : Nat → ClassId} {V U : Nat → Nat} {sc : Nat → Int32} {ia : Nat → Nat → Int32} {la : Nat → Nat → Int64} {i j : Nat}
theorem up_self (f : Nat → Nat) (k : Nat) : va_up f k (f k) = f := by
  funext x
  by_cases h : x = k
  · subst h; simp [va_up]
  · simp [va_up, h]
theorem cm_self (h : isW i) : va_up (cm ad ca (V, U, sc, ia, la)) (i + 1) (.inl (ca 0, 24, .inl (dg (V i)))) = cm ad ca (V, U, sc, ia, la) := by
  rw [cm_upV h, up_self]
theorem cm_w2 (hi : isW i) (hj : isW j) (e : va_E) : va_up (cm ad ca (V, U, sc, ia, la)) (i + 1) e j = .inr (7, [.ref (ad (j + 1))]) := by
  rw [up_n _ _ (isW_ne hj hi), cm_w hj]
theorem cm_l2 (hj : isW j) (hij : i ≠ j) (e : va_E) : va_up (cm ad ca (V, U, sc, ia, la)) (i + 1) e (j + 1) = .inl (ca 0, 24, .inl (dg (V j))) := by
  rw [up_n _ _ (by omega), cm_l hj]
end CMG
