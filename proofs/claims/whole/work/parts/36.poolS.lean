/-! ===== pools: what calls do ===== -/
noncomputable def isq (N : Nat) : Nat := Classical.choose (ex_sqrt N)
theorem isq_s (N : Nat) : isq N * isq N ≤ N ∧ N < (isq N + 1) * (isq N + 1) := Classical.choose_spec (ex_sqrt N)
theorem isq_u {N s : Nat} (h1 : s * s ≤ N) (h2 : N < (s + 1) * (s + 1)) : s = isq N := by
  obtain ⟨g1, g2⟩ := isq_s N
  rcases Nat.lt_trichotomy s (isq N) with h | h | h
  · have := Nat.mul_le_mul (show s + 1 ≤ isq N from h) (show s + 1 ≤ isq N from h)
    omega
  · exact h
  · have := Nat.mul_le_mul (show isq N + 1 ≤ s from h) (show isq N + 1 ≤ s from h)
    omega
theorem isq_lt {N : Nat} (h : N < 2 ^ 200) : isq N < 2 ^ 100 := by
  rcases Nat.lt_or_ge (isq N) (2 ^ 100) with q | q
  · exact q
  · have := Nat.mul_le_mul q q
    have := (isq_s N).1
    omega
theorem wQ0 {i : Nat} (h : isP i) : isW (i + 2) := by unfold isP at h; unfold isW; omega
theorem wQ1 {i : Nat} (h : isP i) : isW (i + 4) := by unfold isP at h; unfold isW; omega
theorem wQ2 {i : Nat} (h : isP i) : isW (i + 6) := by unfold isP at h; unfold isW; omega
theorem isP_lt {i : Nat} (h : isP i) : i + 7 < 135 ∧ 36 ≤ i := by unfold isP at h; omega
theorem isP_p {p : Nat} (h : p < 4) : isP (36 + 8 * p) := by unfold isP; omega
/-- PARTS that come new -/
noncomputable def jN (x y P d e : Nat) : Nat := if P = 0 then isq (d * e) else min (d * P / x) (e * P / y)
noncomputable def jR (x y P d e : Nat) : Int32 := if x + d < 2 ^ 100 ∧ y + e < 2 ^ 100 then (if P + jN x y P d e < 2 ^ 100 then (if jN x y P d e = 0 then -4 else 1) else -2) else -2
def lR (P s : Nat) : Int32 := if P < s then -3 else if s = 0 then -4 else 1
/-- what is got for d -/
def gN (x y p q d : Nat) : Nat := y * (d * (q - p)) / (x * q + d * (q - p))
def gR (x y P p q d : Nat) : Int32 := if x + d < 2 ^ 100 then (if P = 0 then -4 else if gN x y p q d = 0 then -4 else 1) else -2
/-- what is to be given for e -/
def aN (x y p q e : Nat) : Nat := rnd 1 (x * q * e) ((y - e) * (q - p))
def aR (x y p q e : Nat) : Int32 := if y ≤ e then -3 else if x + aN x y p q e < 2 ^ 100 then (if e = 0 then -4 else 1) else -2
/-- three, two of a pool's numbers set -/
def up3 (V : Nat → Nat) (i a b c : Nat) : Nat → Nat := va_up (va_up (va_up V (i + 2) a) (i + 4) b) (i + 6) c
theorem b10 {P : Prop} [Decidable P] : ((if P then (0 : Int32) else 1) = 0) = P := by
  by_cases h : P <;> simp [h]
theorem b10' {P : Prop} [Decidable P] : ((if P then (0 : Int32) else 1) = 0 ∨ (if P then (0 : Int32) else 1) = 1) := by
  by_cases h : P <;> simp [h]
