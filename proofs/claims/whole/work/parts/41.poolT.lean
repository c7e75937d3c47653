/-! ===== pools among the 28 numbers ===== -/
theorem RC.q {V T : Nat → Nat} (h : RC V T) {p : Nat} (hp : p < 4) : V (36 + 8 * p + 2) = T (16 + 3 * p) ∧ V (36 + 8 * p + 4) = T (16 + 3 * p + 1) ∧ V (36 + 8 * p + 6) = T (16 + 3 * p + 2) := by
  have h0 := h.p hp (s := 0) (by decide)
  have h1 := h.p hp (s := 1) (by decide)
  have h2 := h.p hp (s := 2) (by decide)
  rw [show 38 + 8 * p + 2 * 0 = 36 + 8 * p + 2 by omega] at h0
  rw [show 38 + 8 * p + 2 * 1 = 36 + 8 * p + 4 by omega] at h1
  rw [show 38 + 8 * p + 2 * 2 = 36 + 8 * p + 6 by omega] at h2
  exact ⟨h0, h1, h2⟩
def tup3 (T : Nat → Nat) (p a b c : Nat) : Nat → Nat := va_up (va_up (va_up T (16 + 3 * p) a) (16 + 3 * p + 1) b) (16 + 3 * p + 2) c
theorem RC.u3 {V V' T : Nat → Nat} (h : RC V T) {p a b c : Nat} (hp : p < 4) (f : ∀ k, k < 68 → V' k = up3 V (36 + 8 * p) a b c k) : RC V' (tup3 T p a b c) := by
  refine RC.o ?_ f
  unfold up3 tup3
  have h0 := h.upp hp (s := 0) (v := a) (by decide)
  have h1 := h0.upp hp (s := 1) (v := b) (by decide)
  have h2 := h1.upp hp (s := 2) (v := c) (by decide)
  rw [show 38 + 8 * p + 2 * 0 = 36 + 8 * p + 2 by omega, show 38 + 8 * p + 2 * 1 = 36 + 8 * p + 4 by omega, show 38 + 8 * p + 2 * 2 = 36 + 8 * p + 6 by omega] at h2
  exact h2
def tup2 (T : Nat → Nat) (p s a b : Nat) : Nat → Nat := va_up (va_up T (16 + 3 * p + s) a) (16 + 3 * p + (1 - s)) b
theorem RC.u2 {V V' T : Nat → Nat} (h : RC V T) {p s a b : Nat} (hp : p < 4) (hs : s < 2) (f : ∀ k, k < 68 → V' k = va_up (va_up V (36 + 8 * p + 2 + 2 * s) a) (36 + 8 * p + 2 + 2 * (1 - s)) b k) : RC V' (tup2 T p s a b) := by
  refine RC.o ?_ f
  unfold tup2
  have h0 := h.upp hp (s := s) (v := a) (by omega)
  have h1 := h0.upp hp (s := 1 - s) (v := b) (by omega)
  rw [show 38 + 8 * p + 2 * s = 36 + 8 * p + 2 + 2 * s by omega, show 38 + 8 * p + 2 * (1 - s) = 36 + 8 * p + 2 + 2 * (1 - s) by omega] at h1
  exact h1
theorem RC.qs {V T : Nat → Nat} (h : RC V T) {p s : Nat} (hp : p < 4) (hs : s < 2) : V (36 + 8 * p + 2 + 2 * s) = T (16 + 3 * p + s) := by
  have h0 := h.p hp (s := s) (by omega)
  rw [show 38 + 8 * p + 2 * s = 36 + 8 * p + 2 + 2 * s by omega] at h0
  exact h0
theorem jR_1 {x y P d e : Nat} (h : jR x y P d e = 1) : x + d < 2 ^ 100 ∧ y + e < 2 ^ 100 ∧ P + jN x y P d e < 2 ^ 100 ∧ ¬ jN x y P d e = 0 := by
  unfold jR at h
  by_cases h1 : x + d < 2 ^ 100 ∧ y + e < 2 ^ 100
  · rw [if_pos h1] at h
    by_cases h2 : P + jN x y P d e < 2 ^ 100
    · rw [if_pos h2] at h
      by_cases h3 : jN x y P d e = 0
      · rw [if_pos h3] at h; exact absurd h (by decide)
      · exact ⟨h1.1, h1.2, h2, h3⟩
    · rw [if_neg h2] at h; exact absurd h (by decide)
  · rw [if_neg h1] at h; exact absurd h (by decide)
theorem lR_1 {P s : Nat} (h : lR P s = 1) : s ≤ P ∧ 0 < s := by
  unfold lR at h
  by_cases h1 : P < s
  · rw [if_pos h1] at h; exact absurd h (by decide)
  · rw [if_neg h1] at h
    by_cases h2 : s = 0
    · rw [if_pos h2] at h; exact absurd h (by decide)
    · omega
theorem gR_1 {x y P p q d : Nat} (h : gR x y P p q d = 1) : x + d < 2 ^ 100 ∧ ¬ P = 0 ∧ ¬ gN x y p q d = 0 := by
  unfold gR at h
  by_cases h1 : x + d < 2 ^ 100
  · rw [if_pos h1] at h
    by_cases h2 : P = 0
    · rw [if_pos h2] at h; exact absurd h (by decide)
    · rw [if_neg h2] at h
      by_cases h3 : gN x y p q d = 0
      · rw [if_pos h3] at h; exact absurd h (by decide)
      · exact ⟨h1, h2, h3⟩
  · rw [if_neg h1] at h; exact absurd h (by decide)
theorem aR_1 {x y p q e : Nat} (h : aR x y p q e = 1) : e < y ∧ x + aN x y p q e < 2 ^ 100 ∧ ¬ e = 0 := by
  unfold aR at h
  by_cases h1 : y ≤ e
  · rw [if_pos h1] at h; exact absurd h (by decide)
  · rw [if_neg h1] at h
    by_cases h2 : x + aN x y p q e < 2 ^ 100
    · rw [if_pos h2] at h
      by_cases h3 : e = 0
      · rw [if_pos h3] at h; exact absurd h (by decide)
      · exact ⟨by omega, h2, h3⟩
    · rw [if_neg h2] at h; exact absurd h (by decide)
/-- fees -/
def FC (sc : Nat → Int32) (fp fq : Nat → Nat) : Prop := ∀ p, p < 4 → sc (200 + (36 + 8 * p)) = nI (fp p) ∧ sc (400 + (36 + 8 * p)) = nI (fq p)
def FM (ia : Nat → Nat → Int32) (fp fq : Nat → Nat) : Prop := ∀ p, p < 4 → ia 177 p = nI (fp p) ∧ ia 178 p = nI (fq p)
def FB (fp fq : Nat → Nat) : Prop := ∀ p, p < 4 → fp p < fq p ∧ fq p ≤ 1000000
abbrev okJ (x a b r : Int32) : Prop := inR x 4 ∧ inR a 16 ∧ inR b 16 ∧ inR r 16
noncomputable def sJoin (T : Nat → Nat) (x a b r : Int32) : sR := if okJ x a b r then (if jR (T (16 + 3 * rI x)) (T (16 + 3 * rI x + 1)) (T (16 + 3 * rI x + 2)) (T (rI a)) (T (rI b)) = 1 then (1, va_up (tup3 T (rI x) (T (16 + 3 * rI x) + T (rI a)) (T (16 + 3 * rI x + 1) + T (rI b)) (T (16 + 3 * rI x + 2) + jN (T (16 + 3 * rI x)) (T (16 + 3 * rI x + 1)) (T (16 + 3 * rI x + 2)) (T (rI a)) (T (rI b)))) (rI r) (jN (T (16 + 3 * rI x)) (T (16 + 3 * rI x + 1)) (T (16 + 3 * rI x + 2)) (T (rI a)) (T (rI b)))) else (jR (T (16 + 3 * rI x)) (T (16 + 3 * rI x + 1)) (T (16 + 3 * rI x + 2)) (T (rI a)) (T (rI b)), T)) else (-1, T)
def sLeave (T : Nat → Nat) (x s a b : Int32) : sR := if okJ x s a b then (if lR (T (16 + 3 * rI x + 2)) (T (rI s)) = 1 then (1, va_up (va_up (tup3 T (rI x) (T (16 + 3 * rI x) - T (16 + 3 * rI x) * T (rI s) / T (16 + 3 * rI x + 2)) (T (16 + 3 * rI x + 1) - T (16 + 3 * rI x + 1) * T (rI s) / T (16 + 3 * rI x + 2)) (T (16 + 3 * rI x + 2) - T (rI s))) (rI a) (T (16 + 3 * rI x) * T (rI s) / T (16 + 3 * rI x + 2))) (rI b) (T (16 + 3 * rI x + 1) * T (rI s) / T (16 + 3 * rI x + 2))) else (lR (T (16 + 3 * rI x + 2)) (T (rI s)), T)) else (-1, T)
abbrev okG (x d a r : Int32) : Prop := inR x 4 ∧ inR d 2 ∧ inR a 16 ∧ inR r 16
def sGive (T fp fq : Nat → Nat) (x d a r : Int32) : sR := if okG x d a r then (if gR (T (16 + 3 * rI x + rI d)) (T (16 + 3 * rI x + (1 - rI d))) (T (16 + 3 * rI x + 2)) (fp (rI x)) (fq (rI x)) (T (rI a)) = 1 then (1, va_up (tup2 T (rI x) (rI d) (T (16 + 3 * rI x + rI d) + T (rI a)) (T (16 + 3 * rI x + (1 - rI d)) - gN (T (16 + 3 * rI x + rI d)) (T (16 + 3 * rI x + (1 - rI d))) (fp (rI x)) (fq (rI x)) (T (rI a)))) (rI r) (gN (T (16 + 3 * rI x + rI d)) (T (16 + 3 * rI x + (1 - rI d))) (fp (rI x)) (fq (rI x)) (T (rI a)))) else (gR (T (16 + 3 * rI x + rI d)) (T (16 + 3 * rI x + (1 - rI d))) (T (16 + 3 * rI x + 2)) (fp (rI x)) (fq (rI x)) (T (rI a)), T)) else (-1, T)
def sAsk (T fp fq : Nat → Nat) (x d a r : Int32) : sR := if okG x d a r then (if aR (T (16 + 3 * rI x + rI d)) (T (16 + 3 * rI x + (1 - rI d))) (fp (rI x)) (fq (rI x)) (T (rI a)) = 1 then (1, va_up (tup2 T (rI x) (rI d) (T (16 + 3 * rI x + rI d) + aN (T (16 + 3 * rI x + rI d)) (T (16 + 3 * rI x + (1 - rI d))) (fp (rI x)) (fq (rI x)) (T (rI a))) (T (16 + 3 * rI x + (1 - rI d)) - T (rI a))) (rI r) (aN (T (16 + 3 * rI x + rI d)) (T (16 + 3 * rI x + (1 - rI d))) (fp (rI x)) (fq (rI x)) (T (rI a)))) else (aR (T (16 + 3 * rI x + rI d)) (T (16 + 3 * rI x + (1 - rI d))) (fp (rI x)) (fq (rI x)) (T (rI a)), T)) else (-1, T)
def sSee (T : Nat → Nat) (x w r : Int32) : sR := if inR x 4 ∧ inR w 3 ∧ inR r 16 then (1, va_up T (rI r) (T (16 + 3 * rI x + rI w))) else (-1, T)
abbrev okF (x p q : Int32) : Prop := inR x 4 ∧ 0 ≤ p.toInt ∧ p.toInt < q.toInt ∧ q.toInt ≤ 1000000
def sFee (T : Nat → Nat) (x p q : Int32) : sR := if okF x p q then (if T (16 + 3 * rI x + 2) = 0 then 0 else 1, tup3 T (rI x) 0 0 0) else (-1, T)
def fUp (f : Nat → Nat) (x p q v : Int32) : Nat → Nat := if okF x p q then va_up f (rI x) (rI v) else f
theorem upIn {α : Type} {f : Nat → α} {i k : Nat} {v : α} (h : k ≠ i) : va_up f i v k = f k := by simp [va_up, h]
theorem upIs {α : Type} {f : Nat → α} {i : Nat} {v : α} : va_up f i v i = v := by simp [va_up]
