/-! ===== sharing out ===== -/
def sumW (w : Nat → Nat) : Nat → Nat
  | 0 => 0
  | k + 1 => sumW w k + w k
theorem sumW_mono (w : Nat → Nat) {a b : Nat} (h : a ≤ b) : sumW w a ≤ sumW w b := by
  induction b with
  | zero => rw [show a = 0 by omega]; exact Nat.le_refl _
  | succ b ih =>
    rcases Nat.lt_or_ge b a with q | q
    · rw [show a = b + 1 by omega]; exact Nat.le_refl _
    · have := ih q
      show sumW w a ≤ sumW w b + w b
      omega
theorem sumW_le {w : Nat → Nat} {c n : Nat} (h : ∀ k, k < n → w k ≤ c) : sumW w n ≤ n * c := by
  induction n with
  | zero => exact Nat.zero_le _
  | succ n ih =>
    have h1 := ih (fun k hk => h k (by omega))
    have h2 := h n (by omega)
    show sumW w n + w n ≤ (n + 1) * c
    rw [Nat.add_mul]
    omega
theorem sumW_lt {w : Nat → Nat} {c n : Nat} (h : ∀ k, k < n → w k < c) : sumW w n + n ≤ n * c := by
  induction n with
  | zero => exact Nat.zero_le _
  | succ n ih =>
    have h1 := ih (fun k hk => h k (by omega))
    have h2 := h n (by omega)
    show sumW w n + w n + (n + 1) ≤ (n + 1) * c
    rw [Nat.add_mul]
    omega
theorem sumW_up {w : Nat → Nat} {g x n : Nat} (hg : g < n) : sumW (va_up w g x) n + w g = sumW w n + x := by
  induction n with
  | zero => omega
  | succ n ih =>
    show sumW (va_up w g x) n + va_up w g x n + w g = sumW w n + w n + x
    by_cases e : g = n
    · subst e
      have h1 : ∀ m, m ≤ g → sumW (va_up w g x) m = sumW w m := by
        intro m
        induction m with
        | zero => intro _; rfl
        | succ m im =>
          intro hm
          show sumW (va_up w g x) m + va_up w g x m = sumW w m + w m
          rw [im (by omega), upn (by omega)]
      rw [h1 g (Nat.le_refl _), ups]
      omega
    · rw [upn e]
      have := ih (by omega)
      omega
theorem sumW_pos {w : Nat → Nat} {n : Nat} (h : 0 < sumW w n) : ∃ k, k < n ∧ 0 < w k := by
  induction n with
  | zero => exact absurd h (Nat.not_lt_zero _)
  | succ n ih =>
    by_cases e : 0 < w n
    · exact ⟨n, by omega, e⟩
    · obtain ⟨k, h1, h2⟩ := ih (by have : 0 < sumW w n + w n := h; omega)
      exact ⟨k, by omega, h2⟩
def shq (S al : Nat) (w : Nat → Nat) : Nat → Nat := fun k => S * w k / al
def shl (S al : Nat) (w : Nat → Nat) : Nat → Nat := fun k => S * w k % al
theorem sh_id (S al n : Nat) (w : Nat → Nat) : sumW (shq S al w) n * al + sumW (shl S al w) n = S * sumW w n := by
  induction n with
  | zero => simp [sumW]
  | succ n ih =>
    show (sumW (shq S al w) n + shq S al w n) * al + (sumW (shl S al w) n + shl S al w n) = S * (sumW w n + w n)
    have h := Nat.div_add_mod (S * w n) al
    rw [Nat.add_mul, Nat.mul_add, ← ih]
    have h2 : shq S al w n * al = al * (S * w n / al) := Nat.mul_comm _ _
    have h3 : shl S al w n = S * w n % al := rfl
    omega
theorem sh_left {S al n : Nat} {w : Nat → Nat} (h0 : 0 < al) (ha : al = sumW w n) (hn : 0 < n) : sumW (shq S al w) n ≤ S ∧ sumW (shl S al w) n = (S - sumW (shq S al w) n) * al ∧ S - sumW (shq S al w) n < n := by
  have h := sh_id S al n w
  rw [← ha] at h
  have h1 : sumW (shq S al w) n ≤ S := Nat.le_of_mul_le_mul_right (show sumW (shq S al w) n * al ≤ S * al by omega) h0
  have h2 : sumW (shl S al w) n = (S - sumW (shq S al w) n) * al := by
    rw [Nat.sub_mul]; omega
  refine ⟨h1, h2, ?_⟩
  have h3 := sumW_lt (w := shl S al w) (c := al) (n := n) (fun k _ => Nat.mod_lt _ h0)
  rw [h2] at h3
  rcases Nat.lt_or_ge (S - sumW (shq S al w) n) n with q | q
  · exact q
  · have := Nat.mul_le_mul_right al q
    omega
/-- the first of the greatest, among 0 .. k -/
def gmx (L : Nat → Nat) : Nat → Nat
  | 0 => 0
  | k + 1 => if L (gmx L k) < L (k + 1) then k + 1 else gmx L k
theorem gmx_le (L : Nat → Nat) (k : Nat) : gmx L k ≤ k := by
  induction k with
  | zero => exact Nat.le_refl _
  | succ k ih =>
    rw [gmx]
    split <;> omega
theorem gmx_sp (L : Nat → Nat) (k : Nat) : (∀ j, j < gmx L k → L j < L (gmx L k)) ∧ ∀ j, j ≤ k → L j ≤ L (gmx L k) := by
  induction k with
  | zero =>
    refine ⟨fun j hj => absurd hj (Nat.not_lt_zero _), fun j hj => ?_⟩
    rw [show j = 0 by omega]; exact Nat.le_refl _
  | succ k ih =>
    obtain ⟨i1, i2⟩ := ih
    rw [gmx]
    split
    · rename_i h
      refine ⟨fun j hj => ?_, fun j hj => ?_⟩
      · have := i2 j (by omega); omega
      · rcases Nat.lt_or_ge k j with q | q
        · rw [show j = k + 1 by omega]; exact Nat.le_refl _
        · have := i2 j q; omega
    · rename_i h
      refine ⟨i1, fun j hj => ?_⟩
      rcases Nat.lt_or_ge k j with q | q
      · rw [show j = k + 1 by omega]; omega
      · exact i2 j q
/-- so many units handed out, one after the other -/
def hand (f n : Nat) : Nat → (Nat → Nat) → (Nat → Nat) → (Nat → Nat)
  | 0, T, _ => T
  | t + 1, T, L => hand f n t (va_up T (f + gmx L (n - 1)) (T (f + gmx L (n - 1)) + 1)) (va_up L (gmx L (n - 1)) 0)
def shT (T : Nat → Nat) (f n : Nat) (q : Nat → Nat) : Nat → Nat := fun j => if f ≤ j ∧ j < f + n then q (j - f) else T j
theorem shT_0 (T : Nat → Nat) (f : Nat) (q : Nat → Nat) : shT T f 0 q = T := by
  funext j
  unfold shT
  rw [if_neg (by omega)]
theorem shT_s (T : Nat → Nat) (f k : Nat) (q : Nat → Nat) : shT T f (k + 1) q = va_up (shT T f k q) (f + k) (q k) := by
  funext j
  by_cases e : f + k = j
  · subst e
    rw [ups]
    unfold shT
    rw [if_pos (by omega), show f + k - f = k by omega]
  · rw [upn e]
    unfold shT
    by_cases h : f ≤ j ∧ j < f + k
    · rw [if_pos h, if_pos (by omega)]
    · rw [if_neg h, if_neg (by omega)]
abbrev okS (x f n : Int32) : Prop := inR x 16 ∧ (1 ≤ n.toInt ∧ n.toInt ≤ 12) ∧ inR f 16 ∧ rI f + rI n ≤ 16
def sShare (T w : Nat → Nat) (x f n : Int32) : sR :=
  if okS x f n then (if sumW w (rI n) = 0 then (-4, T) else (nI (T (rI x) - sumW (shq (T (rI x)) (sumW w (rI n)) w) (rI n)), hand (rI f) (rI n) (T (rI x) - sumW (shq (T (rI x)) (sumW w (rI n)) w) (rI n)) (shT T (rI f) (rI n) (shq (T (rI x)) (sumW w (rI n)) w)) (shl (T (rI x)) (sumW w (rI n)) w))) else (-1, T)
def WB (w : Nat → Nat) : Prop := ∀ k, k < 12 → w k ≤ 1000000000000
def WL (g : Nat → Int64) (w : Nat → Nat) : Prop := ∀ k, k < 12 → g k = lN (w k)
theorem in_r1 {x : Int32} : (lN 1 ≤ x.toInt64 ∧ x.toInt64 ≤ lN 12) = (1 ≤ x.toInt ∧ x.toInt ≤ 12) := by
  apply propext
  rw [Int64.le_iff_toInt_le, Int64.le_iff_toInt_le, Int32.toInt_toInt64, pk_lT (by omega), pk_lT (by omega)]
  rfl
