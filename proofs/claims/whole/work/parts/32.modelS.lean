/-! ===== the model's rounding, its rows from above ===== -/
def gM (w q r b : Nat) : Prop := (w = 1 ∧ r ≠ 0) ∨ (w = 2 ∧ b ≤ 2 * r) ∨ (w = 3 ∧ b < 2 * r) ∨ (w = 4 ∧ (b < 2 * r ∨ (2 * r = b ∧ q % 2 = 1)))
theorem gU_m {w q r b : Nat} (hr : r < b) (hw : w ≤ 4) : gU w q r b = true ↔ gM w q r b := by
  unfold gU gM
  by_cases h0 : w = 0 ∨ r = 0
  · rw [if_pos h0]
    constructor
    · intro h; cases h
    · intro h; omega
  · rw [if_neg h0]
    by_cases h1 : w = 1
    · rw [if_pos h1]
      constructor
      · intro _; omega
      · intro _; rfl
    · rw [if_neg h1]
      by_cases h2 : b < 2 * r
      · rw [if_pos h2]
        constructor
        · intro _; omega
        · intro _; rfl
      · rw [if_neg h2]
        by_cases h3 : 2 * r < b
        · rw [if_pos h3]
          constructor
          · intro h; cases h
          · intro h; omega
        · rw [if_neg h3]
          simp only [Bool.or_eq_true, Bool.and_eq_true, decide_eq_true_eq]
          omega
theorem mw_bd {U : Nat → Nat} {n k u v y : Nat} (hn : n < 80) (hk : k < 12) (e : v / 4294967296 ^ k % 4294967296 = y) : vp_updL (mw (va_up U n (bq (k + 1) u v))) (12 * n + k) (lN y) = mw (va_up U n (bq k u v)) := by
  rw [mw_up (v := bq k u v) hn hk (by rw [bq_hi (Nat.le_refl k), e]) (fun j hj hjk => by
    rw [ups]
    rcases Nat.lt_or_gt_of_ne hjk with h | h
    · rw [bq_lo h, bq_lo (by omega)]
    · rw [bq_hi (by omega), bq_hi (by omega)]), bx_uu]
