/-! ===== the state: what each cell holds =====
ids: 0 ExactMoney; 1 Ledger (2 sums, 3 pools, Wides 4+2r, Pools 36+8p: sides row +1, Wides +2 +4 +6); 68.. the same, 'before' (+67);
135 Desk (Wides 136+2k); 152 Decimal (153, 154 rows, 155 Wide); 157 Tape (158); 159 weights, 160 lost, 161 row (162+k);
174 the model (175 w, 176 weights, 177 feeP, 178 feeQ, 179 tape, 180 outRow, 181 acts, 182 actR, 183 actA, 184 actB, 185 digits); 186 the law's out -/
def isW (i : Nat) : Prop := (4 ≤ i ∧ i < 36 ∧ i % 2 = 0) ∨ (36 ≤ i ∧ i < 68 ∧ i % 2 = 0 ∧ ¬ i % 8 = 4) ∨ (71 ≤ i ∧ i < 103 ∧ i % 2 = 1) ∨ (103 ≤ i ∧ i < 135 ∧ i % 2 = 1 ∧ ¬ i % 8 = 7) ∨ (136 ≤ i ∧ i < 152 ∧ i % 2 = 0) ∨ i = 155
theorem isW_lt {i : Nat} (h : isW i) : i + 1 < 187 := by unfold isW at h; omega
theorem isW_n {i : Nat} (h : isW i) : ¬ isW (i + 1) := by unfold isW at h ⊢; omega
theorem isW_ne {i j : Nat} (h : isW i) (hj : isW j) : i ≠ j + 1 := by unfold isW at h hj; omega
/-- the 16-bit limbs of a number, 24 of them -/
def dg (v : Nat) : Nat → Int32 := fun i => if i < 24 then nI (v / 65536 ^ i % 65536) else 0
/-- rows of twelve 32-bit limbs -/
def mw (U : Nat → Nat) : Nat → Int64 := fun x => if x < 960 then lN (U (x / 12) / 4294967296 ^ (x % 12) % 4294967296) else 0
def xRf (f : Nat → Nat) : (Nat → Int32) ⊕ (Nat → Int64) ⊕ (Nat → UInt32) ⊕ (Nat → UInt64) ⊕ (Nat → Option Nat) := .inr (.inr (.inr (.inr (fun k => some (f k)))))
abbrev xS : Type := (Nat → Nat) × (Nat → Nat) × (Nat → Int32) × (Nat → Nat → Int32) × (Nat → Nat → Int64)
section CM
variable (ad : Nat → Nat) (ca : Nat → ClassId)
/-- the cells that are neither a Wide nor its limbs -/
def cmB (U : Nat → Nat) (sc : Nat → Int32) (ia : Nat → Nat → Int32) (la : Nat → Nat → Int64) (i : Nat) : va_E :=
  if i < 135 then
    (if i = 0 then .inr (8, [.ref (ad 1), .ref (ad 68), .ref (ad 135), .ref (ad 152), .ref (ad 157), .ref (ad 159), .ref (ad 160), .ref (ad 161), .int (sc 0), .int (sc 1), .int (sc 2), .int (sc 3), .int (sc 4)])
    else if i = 1 then .inr (4, [.ref (ad 2), .ref (ad 3)])
    else if i = 2 then .inl (ca 2, 16, xRf fun r => ad (4 + 2 * r))
    else if i = 3 then .inl (ca 3, 4, xRf fun p => ad (36 + 8 * p))
    else if i = 68 then .inr (4, [.ref (ad 69), .ref (ad 70)])
    else if i = 69 then .inl (ca 2, 16, xRf fun r => ad (71 + 2 * r))
    else if i = 70 then .inl (ca 3, 4, xRf fun p => ad (103 + 8 * p))
    else if (i < 68 ∧ i % 8 = 4) ∨ (68 ≤ i ∧ i % 8 = 7) then .inr (5, [.ref (ad (i + 1)), .ref (ad (i + 6)), .int (sc (200 + i)), .int (sc (400 + i))])
    else .inl (ca 2, 2, xRf fun k => ad (i + 1 + 2 * k)))
  else if i < 174 then
    (if i = 135 then .inr (3, [.ref (ad 136), .ref (ad 138), .ref (ad 140), .ref (ad 142), .ref (ad 144), .ref (ad 146), .ref (ad 148), .ref (ad 150)])
    else if i = 152 then .inr (2, [.ref (ad 153), .ref (ad 154), .ref (ad 155), .int (sc 10), .int (sc 11)])
    else if i = 153 then .inl (ca 0, 80, .inl (ia 153))
    else if i = 154 then .inl (ca 0, 120, .inl (ia 154))
    else if i = 157 then .inr (6, [.ref (ad 158), .int (sc 20), .int (sc 21), .int (sc 22), .int (sc 23), .int (sc 24), .int (sc 25)])
    else if i = 158 then .inl (ca 0, 120, .inl (ia 158))
    else if i = 159 then .inl (ca 1, 12, .inr (.inl (la 159)))
    else if i = 160 then .inl (ca 1, 12, .inr (.inl (la 160)))
    else if i = 161 then .inl (ca 4, 12, xRf fun k => ad (162 + k))
    else .inl (ca 0, 4, .inl (ia i)))
  else
    (if i = 174 then .inr (9, [.int (sc 30), .ref (ad 175), .ref (ad 176), .ref (ad 177), .ref (ad 178), .int (sc 31), .ref (ad 179), .int (sc 32), .int (sc 33), .ref (ad 180), .int (sc 34), .ref (ad 181), .ref (ad 182), .ref (ad 183), .ref (ad 184), .int (sc 35), .int (sc 36), .int (sc 37), .ref (ad 185), .int (sc 38)])
    else if i = 175 then .inl (ca 1, 960, .inr (.inl (mw U)))
    else if i = 176 then .inl (ca 1, 12, .inr (.inl (la 176)))
    else if i = 177 then .inl (ca 0, 4, .inl (ia 177))
    else if i = 178 then .inl (ca 0, 4, .inl (ia 178))
    else if i = 179 then .inl (ca 0, 120, .inl (ia 179))
    else if i = 180 then .inl (ca 0, 200, .inl (ia 180))
    else if i = 185 then .inl (ca 0, 90, .inl (ia 185))
    else if i = 186 then .inl (ca 1, 1, .inr (.inl (la 186)))
    else .inl (ca 0, 12, .inl (ia i)))
noncomputable def cmX (V U : Nat → Nat) (sc : Nat → Int32) (ia : Nat → Nat → Int32) (la : Nat → Nat → Int64) (i : Nat) : va_E :=
  have := Classical.propDecidable
  if isW i then .inr (7, [.ref (ad (i + 1))]) else if 0 < i ∧ isW (i - 1) then .inl (ca 0, 24, .inl (dg (V (i - 1)))) else cmB ad ca U sc ia la i
noncomputable def cm (q : xS) : Nat → va_E := cmX ad ca q.1 q.2.1 q.2.2.1 q.2.2.2.1 q.2.2.2.2
end CM
section CMF
variable {ad : Nat → Nat} {ca : Nat → ClassId} {V U : Nat → Nat} {sc : Nat → Int32} {ia : Nat → Nat → Int32} {la : Nat → Nat → Int64} {i : Nat}
theorem cm_w (h : isW i) : cm ad ca (V, U, sc, ia, la) i = .inr (7, [.ref (ad (i + 1))]) := by
  show cmX ad ca V U sc ia la i = _
  unfold cmX
  rw [if_pos h]
theorem cm_l (h : isW i) : cm ad ca (V, U, sc, ia, la) (i + 1) = .inl (ca 0, 24, .inl (dg (V i))) := by
  show cmX ad ca V U sc ia la (i + 1) = _
  unfold cmX
  rw [if_neg (isW_n h), if_pos ⟨Nat.succ_pos i, h⟩]
  rfl
theorem cm_b (h : ¬ isW i) (h2 : ¬ (0 < i ∧ isW (i - 1))) : cm ad ca (V, U, sc, ia, la) i = cmB ad ca U sc ia la i := by
  show cmX ad ca V U sc ia la i = _
  unfold cmX
  rw [if_neg h, if_neg h2]
/-- a Wide gets another value -/
theorem cm_upV (h : isW i) {v : Nat} : va_up (cm ad ca (V, U, sc, ia, la)) (i + 1) (.inl (ca 0, 24, .inl (dg v))) = cm ad ca (va_up V i v, U, sc, ia, la) := by
  funext j
  by_cases hj : j = i + 1
  · subst hj
    rw [cm_l h]
    simp [va_up]
  · rw [show va_up (cm ad ca (V, U, sc, ia, la)) (i + 1) (.inl (ca 0, 24, .inl (dg v))) j = cm ad ca (V, U, sc, ia, la) j by simp [va_up, hj]]
    show cmX ad ca V U sc ia la j = cmX ad ca (va_up V i v) U sc ia la j
    unfold cmX
    by_cases h1 : isW j
    · rw [if_pos h1, if_pos h1]
    · rw [if_neg h1, if_neg h1]
      by_cases h2 : 0 < j ∧ isW (j - 1)
      · rw [if_pos h2, if_pos h2]
        have : j - 1 ≠ i := by omega
        simp [va_up, this]
      · rw [if_neg h2, if_neg h2]
theorem up_l (M : Nat → va_E) (e : va_E) : va_up M (i + 1) e i = M i := by simp [va_up]
theorem up_s (M : Nat → va_E) (e : va_E) : va_up M i e i = e := by simp [va_up]
theorem up_n {j : Nat} (M : Nat → va_E) (e : va_E) (h : j ≠ i) : va_up M i e j = M j := by simp [va_up, h]
end CMF
