section CMS
variable {ad : Nat → Nat} {ca : Nat → ClassId} {V U : Nat → Nat} {sc : Nat → Int32} {ia : Nat → Nat → Int32} {la : Nat → Nat → Int64}
theorem cm_congr {sc' : Nat → Int32} {i : Nat} {e : va_E} (he : cm ad ca (V, U, sc', ia, la) i = e) (h : ∀ j, j ≠ i → cmB ad ca U sc ia la j = cmB ad ca U sc' ia la j) : va_up (cm ad ca (V, U, sc, ia, la)) i e = cm ad ca (V, U, sc', ia, la) := by
  funext j
  by_cases hj : j = i
  · subst hj
    rw [he]; simp [va_up]
  · rw [show va_up (cm ad ca (V, U, sc, ia, la)) i e j = cm ad ca (V, U, sc, ia, la) j by simp [va_up, hj]]
    show cmX ad ca V U sc ia la j = cmX ad ca V U sc' ia la j
    unfold cmX
    rw [h j hj]
theorem cm_s0 {v : Int32} : va_up (cm ad ca (V, U, sc, ia, la)) 0 (.inr (8, [.ref (ad 1), .ref (ad 68), .ref (ad 135), .ref (ad 152), .ref (ad 157), .ref (ad 159), .ref (ad 160), .ref (ad 161), .int (sc 0), .int (sc 1), .int (sc 2), .int (sc 3), .int (sc 4)].set 8 (.int v))) = cm ad ca (V, U, va_up sc 0 v, ia, la) := by
  refine cm_congr (by rw [cm_0]; simp [va_up]) (fun j hj => ?_)
  unfold cmB
  simp [va_up, hj, show ¬ 200 + j = 0 by omega, show ¬ 400 + j = 0 by omega]
theorem cm_s1 {v : Int32} : va_up (cm ad ca (V, U, sc, ia, la)) 0 (.inr (8, [.ref (ad 1), .ref (ad 68), .ref (ad 135), .ref (ad 152), .ref (ad 157), .ref (ad 159), .ref (ad 160), .ref (ad 161), .int (sc 0), .int (sc 1), .int (sc 2), .int (sc 3), .int (sc 4)].set 9 (.int v))) = cm ad ca (V, U, va_up sc 1 v, ia, la) := by
  refine cm_congr (by rw [cm_0]; simp [va_up]) (fun j hj => ?_)
  unfold cmB
  simp [va_up, hj, show ¬ 200 + j = 1 by omega, show ¬ 400 + j = 1 by omega]
theorem cm_s2 {v : Int32} : va_up (cm ad ca (V, U, sc, ia, la)) 0 (.inr (8, [.ref (ad 1), .ref (ad 68), .ref (ad 135), .ref (ad 152), .ref (ad 157), .ref (ad 159), .ref (ad 160), .ref (ad 161), .int (sc 0), .int (sc 1), .int (sc 2), .int (sc 3), .int (sc 4)].set 10 (.int v))) = cm ad ca (V, U, va_up sc 2 v, ia, la) := by
  refine cm_congr (by rw [cm_0]; simp [va_up]) (fun j hj => ?_)
  unfold cmB
  simp [va_up, hj, show ¬ 200 + j = 2 by omega, show ¬ 400 + j = 2 by omega]
theorem cm_s3 {v : Int32} : va_up (cm ad ca (V, U, sc, ia, la)) 0 (.inr (8, [.ref (ad 1), .ref (ad 68), .ref (ad 135), .ref (ad 152), .ref (ad 157), .ref (ad 159), .ref (ad 160), .ref (ad 161), .int (sc 0), .int (sc 1), .int (sc 2), .int (sc 3), .int (sc 4)].set 11 (.int v))) = cm ad ca (V, U, va_up sc 3 v, ia, la) := by
  refine cm_congr (by rw [cm_0]; simp [va_up]) (fun j hj => ?_)
  unfold cmB
  simp [va_up, hj, show ¬ 200 + j = 3 by omega, show ¬ 400 + j = 3 by omega]
theorem cm_s4 {v : Int32} : va_up (cm ad ca (V, U, sc, ia, la)) 0 (.inr (8, [.ref (ad 1), .ref (ad 68), .ref (ad 135), .ref (ad 152), .ref (ad 157), .ref (ad 159), .ref (ad 160), .ref (ad 161), .int (sc 0), .int (sc 1), .int (sc 2), .int (sc 3), .int (sc 4)].set 12 (.int v))) = cm ad ca (V, U, va_up sc 4 v, ia, la) := by
  refine cm_congr (by rw [cm_0]; simp [va_up]) (fun j hj => ?_)
  unfold cmB
  simp [va_up, hj, show ¬ 200 + j = 4 by omega, show ¬ 400 + j = 4 by omega]
theorem cm_s10 {v : Int32} : va_up (cm ad ca (V, U, sc, ia, la)) 152 (.inr (2, [.ref (ad 153), .ref (ad 154), .ref (ad 155), .int (sc 10), .int (sc 11)].set 3 (.int v))) = cm ad ca (V, U, va_up sc 10 v, ia, la) := by
  refine cm_congr (by rw [cm_152]; simp [va_up]) (fun j hj => ?_)
  unfold cmB
  simp [va_up, hj, show ¬ 200 + j = 10 by omega, show ¬ 400 + j = 10 by omega]
theorem cm_s11 {v : Int32} : va_up (cm ad ca (V, U, sc, ia, la)) 152 (.inr (2, [.ref (ad 153), .ref (ad 154), .ref (ad 155), .int (sc 10), .int (sc 11)].set 4 (.int v))) = cm ad ca (V, U, va_up sc 11 v, ia, la) := by
  refine cm_congr (by rw [cm_152]; simp [va_up]) (fun j hj => ?_)
  unfold cmB
  simp [va_up, hj, show ¬ 200 + j = 11 by omega, show ¬ 400 + j = 11 by omega]
theorem cm_s20 {v : Int32} : va_up (cm ad ca (V, U, sc, ia, la)) 157 (.inr (6, [.ref (ad 158), .int (sc 20), .int (sc 21), .int (sc 22), .int (sc 23), .int (sc 24), .int (sc 25)].set 1 (.int v))) = cm ad ca (V, U, va_up sc 20 v, ia, la) := by
  refine cm_congr (by rw [cm_157]; simp [va_up]) (fun j hj => ?_)
  unfold cmB
  simp [va_up, hj, show ¬ 200 + j = 20 by omega, show ¬ 400 + j = 20 by omega]
theorem cm_s21 {v : Int32} : va_up (cm ad ca (V, U, sc, ia, la)) 157 (.inr (6, [.ref (ad 158), .int (sc 20), .int (sc 21), .int (sc 22), .int (sc 23), .int (sc 24), .int (sc 25)].set 2 (.int v))) = cm ad ca (V, U, va_up sc 21 v, ia, la) := by
  refine cm_congr (by rw [cm_157]; simp [va_up]) (fun j hj => ?_)
  unfold cmB
  simp [va_up, hj, show ¬ 200 + j = 21 by omega, show ¬ 400 + j = 21 by omega]
theorem cm_s22 {v : Int32} : va_up (cm ad ca (V, U, sc, ia, la)) 157 (.inr (6, [.ref (ad 158), .int (sc 20), .int (sc 21), .int (sc 22), .int (sc 23), .int (sc 24), .int (sc 25)].set 3 (.int v))) = cm ad ca (V, U, va_up sc 22 v, ia, la) := by
  refine cm_congr (by rw [cm_157]; simp [va_up]) (fun j hj => ?_)
  unfold cmB
  simp [va_up, hj, show ¬ 200 + j = 22 by omega, show ¬ 400 + j = 22 by omega]
theorem cm_s23 {v : Int32} : va_up (cm ad ca (V, U, sc, ia, la)) 157 (.inr (6, [.ref (ad 158), .int (sc 20), .int (sc 21), .int (sc 22), .int (sc 23), .int (sc 24), .int (sc 25)].set 4 (.int v))) = cm ad ca (V, U, va_up sc 23 v, ia, la) := by
  refine cm_congr (by rw [cm_157]; simp [va_up]) (fun j hj => ?_)
  unfold cmB
  simp [va_up, hj, show ¬ 200 + j = 23 by omega, show ¬ 400 + j = 23 by omega]
theorem cm_s24 {v : Int32} : va_up (cm ad ca (V, U, sc, ia, la)) 157 (.inr (6, [.ref (ad 158), .int (sc 20), .int (sc 21), .int (sc 22), .int (sc 23), .int (sc 24), .int (sc 25)].set 5 (.int v))) = cm ad ca (V, U, va_up sc 24 v, ia, la) := by
  refine cm_congr (by rw [cm_157]; simp [va_up]) (fun j hj => ?_)
  unfold cmB
  simp [va_up, hj, show ¬ 200 + j = 24 by omega, show ¬ 400 + j = 24 by omega]
theorem cm_s25 {v : Int32} : va_up (cm ad ca (V, U, sc, ia, la)) 157 (.inr (6, [.ref (ad 158), .int (sc 20), .int (sc 21), .int (sc 22), .int (sc 23), .int (sc 24), .int (sc 25)].set 6 (.int v))) = cm ad ca (V, U, va_up sc 25 v, ia, la) := by
  refine cm_congr (by rw [cm_157]; simp [va_up]) (fun j hj => ?_)
  unfold cmB
  simp [va_up, hj, show ¬ 200 + j = 25 by omega, show ¬ 400 + j = 25 by omega]
theorem cm_s30 {v : Int32} : va_up (cm ad ca (V, U, sc, ia, la)) 174 (.inr (9, [.int (sc 30), .ref (ad 175), .ref (ad 176), .ref (ad 177), .ref (ad 178), .int (sc 31), .ref (ad 179), .int (sc 32), .int (sc 33), .ref (ad 180), .int (sc 34), .ref (ad 181), .ref (ad 182), .ref (ad 183), .ref (ad 184), .int (sc 35), .int (sc 36), .int (sc 37), .ref (ad 185), .int (sc 38)].set 0 (.int v))) = cm ad ca (V, U, va_up sc 30 v, ia, la) := by
  refine cm_congr (by rw [cm_174]; simp [va_up]) (fun j hj => ?_)
  unfold cmB
  simp [va_up, hj, show ¬ 200 + j = 30 by omega, show ¬ 400 + j = 30 by omega]
theorem cm_s31 {v : Int32} : va_up (cm ad ca (V, U, sc, ia, la)) 174 (.inr (9, [.int (sc 30), .ref (ad 175), .ref (ad 176), .ref (ad 177), .ref (ad 178), .int (sc 31), .ref (ad 179), .int (sc 32), .int (sc 33), .ref (ad 180), .int (sc 34), .ref (ad 181), .ref (ad 182), .ref (ad 183), .ref (ad 184), .int (sc 35), .int (sc 36), .int (sc 37), .ref (ad 185), .int (sc 38)].set 5 (.int v))) = cm ad ca (V, U, va_up sc 31 v, ia, la) := by
  refine cm_congr (by rw [cm_174]; simp [va_up]) (fun j hj => ?_)
  unfold cmB
  simp [va_up, hj, show ¬ 200 + j = 31 by omega, show ¬ 400 + j = 31 by omega]
theorem cm_s32 {v : Int32} : va_up (cm ad ca (V, U, sc, ia, la)) 174 (.inr (9, [.int (sc 30), .ref (ad 175), .ref (ad 176), .ref (ad 177), .ref (ad 178), .int (sc 31), .ref (ad 179), .int (sc 32), .int (sc 33), .ref (ad 180), .int (sc 34), .ref (ad 181), .ref (ad 182), .ref (ad 183), .ref (ad 184), .int (sc 35), .int (sc 36), .int (sc 37), .ref (ad 185), .int (sc 38)].set 7 (.int v))) = cm ad ca (V, U, va_up sc 32 v, ia, la) := by
  refine cm_congr (by rw [cm_174]; simp [va_up]) (fun j hj => ?_)
  unfold cmB
  simp [va_up, hj, show ¬ 200 + j = 32 by omega, show ¬ 400 + j = 32 by omega]
theorem cm_s33 {v : Int32} : va_up (cm ad ca (V, U, sc, ia, la)) 174 (.inr (9, [.int (sc 30), .ref (ad 175), .ref (ad 176), .ref (ad 177), .ref (ad 178), .int (sc 31), .ref (ad 179), .int (sc 32), .int (sc 33), .ref (ad 180), .int (sc 34), .ref (ad 181), .ref (ad 182), .ref (ad 183), .ref (ad 184), .int (sc 35), .int (sc 36), .int (sc 37), .ref (ad 185), .int (sc 38)].set 8 (.int v))) = cm ad ca (V, U, va_up sc 33 v, ia, la) := by
  refine cm_congr (by rw [cm_174]; simp [va_up]) (fun j hj => ?_)
  unfold cmB
  simp [va_up, hj, show ¬ 200 + j = 33 by omega, show ¬ 400 + j = 33 by omega]
theorem cm_s34 {v : Int32} : va_up (cm ad ca (V, U, sc, ia, la)) 174 (.inr (9, [.int (sc 30), .ref (ad 175), .ref (ad 176), .ref (ad 177), .ref (ad 178), .int (sc 31), .ref (ad 179), .int (sc 32), .int (sc 33), .ref (ad 180), .int (sc 34), .ref (ad 181), .ref (ad 182), .ref (ad 183), .ref (ad 184), .int (sc 35), .int (sc 36), .int (sc 37), .ref (ad 185), .int (sc 38)].set 10 (.int v))) = cm ad ca (V, U, va_up sc 34 v, ia, la) := by
  refine cm_congr (by rw [cm_174]; simp [va_up]) (fun j hj => ?_)
  unfold cmB
  simp [va_up, hj, show ¬ 200 + j = 34 by omega, show ¬ 400 + j = 34 by omega]
theorem cm_s35 {v : Int32} : va_up (cm ad ca (V, U, sc, ia, la)) 174 (.inr (9, [.int (sc 30), .ref (ad 175), .ref (ad 176), .ref (ad 177), .ref (ad 178), .int (sc 31), .ref (ad 179), .int (sc 32), .int (sc 33), .ref (ad 180), .int (sc 34), .ref (ad 181), .ref (ad 182), .ref (ad 183), .ref (ad 184), .int (sc 35), .int (sc 36), .int (sc 37), .ref (ad 185), .int (sc 38)].set 15 (.int v))) = cm ad ca (V, U, va_up sc 35 v, ia, la) := by
  refine cm_congr (by rw [cm_174]; simp [va_up]) (fun j hj => ?_)
  unfold cmB
  simp [va_up, hj, show ¬ 200 + j = 35 by omega, show ¬ 400 + j = 35 by omega]
theorem cm_s36 {v : Int32} : va_up (cm ad ca (V, U, sc, ia, la)) 174 (.inr (9, [.int (sc 30), .ref (ad 175), .ref (ad 176), .ref (ad 177), .ref (ad 178), .int (sc 31), .ref (ad 179), .int (sc 32), .int (sc 33), .ref (ad 180), .int (sc 34), .ref (ad 181), .ref (ad 182), .ref (ad 183), .ref (ad 184), .int (sc 35), .int (sc 36), .int (sc 37), .ref (ad 185), .int (sc 38)].set 16 (.int v))) = cm ad ca (V, U, va_up sc 36 v, ia, la) := by
  refine cm_congr (by rw [cm_174]; simp [va_up]) (fun j hj => ?_)
  unfold cmB
  simp [va_up, hj, show ¬ 200 + j = 36 by omega, show ¬ 400 + j = 36 by omega]
theorem cm_s37 {v : Int32} : va_up (cm ad ca (V, U, sc, ia, la)) 174 (.inr (9, [.int (sc 30), .ref (ad 175), .ref (ad 176), .ref (ad 177), .ref (ad 178), .int (sc 31), .ref (ad 179), .int (sc 32), .int (sc 33), .ref (ad 180), .int (sc 34), .ref (ad 181), .ref (ad 182), .ref (ad 183), .ref (ad 184), .int (sc 35), .int (sc 36), .int (sc 37), .ref (ad 185), .int (sc 38)].set 17 (.int v))) = cm ad ca (V, U, va_up sc 37 v, ia, la) := by
  refine cm_congr (by rw [cm_174]; simp [va_up]) (fun j hj => ?_)
  unfold cmB
  simp [va_up, hj, show ¬ 200 + j = 37 by omega, show ¬ 400 + j = 37 by omega]
theorem cm_s38 {v : Int32} : va_up (cm ad ca (V, U, sc, ia, la)) 174 (.inr (9, [.int (sc 30), .ref (ad 175), .ref (ad 176), .ref (ad 177), .ref (ad 178), .int (sc 31), .ref (ad 179), .int (sc 32), .int (sc 33), .ref (ad 180), .int (sc 34), .ref (ad 181), .ref (ad 182), .ref (ad 183), .ref (ad 184), .int (sc 35), .int (sc 36), .int (sc 37), .ref (ad 185), .int (sc 38)].set 19 (.int v))) = cm ad ca (V, U, va_up sc 38 v, ia, la) := by
  refine cm_congr (by rw [cm_174]; simp [va_up]) (fun j hj => ?_)
  unfold cmB
  simp [va_up, hj, show ¬ 200 + j = 38 by omega, show ¬ 400 + j = 38 by omega]
theorem cm_pool {p : Nat} (hp : p < 4) : cm ad ca (V, U, sc, ia, la) (36 + 8 * p) = .inr (5, [.ref (ad (36 + 8 * p + 1)), .ref (ad (36 + 8 * p + 6)), .int (sc (200 + (36 + 8 * p))), .int (sc (400 + (36 + 8 * p)))]) := by
  rw [cm_b (by unfold isW; omega) (by unfold isW; omega)]
  unfold cmB
  rw [if_pos (by omega), if_neg (by omega), if_neg (by omega), if_neg (by omega), if_neg (by omega), if_neg (by omega), if_neg (by omega), if_neg (by omega), if_pos (by omega)]
theorem cm_side {p : Nat} (hp : p < 4) : cm ad ca (V, U, sc, ia, la) (36 + 8 * p + 1) = .inl (ca 2, 2, xRf fun k => ad (36 + 8 * p + 1 + 1 + 2 * k)) := by
  rw [cm_b (by unfold isW; omega) (by unfold isW; omega)]
  unfold cmB
  rw [if_pos (by omega), if_neg (by omega), if_neg (by omega), if_neg (by omega), if_neg (by omega), if_neg (by omega), if_neg (by omega), if_neg (by omega), if_neg (by omega)]
theorem cm_poolB {p : Nat} (hp : p < 4) : cm ad ca (V, U, sc, ia, la) (103 + 8 * p) = .inr (5, [.ref (ad (103 + 8 * p + 1)), .ref (ad (103 + 8 * p + 6)), .int (sc (200 + (103 + 8 * p))), .int (sc (400 + (103 + 8 * p)))]) := by
  rw [cm_b (by unfold isW; omega) (by unfold isW; omega)]
  unfold cmB
  rw [if_pos (by omega), if_neg (by omega), if_neg (by omega), if_neg (by omega), if_neg (by omega), if_neg (by omega), if_neg (by omega), if_neg (by omega), if_pos (by omega)]
theorem cm_sideB {p : Nat} (hp : p < 4) : cm ad ca (V, U, sc, ia, la) (103 + 8 * p + 1) = .inl (ca 2, 2, xRf fun k => ad (103 + 8 * p + 1 + 1 + 2 * k)) := by
  rw [cm_b (by unfold isW; omega) (by unfold isW; omega)]
  unfold cmB
  rw [if_pos (by omega), if_neg (by omega), if_neg (by omega), if_neg (by omega), if_neg (by omega), if_neg (by omega), if_neg (by omega), if_neg (by omega), if_neg (by omega)]
theorem cm_row {k : Nat} (hk : k < 12) : cm ad ca (V, U, sc, ia, la) (162 + k) = .inl (ca 0, 4, .inl (ia (162 + k))) := by
  rw [cm_b (by unfold isW; omega) (by unfold isW; omega)]
  unfold cmB
  rw [if_neg (by omega), if_pos (by omega), if_neg (by omega), if_neg (by omega), if_neg (by omega), if_neg (by omega), if_neg (by omega), if_neg (by omega), if_neg (by omega), if_neg (by omega), if_neg (by omega)]
/-- a Pool by its number: of the ledger, or of the one before -/
def isP (i : Nat) : Prop := (36 ≤ i ∧ i < 68 ∧ i % 8 = 4) ∨ (103 ≤ i ∧ i < 135 ∧ i % 8 = 7)
theorem cm_P {i : Nat} (h : isP i) : cm ad ca (V, U, sc, ia, la) i = .inr (5, [.ref (ad (i + 1)), .ref (ad (i + 6)), .int (sc (200 + i)), .int (sc (400 + i))]) := by
  unfold isP at h
  rw [cm_b (by unfold isW; omega) (by unfold isW; omega)]
  unfold cmB
  rw [if_pos (by omega), if_neg (by omega), if_neg (by omega), if_neg (by omega), if_neg (by omega), if_neg (by omega), if_neg (by omega), if_neg (by omega), if_pos (by omega)]
theorem cm_Ps {i : Nat} (h : isP i) : cm ad ca (V, U, sc, ia, la) (i + 1) = .inl (ca 2, 2, xRf fun k => ad (i + 1 + 1 + 2 * k)) := by
  unfold isP at h
  rw [cm_b (by unfold isW; omega) (by unfold isW; omega)]
  unfold cmB
  rw [if_pos (by omega), if_neg (by omega), if_neg (by omega), if_neg (by omega), if_neg (by omega), if_neg (by omega), if_neg (by omega), if_neg (by omega), if_neg (by omega)]
theorem cm_sp {i : Nat} {v : Int32} (h : isP i) : va_up (cm ad ca (V, U, sc, ia, la)) i (.inr (5, [.ref (ad (i + 1)), .ref (ad (i + 6)), .int (sc (200 + i)), .int (sc (400 + i))].set 2 (.int v))) = cm ad ca (V, U, va_up sc (200 + i) v, ia, la) := by
  have h9 := h
  unfold isP at h9
  refine cm_congr (by rw [cm_P h]; simp [va_up]) (fun j hj => ?_)
  unfold cmB
  by_cases hj9 : j < 135
  · simp [va_up, hj, hj9, show ¬ 200 + j = 200 + i by omega, show ¬ 400 + j = 200 + i by omega, show ¬ 0 = 200 + i by omega, show ¬ 1 = 200 + i by omega, show ¬ 2 = 200 + i by omega, show ¬ 3 = 200 + i by omega, show ¬ 4 = 200 + i by omega, show ¬ 10 = 200 + i by omega, show ¬ 11 = 200 + i by omega, show ¬ 20 = 200 + i by omega, show ¬ 21 = 200 + i by omega, show ¬ 22 = 200 + i by omega, show ¬ 23 = 200 + i by omega, show ¬ 24 = 200 + i by omega, show ¬ 25 = 200 + i by omega, show ¬ 30 = 200 + i by omega, show ¬ 31 = 200 + i by omega, show ¬ 32 = 200 + i by omega, show ¬ 33 = 200 + i by omega, show ¬ 34 = 200 + i by omega, show ¬ 35 = 200 + i by omega, show ¬ 36 = 200 + i by omega, show ¬ 37 = 200 + i by omega, show ¬ 38 = 200 + i by omega]
  · simp [va_up, hj, hj9, show ¬ 0 = 200 + i by omega, show ¬ 1 = 200 + i by omega, show ¬ 2 = 200 + i by omega, show ¬ 3 = 200 + i by omega, show ¬ 4 = 200 + i by omega, show ¬ 10 = 200 + i by omega, show ¬ 11 = 200 + i by omega, show ¬ 20 = 200 + i by omega, show ¬ 21 = 200 + i by omega, show ¬ 22 = 200 + i by omega, show ¬ 23 = 200 + i by omega, show ¬ 24 = 200 + i by omega, show ¬ 25 = 200 + i by omega, show ¬ 30 = 200 + i by omega, show ¬ 31 = 200 + i by omega, show ¬ 32 = 200 + i by omega, show ¬ 33 = 200 + i by omega, show ¬ 34 = 200 + i by omega, show ¬ 35 = 200 + i by omega, show ¬ 36 = 200 + i by omega, show ¬ 37 = 200 + i by omega, show ¬ 38 = 200 + i by omega]
theorem cm_sq {i : Nat} {v : Int32} (h : isP i) : va_up (cm ad ca (V, U, sc, ia, la)) i (.inr (5, [.ref (ad (i + 1)), .ref (ad (i + 6)), .int (sc (200 + i)), .int (sc (400 + i))].set 3 (.int v))) = cm ad ca (V, U, va_up sc (400 + i) v, ia, la) := by
  have h9 := h
  unfold isP at h9
  refine cm_congr (by rw [cm_P h]; simp [va_up]) (fun j hj => ?_)
  unfold cmB
  by_cases hj9 : j < 135
  · simp [va_up, hj, hj9, show ¬ 200 + j = 400 + i by omega, show ¬ 400 + j = 400 + i by omega, show ¬ 0 = 400 + i by omega, show ¬ 1 = 400 + i by omega, show ¬ 2 = 400 + i by omega, show ¬ 3 = 400 + i by omega, show ¬ 4 = 400 + i by omega, show ¬ 10 = 400 + i by omega, show ¬ 11 = 400 + i by omega, show ¬ 20 = 400 + i by omega, show ¬ 21 = 400 + i by omega, show ¬ 22 = 400 + i by omega, show ¬ 23 = 400 + i by omega, show ¬ 24 = 400 + i by omega, show ¬ 25 = 400 + i by omega, show ¬ 30 = 400 + i by omega, show ¬ 31 = 400 + i by omega, show ¬ 32 = 400 + i by omega, show ¬ 33 = 400 + i by omega, show ¬ 34 = 400 + i by omega, show ¬ 35 = 400 + i by omega, show ¬ 36 = 400 + i by omega, show ¬ 37 = 400 + i by omega, show ¬ 38 = 400 + i by omega]
  · simp [va_up, hj, hj9, show ¬ 0 = 400 + i by omega, show ¬ 1 = 400 + i by omega, show ¬ 2 = 400 + i by omega, show ¬ 3 = 400 + i by omega, show ¬ 4 = 400 + i by omega, show ¬ 10 = 400 + i by omega, show ¬ 11 = 400 + i by omega, show ¬ 20 = 400 + i by omega, show ¬ 21 = 400 + i by omega, show ¬ 22 = 400 + i by omega, show ¬ 23 = 400 + i by omega, show ¬ 24 = 400 + i by omega, show ¬ 25 = 400 + i by omega, show ¬ 30 = 400 + i by omega, show ¬ 31 = 400 + i by omega, show ¬ 32 = 400 + i by omega, show ¬ 33 = 400 + i by omega, show ¬ 34 = 400 + i by omega, show ¬ 35 = 400 + i by omega, show ¬ 36 = 400 + i by omega, show ¬ 37 = 400 + i by omega, show ¬ 38 = 400 + i by omega]
theorem cm_congrA {ia' : Nat → Nat → Int32} {la' : Nat → Nat → Int64} {i : Nat} {e : va_E} (he : cm ad ca (V, U, sc, ia', la') i = e) (h : ∀ j, j ≠ i → cmB ad ca U sc ia la j = cmB ad ca U sc ia' la' j) : va_up (cm ad ca (V, U, sc, ia, la)) i e = cm ad ca (V, U, sc, ia', la') := by
  funext j
  by_cases hj : j = i
  · subst hj
    rw [he]; simp [va_up]
  · rw [show va_up (cm ad ca (V, U, sc, ia, la)) i e j = cm ad ca (V, U, sc, ia, la) j by simp [va_up, hj]]
    show cmX ad ca V U sc ia la j = cmX ad ca V U sc ia' la' j
    unfold cmX
    rw [h j hj]
theorem cm_a153 {f : Nat → Int32} : va_up (cm ad ca (V, U, sc, ia, la)) 153 (.inl (ca 0, 80, .inl f)) = cm ad ca (V, U, sc, va_up ia 153 f, la) := by
  refine cm_congrA (by rw [cm_153]; simp [va_up]) (fun j hj => ?_)
  unfold cmB
  simp [va_up, hj]
theorem cm_a154 {f : Nat → Int32} : va_up (cm ad ca (V, U, sc, ia, la)) 154 (.inl (ca 0, 120, .inl f)) = cm ad ca (V, U, sc, va_up ia 154 f, la) := by
  refine cm_congrA (by rw [cm_154]; simp [va_up]) (fun j hj => ?_)
  unfold cmB
  simp [va_up, hj]
theorem cm_a158 {f : Nat → Int32} : va_up (cm ad ca (V, U, sc, ia, la)) 158 (.inl (ca 0, 120, .inl f)) = cm ad ca (V, U, sc, va_up ia 158 f, la) := by
  refine cm_congrA (by rw [cm_158]; simp [va_up]) (fun j hj => ?_)
  unfold cmB
  simp [va_up, hj]
theorem cm_a177 {f : Nat → Int32} : va_up (cm ad ca (V, U, sc, ia, la)) 177 (.inl (ca 0, 4, .inl f)) = cm ad ca (V, U, sc, va_up ia 177 f, la) := by
  refine cm_congrA (by rw [cm_177]; simp [va_up]) (fun j hj => ?_)
  unfold cmB
  simp [va_up, hj]
theorem cm_a178 {f : Nat → Int32} : va_up (cm ad ca (V, U, sc, ia, la)) 178 (.inl (ca 0, 4, .inl f)) = cm ad ca (V, U, sc, va_up ia 178 f, la) := by
  refine cm_congrA (by rw [cm_178]; simp [va_up]) (fun j hj => ?_)
  unfold cmB
  simp [va_up, hj]
theorem cm_a179 {f : Nat → Int32} : va_up (cm ad ca (V, U, sc, ia, la)) 179 (.inl (ca 0, 120, .inl f)) = cm ad ca (V, U, sc, va_up ia 179 f, la) := by
  refine cm_congrA (by rw [cm_179]; simp [va_up]) (fun j hj => ?_)
  unfold cmB
  simp [va_up, hj]
theorem cm_a180 {f : Nat → Int32} : va_up (cm ad ca (V, U, sc, ia, la)) 180 (.inl (ca 0, 200, .inl f)) = cm ad ca (V, U, sc, va_up ia 180 f, la) := by
  refine cm_congrA (by rw [cm_180]; simp [va_up]) (fun j hj => ?_)
  unfold cmB
  simp [va_up, hj]
theorem cm_a181 {f : Nat → Int32} : va_up (cm ad ca (V, U, sc, ia, la)) 181 (.inl (ca 0, 12, .inl f)) = cm ad ca (V, U, sc, va_up ia 181 f, la) := by
  refine cm_congrA (by rw [cm_181]; simp [va_up]) (fun j hj => ?_)
  unfold cmB
  simp [va_up, hj]
theorem cm_a182 {f : Nat → Int32} : va_up (cm ad ca (V, U, sc, ia, la)) 182 (.inl (ca 0, 12, .inl f)) = cm ad ca (V, U, sc, va_up ia 182 f, la) := by
  refine cm_congrA (by rw [cm_182]; simp [va_up]) (fun j hj => ?_)
  unfold cmB
  simp [va_up, hj]
theorem cm_a183 {f : Nat → Int32} : va_up (cm ad ca (V, U, sc, ia, la)) 183 (.inl (ca 0, 12, .inl f)) = cm ad ca (V, U, sc, va_up ia 183 f, la) := by
  refine cm_congrA (by rw [cm_183]; simp [va_up]) (fun j hj => ?_)
  unfold cmB
  simp [va_up, hj]
theorem cm_a184 {f : Nat → Int32} : va_up (cm ad ca (V, U, sc, ia, la)) 184 (.inl (ca 0, 12, .inl f)) = cm ad ca (V, U, sc, va_up ia 184 f, la) := by
  refine cm_congrA (by rw [cm_184]; simp [va_up]) (fun j hj => ?_)
  unfold cmB
  simp [va_up, hj]
theorem cm_a185 {f : Nat → Int32} : va_up (cm ad ca (V, U, sc, ia, la)) 185 (.inl (ca 0, 90, .inl f)) = cm ad ca (V, U, sc, va_up ia 185 f, la) := by
  refine cm_congrA (by rw [cm_185]; simp [va_up]) (fun j hj => ?_)
  unfold cmB
  simp [va_up, hj]
theorem cm_a159 {f : Nat → Int64} : va_up (cm ad ca (V, U, sc, ia, la)) 159 (.inl (ca 1, 12, .inr (.inl f))) = cm ad ca (V, U, sc, ia, va_up la 159 f) := by
  refine cm_congrA (by rw [cm_159]; simp [va_up]) (fun j hj => ?_)
  unfold cmB
  simp [va_up, hj]
theorem cm_a160 {f : Nat → Int64} : va_up (cm ad ca (V, U, sc, ia, la)) 160 (.inl (ca 1, 12, .inr (.inl f))) = cm ad ca (V, U, sc, ia, va_up la 160 f) := by
  refine cm_congrA (by rw [cm_160]; simp [va_up]) (fun j hj => ?_)
  unfold cmB
  simp [va_up, hj]
theorem cm_a176 {f : Nat → Int64} : va_up (cm ad ca (V, U, sc, ia, la)) 176 (.inl (ca 1, 12, .inr (.inl f))) = cm ad ca (V, U, sc, ia, va_up la 176 f) := by
  refine cm_congrA (by rw [cm_176]; simp [va_up]) (fun j hj => ?_)
  unfold cmB
  simp [va_up, hj]
theorem cm_a186 {f : Nat → Int64} : va_up (cm ad ca (V, U, sc, ia, la)) 186 (.inl (ca 1, 1, .inr (.inl f))) = cm ad ca (V, U, sc, ia, va_up la 186 f) := by
  refine cm_congrA (by rw [cm_186]; simp [va_up]) (fun j hj => ?_)
  unfold cmB
  simp [va_up, hj]
theorem cm_aR {k : Nat} {f : Nat → Int32} (hk : k < 12) : va_up (cm ad ca (V, U, sc, ia, la)) (162 + k) (.inl (ca 0, 4, .inl f)) = cm ad ca (V, U, sc, va_up ia (162 + k) f, la) := by
  refine cm_congrA (by rw [cm_row hk]; simp [va_up]) (fun j hj => ?_)
  unfold cmB
  simp [va_up, hj, show ¬ 153 = 162 + k by omega, show ¬ 154 = 162 + k by omega, show ¬ 158 = 162 + k by omega, show ¬ 177 = 162 + k by omega, show ¬ 178 = 162 + k by omega, show ¬ 179 = 162 + k by omega, show ¬ 180 = 162 + k by omega, show ¬ 185 = 162 + k by omega]
end CMS
