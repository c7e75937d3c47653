section CMC
variable {ad : Nat → Nat} {ca : Nat → ClassId} {V U : Nat → Nat} {sc : Nat → Int32} {ia : Nat → Nat → Int32} {la : Nat → Nat → Int64}
theorem w136 : isW 136 := by unfold isW; omega
theorem w138 : isW 138 := by unfold isW; omega
theorem w140 : isW 140 := by unfold isW; omega
theorem w142 : isW 142 := by unfold isW; omega
theorem w144 : isW 144 := by unfold isW; omega
theorem w146 : isW 146 := by unfold isW; omega
theorem w148 : isW 148 := by unfold isW; omega
theorem w150 : isW 150 := by unfold isW; omega
theorem w155 : isW 155 := by unfold isW; omega
theorem cm_0 : cm ad ca (V, U, sc, ia, la) 0 = .inr (8, [.ref (ad 1), .ref (ad 68), .ref (ad 135), .ref (ad 152), .ref (ad 157), .ref (ad 159), .ref (ad 160), .ref (ad 161), .int (sc 0), .int (sc 1), .int (sc 2), .int (sc 3), .int (sc 4)]) := by
  rw [cm_b (by unfold isW; omega) (by unfold isW; omega)]; rfl
theorem cm_1 : cm ad ca (V, U, sc, ia, la) 1 = .inr (4, [.ref (ad 2), .ref (ad 3)]) := by
  rw [cm_b (by unfold isW; omega) (by unfold isW; omega)]; rfl
theorem cm_2 : cm ad ca (V, U, sc, ia, la) 2 = .inl (ca 2, 16, xRf fun r => ad (4 + 2 * r)) := by
  rw [cm_b (by unfold isW; omega) (by unfold isW; omega)]; rfl
theorem cm_3 : cm ad ca (V, U, sc, ia, la) 3 = .inl (ca 3, 4, xRf fun p => ad (36 + 8 * p)) := by
  rw [cm_b (by unfold isW; omega) (by unfold isW; omega)]; rfl
theorem cm_68 : cm ad ca (V, U, sc, ia, la) 68 = .inr (4, [.ref (ad 69), .ref (ad 70)]) := by
  rw [cm_b (by unfold isW; omega) (by unfold isW; omega)]; rfl
theorem cm_69 : cm ad ca (V, U, sc, ia, la) 69 = .inl (ca 2, 16, xRf fun r => ad (71 + 2 * r)) := by
  rw [cm_b (by unfold isW; omega) (by unfold isW; omega)]; rfl
theorem cm_70 : cm ad ca (V, U, sc, ia, la) 70 = .inl (ca 3, 4, xRf fun p => ad (103 + 8 * p)) := by
  rw [cm_b (by unfold isW; omega) (by unfold isW; omega)]; rfl
theorem cm_135 : cm ad ca (V, U, sc, ia, la) 135 = .inr (3, [.ref (ad 136), .ref (ad 138), .ref (ad 140), .ref (ad 142), .ref (ad 144), .ref (ad 146), .ref (ad 148), .ref (ad 150)]) := by
  rw [cm_b (by unfold isW; omega) (by unfold isW; omega)]; rfl
theorem cm_152 : cm ad ca (V, U, sc, ia, la) 152 = .inr (2, [.ref (ad 153), .ref (ad 154), .ref (ad 155), .int (sc 10), .int (sc 11)]) := by
  rw [cm_b (by unfold isW; omega) (by unfold isW; omega)]; rfl
theorem cm_153 : cm ad ca (V, U, sc, ia, la) 153 = .inl (ca 0, 80, .inl (ia 153)) := by
  rw [cm_b (by unfold isW; omega) (by unfold isW; omega)]; rfl
theorem cm_154 : cm ad ca (V, U, sc, ia, la) 154 = .inl (ca 0, 120, .inl (ia 154)) := by
  rw [cm_b (by unfold isW; omega) (by unfold isW; omega)]; rfl
theorem cm_157 : cm ad ca (V, U, sc, ia, la) 157 = .inr (6, [.ref (ad 158), .int (sc 20), .int (sc 21), .int (sc 22), .int (sc 23), .int (sc 24), .int (sc 25)]) := by
  rw [cm_b (by unfold isW; omega) (by unfold isW; omega)]; rfl
theorem cm_158 : cm ad ca (V, U, sc, ia, la) 158 = .inl (ca 0, 120, .inl (ia 158)) := by
  rw [cm_b (by unfold isW; omega) (by unfold isW; omega)]; rfl
theorem cm_159 : cm ad ca (V, U, sc, ia, la) 159 = .inl (ca 1, 12, .inr (.inl (la 159))) := by
  rw [cm_b (by unfold isW; omega) (by unfold isW; omega)]; rfl
theorem cm_160 : cm ad ca (V, U, sc, ia, la) 160 = .inl (ca 1, 12, .inr (.inl (la 160))) := by
  rw [cm_b (by unfold isW; omega) (by unfold isW; omega)]; rfl
theorem cm_161 : cm ad ca (V, U, sc, ia, la) 161 = .inl (ca 4, 12, xRf fun k => ad (162 + k)) := by
  rw [cm_b (by unfold isW; omega) (by unfold isW; omega)]; rfl
theorem cm_174 : cm ad ca (V, U, sc, ia, la) 174 = .inr (9, [.int (sc 30), .ref (ad 175), .ref (ad 176), .ref (ad 177), .ref (ad 178), .int (sc 31), .ref (ad 179), .int (sc 32), .int (sc 33), .ref (ad 180), .int (sc 34), .ref (ad 181), .ref (ad 182), .ref (ad 183), .ref (ad 184), .int (sc 35), .int (sc 36), .int (sc 37), .ref (ad 185), .int (sc 38)]) := by
  rw [cm_b (by unfold isW; omega) (by unfold isW; omega)]; rfl
theorem cm_175 : cm ad ca (V, U, sc, ia, la) 175 = .inl (ca 1, 960, .inr (.inl (mw U))) := by
  rw [cm_b (by unfold isW; omega) (by unfold isW; omega)]; rfl
theorem cm_176 : cm ad ca (V, U, sc, ia, la) 176 = .inl (ca 1, 12, .inr (.inl (la 176))) := by
  rw [cm_b (by unfold isW; omega) (by unfold isW; omega)]; rfl
theorem cm_177 : cm ad ca (V, U, sc, ia, la) 177 = .inl (ca 0, 4, .inl (ia 177)) := by
  rw [cm_b (by unfold isW; omega) (by unfold isW; omega)]; rfl
theorem cm_178 : cm ad ca (V, U, sc, ia, la) 178 = .inl (ca 0, 4, .inl (ia 178)) := by
  rw [cm_b (by unfold isW; omega) (by unfold isW; omega)]; rfl
theorem cm_179 : cm ad ca (V, U, sc, ia, la) 179 = .inl (ca 0, 120, .inl (ia 179)) := by
  rw [cm_b (by unfold isW; omega) (by unfold isW; omega)]; rfl
theorem cm_180 : cm ad ca (V, U, sc, ia, la) 180 = .inl (ca 0, 200, .inl (ia 180)) := by
  rw [cm_b (by unfold isW; omega) (by unfold isW; omega)]; rfl
theorem cm_181 : cm ad ca (V, U, sc, ia, la) 181 = .inl (ca 0, 12, .inl (ia 181)) := by
  rw [cm_b (by unfold isW; omega) (by unfold isW; omega)]; rfl
theorem cm_182 : cm ad ca (V, U, sc, ia, la) 182 = .inl (ca 0, 12, .inl (ia 182)) := by
  rw [cm_b (by unfold isW; omega) (by unfold isW; omega)]; rfl
theorem cm_183 : cm ad ca (V, U, sc, ia, la) 183 = .inl (ca 0, 12, .inl (ia 183)) := by
  rw [cm_b (by unfold isW; omega) (by unfold isW; omega)]; rfl
theorem cm_184 : cm ad ca (V, U, sc, ia, la) 184 = .inl (ca 0, 12, .inl (ia 184)) := by
  rw [cm_b (by unfold isW; omega) (by unfold isW; omega)]; rfl
theorem cm_185 : cm ad ca (V, U, sc, ia, la) 185 = .inl (ca 0, 90, .inl (ia 185)) := by
  rw [cm_b (by unfold isW; omega) (by unfold isW; omega)]; rfl
theorem cm_186 : cm ad ca (V, U, sc, ia, la) 186 = .inl (ca 1, 1, .inr (.inl (la 186))) := by
  rw [cm_b (by unfold isW; omega) (by unfold isW; omega)]; rfl
end CMC
