def isWb (i : Nat) : Bool := decide ((4 ≤ i ∧ i < 36 ∧ i % 2 = 0) ∨ (36 ≤ i ∧ i < 68 ∧ i % 2 = 0 ∧ ¬ i % 8 = 4) ∨ (71 ≤ i ∧ i < 103 ∧ i % 2 = 1) ∨ (103 ≤ i ∧ i < 135 ∧ i % 2 = 1 ∧ ¬ i % 8 = 7) ∨ (136 ≤ i ∧ i < 152 ∧ i % 2 = 0) ∨ i = 155)
theorem isWb_iff {i : Nat} : isWb i = true ↔ isW i := by
  unfold isWb isW
  exact decide_eq_true_iff
def sc0 (k : Nat) : Int32 := if k = 1 then 2 else if k = 2 then -4 else if k = 10 then 1 else if k = 31 then 2 else if k = 33 then -4 else if 400 ≤ k then 1 else 0
def ia0 (k : Nat) : Nat → Int32 := if k = 178 then upd (upd (upd (upd (fun _ => 0) 0 (1)) 1 (1)) 2 (1)) 3 (1) else fun _ => 0
def I0 : xS := (fun _ => 0, fun _ => 0, sc0, ia0, fun _ _ => 0)
def cmD (ad : Nat → Nat) (ca : Nat → ClassId) (i : Nat) : va_E := bif isWb i then .inr (7, [.ref (ad (i + 1))]) else bif Nat.blt 0 i && isWb (i - 1) then .inl (ca 0, 24, .inl (dg 0)) else cmB ad ca (fun _ => 0) sc0 ia0 (fun _ _ => 0) i
theorem cm_D {ad : Nat → Nat} {ca : Nat → ClassId} {i : Nat} : cm ad ca I0 i = cmD ad ca i := by
  unfold cmD
  by_cases h : isW i
  · rw [isWb_iff.mpr h]
    exact cm_w h
  · rw [Bool.eq_false_iff.mpr (fun q => h (isWb_iff.mp q))]
    by_cases h2 : 0 < i ∧ isW (i - 1)
    · have e1 : Nat.blt 0 i = true := by
        rw [Nat.blt_eq]
        exact h2.1
      rw [isWb_iff.mpr h2.2, e1]
      have h3 := cm_l (ad := ad) (ca := ca) (V := fun _ => 0) (U := fun _ => 0) (sc := sc0) (ia := ia0) (la := fun _ _ => 0) h2.2
      rw [Nat.sub_add_cancel h2.1] at h3
      exact h3
    · have e1 : (Nat.blt 0 i && isWb (i - 1)) = false := by
        rw [Bool.eq_false_iff]
        intro q
        rw [Bool.and_eq_true, Nat.blt_eq, isWb_iff] at q
        exact h2 q
      rw [e1]
      exact cm_b h h2
def adL (u : Nat × LT) (k : Nat) : Nat := if k < 1 then u.1 else if k < 2 then u.2.1 else if k < 3 then u.2.2.1 else if k < 35 then u.2.2.2.1 ((k - 3) / 2) ((k - 3) % 2) else u.2.2.2.2 ((k - 35) / 8) ((k - 35) % 8)
def ad0 (a : Nat) (t : T6) (b : Nat → Nat) (o : Nat) (k : Nat) : Nat := if k < 1 then a else if k < 68 then adL t.1 (k - 1) else if k < 135 then adL t.2.1 (k - 68) else if k < 152 then t.2.2.1 (k - 135) else if k < 157 then t.2.2.2.1 (k - 152) else if k < 159 then t.2.2.2.2.1 (k - 157) else if k < 160 then t.2.2.2.2.2.1 else if k < 161 then t.2.2.2.2.2.2.1 else if k < 162 then t.2.2.2.2.2.2.2.1 else if k < 174 then t.2.2.2.2.2.2.2.2 (k - 162) else if k < 186 then b (k - 174) else o
set_option maxHeartbeats 4000000 in
set_option maxRecDepth 100000 in
theorem g_made {z : xk} {ca : Nat → ClassId} {a : Nat} {t : T6} {b : Nat → Nat} {o : Nat} {cs ss pc : Nat} {lv : List (Nat × Value)} {rest : List Value} (kk : xK z (xw (ad0 a t b o) (cm (ad0 a t b o) ca I0) 187) cs ss pc lv rest) : xK z ([] ++ (([] ++ pX6 ca a t ++ pX7 ca b) ++ [(o, .inl (ca 1, 1, .inr (.inl (fun _ => 0))))])) cs ss pc lv rest := by
  refine g_arr 2 (g := fun k => some (ad0 a t b o (4 + 2 * k))) rfl (fun j hj => by match j, hj with | 0, _ => rfl | 1, _ => rfl | 2, _ => rfl | 3, _ => rfl | 4, _ => rfl | 5, _ => rfl | 6, _ => rfl | 7, _ => rfl | 8, _ => rfl | 9, _ => rfl | 10, _ => rfl | 11, _ => rfl | 12, _ => rfl | 13, _ => rfl | 14, _ => rfl | 15, _ => rfl | n + 16, h => exact absurd h (by omega)) rfl ?_
  refine g_arr 3 (g := fun k => some (ad0 a t b o (36 + 8 * k))) rfl (fun j hj => by match j, hj with | 0, _ => rfl | 1, _ => rfl | 2, _ => rfl | 3, _ => rfl | n + 4, h => exact absurd h (by omega)) rfl ?_
  refine g_arr 37 (g := fun k => some (ad0 a t b o (37 + 1 + 2 * k))) rfl (fun j hj => by match j, hj with | 0, _ => rfl | 1, _ => rfl | n + 2, h => exact absurd h (by omega)) rfl ?_
  refine g_arr 45 (g := fun k => some (ad0 a t b o (45 + 1 + 2 * k))) rfl (fun j hj => by match j, hj with | 0, _ => rfl | 1, _ => rfl | n + 2, h => exact absurd h (by omega)) rfl ?_
  refine g_arr 53 (g := fun k => some (ad0 a t b o (53 + 1 + 2 * k))) rfl (fun j hj => by match j, hj with | 0, _ => rfl | 1, _ => rfl | n + 2, h => exact absurd h (by omega)) rfl ?_
  refine g_arr 61 (g := fun k => some (ad0 a t b o (61 + 1 + 2 * k))) rfl (fun j hj => by match j, hj with | 0, _ => rfl | 1, _ => rfl | n + 2, h => exact absurd h (by omega)) rfl ?_
  refine g_arr 69 (g := fun k => some (ad0 a t b o (71 + 2 * k))) rfl (fun j hj => by match j, hj with | 0, _ => rfl | 1, _ => rfl | 2, _ => rfl | 3, _ => rfl | 4, _ => rfl | 5, _ => rfl | 6, _ => rfl | 7, _ => rfl | 8, _ => rfl | 9, _ => rfl | 10, _ => rfl | 11, _ => rfl | 12, _ => rfl | 13, _ => rfl | 14, _ => rfl | 15, _ => rfl | n + 16, h => exact absurd h (by omega)) rfl ?_
  refine g_arr 70 (g := fun k => some (ad0 a t b o (103 + 8 * k))) rfl (fun j hj => by match j, hj with | 0, _ => rfl | 1, _ => rfl | 2, _ => rfl | 3, _ => rfl | n + 4, h => exact absurd h (by omega)) rfl ?_
  refine g_arr 104 (g := fun k => some (ad0 a t b o (104 + 1 + 2 * k))) rfl (fun j hj => by match j, hj with | 0, _ => rfl | 1, _ => rfl | n + 2, h => exact absurd h (by omega)) rfl ?_
  refine g_arr 112 (g := fun k => some (ad0 a t b o (112 + 1 + 2 * k))) rfl (fun j hj => by match j, hj with | 0, _ => rfl | 1, _ => rfl | n + 2, h => exact absurd h (by omega)) rfl ?_
  refine g_arr 120 (g := fun k => some (ad0 a t b o (120 + 1 + 2 * k))) rfl (fun j hj => by match j, hj with | 0, _ => rfl | 1, _ => rfl | n + 2, h => exact absurd h (by omega)) rfl ?_
  refine g_arr 128 (g := fun k => some (ad0 a t b o (128 + 1 + 2 * k))) rfl (fun j hj => by match j, hj with | 0, _ => rfl | 1, _ => rfl | n + 2, h => exact absurd h (by omega)) rfl ?_
  refine g_arr 161 (g := fun k => some (ad0 a t b o (162 + k))) rfl (fun j hj => by match j, hj with | 0, _ => rfl | 1, _ => rfl | 2, _ => rfl | 3, _ => rfl | 4, _ => rfl | 5, _ => rfl | 6, _ => rfl | 7, _ => rfl | 8, _ => rfl | 9, _ => rfl | 10, _ => rfl | 11, _ => rfl | n + 12, h => exact absurd h (by omega)) rfl ?_
  refine g_eqL (L' := xw (ad0 a t b o) (cmD (ad0 a t b o) ca) 187) rfl ?_
  rw [List.nil_append, ← (funext fun i => cm_D : cm (ad0 a t b o) ca I0 = cmD (ad0 a t b o) ca)]
  exact kk
