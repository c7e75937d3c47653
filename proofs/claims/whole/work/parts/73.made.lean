def isWb (i : Nat) : Bool := decide ((4 ≤ i ∧ i < 36 ∧ i % 2 = 0) ∨ (36 ≤ i ∧ i < 68 ∧ i % 2 = 0 ∧ ¬ i % 8 = 4) ∨ (71 ≤ i ∧ i < 103 ∧ i % 2 = 1) ∨ (103 ≤ i ∧ i < 135 ∧ i % 2 = 1 ∧ ¬ i % 8 = 7) ∨ (136 ≤ i ∧ i < 152 ∧ i % 2 = 0) ∨ i = 155)
theorem isWb_iff {i : Nat} : isWb i = true ↔ isW i := by
  unfold isWb isW
  exact decide_eq_true_iff
def sc0 (k : Nat) : Int32 := if k = 1 then 2 else if k = 2 then -4 else if k = 10 then 1 else if k = 31 then 2 else if k = 33 then -4 else if 400 ≤ k then 1 else 0
def ia0 (k : Nat) : Nat → Int32 := if k = 178 then upd (upd (upd (upd (fun _ => 0) 0 (1)) 1 (1)) 2 (1)) 3 (1) else fun _ => 0
def I0 : xS := (fun _ => 0, fun _ => 0, sc0, ia0, fun _ _ => 0)
def cmD (ad : Nat → Nat) (ca : Nat → ClassId) (i : Nat) : va_E := bif isWb i then .inr (7, [.ref (ad (i + 1))]) else bif Nat.blt 0 i && isWb (i - 1) then .inl (ca 0, 24, .inl (dg 0)) else cmB ad ca (fun _ => 0) sc0 ia0 (fun _ _ => 0) i
theorem cm_D {ad : Nat → Nat} {ca : Nat → ClassId} {i : Nat} : cm ad ca I0 i = cmD ad ca i := by
  unfold cmD
  by_cases h : isW i
  · rw [isWb_iff.mpr h]
    exact cm_w h
  · rw [Bool.eq_false_iff.mpr (fun q => h (isWb_iff.mp q))]
    by_cases h2 : 0 < i ∧ isW (i - 1)
    · have e1 : Nat.blt 0 i = true := by
        rw [Nat.blt_eq]
        exact h2.1
      rw [isWb_iff.mpr h2.2, e1]
      have h3 := cm_l (ad := ad) (ca := ca) (V := fun _ => 0) (U := fun _ => 0) (sc := sc0) (ia := ia0) (la := fun _ _ => 0) h2.2
      rw [Nat.sub_add_cancel h2.1] at h3
      exact h3
    · have e1 : (Nat.blt 0 i && isWb (i - 1)) = false := by
        rw [Bool.eq_false_iff]
        intro q
        rw [Bool.and_eq_true, Nat.blt_eq, isWb_iff] at q
        exact h2 q
      rw [e1]
      exact cm_b h h2
def adL (u : Nat × LT) (k : Nat) : Nat := if k < 1 then u.1 else if k < 2 then u.2.1 else if k < 3 then u.2.2.1 else if k < 35 then u.2.2.2.1 ((k - 3) / 2) ((k - 3) % 2) else u.2.2.2.2 ((k - 35) / 8) ((k - 35) % 8)
def ad0 (a : Nat) (t : T6) (b : Nat → Nat) (o : Nat) (k : Nat) : Nat := if k < 1 then a else if k < 68 then adL t.1 (k - 1) else if k < 135 then adL t.2.1 (k - 68) else if k < 152 then t.2.2.1 (k - 135) else if k < 157 then t.2.2.2.1 (k - 152) else if k < 159 then t.2.2.2.2.1 (k - 157) else if k < 160 then t.2.2.2.2.2.1 else if k < 161 then t.2.2.2.2.2.2.1 else if k < 162 then t.2.2.2.2.2.2.2.1 else if k < 174 then t.2.2.2.2.2.2.2.2 (k - 162) else if k < 186 then b (k - 174) else o
/-! two worlds that hold the same -/
def sE (e e' : va_E) : Prop := e = e' ∨ ∃ (cA : ClassId) (n : Nat) (f g : Nat → Option Nat), e = .inl (cA, n, .inr (.inr (.inr (.inr f)))) ∧ e' = .inl (cA, n, .inr (.inr (.inr (.inr g)))) ∧ ∀ j, j < n → f j = g j
def sW : va_W → va_W → Prop
  | [], [] => True
  | p :: w, q :: w' => p.1 = q.1 ∧ sE p.2 q.2 ∧ sW w w'
  | _, _ => False
theorem sW_app {a a' b b' : va_W} (h : sW a a') (k : sW b b') : sW (a ++ b) (a' ++ b') := by
  induction a generalizing a' with
  | nil =>
    cases a' with
    | nil => exact k
    | cons q w' => exact h.elim
  | cons p w ih =>
    cases a' with
    | nil => exact h.elim
    | cons q w' => exact ⟨h.1, h.2.1, ih h.2.2⟩
theorem sW_get {w w' : va_W} (h : sW w w') : ∀ (k : Nat) (q : Nat × va_E), w'[k]? = some q → ∃ e, w[k]? = some (q.1, e) ∧ sE e q.2 := by
  induction w generalizing w' with
  | nil =>
    cases w' with
    | nil => intro k q hq; cases hq
    | cons q w' => exact h.elim
  | cons p w ih =>
    cases w' with
    | nil => exact h.elim
    | cons q w' =>
      intro k x hx
      cases k with
      | zero =>
        cases hx
        refine ⟨p.2, ?_, h.2.1⟩
        show some p = some (q.1, p.2)
        rw [← h.1]
      | succ k => exact ih h.2.2 k x hx
theorem sE_at {D : va_G} {a : Nat} {e e' : va_E} {H : Heap} (h : sE e e') (q : va_at D vwCl (a, e) H) : va_at D vwCl (a, e') H := by
  rcases h with rfl | ⟨cA, n, f, g, rfl, rfl, hfg⟩
  · exact q
  · have h3 : vp_cell cA (n, .inr (.inr (.inr (.inr f)))) = vp_cell cA (n, .inr (.inr (.inr (.inr g)))) := by
      rw [vp_cell_q, vp_cell_q]
      unfold arrV
      congr 2
      funext j
      exact congrArg va_rf (hfg j.1 j.2)
    show H[a]? = some (vp_cell _ _)
    rw [← h3]
    exact q
theorem g_same {z : xk} {w w' : va_W} {cs ss pc : Nat} {lv : List (Nat × Value)} {rest : List Value} (h : sW w w') (kk : xK z w' cs ss pc lv rest) : xK z w cs ss pc lv rest := by
  obtain ⟨p, l, e, R, s, m, args, below, meth, c, A, H0, D, tys, nL, Q⟩ := z
  intro H locs ls hP hD hS hl0
  refine kk H locs ls (fun k q hq => ?_) ⟨fun i j p q hp hq hpq => ?_, fun k q hq => ?_⟩ hS hl0
  · obtain ⟨e9, h1, h2⟩ := sW_get h k q hq
    exact sE_at h2 (hP k _ h1)
  · obtain ⟨e1, h1, -⟩ := sW_get h i p hp
    obtain ⟨e2, h2, -⟩ := sW_get h j q hq
    exact hD.1 i j _ _ h1 h2 hpq
  · obtain ⟨e1, h1, -⟩ := sW_get h k q hq
    exact hD.2 k (q.1, e1) h1
def seg (ad : Nat → Nat) (M : Nat → va_E) (s n : Nat) : va_W := (List.range n).map fun i => (ad (s + i), M (s + i))
theorem xw_split {ad : Nat → Nat} {M : Nat → va_E} (n m : Nat) : xw ad M (n + m) = xw ad M n ++ seg ad M n m := by
  unfold xw seg
  rw [List.range_add, List.map_append, List.map_map]
  rfl
section MADE
variable {ca : Nat → ClassId} {a : Nat} {t : T6} {b : Nat → Nat} {o : Nat}
set_option maxHeartbeats 4000000 in
set_option maxRecDepth 100000 in
theorem md_0 : sW ([(a, .inr (8, [.ref t.1.1, .ref t.2.1.1, .ref (t.2.2.1 0), .ref (t.2.2.2.1 0), .ref (t.2.2.2.2.1 0), .ref t.2.2.2.2.2.1, .ref t.2.2.2.2.2.2.1, .ref t.2.2.2.2.2.2.2.1, .int 0, .int 2, .int (-4), .int 0, .int 0]))]) (seg (ad0 a t b o) (cmD (ad0 a t b o) ca) 0 1) := ⟨rfl, Or.inl rfl, trivial⟩
set_option maxHeartbeats 4000000 in
set_option maxRecDepth 100000 in
theorem md_1 : sW (ipL ca t.1) (seg (ad0 a t b o) (cmD (ad0 a t b o) ca) 1 67) := ⟨rfl, Or.inl rfl, rfl, Or.inr ⟨_, _, _, fun k => some (ad0 a t b o (4 + 2 * k)), rfl, rfl, fun j hj => by match j, hj with | 0, _ => rfl | 1, _ => rfl | 2, _ => rfl | 3, _ => rfl | 4, _ => rfl | 5, _ => rfl | 6, _ => rfl | 7, _ => rfl | 8, _ => rfl | 9, _ => rfl | 10, _ => rfl | 11, _ => rfl | 12, _ => rfl | 13, _ => rfl | 14, _ => rfl | 15, _ => rfl | n + 16, h => exact absurd h (by omega)⟩, rfl, Or.inr ⟨_, _, _, fun k => some (ad0 a t b o (36 + 8 * k)), rfl, rfl, fun j hj => by match j, hj with | 0, _ => rfl | 1, _ => rfl | 2, _ => rfl | 3, _ => rfl | n + 4, h => exact absurd h (by omega)⟩, rfl, Or.inl rfl, rfl, Or.inl rfl, rfl, Or.inl rfl, rfl, Or.inl rfl, rfl, Or.inl rfl, rfl, Or.inl rfl, rfl, Or.inl rfl, rfl, Or.inl rfl, rfl, Or.inl rfl, rfl, Or.inl rfl, rfl, Or.inl rfl, rfl, Or.inl rfl, rfl, Or.inl rfl, rfl, Or.inl rfl, rfl, Or.inl rfl, rfl, Or.inl rfl, rfl, Or.inl rfl, rfl, Or.inl rfl, rfl, Or.inl rfl, rfl, Or.inl rfl, rfl, Or.inl rfl, rfl, Or.inl rfl, rfl, Or.inl rfl, rfl, Or.inl rfl, rfl, Or.inl rfl, rfl, Or.inl rfl, rfl, Or.inl rfl, rfl, Or.inl rfl, rfl, Or.inl rfl, rfl, Or.inl rfl, rfl, Or.inl rfl, rfl, Or.inl rfl, rfl, Or.inl rfl, rfl, Or.inr ⟨_, _, _, fun k => some (ad0 a t b o (37 + 1 + 2 * k)), rfl, rfl, fun j hj => by match j, hj with | 0, _ => rfl | 1, _ => rfl | n + 2, h => exact absurd h (by omega)⟩, rfl, Or.inl rfl, rfl, Or.inl rfl, rfl, Or.inl rfl, rfl, Or.inl rfl, rfl, Or.inl rfl, rfl, Or.inl rfl, rfl, Or.inl rfl, rfl, Or.inr ⟨_, _, _, fun k => some (ad0 a t b o (45 + 1 + 2 * k)), rfl, rfl, fun j hj => by match j, hj with | 0, _ => rfl | 1, _ => rfl | n + 2, h => exact absurd h (by omega)⟩, rfl, Or.inl rfl, rfl, Or.inl rfl, rfl, Or.inl rfl, rfl, Or.inl rfl, rfl, Or.inl rfl, rfl, Or.inl rfl, rfl, Or.inl rfl, rfl, Or.inr ⟨_, _, _, fun k => some (ad0 a t b o (53 + 1 + 2 * k)), rfl, rfl, fun j hj => by match j, hj with | 0, _ => rfl | 1, _ => rfl | n + 2, h => exact absurd h (by omega)⟩, rfl, Or.inl rfl, rfl, Or.inl rfl, rfl, Or.inl rfl, rfl, Or.inl rfl, rfl, Or.inl rfl, rfl, Or.inl rfl, rfl, Or.inl rfl, rfl, Or.inr ⟨_, _, _, fun k => some (ad0 a t b o (61 + 1 + 2 * k)), rfl, rfl, fun j hj => by match j, hj with | 0, _ => rfl | 1, _ => rfl | n + 2, h => exact absurd h (by omega)⟩, rfl, Or.inl rfl, rfl, Or.inl rfl, rfl, Or.inl rfl, rfl, Or.inl rfl, rfl, Or.inl rfl, rfl, Or.inl rfl, trivial⟩
set_option maxHeartbeats 4000000 in
set_option maxRecDepth 100000 in
theorem md_2 : sW (ipL ca t.2.1) (seg (ad0 a t b o) (cmD (ad0 a t b o) ca) 68 67) := ⟨rfl, Or.inl rfl, rfl, Or.inr ⟨_, _, _, fun k => some (ad0 a t b o (71 + 2 * k)), rfl, rfl, fun j hj => by match j, hj with | 0, _ => rfl | 1, _ => rfl | 2, _ => rfl | 3, _ => rfl | 4, _ => rfl | 5, _ => rfl | 6, _ => rfl | 7, _ => rfl | 8, _ => rfl | 9, _ => rfl | 10, _ => rfl | 11, _ => rfl | 12, _ => rfl | 13, _ => rfl | 14, _ => rfl | 15, _ => rfl | n + 16, h => exact absurd h (by omega)⟩, rfl, Or.inr ⟨_, _, _, fun k => some (ad0 a t b o (103 + 8 * k)), rfl, rfl, fun j hj => by match j, hj with | 0, _ => rfl | 1, _ => rfl | 2, _ => rfl | 3, _ => rfl | n + 4, h => exact absurd h (by omega)⟩, rfl, Or.inl rfl, rfl, Or.inl rfl, rfl, Or.inl rfl, rfl, Or.inl rfl, rfl, Or.inl rfl, rfl, Or.inl rfl, rfl, Or.inl rfl, rfl, Or.inl rfl, rfl, Or.inl rfl, rfl, Or.inl rfl, rfl, Or.inl rfl, rfl, Or.inl rfl, rfl, Or.inl rfl, rfl, Or.inl rfl, rfl, Or.inl rfl, rfl, Or.inl rfl, rfl, Or.inl rfl, rfl, Or.inl rfl, rfl, Or.inl rfl, rfl, Or.inl rfl, rfl, Or.inl rfl, rfl, Or.inl rfl, rfl, Or.inl rfl, rfl, Or.inl rfl, rfl, Or.inl rfl, rfl, Or.inl rfl, rfl, Or.inl rfl, rfl, Or.inl rfl, rfl, Or.inl rfl, rfl, Or.inl rfl, rfl, Or.inl rfl, rfl, Or.inl rfl, rfl, Or.inl rfl, rfl, Or.inr ⟨_, _, _, fun k => some (ad0 a t b o (104 + 1 + 2 * k)), rfl, rfl, fun j hj => by match j, hj with | 0, _ => rfl | 1, _ => rfl | n + 2, h => exact absurd h (by omega)⟩, rfl, Or.inl rfl, rfl, Or.inl rfl, rfl, Or.inl rfl, rfl, Or.inl rfl, rfl, Or.inl rfl, rfl, Or.inl rfl, rfl, Or.inl rfl, rfl, Or.inr ⟨_, _, _, fun k => some (ad0 a t b o (112 + 1 + 2 * k)), rfl, rfl, fun j hj => by match j, hj with | 0, _ => rfl | 1, _ => rfl | n + 2, h => exact absurd h (by omega)⟩, rfl, Or.inl rfl, rfl, Or.inl rfl, rfl, Or.inl rfl, rfl, Or.inl rfl, rfl, Or.inl rfl, rfl, Or.inl rfl, rfl, Or.inl rfl, rfl, Or.inr ⟨_, _, _, fun k => some (ad0 a t b o (120 + 1 + 2 * k)), rfl, rfl, fun j hj => by match j, hj with | 0, _ => rfl | 1, _ => rfl | n + 2, h => exact absurd h (by omega)⟩, rfl, Or.inl rfl, rfl, Or.inl rfl, rfl, Or.inl rfl, rfl, Or.inl rfl, rfl, Or.inl rfl, rfl, Or.inl rfl, rfl, Or.inl rfl, rfl, Or.inr ⟨_, _, _, fun k => some (ad0 a t b o (128 + 1 + 2 * k)), rfl, rfl, fun j hj => by match j, hj with | 0, _ => rfl | 1, _ => rfl | n + 2, h => exact absurd h (by omega)⟩, rfl, Or.inl rfl, rfl, Or.inl rfl, rfl, Or.inl rfl, rfl, Or.inl rfl, rfl, Or.inl rfl, rfl, Or.inl rfl, trivial⟩
set_option maxHeartbeats 4000000 in
set_option maxRecDepth 100000 in
theorem md_3 : sW (pX1 ca t.2.2.1) (seg (ad0 a t b o) (cmD (ad0 a t b o) ca) 135 17) := ⟨rfl, Or.inl rfl, rfl, Or.inl rfl, rfl, Or.inl rfl, rfl, Or.inl rfl, rfl, Or.inl rfl, rfl, Or.inl rfl, rfl, Or.inl rfl, rfl, Or.inl rfl, rfl, Or.inl rfl, rfl, Or.inl rfl, rfl, Or.inl rfl, rfl, Or.inl rfl, rfl, Or.inl rfl, rfl, Or.inl rfl, rfl, Or.inl rfl, rfl, Or.inl rfl, rfl, Or.inl rfl, trivial⟩
set_option maxHeartbeats 4000000 in
set_option maxRecDepth 100000 in
theorem md_4 : sW (pX0 ca t.2.2.2.1) (seg (ad0 a t b o) (cmD (ad0 a t b o) ca) 152 5) := ⟨rfl, Or.inl rfl, rfl, Or.inl rfl, rfl, Or.inl rfl, rfl, Or.inl rfl, rfl, Or.inl rfl, trivial⟩
set_option maxHeartbeats 4000000 in
set_option maxRecDepth 100000 in
theorem md_5 : sW (pX4 ca t.2.2.2.2.1) (seg (ad0 a t b o) (cmD (ad0 a t b o) ca) 157 2) := ⟨rfl, Or.inl rfl, rfl, Or.inl rfl, trivial⟩
set_option maxHeartbeats 4000000 in
set_option maxRecDepth 100000 in
theorem md_6 : sW ([(t.2.2.2.2.2.1, .inl (ca 1, 12, .inr (.inl (fun _ => 0))))]) (seg (ad0 a t b o) (cmD (ad0 a t b o) ca) 159 1) := ⟨rfl, Or.inl rfl, trivial⟩
set_option maxHeartbeats 4000000 in
set_option maxRecDepth 100000 in
theorem md_7 : sW ([(t.2.2.2.2.2.2.1, .inl (ca 1, 12, .inr (.inl (fun _ => 0))))]) (seg (ad0 a t b o) (cmD (ad0 a t b o) ca) 160 1) := ⟨rfl, Or.inl rfl, trivial⟩
set_option maxHeartbeats 4000000 in
set_option maxRecDepth 100000 in
theorem md_8 : sW ((t.2.2.2.2.2.2.2.1, .inl (ca 4, 12, .inr (.inr (.inr (.inr (fun i => if i < 12 then some (t.2.2.2.2.2.2.2.2 i) else none)))))) :: (List.range 12).map (fun i => (t.2.2.2.2.2.2.2.2 i, .inl (ca 0, 4, .inl (fun _ => 0))))) (seg (ad0 a t b o) (cmD (ad0 a t b o) ca) 161 13) := ⟨rfl, Or.inr ⟨_, _, _, fun k => some (ad0 a t b o (162 + k)), rfl, rfl, fun j hj => by match j, hj with | 0, _ => rfl | 1, _ => rfl | 2, _ => rfl | 3, _ => rfl | 4, _ => rfl | 5, _ => rfl | 6, _ => rfl | 7, _ => rfl | 8, _ => rfl | 9, _ => rfl | 10, _ => rfl | 11, _ => rfl | n + 12, h => exact absurd h (by omega)⟩, rfl, Or.inl rfl, rfl, Or.inl rfl, rfl, Or.inl rfl, rfl, Or.inl rfl, rfl, Or.inl rfl, rfl, Or.inl rfl, rfl, Or.inl rfl, rfl, Or.inl rfl, rfl, Or.inl rfl, rfl, Or.inl rfl, rfl, Or.inl rfl, rfl, Or.inl rfl, trivial⟩
set_option maxHeartbeats 4000000 in
set_option maxRecDepth 100000 in
theorem md_9 : sW (pX7 ca b) (seg (ad0 a t b o) (cmD (ad0 a t b o) ca) 174 12) := ⟨rfl, Or.inl rfl, rfl, Or.inl rfl, rfl, Or.inl rfl, rfl, Or.inl rfl, rfl, Or.inl rfl, rfl, Or.inl rfl, rfl, Or.inl rfl, rfl, Or.inl rfl, rfl, Or.inl rfl, rfl, Or.inl rfl, rfl, Or.inl rfl, rfl, Or.inl rfl, trivial⟩
set_option maxHeartbeats 4000000 in
set_option maxRecDepth 100000 in
theorem md_10 : sW ([(o, .inl (ca 1, 1, .inr (.inl (fun _ => 0))))]) (seg (ad0 a t b o) (cmD (ad0 a t b o) ca) 186 1) := ⟨rfl, Or.inl rfl, trivial⟩
theorem re9 {α : Type} {x : α} {A B C D E F G K : List α} : x :: (((((((A ++ B) ++ C) ++ D) ++ E) ++ F) ++ G) ++ K) = (((((((([x] ++ A) ++ B) ++ C) ++ D) ++ E) ++ F) ++ G) ++ K) := rfl
theorem md_all : sW (([] ++ pX6 ca a t ++ pX7 ca b) ++ [(o, .inl (ca 1, 1, .inr (.inl (fun _ => 0))))]) (xw (ad0 a t b o) (cmD (ad0 a t b o) ca) 187) := by
  rw [xw_split 186 1, xw_split 174 12, xw_split 161 13, xw_split 160 1, xw_split 159 1, xw_split 157 2, xw_split 152 5, xw_split 135 17, xw_split 68 67, xw_split 1 67, xw_split 0 1]
  refine sW_app (sW_app ?_ md_9) md_10
  rw [List.nil_append]
  unfold pX6
  rw [re9]
  have e0 : xw (ad0 a t b o) (cmD (ad0 a t b o) ca) 0 = [] := rfl
  rw [e0, List.nil_append]
  exact sW_app (sW_app (sW_app (sW_app (sW_app (sW_app (sW_app (sW_app md_0 md_1) md_2) md_3) md_4) md_5) md_6) md_7) md_8
theorem g_made {z : xk} {cs ss pc : Nat} {lv : List (Nat × Value)} {rest : List Value} (kk : xK z (xw (ad0 a t b o) (cm (ad0 a t b o) ca I0) 187) cs ss pc lv rest) : xK z ([] ++ (([] ++ pX6 ca a t ++ pX7 ca b) ++ [(o, .inl (ca 1, 1, .inr (.inl (fun _ => 0))))])) cs ss pc lv rest := by
  refine g_same md_all ?_
  rw [← (funext fun i => cm_D : cm (ad0 a t b o) ca I0 = cmD (ad0 a t b o) ca)]
  exact kk
end MADE
