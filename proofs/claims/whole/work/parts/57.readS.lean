/-! ===== how a text is looked at: figures of the group, a comma, a zero alone, past the point, figures behind it ===== -/
abbrev mS : Type := Nat × Bool × Bool × Bool × Nat
def bI (b : Bool) : Int32 := if b = true then 1 else 0
theorem bI0 {b : Bool} : (bI b = 0) = (b = false) := by cases b <;> decide
theorem bIz {b : Bool} : bI b = 0 ∨ bI b = 1 := by cases b <;> decide
abbrev aw (g : Nat) (h : Bool) : Prop := if h = true then g = 3 else 0 < g
abbrev badF (g : Nat) (h z : Bool) : Prop := z = true ∨ (h = true ∧ g = 3)
abbrev badC (g : Nat) (h z : Bool) : Prop := z = true ∨ g = 0 ∨ 3 < g ∨ (h = true ∧ g ≠ 3)
def canQ (u g : Nat) (h z p : Bool) (e : Nat) (c : Int32) : Option mS :=
  if p = true then (if dgt c ∧ e + 1 ≤ u then some (g, h, z, true, e + 1) else none)
  else if dgt c then (if badF g h z then none else some (g + 1, h, decide (c = 48 ∧ g = 0 ∧ h = false), false, e))
  else if c = 44 then (if badC g h z then none else some (0, true, z, false, e))
  else if c = 46 ∧ 0 < u ∧ aw g h then some (g, h, z, true, e) else none
def canS (u : Nat) (S : mS) (c : Int32) : Option mS := canQ u S.1 S.2.1 S.2.2.1 S.2.2.2.1 S.2.2.2.2 c
theorem canS_q {u g : Nat} {h z p : Bool} {e : Nat} {c : Int32} : canS u (g, h, z, p, e) c = canQ u g h z p e c := rfl
def whQ (u g : Nat) (h p : Bool) (e : Nat) : Bool := if u = 0 then decide (aw g h) else p && decide (e = u)
def whl (u : Nat) (S : mS) : Bool := whQ u S.1 S.2.1 S.2.2.2.1 S.2.2.2.2
theorem whl_q {u g : Nat} {h z p : Bool} {e : Nat} : whl u (g, h, z, p, e) = whQ u g h p e := rfl
def mrun (u n : Nat) (b : Nat → Int32) : Nat → Nat → mS → Int32
  | 0, _, S => if whl u S = true then -4 else nI n
  | m + 1, i, S => match canS u S (b i) with
    | none => nI i
    | some S' => mrun u n b m (i + 1) S'
def mS0 : mS := (0, false, false, false, 0)
theorem mrun_s {u n : Nat} {b : Nat → Int32} {i : Nat} {S S' : mS} (hi : i < n) (h : canS u S (b i) = some S') : mrun u n b (n - i) i S = mrun u n b (n - (i + 1)) (i + 1) S' := by
  rw [show n - i = n - (i + 1) + 1 by omega]
  show (match canS u S (b i) with | none => nI i | some S' => mrun u n b (n - (i + 1)) (i + 1) S') = _
  rw [h]
theorem mrun_n {u n : Nat} {b : Nat → Int32} {i : Nat} {S : mS} (hi : i < n) (h : canS u S (b i) = none) : mrun u n b (n - i) i S = nI i := by
  rw [show n - i = n - (i + 1) + 1 by omega]
  show (match canS u S (b i) with | none => nI i | some S' => mrun u n b (n - (i + 1)) (i + 1) S') = _
  rw [h]
theorem mrun_e {u n : Nat} {b : Nat → Int32} {i : Nat} {S : mS} (hi : n ≤ i) : mrun u n b (n - i) i S = if whl u S = true then -4 else nI n := by
  rw [show n - i = 0 by omega]
  rfl
/-- a place where the text goes on only with a figure -/
theorem mrun_f {u n : Nat} {b : Nat → Int32} {i g : Nat} {h z : Bool} (hi : i ≤ n) (hd : i < n → ¬ dgt (b i)) (hc : badC g h z) (ha : ¬ aw g h) : mrun u n b (n - i) i (g, h, z, false, 0) = nI i := by
  by_cases q : i < n
  · refine mrun_n q ?_
    rw [canS_q]
    unfold canQ
    rw [if_neg (by decide), if_neg (hd q)]
    by_cases e : b i = 44
    · rw [if_pos e, if_pos hc]
    · rw [if_neg e, if_neg (fun t => ha t.2.2)]
  · rw [mrun_e (by omega), if_neg, show i = n by omega]
    rw [whl_q]
    unfold whQ
    by_cases e : u = 0
    · rw [if_pos e, decide_eq_true_eq]; exact ha
    · rw [if_neg e, Bool.false_and]; decide
theorem byA_lt {b : Nat → Int32} {n k : Nat} (h : dgt (byA b n k)) : k < n ∧ dgt (b k) := by
  unfold byA at h
  by_cases q : k < n
  · rw [if_pos q] at h; exact ⟨q, h⟩
  · rw [if_neg q] at h; exact absurd h.1 (by decide)
theorem byA_not {b : Nat → Int32} {n k : Nat} (h : ¬ dgt (byA b n k)) : k < n → ¬ dgt (b k) := by
  intro q t
  apply h
  unfold byA
  rw [if_pos q]; exact t
theorem byA_eq {b : Nat → Int32} {n k : Nat} {c : Int32} (hc : ¬ c = -1) (h : byA b n k = c) : k < n ∧ b k = c := by
  unfold byA at h
  by_cases q : k < n
  · rw [if_pos q] at h; exact ⟨q, h⟩
  · rw [if_neg q] at h; exact absurd h.symm hc
theorem byA_ne {b : Nat → Int32} {n k : Nat} {c : Int32} (h : ¬ byA b n k = c) : k < n → ¬ b k = c := by
  intro q t
  apply h
  unfold byA
  rw [if_pos q]; exact t
theorem byA_c {b b' : Nat → Int32} {n k : Nat} (h : ∀ i, i < n → b' i = b i) : byA b' n k = byA b n k := by
  unfold byA
  by_cases q : k < n
  · rw [if_pos q, if_pos q, h k q]
  · rw [if_neg q, if_neg q]
/-- where what is ahead of the point ends: no figure, no comma goes on there -/
abbrev ends (u n : Nat) (b : Nat → Int32) (at1 g : Nat) (h z : Bool) : Prop := aw g h ∧ (at1 < n → dgt (b at1) → badF g h z) ∧ (at1 < n → b at1 = 44 → badC g h z)
theorem not_dgt44 : ¬ dgt (44 : Int32) := by decide
theorem not_dgt46 : ¬ dgt (46 : Int32) := by decide
theorem ends_bad {u n : Nat} {b : Nat → Int32} {i g : Nat} {h z : Bool} (he : ends u n b i g h z) (hi : i < n) (hp : u = 0 ∨ ¬ b i = 46) : canS u (g, h, z, false, 0) (b i) = none := by
  obtain ⟨h1, h2, h3⟩ := he
  rw [canS_q]
  unfold canQ
  rw [if_neg (by decide)]
  by_cases d : dgt (b i)
  · rw [if_pos d, if_pos (h2 hi d)]
  · rw [if_neg d]
    by_cases e : b i = 44
    · rw [if_pos e, if_pos (h3 hi e)]
    · rw [if_neg e, if_neg (fun t => hp.elim (fun q => by have := t.2.1; omega) (fun q => q t.1))]
theorem ends_pt {u n : Nat} {b : Nat → Int32} {i g : Nat} {h z : Bool} (he : ends u n b i g h z) (hu : 0 < u) (hb : b i = 46) : canS u (g, h, z, false, 0) (b i) = some (g, h, z, true, 0) := by
  rw [canS_q]
  unfold canQ
  rw [hb, if_neg (by decide), if_neg not_dgt46, if_neg (by decide), if_pos ⟨rfl, hu, he.1⟩]
theorem past_f {u : Nat} {g e : Nat} {h z : Bool} {c : Int32} (hd : dgt c) (he : e + 1 ≤ u) : canS u (g, h, z, true, e) c = some (g, h, z, true, e + 1) := by
  rw [canS_q]
  unfold canQ
  rw [if_pos rfl, if_pos ⟨hd, he⟩]
theorem past_n {u : Nat} {g e : Nat} {h z : Bool} {c : Int32} (hd : ¬ (dgt c ∧ e + 1 ≤ u)) : canS u (g, h, z, true, e) c = none := by
  rw [canS_q]
  unfold canQ
  rw [if_pos rfl, if_neg hd]
theorem fig_s {u g : Nat} {h : Bool} {c : Int32} (hd : dgt c) (hb : ¬ badF g h false) (hz : ¬ (c = 48 ∧ g = 0 ∧ h = false)) : canS u (g, h, false, false, 0) c = some (g + 1, h, false, false, 0) := by
  rw [canS_q]
  unfold canQ
  rw [if_neg (by decide), if_pos hd, if_neg hb, decide_eq_false hz]
theorem com_s {u g : Nat} {h : Bool} (hb : ¬ badC g h false) : canS u (g, h, false, false, 0) 44 = some (0, true, false, false, 0) := by
  rw [canS_q]
  unfold canQ
  rw [if_neg (by decide), if_neg not_dgt44, if_pos rfl, if_neg hb]
theorem zero_s {u : Nat} {c : Int32} (hc : c = 48) : canS u mS0 c = some (1, false, true, false, 0) := by
  subst hc
  unfold mS0
  rw [canS_q]
  unfold canQ
  rw [if_neg (by decide), if_pos (by decide), if_neg (by decide)]
  rfl
/-- the number that the figures say -/
def rdv (b : Nat → Int32) : Nat → Nat
  | 0 => 0
  | k + 1 => if dgt (b k) then rdv b k * 10 + ((b k).toInt - 48).toNat else rdv b k
theorem rdv_mono (b : Nat → Int32) {i j : Nat} (h : i ≤ j) : rdv b i ≤ rdv b j := by
  induction j with
  | zero => rw [show i = 0 by omega]; exact Nat.le_refl _
  | succ j ih =>
    rcases Nat.lt_or_ge j i with q | q
    · rw [show i = j + 1 by omega]; exact Nat.le_refl _
    · have := ih q
      rw [rdv]
      split <;> omega
