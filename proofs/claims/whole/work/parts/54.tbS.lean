/-! ===== what stays true of the numbers, call by call ===== -/
theorem rI_lt {x : Int32} {n : Nat} (h : inR x n) : rI x < n := by
  have h1 := h.1
  have h2 := h.2
  unfold rI
  omega
theorem sKeep_TB {T : Nat → Nat} {k v : Nat} (h : TB T) (hk : k < 16) : TB (sKeep T k v).2 := by
  unfold sKeep
  by_cases hs : v < 2 ^ 256
  · rw [if_pos hs]; exact h.up hk hs
  · rw [if_neg hs]; exact h
theorem sPut_TB {T : Nat → Nat} (h : TB T) (x : Int32) (v : Int64) : TB (sPut T x v).2 := by
  unfold sPut
  split
  · rename_i c
    have := v.toInt_lt
    exact h.up (rI_lt c.1) (by omega)
  · exact h
theorem sMore_TB {T : Nat → Nat} (h : TB T) (x v : Int32) : TB (sMore T x v).2 := by
  unfold sMore
  split
  · rename_i c; exact sKeep_TB h (rI_lt c)
  · exact h
theorem sAdd_TB {T : Nat → Nat} (h : TB T) (x y z : Int32) : TB (sAdd T x y z).2 := by
  unfold sAdd
  split
  · rename_i c; exact sKeep_TB h (rI_lt c.1)
  · exact h
theorem sTake_TB {T : Nat → Nat} (h : TB T) (x y z : Int32) : TB (sTake T x y z).2 := by
  unfold sTake
  split
  · rename_i c
    split
    · exact h
    · have := h.1 _ (rI_lt c.2.1)
      exact h.up (rI_lt c.1) (by omega)
  · exact h
theorem sTimes_TB {T : Nat → Nat} (h : TB T) (x y : Int32) (a b : Int64) (w : Int32) : TB (sTimes T x y a b w).2 := by
  unfold sTimes
  split
  · rename_i c
    split
    · exact h
    · exact sKeep_TB h (rI_lt c.1)
  · exact h
theorem sRound_TB {T : Nat → Nat} (h : TB T) (x y u w : Int32) : TB (sRound T x y u w).2 := by
  unfold sRound
  split
  · rename_i c; exact sKeep_TB h (rI_lt c.1)
  · exact h
theorem sDiv_TB {T : Nat → Nat} (h : TB T) (x y z : Int32) : TB (sDiv T x y z).2 := by
  unfold sDiv
  split
  · rename_i c
    split
    · exact h
    · have := h.1 _ (rI_lt c.2.1)
      exact h.up (rI_lt c.1) (Nat.lt_of_le_of_lt (Nat.div_le_self _ _) this)
  · exact h
theorem t3_2 {T : Nat → Nat} {p a b c : Nat} : tup3 T p a b c (16 + 3 * p + 2) = c := by unfold tup3; rw [ups]
theorem t3_1 {T : Nat → Nat} {p a b c : Nat} : tup3 T p a b c (16 + 3 * p + 1) = b := by unfold tup3; rw [upn (by omega), ups]
theorem t3_0 {T : Nat → Nat} {p a b c : Nat} : tup3 T p a b c (16 + 3 * p) = a := by unfold tup3; rw [upn (by omega), upn (by omega), ups]
theorem t3_n {T : Nat → Nat} {p a b c k : Nat} (h : k < 16 + 3 * p ∨ 16 + 3 * p + 2 < k) : tup3 T p a b c k = T k := by unfold tup3; rw [upn (by omega), upn (by omega), upn (by omega)]
theorem TB.t3 {T : Nat → Nat} {p a b c : Nat} (h : TB T) (hp : p < 4) (ha : a < 2 ^ 100) (hb : b < 2 ^ 100) (hc : c < 2 ^ 100) (ho : 0 < c → 0 < a ∧ 0 < b) : TB (tup3 T p a b c) := by
  refine ⟨fun r hr => ?_, fun k h1 h2 => ?_, fun q hq => ?_⟩
  · rw [t3_n (by omega)]; exact h.1 r hr
  · by_cases e0 : k = 16 + 3 * p
    · rw [e0, t3_0]; exact ha
    · by_cases e1 : k = 16 + 3 * p + 1
      · rw [e1, t3_1]; exact hb
      · by_cases e2 : k = 16 + 3 * p + 2
        · rw [e2, t3_2]; exact hc
        · rw [t3_n (by omega)]; exact h.2.1 k h1 h2
  · by_cases e : q = p
    · subst e
      rw [t3_2, Nat.add_zero, t3_0, t3_1]; exact ho
    · rw [t3_n (by omega), t3_n (by omega), t3_n (by omega)]; exact h.2.2 q hq
theorem TB.t2 {T : Nat → Nat} {p s a b : Nat} (h : TB T) (hp : p < 4) (hs : s < 2) (ha : a < 2 ^ 100) (hb : b < 2 ^ 100) (ho : 0 < T (16 + 3 * p + 2) → 0 < a ∧ 0 < b) : TB (tup2 T p s a b) := by
  have e1 : tup2 T p s a b (16 + 3 * p + (1 - s)) = b := by unfold tup2; rw [ups]
  have e0 : tup2 T p s a b (16 + 3 * p + s) = a := by unfold tup2; rw [upn (by omega), ups]
  have en : ∀ k, k ≠ 16 + 3 * p → k ≠ 16 + 3 * p + 1 → tup2 T p s a b k = T k := fun k h1 h2 => by unfold tup2; rw [upn (by omega), upn (by omega)]
  refine ⟨fun r hr => ?_, fun k h1 h2 => ?_, fun q hq => ?_⟩
  · rw [en r (by omega) (by omega)]; exact h.1 r hr
  · by_cases q0 : k = 16 + 3 * p + s
    · rw [q0, e0]; exact ha
    · by_cases q1 : k = 16 + 3 * p + (1 - s)
      · rw [q1, e1]; exact hb
      · rw [en k (by omega) (by omega)]; exact h.2.1 k h1 h2
  · by_cases e : q = p
    · subst e
      rw [en (16 + 3 * q + 2) (by omega) (by omega)]
      intro h8
      rcases (show s = 0 ∨ s = 1 by omega) with e | e
      · subst e; rw [e0, e1]; exact ho h8
      · subst e; rw [e0]; rw [show (1 : Nat) - 1 = 0 from rfl] at e1; rw [e1]; exact ⟨(ho h8).2, (ho h8).1⟩
    · rw [en _ (by omega) (by omega), en _ (by omega) (by omega), en _ (by omega) (by omega)]; exact h.2.2 q hq
theorem gN_le {x y p q d : Nat} : gN x y p q d ≤ y := by
  unfold gN
  exact Nat.div_le_of_le_mul (by rw [Nat.mul_comm]; exact Nat.mul_le_mul_right _ (by omega))
theorem gN_lt {x y p q d : Nat} (hx : 0 < x) (hq : 0 < q) (hy : 0 < y) : gN x y p q d < y := by
  unfold gN
  refine Nat.div_lt_of_lt_mul ?_
  have := Nat.mul_pos (Nat.mul_pos hx hq) hy
  rw [Nat.add_mul, Nat.mul_comm (d * (q - p)) y]
  omega
theorem sd_pos {T : Nat → Nat} (h : TB T) {p s : Nat} (hp : p < 4) (hs : s < 2) (h0 : 0 < T (16 + 3 * p + 2)) : 0 < T (16 + 3 * p + s) := by
  have h8 := h.2.2 p hp h0
  rcases (show s = 0 ∨ s = 1 by omega) with e | e <;> subst e <;> first | exact h8.1 | exact h8.2
theorem sGive_TB {T fp fq : Nat → Nat} (h : TB T) (hF : FB fp fq) (x d a r : Int32) : TB (sGive T fp fq x d a r).2 := by
  unfold sGive
  split
  · rename_i c
    split
    · rename_i g
      have hp := rI_lt c.1
      have hd := rI_lt c.2.1
      have g1 := gR_1 g
      obtain ⟨f1, f2⟩ := hF _ hp
      have k1 := h.2.1 (16 + 3 * rI x + (1 - rI d)) (by omega) (by omega)
      have l1 := gN_le (x := T (16 + 3 * rI x + rI d)) (y := T (16 + 3 * rI x + (1 - rI d))) (p := fp (rI x)) (q := fq (rI x)) (d := T (rI a))
      refine TB.up (h.t2 hp hd g1.1 (by omega) (fun h0 => ?_)) (rI_lt c.2.2.2) (by omega)
      have p0 := sd_pos h hp hd h0
      have p1 := sd_pos h hp (s := 1 - rI d) (by omega) h0
      have := gN_lt (p := fp (rI x)) (q := fq (rI x)) (d := T (rI a)) p0 (by omega) p1
      exact ⟨by omega, by omega⟩
    · exact h
  · exact h
theorem sAsk_TB {T fp fq : Nat → Nat} (h : TB T) (x d a r : Int32) : TB (sAsk T fp fq x d a r).2 := by
  unfold sAsk
  split
  · rename_i c
    split
    · rename_i g
      have hp := rI_lt c.1
      have hd := rI_lt c.2.1
      have g1 := aR_1 g
      have k1 := h.2.1 (16 + 3 * rI x + (1 - rI d)) (by omega) (by omega)
      refine TB.up (h.t2 hp hd g1.2.1 (by omega) (fun h0 => ?_)) (rI_lt c.2.2.2) (by omega)
      have p0 := sd_pos h hp hd h0
      exact ⟨by omega, by omega⟩
    · exact h
  · exact h
theorem sJoin_TB {T : Nat → Nat} (h : TB T) (x a b r : Int32) : TB (sJoin T x a b r).2 := by
  unfold sJoin
  split
  · rename_i c
    split
    · rename_i g
      have hp := rI_lt c.1
      obtain ⟨g1, g2, g3, g4⟩ := jR_1 g
      refine TB.up (h.t3 hp g1 g2 g3 (fun _ => ?_)) (rI_lt c.2.2.2) (by omega)
      by_cases e : T (16 + 3 * rI x + 2) = 0
      · have h8 : ¬ T (rI a) * T (rI b) = 0 := fun q => by
          apply g4
          unfold jN
          rw [if_pos e, q]
          have h9 := (isq_s 0).1
          rcases Nat.eq_zero_or_pos (isq 0) with t | t
          · exact t
          · have := Nat.mul_pos t t; omega
        have h1 : ¬ T (rI a) = 0 := fun q => h8 (by rw [q, Nat.zero_mul])
        have h2 : ¬ T (rI b) = 0 := fun q => h8 (by rw [q, Nat.mul_zero])
        exact ⟨by omega, by omega⟩
      · have h8 := h.2.2 _ hp (by omega)
        rw [Nat.add_zero] at h8
        exact ⟨by omega, by omega⟩
    · exact h
  · exact h
theorem mul_div_le' {x s P : Nat} (h : s ≤ P) : x * s / P ≤ x := Nat.div_le_of_le_mul (by rw [Nat.mul_comm]; exact Nat.mul_le_mul_right _ h)
theorem mul_div_lt' {x s P : Nat} (h : s < P) (hx : 0 < x) : x * s / P < x := Nat.div_lt_of_lt_mul (by rw [Nat.mul_comm]; exact Nat.mul_lt_mul_of_pos_right h hx)
theorem sLeave_TB {T : Nat → Nat} (h : TB T) (x s a b : Int32) : TB (sLeave T x s a b).2 := by
  unfold sLeave
  split
  · rename_i c
    split
    · rename_i g
      have hp := rI_lt c.1
      obtain ⟨g1, g2⟩ := lR_1 g
      have k0 := h.2.1 (16 + 3 * rI x) (by omega) (by omega)
      have k1 := h.2.1 (16 + 3 * rI x + 1) (by omega) (by omega)
      have k2 := h.2.1 (16 + 3 * rI x + 2) (by omega) (by omega)
      have m0 := mul_div_le' (x := T (16 + 3 * rI x)) g1
      have m1 := mul_div_le' (x := T (16 + 3 * rI x + 1)) g1
      refine TB.up (TB.up (h.t3 hp (Nat.lt_of_le_of_lt (Nat.sub_le _ _) k0) (Nat.lt_of_le_of_lt (Nat.sub_le _ _) k1) (by omega) (fun h0 => ?_)) (rI_lt c.2.2.1) (by omega)) (rI_lt c.2.2.2) (by omega)
      have h8 := h.2.2 _ hp (by omega)
      rw [Nat.add_zero] at h8
      have n0 := mul_div_lt' (x := T (16 + 3 * rI x)) (s := T (rI s)) (P := T (16 + 3 * rI x + 2)) (by omega) h8.1
      have n1 := mul_div_lt' (x := T (16 + 3 * rI x + 1)) (s := T (rI s)) (P := T (16 + 3 * rI x + 2)) (by omega) h8.2
      exact ⟨by omega, by omega⟩
    · exact h
  · exact h
theorem sSee_TB {T : Nat → Nat} (h : TB T) (x w r : Int32) : TB (sSee T x w r).2 := by
  unfold sSee
  split
  · rename_i c
    have h1 := rI_lt c.1
    have h2 := rI_lt c.2.1
    have := h.2.1 (16 + 3 * rI x + rI w) (by omega) (by omega)
    exact h.up (rI_lt c.2.2) (by omega)
  · exact h
theorem sFee_TB {T : Nat → Nat} (h : TB T) (x p q : Int32) : TB (sFee T x p q).2 := by
  unfold sFee
  split
  · rename_i c; exact h.t3 (rI_lt c.1) (by decide) (by decide) (by decide) (fun q => absurd q (by decide))
  · exact h
theorem fUp_FB {fp fq : Nat → Nat} (h : FB fp fq) (x p q : Int32) : FB (fUp fp x p q p) (fUp fq x p q q) := by
  intro k hk
  unfold fUp
  split
  · rename_i c
    by_cases e : rI x = k
    · subst e
      rw [ups, ups]
      obtain ⟨c1, c2, c3, c4⟩ := c
      unfold rI
      omega
    · rw [upn e, upn e]; exact h k hk
  · exact h k hk
theorem sumW_ge {w : Nat → Nat} {k n : Nat} (h : k < n) : w k ≤ sumW w n := by
  have := sumW_mono w (show k + 1 ≤ n from h)
  have e : sumW w (k + 1) = sumW w k + w k := rfl
  omega
theorem shq_le {S al : Nat} {w : Nat → Nat} {k : Nat} (h : w k ≤ al) : shq S al w k ≤ S := mul_div_le' h
theorem shq_lt {S al : Nat} {w : Nat → Nat} {k : Nat} (h : w k ≤ al) (hl : 0 < shl S al w k) : shq S al w k < S := by
  have h1 := Nat.div_add_mod (S * w k) al
  have h2 := Nat.mul_le_mul_left S h
  have e1 : shq S al w k = S * w k / al := rfl
  have e2 : shl S al w k = S * w k % al := rfl
  rcases Nat.lt_or_ge (shq S al w k) S with q | q
  · exact q
  · have h3 := Nat.mul_le_mul_left al q
    rw [Nat.mul_comm al S, e1] at h3
    omega
theorem hand_TB {f n S al : Nat} (hfn : f + n ≤ 16) (hn : 0 < n) (hS : S < 2 ^ 256) (ha : 0 < al) : ∀ (rem : Nat) (T L : Nat → Nat), TB T → (∀ k, k < n → L k < al) → rem * al ≤ sumW L n → (∀ k, k < n → T (f + k) ≤ S ∧ (0 < L k → T (f + k) < S)) → TB (hand f n rem T L) := by
  intro rem
  induction rem with
  | zero => intro T L h _ _ _; exact h
  | succ rem ih =>
    intro T L h hL hr hb
    rw [Nat.add_mul, Nat.one_mul] at hr
    obtain ⟨k, hk, hk0⟩ := sumW_pos (w := L) (n := n) (by omega)
    obtain ⟨g, hg⟩ : ∃ g, g = gmx L (n - 1) := ⟨_, rfl⟩
    have hgn : g < n := by rw [hg]; have := gmx_le L (n - 1); omega
    have hgp : 0 < L g := by
      have := (gmx_sp L (n - 1)).2 k (by omega)
      rw [← hg] at this
      omega
    have hgs := (hb g hgn).2 hgp
    have hgl := hL g hgn
    have hsu := sumW_up (w := L) (x := 0) hgn
    show TB (hand f n rem (va_up T (f + gmx L (n - 1)) (T (f + gmx L (n - 1)) + 1)) (va_up L (gmx L (n - 1)) 0))
    rw [← hg]
    refine ih _ _ (h.up (by omega) (by omega)) (fun q hq => ?_) (by omega) (fun q hq => ?_)
    · by_cases e : g = q
      · subst e; rw [ups]; exact ha
      · rw [upn e]; exact hL q hq
    · by_cases e : g = q
      · subst e; rw [ups, ups]; exact ⟨by omega, fun h9 => absurd h9 (by decide)⟩
      · rw [upn (by omega), upn e]; exact hb q hq
theorem sShare_TB {T w : Nat → Nat} (h : TB T) (x f n : Int32) : TB (sShare T w x f n).2 := by
  unfold sShare
  split
  · rename_i c
    split
    · exact h
    · rename_i c0
      have hx := rI_lt c.1
      have hf := rI_lt c.2.2.1
      have hfn := c.2.2.2
      have hn : 0 < rI n := by have := c.2.1.1; unfold rI; omega
      have bx := h.1 _ hx
      obtain ⟨h0, h1, h2⟩ := sh_left (S := T (rI x)) (al := sumW w (rI n)) (w := w) (n := rI n) (by omega) rfl hn
      have hq : ∀ k, k < rI n → shq (T (rI x)) (sumW w (rI n)) w k ≤ T (rI x) := fun k hk => shq_le (sumW_ge hk)
      refine hand_TB (al := sumW w (rI n)) hfn hn bx (by omega) _ _ _ ?_ (fun k _ => Nat.mod_lt _ (by omega)) (by rw [h1]; exact Nat.le_refl _) (fun k hk => ?_)
      · have hT : ∀ m, m ≤ rI n → TB (shT T (rI f) m (shq (T (rI x)) (sumW w (rI n)) w)) := by
          intro m
          induction m with
          | zero => intro _; rw [shT_0]; exact h
          | succ m ih =>
            intro hm
            rw [shT_s]
            have := hq m (by omega)
            exact (ih (by omega)).up (by omega) (by omega)
        exact hT _ (Nat.le_refl _)
      · have e : shT T (rI f) (rI n) (shq (T (rI x)) (sumW w (rI n)) w) (rI f + k) = shq (T (rI x)) (sumW w (rI n)) w k := by
          unfold shT
          rw [if_pos (by omega), show rI f + k - rI f = k by omega]
        rw [e]
        exact ⟨hq k hk, fun h9 => shq_lt (sumW_ge hk) h9⟩
  · exact h
/-- one act of a row -/
def sAct (T fp fq : Nat → Nat) (t r a b : Int32) : sR :=
  if t = 0 then sAdd T r a b else if t = 1 then sTake T r a b else if t = 2 then sGive T fp fq b (r &&& 1) a r else if t = 3 then sTimes T r a b.toInt64 2 2 else sDiv T r a b
theorem sAct_TB {T fp fq : Nat → Nat} (h : TB T) (hF : FB fp fq) (t r a b : Int32) : TB (sAct T fp fq t r a b).2 := by
  unfold sAct
  split
  · exact sAdd_TB h _ _ _
  · split
    · exact sTake_TB h _ _ _
    · split
      · exact sGive_TB h hF _ _ _ _
      · split
        · exact sTimes_TB h _ _ _ _ _
        · exact sDiv_TB h _ _ _
/-- what an act may answer -/
abbrev actA (x : Int32) : Prop := x = 1 ∨ x = -1 ∨ x = -2 ∨ x = -3 ∨ x = -4 ∨ x = -5
theorem sKeep_A {T : Nat → Nat} {k v : Nat} : (sKeep T k v).1 = 1 ∨ (sKeep T k v).1 = -2 := by
  unfold sKeep
  split
  · exact Or.inl rfl
  · exact Or.inr rfl
theorem sAdd_A {T : Nat → Nat} {x y z : Int32} : (sAdd T x y z).1 = 1 ∨ (sAdd T x y z).1 = -1 ∨ (sAdd T x y z).1 = -2 := by
  unfold sAdd
  split
  · rcases sKeep_A (T := T) (k := rI x) (v := T (rI y) + T (rI z)) with h | h
    · exact Or.inl h
    · exact Or.inr (Or.inr h)
  · exact Or.inr (Or.inl rfl)
theorem sTake_A {T : Nat → Nat} {x y z : Int32} : (sTake T x y z).1 = 1 ∨ (sTake T x y z).1 = -1 ∨ (sTake T x y z).1 = -3 := by
  unfold sTake
  split
  · split
    · exact Or.inr (Or.inr rfl)
    · exact Or.inl rfl
  · exact Or.inr (Or.inl rfl)
theorem gR_A {x y P p q d : Nat} : gR x y P p q d = 1 ∨ gR x y P p q d = -2 ∨ gR x y P p q d = -4 := by
  unfold gR
  split
  · split
    · exact Or.inr (Or.inr rfl)
    · split
      · exact Or.inr (Or.inr rfl)
      · exact Or.inl rfl
  · exact Or.inr (Or.inl rfl)
theorem sGive_A {T fp fq : Nat → Nat} {x d a r : Int32} : (sGive T fp fq x d a r).1 = 1 ∨ (sGive T fp fq x d a r).1 = -1 ∨ (sGive T fp fq x d a r).1 = -2 ∨ (sGive T fp fq x d a r).1 = -4 := by
  unfold sGive
  split
  · split
    · exact Or.inl rfl
    · rcases gR_A (x := T (16 + 3 * rI x + rI d)) (y := T (16 + 3 * rI x + (1 - rI d))) (P := T (16 + 3 * rI x + 2)) (p := fp (rI x)) (q := fq (rI x)) (d := T (rI a)) with h | h | h
      · exact Or.inl h
      · exact Or.inr (Or.inr (Or.inl h))
      · exact Or.inr (Or.inr (Or.inr h))
  · exact Or.inr (Or.inl rfl)
theorem sTimes_A {T : Nat → Nat} {x y : Int32} {a b : Int64} {w : Int32} : actA (sTimes T x y a b w).1 := by
  unfold sTimes
  split
  · split
    · exact Or.inr (Or.inr (Or.inr (Or.inr (Or.inr rfl))))
    · rcases sKeep_A (T := T) (k := rI x) (v := rnd (rI w) (T (rI y) * a.toInt.toNat) b.toInt.toNat) with h | h
      · exact Or.inl h
      · exact Or.inr (Or.inr (Or.inl h))
  · exact Or.inr (Or.inl rfl)
theorem sDiv_A {T : Nat → Nat} {x y z : Int32} : actA (sDiv T x y z).1 := by
  unfold sDiv
  split
  · split
    · exact Or.inr (Or.inr (Or.inr (Or.inr (Or.inr rfl))))
    · exact Or.inl rfl
  · exact Or.inr (Or.inl rfl)
theorem sAct_A {T fp fq : Nat → Nat} {t r a b : Int32} : actA (sAct T fp fq t r a b).1 := by
  unfold sAct actA
  split
  · rcases sAdd_A (T := T) (x := r) (y := a) (z := b) with h | h | h
    · exact Or.inl h
    · exact Or.inr (Or.inl h)
    · exact Or.inr (Or.inr (Or.inl h))
  · split
    · rcases sTake_A (T := T) (x := r) (y := a) (z := b) with h | h | h
      · exact Or.inl h
      · exact Or.inr (Or.inl h)
      · exact Or.inr (Or.inr (Or.inr (Or.inl h)))
    · split
      · rcases sGive_A (T := T) (fp := fp) (fq := fq) (x := b) (d := r &&& 1) (a := a) (r := r) with h | h | h | h
        · exact Or.inl h
        · exact Or.inr (Or.inl h)
        · exact Or.inr (Or.inr (Or.inl h))
        · exact Or.inr (Or.inr (Or.inr (Or.inr (Or.inl h))))
      · split
        · exact sTimes_A
        · exact sDiv_A
/-- a row of acts, from act k on, from T: answer, numbers, how many were begun, what failed -/
def sRow (fp fq : Nat → Nat) (T0 : Nat → Nat) (g : Nat → Int32 × Int32 × Int32 × Int32) (n : Nat) : Nat → Nat → (Nat → Nat) → Int32 → Int32 × (Nat → Nat) × Int32 × Int32
  | 0, _, T, c => (nI n, T, c, 0)
  | m + 1, k, T, c => if (sAct T fp fq (g k).1 (g k).2.1 (g k).2.2.1 (g k).2.2.2).1 = 1 then sRow fp fq T0 g n m (k + 1) (sAct T fp fq (g k).1 (g k).2.1 (g k).2.2.1 (g k).2.2.2).2 (c + 1) else (iz (-10 - (k : Int)), T0, c + 1, if (sAct T fp fq (g k).1 (g k).2.1 (g k).2.2.1 (g k).2.2.2).1 = -5 then 1 else (sAct T fp fq (g k).1 (g k).2.1 (g k).2.2.1 (g k).2.2.2).1)
theorem sRow_TB {fp fq T0 : Nat → Nat} {g : Nat → Int32 × Int32 × Int32 × Int32} {n : Nat} (h0 : TB T0) (hF : FB fp fq) : ∀ (m k : Nat) (T : Nat → Nat) (c : Int32), TB T → TB (sRow fp fq T0 g n m k T c).2.1 := by
  intro m
  induction m with
  | zero => intro k T c h; exact h
  | succ m ih =>
    intro k T c h
    unfold sRow
    split
    · exact ih _ _ _ (sAct_TB h hF _ _ _ _)
    · exact h0
