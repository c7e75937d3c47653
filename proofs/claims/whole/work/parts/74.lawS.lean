/-! ===== what stays true between the law's rounds ===== -/
def LNq (V U : Nat → Nat) : Prop := ∃ T, RC V T ∧ RM U T ∧ TB T
def LFq (sc : Nat → Int32) (ia : Nat → Nat → Int32) : Prop := ∃ fp fq, FC sc fp fq ∧ FM ia fp fq ∧ FB fp fq
def LWq (la : Nat → Nat → Int64) : Prop := ∃ w, WL (la 159) w ∧ WL (la 176) w ∧ WB w
def LUq (sc : Nat → Int32) : Prop := ∃ u, u ≤ 12 ∧ sc 1 = nI u ∧ sc 31 = nI u
def LPq (sc : Nat → Int32) (ia : Nat → Nat → Int32) : Prop := ∃ n, n ≤ 120 ∧ sc 20 = nI n ∧ sc 32 = nI n ∧ ∀ i, i < n → ia 158 i = ia 179 i
def LOq (sc : Nat → Int32) (ia : Nat → Nat → Int32) : Prop := ∃ n, n ≤ 120 ∧ sc 11 = nI n ∧ sc 34 = nI n ∧ ∀ i, i < n → ia 154 i = ia 180 i
def LRq (sc : Nat → Int32) (ia : Nat → Nat → Int32) : Prop := ∃ n, n ≤ 12 ∧ sc 0 = nI n ∧ sc 35 = nI n ∧ ∀ k, k < n → ia (162 + k) 0 = ia 181 k ∧ ia (162 + k) 1 = ia 182 k ∧ ia (162 + k) 2 = ia 183 k ∧ ia (162 + k) 3 = ia 184 k
def LSq (sc : Nat → Int32) : Prop := sc 2 = sc 33 ∧ sc 3 = sc 36 ∧ sc 4 = sc 37
def LIq (V U : Nat → Nat) (sc : Nat → Int32) (ia : Nat → Nat → Int32) (la : Nat → Nat → Int64) : Prop := LNq V U ∧ LFq sc ia ∧ LWq la ∧ LUq sc ∧ LPq sc ia ∧ LOq sc ia ∧ LRq sc ia ∧ LSq sc
section LTO
variable {sc sc' : Nat → Int32} {ia ia' : Nat → Nat → Int32} {la la' : Nat → Nat → Int64}
theorem FC.to {fp fq : Nat → Nat} (h : FC sc fp fq) (hs : ∀ k, 200 ≤ k → sc' k = sc k) : FC sc' fp fq := fun p hp => by
  rw [hs _ (by omega), hs _ (by omega)]
  exact h p hp
theorem FM.to {fp fq : Nat → Nat} (h : FM ia fp fq) (h1 : ia' 177 = ia 177) (h2 : ia' 178 = ia 178) : FM ia' fp fq := fun p hp => by
  rw [h1, h2]
  exact h p hp
theorem LFq.to (h : LFq sc ia) (hs : ∀ k, 200 ≤ k → sc' k = sc k) (h1 : ia' 177 = ia 177) (h2 : ia' 178 = ia 178) : LFq sc' ia' := by
  obtain ⟨fp, fq, a, b, c⟩ := h
  exact ⟨fp, fq, a.to hs, b.to h1 h2, c⟩
theorem LWq.to (h : LWq la) (h1 : la' 159 = la 159) (h2 : la' 176 = la 176) : LWq la' := by
  unfold LWq
  rw [h1, h2]
  exact h
theorem LUq.to (h : LUq sc) (h1 : sc' 1 = sc 1) (h2 : sc' 31 = sc 31) : LUq sc' := by
  unfold LUq
  rw [h1, h2]
  exact h
theorem LPq.to (h : LPq sc ia) (h1 : sc' 20 = sc 20) (h2 : sc' 32 = sc 32) (h3 : ia' 158 = ia 158) (h4 : ia' 179 = ia 179) : LPq sc' ia' := by
  unfold LPq
  rw [h1, h2, h3, h4]
  exact h
theorem LOq.to (h : LOq sc ia) (h1 : sc' 11 = sc 11) (h2 : sc' 34 = sc 34) (h3 : ia' 154 = ia 154) (h4 : ia' 180 = ia 180) : LOq sc' ia' := by
  unfold LOq
  rw [h1, h2, h3, h4]
  exact h
theorem LRq.to (h : LRq sc ia) (h1 : sc' 0 = sc 0) (h2 : sc' 35 = sc 35) (hi : ∀ k, k < 12 → ia' (162 + k) = ia (162 + k)) (h3 : ia' 181 = ia 181) (h4 : ia' 182 = ia 182) (h5 : ia' 183 = ia 183) (h6 : ia' 184 = ia 184) : LRq sc' ia' := by
  obtain ⟨n, a, b, c, d⟩ := h
  refine ⟨n, a, h1.trans b, h2.trans c, fun k hk => ?_⟩
  rw [hi k (by omega), h3, h4, h5, h6]
  exact d k hk
theorem LSq.to (h : LSq sc) (h1 : sc' 2 = sc 2) (h2 : sc' 33 = sc 33) (h3 : sc' 3 = sc 3) (h4 : sc' 36 = sc 36) (h5 : sc' 4 = sc 4) (h6 : sc' 37 = sc 37) : LSq sc' := by
  unfold LSq
  rw [h1, h2, h3, h4, h5, h6]
  exact h
end LTO
theorem LI_0 : LIq (fun _ => 0) (fun _ => 0) sc0 ia0 (fun _ _ => 0) := by
  refine ⟨⟨fun _ => 0, fun _ _ => rfl, fun _ _ => rfl, ⟨fun _ _ => (by decide : (0 : Nat) < 2 ^ 256), fun _ _ _ => (by decide : (0 : Nat) < 2 ^ 100), fun _ _ h => absurd h (Nat.lt_irrefl 0)⟩⟩, ⟨fun _ => 0, fun _ => 1, fun p hp => ?_, fun p hp => ?_, fun _ _ => ⟨(by decide : (0 : Nat) < 1), (by decide : (1 : Nat) ≤ 1000000)⟩⟩, ⟨fun _ => 0, fun _ _ => rfl, fun _ _ => rfl, fun _ _ => Nat.zero_le _⟩, ⟨2, by decide, rfl, rfl⟩, ⟨0, by decide, rfl, rfl, fun i h => absurd h (by omega)⟩, ⟨0, by decide, rfl, rfl, fun i h => absurd h (by omega)⟩, ⟨0, by decide, rfl, rfl, fun i h => absurd h (by omega)⟩, ⟨rfl, rfl, rfl⟩⟩
  · match p, hp with
    | 0, _ => exact ⟨rfl, rfl⟩
    | 1, _ => exact ⟨rfl, rfl⟩
    | 2, _ => exact ⟨rfl, rfl⟩
    | 3, _ => exact ⟨rfl, rfl⟩
    | n + 4, h => exact absurd h (by omega)
  · match p, hp with
    | 0, _ => exact ⟨rfl, rfl⟩
    | 1, _ => exact ⟨rfl, rfl⟩
    | 2, _ => exact ⟨rfl, rfl⟩
    | 3, _ => exact ⟨rfl, rfl⟩
    | n + 4, h => exact absurd h (by omega)
/-! ===== rows of the law: the script, the switch, the end ===== -/
def LG (x y : Int32) : Int64 := (x.toInt64 <<< ((nI 32).toInt64 &&& 63)) ||| (y.toInt64 &&& 4294967295)
/-- the script of L ints at b, ahead of all that is made -/
def xSc : xk → Nat → Nat → (Nat → Int32) → Prop
  | (_, _, _, _, s, _, _, _, _, _, A, H0, _, _, _, _), b, L, xs => va_X b L xs s H0 ∧ b < H0.size ∧ ¬ A b ∧ L ≤ 4096
section LRW
variable {z : xk} {w : va_W} {cc : ByteArray} {own : String} {nl : Nat} {cs ss : Nat} {pc : Nat} {lv : List (Nat × Value)} {rest : List Value} {b L : Nat} {xs : Nat → Int32}
theorem k_sld (C : xC z cc own nl) (S : xSc z b L xs) {j : Int32} (k : Nat) (hj : j = nI k) (hk : k < L) (hdg : decode cc pc = .ok (.iaload, 1)) (kk : xK z w cs ss (pc + 1) lv (.int (xs k) :: rest)) : xK z w cs ss pc lv (.int j :: .ref b :: rest) := by
  obtain ⟨p, l, e, R, s, m, args, below, meth, c, A, H0, D, tys, nL, Q⟩ := z
  obtain ⟨hx, hb, hml, hown, hts, hN, hK, hA, hn0⟩ := C
  obtain ⟨S1, S2, S3, S4⟩ := S
  subst hj
  intro H locs ls hP hD hS hl0
  refine va_sld hx hb S1 S2 S3 hS (vp_in_nI hk (by omega)) hdg ?_
  rw [nI_clamp (by omega)]
  exact kk H locs ls hP hD hS hl0
theorem k_slen (C : xC z cc own nl) (S : xSc z b L xs) (hdg : decode cc pc = .ok (.arraylength, 1)) (kk : xK z w cs ss (pc + 1) lv (.int (nI L) :: rest)) : xK z w cs ss pc lv (.ref b :: rest) := by
  obtain ⟨p, l, e, R, s, m, args, below, meth, c, A, H0, D, tys, nL, Q⟩ := z
  obtain ⟨hx, hb, hml, hown, hts, hN, hK, hA, hn0⟩ := C
  obtain ⟨S1, S2, S3, S4⟩ := S
  exact fun H locs ls hP hD hS hl0 => va_slen hx hb S1 S2 S3 hS hdg (kk H locs ls hP hD hS hl0)
theorem k_tabI (C : xC z cc own nl) {dflt lo hi : Int} {offs : Array Int} {len : Nat} {x : Int32} {off : Int} {tgt : Nat} (hdg : decode cc pc = .ok (.tableswitch dflt lo hi offs, len)) (h1 : ¬ x.toInt < lo) (h2 : ¬ hi < x.toInt) (ho : offs[(x.toInt - lo).toNat]? = some off) (ht : (pc : Int) + off = (tgt : Int)) (kk : xK z w cs ss tgt lv rest) : xK z w cs ss pc lv (.int x :: rest) := by
  obtain ⟨p, l, e, R, s, m, args, below, meth, c, A, H0, D, tys, nL, Q⟩ := z
  obtain ⟨hx, hb, hml, hown, hts, hN, hK, hA, hn0⟩ := C
  exact fun H locs ls hP hD hS hl0 => lv_tableIn hx hb hdg h1 h2 ho ht (kk H locs ls hP hD hS hl0)
theorem k_tabO (C : xC z cc own nl) {dflt lo hi : Int} {offs : Array Int} {len : Nat} {x : Int32} {tgt : Nat} (hdg : decode cc pc = .ok (.tableswitch dflt lo hi offs, len)) (h : x.toInt < lo ∨ hi < x.toInt) (ht : (pc : Int) + dflt = (tgt : Int)) (kk : xK z w cs ss tgt lv rest) : xK z w cs ss pc lv (.int x :: rest) := by
  obtain ⟨p, l, e, R, s, m, args, below, meth, c, A, H0, D, tys, nL, Q⟩ := z
  obtain ⟨hx, hb, hml, hown, hts, hN, hK, hA, hn0⟩ := C
  exact fun H locs ls hP hD hS hl0 => lv_tableOut hx hb hdg h ht (kk H locs ls hP hD hS hl0)
theorem k_lvs {lv' : List (Nat × Value)} (h : ∀ q ∈ lv', q ∈ lv) (kk : xK z w cs ss pc lv' rest) : xK z w cs ss pc lv rest := by
  obtain ⟨p, l, e, R, s, m, args, below, meth, c, A, H0, D, tys, nL, Q⟩ := z
  exact fun H locs ls hP hD hS hl0 => kk H locs ls hP hD hS ⟨hl0.1, hl0.2.1, fun q hq => hl0.2.2 q (h q hq)⟩
variable {it : Nat}
theorem k_arg (C : xC z cc own nl) (S : xSc z b L xs) (j p0 p4 : Nat) (h0 : lv[p0]? = some (0, .ref b)) (h4 : lv[p4]? = some (4, .int (nI (8 * it)))) (hj : 8 * it + j < L) {n : Int} (d0 : decode cc pc = .ok (.aload_n 0, 1)) (d1 : decode cc (pc + 1) = .ok (.iload 4, 2)) (d3 : decode cc (pc + 1 + 2) = .ok (.iconst n, 1)) (hn : Int32.ofInt n = nI j) (d4 : decode cc (pc + 1 + 2 + 1) = .ok (.iadd, 1)) (d5 : decode cc (pc + 1 + 2 + 1 + 1) = .ok (.iaload, 1)) (kk : xK z w cs ss (pc + 1 + 2 + 1 + 1 + 1) lv (.int (xs (8 * it + j)) :: rest)) : xK z w cs ss pc lv rest := by
  refine k_aload_n C d0 rfl p0 h0 ?_
  refine k_iload C d1 p4 h4 ?_
  refine k_iconst C d3 hn ?_
  refine k_iadd C d4 ?_
  exact k_sld C S (8 * it + j) (nI_add _ _) hj d5 kk
theorem k_argb (C : xC z cc own nl) (S : xSc z b L xs) (j p0 p4 : Nat) (h0 : lv[p0]? = some (0, .ref b)) (h4 : lv[p4]? = some (4, .int (nI (8 * it)))) (hj : 8 * it + j < L) {n : Int} (d0 : decode cc pc = .ok (.aload_n 0, 1)) (d1 : decode cc (pc + 1) = .ok (.iload 4, 2)) (d3 : decode cc (pc + 1 + 2) = .ok (.bipush n, 2)) (hn : (Int8.ofInt n).toInt32 = nI j) (d4 : decode cc (pc + 1 + 2 + 2) = .ok (.iadd, 1)) (d5 : decode cc (pc + 1 + 2 + 2 + 1) = .ok (.iaload, 1)) (kk : xK z w cs ss (pc + 1 + 2 + 2 + 1 + 1) lv (.int (xs (8 * it + j)) :: rest)) : xK z w cs ss pc lv rest := by
  refine k_aload_n C d0 rfl p0 h0 ?_
  refine k_iload C d1 p4 h4 ?_
  refine k_bipush C d3 hn ?_
  refine k_iadd C d4 ?_
  exact k_sld C S (8 * it + j) (nI_add _ _) hj d5 kk
end LRW
theorem lg_cmp0 (x : Int64) : lg_cmp x x = 0 := by
  unfold lg_cmp
  simp
