/-! ===== what a state says: 28 numbers (16 registers; sides and PARTS of 4 pools), and what calls do to them ===== -/
def idc (k : Nat) : Nat := if k < 16 then 4 + 2 * k else 38 + 8 * ((k - 16) / 3) + 2 * ((k - 16) % 3)
theorem idc_r {k : Nat} (h : k < 16) : idc k = 4 + 2 * k := if_pos h
theorem idc_p {p s : Nat} (hs : s < 3) : idc (16 + 3 * p + s) = 38 + 8 * p + 2 * s := by
  unfold idc
  rw [if_neg (by omega), show (16 + 3 * p + s - 16) / 3 = p by omega, show (16 + 3 * p + s - 16) % 3 = s by omega]
theorem idc_lt {k : Nat} (h : k < 28) : idc k < 68 := by unfold idc; split <;> omega
theorem idc_inj {j k : Nat} (hj : j < 28) (hk : k < 28) (h : idc j = idc k) : j = k := by
  unfold idc at h
  split at h <;> split at h <;> omega
theorem wR {k : Nat} (h : k < 16) : isW (4 + 2 * k) := by unfold isW; omega
theorem wP {p s : Nat} (h : p < 4) (hs : s < 3) : isW (38 + 8 * p + 2 * s) := by unfold isW; omega
/-- the class's side, the model's side -/
def RC (V T : Nat → Nat) : Prop := ∀ k, k < 28 → V (idc k) = T k
def RM (U T : Nat → Nat) : Prop := ∀ k, k < 28 → U k = T k
theorem RC.r {V T : Nat → Nat} (h : RC V T) {k : Nat} (hk : k < 16) : V (4 + 2 * k) = T k := by rw [← idc_r hk]; exact h k (by omega)
theorem RC.p {V T : Nat → Nat} (h : RC V T) {p s : Nat} (hp : p < 4) (hs : s < 3) : V (38 + 8 * p + 2 * s) = T (16 + 3 * p + s) := by rw [← idc_p hs]; exact h _ (by omega)
theorem RC.o {V V' T : Nat → Nat} (h : RC V T) (f : ∀ k, k < 68 → V' k = V k) : RC V' T := fun k hk => by rw [f _ (idc_lt hk)]; exact h k hk
theorem RC.up {V T : Nat → Nat} (h : RC V T) {k v : Nat} (hk : k < 28) : RC (va_up V (idc k) v) (va_up T k v) := by
  intro j hj
  by_cases e : j = k
  · subst e; rw [ups, ups]
  · rw [upn (fun q => e (idc_inj hj hk q.symm)), upn (Ne.symm e)]; exact h j hj
theorem RC.upr {V T : Nat → Nat} (h : RC V T) {k v : Nat} (hk : k < 16) : RC (va_up V (4 + 2 * k) v) (va_up T k v) := by
  rw [← idc_r hk]; exact h.up (by omega)
theorem RC.upp {V T : Nat → Nat} (h : RC V T) {p s v : Nat} (hp : p < 4) (hs : s < 3) : RC (va_up V (38 + 8 * p + 2 * s) v) (va_up T (16 + 3 * p + s) v) := by
  rw [← idc_p hs]; exact h.up (by omega)
theorem RM.up {U T : Nat → Nat} (h : RM U T) {k v : Nat} : RM (va_up U k v) (va_up T k v) := by
  intro j hj
  by_cases e : j = k
  · subst e; rw [ups, ups]
  · rw [upn (Ne.symm e), upn (Ne.symm e)]; exact h j hj
theorem RM.o {U U' T : Nat → Nat} (h : RM U T) (f : ∀ k, k < 28 → U' k = U k) : RM U' T := fun k hk => by rw [f k hk]; exact h k hk
/-- what stays true of the numbers -/
def TB (T : Nat → Nat) : Prop := (∀ r, r < 16 → T r < 2 ^ 256) ∧ (∀ k, 16 ≤ k → k < 28 → T k < 2 ^ 100) ∧ ∀ p, p < 4 → 0 < T (16 + 3 * p + 2) → 0 < T (16 + 3 * p + 0) ∧ 0 < T (16 + 3 * p + 1)
def rI (x : Int32) : Nat := x.toInt.toNat
theorem rI_n {k : Nat} (h : k < 2147483648) : rI (nI k) = k := by unfold rI; rw [nI_toInt h]; rfl
theorem inR_t {k n : Nat} (hk : k < 2147483648) (h : k < n) : inR (nI k) n := by rw [inR_nI hk]; exact h
theorem TB.up {T : Nat → Nat} (h : TB T) {k v : Nat} (hk : k < 16) (hv : v < 2 ^ 256) : TB (va_up T k v) := by
  refine ⟨fun r hr => ?_, fun j h1 h2 => ?_, fun p hp => ?_⟩
  · by_cases e : k = r
    · subst e; rw [ups]; exact hv
    · rw [upn e]; exact h.1 r hr
  · rw [upn (by omega)]; exact h.2.1 j h1 h2
  · rw [upn (by omega), upn (by omega), upn (by omega)]; exact h.2.2 p hp
abbrev sR : Type := Int32 × (Nat → Nat)
abbrev ok3 (x y z : Int32) : Prop := inR x 16 ∧ inR y 16 ∧ inR z 16
/-- kept as register k, if it is below 2^256 -/
def sKeep (T : Nat → Nat) (k v : Nat) : sR := if v < 2 ^ 256 then (1, va_up T k v) else (-2, T)
def sPut (T : Nat → Nat) (x : Int32) (v : Int64) : sR := if inR x 16 ∧ 0 ≤ v.toInt then (1, va_up T (rI x) v.toInt.toNat) else (-1, T)
def sMore (T : Nat → Nat) (x v : Int32) : sR := if inR x 16 then sKeep T (rI x) (T (rI x) * 4294967296 + v.toBitVec.toNat) else (-1, T)
def sLimb (T : Nat → Nat) (x i : Int32) : Int64 := if inR x 16 ∧ inR i 8 then lN (T (rI x) / 4294967296 ^ rI i % 4294967296) else -1
def sAdd (T : Nat → Nat) (x y z : Int32) : sR := if ok3 x y z then sKeep T (rI x) (T (rI y) + T (rI z)) else (-1, T)
def sTake (T : Nat → Nat) (x y z : Int32) : sR := if ok3 x y z then (if T (rI y) < T (rI z) then (-3, T) else (1, va_up T (rI x) (T (rI y) - T (rI z)))) else (-1, T)
def rnd (w n d : Nat) : Nat := n / d + if gU w (n / d) (n % d) d = true then 1 else 0
def sTimes (T : Nat → Nat) (x y : Int32) (a b : Int64) (w : Int32) : sR := if inR x 16 ∧ inR y 16 ∧ inR w 5 ∧ 0 ≤ a.toInt ∧ 0 ≤ b.toInt then (if b.toInt = 0 then (-5, T) else sKeep T (rI x) (rnd (rI w) (T (rI y) * a.toInt.toNat) b.toInt.toNat)) else (-1, T)
def sRound (T : Nat → Nat) (x y u w : Int32) : sR := if inR x 16 ∧ inR y 16 ∧ inR u 19 ∧ inR w 5 then sKeep T (rI x) (rnd (rI w) (T (rI y)) (10 ^ rI u) * 10 ^ rI u) else (-1, T)
def sDiv (T : Nat → Nat) (x y z : Int32) : sR := if ok3 x y z then (if T (rI z) = 0 then (-5, T) else (1, va_up T (rI x) (T (rI y) / T (rI z)))) else (-1, T)
def sOrder (T : Nat → Nat) (x y : Int32) : Int32 := if inR x 16 ∧ inR y 16 then 1 + cmpN (T (rI x)) (T (rI y)) else -1
