/-! ===== arrays, by the cells' numbers ===== -/
def xty (ca : Nat → ClassId) : List (ClassId × FieldType) := [(ca 0, .int), (ca 1, .long), (ca 2, .object "ExactMoney$Wide"), (ca 3, .object "ExactMoney$Pool"), (ca 4, .array .int)]
section XA
variable {z : xk} {cc : ByteArray} {own : String} {nl : Nat} {cs ss : Nat} {pc : Nat} {lv : List (Nat × Value)} {rest : List Value}
variable {l : Launch} {rm : Room} {D : va_G} {nm : String} {postz : Option Value → va_W → Prop} {mcz msz : Nat} {rt : Option FieldType}
variable {ad : Nat → Nat} {M : Nat → va_E} {n : Nat} {ca : Nat → ClassId}
theorem k_iald (C : xC z cc own nl) (E : xE z l rm D (xty ca) rt nm postz mcz msz) (i : Nat) (hi : i < n) {len : Nat} {f : Nat → Int32} (he : M i = .inl (ca 0, len, .inl f)) {j : Int32} (k : Nat) (hj : j = nI k) (hk : k < len) (hlen : len < 2 ^ 31) (hdg : decode cc pc = .ok (.iaload, 1)) (kk : xK z (xw ad M n) cs ss (pc + 1) lv (.int (f k) :: rest)) : xK z (xw ad M n) cs ss pc lv (.int j :: .ref (ad i) :: rest) := by
  obtain ⟨p, l, e, R, s, m, args, below, meth, c, A, H0, D, tys, nL, Q⟩ := z
  obtain ⟨hx, hb, hml, hown, hts, hN, hK, hA, hn0⟩ := C
  obtain ⟨rfl, rfl, rfl, rfl, -⟩ := E
  subst hj
  intro H locs ls hP hD hS hl0
  refine va_iald hx hb hK hP i 0 (xw_at hi he) rfl (vp_in_nI hk hlen) hdg ?_
  rw [nI_clamp (Nat.lt_trans hk hlen)]
  exact kk H locs ls hP hD hS hl0
theorem k_lald (C : xC z cc own nl) (E : xE z l rm D (xty ca) rt nm postz mcz msz) (i : Nat) (hi : i < n) {len : Nat} {f : Nat → Int64} (he : M i = .inl (ca 1, len, .inr (.inl f))) {j : Int32} (k : Nat) (hj : j = nI k) (hk : k < len) (hlen : len < 2 ^ 31) (hdg : decode cc pc = .ok (.laload, 1)) (kk : xK z (xw ad M n) cs ss (pc + 1) lv (.long (f k) :: rest)) : xK z (xw ad M n) cs ss pc lv (.int j :: .ref (ad i) :: rest) := by
  obtain ⟨p, l, e, R, s, m, args, below, meth, c, A, H0, D, tys, nL, Q⟩ := z
  obtain ⟨hx, hb, hml, hown, hts, hN, hK, hA, hn0⟩ := C
  obtain ⟨rfl, rfl, rfl, rfl, -⟩ := E
  subst hj
  intro H locs ls hP hD hS hl0
  refine va_lald hx hb hK hP i 1 (xw_at hi he) rfl (vp_in_nI hk hlen) hdg ?_
  rw [nI_clamp (Nat.lt_trans hk hlen)]
  exact kk H locs ls hP hD hS hl0
theorem k_iast (C : xC z cc own nl) (E : xE z l rm D (xty ca) rt nm postz mcz msz) (i : Nat) (hi : i < n) {len : Nat} {f : Nat → Int32} (he : M i = .inl (ca 0, len, .inl f)) {j : Int32} (k : Nat) (hj : j = nI k) (hk : k < len) (hlen : len < 2 ^ 31) {x : Int32} (hdg : decode cc pc = .ok (.iastore, 1)) (kk : xK z (xw ad (va_up M i (.inl (ca 0, len, .inl (upd f k x)))) n) cs ss (pc + 1) lv rest) : xK z (xw ad M n) cs ss pc lv (.int x :: .int j :: .ref (ad i) :: rest) := by
  obtain ⟨p, l, e, R, s, m, args, below, meth, c, A, H0, D, tys, nL, Q⟩ := z
  obtain ⟨hx, hb, hml, hown, hts, hN, hK, hA, hn0⟩ := C
  obtain ⟨rfl, rfl, rfl, rfl, -⟩ := E
  subst hj
  intro H locs ls hP hD hS hl0
  refine va_iast hx hb hK hP hD hS i 0 (xw_at hi he) rfl (vp_in_nI hk hlen) hdg (fun H1 locs1 hP1 hD1 hS1 => ?_)
  rw [nI_clamp (Nat.lt_trans hk hlen), xw_set] at hP1 hD1
  exact kk H1 locs1 ls hP1 hD1 hS1 hl0
theorem k_last (C : xC z cc own nl) (E : xE z l rm D (xty ca) rt nm postz mcz msz) (i : Nat) (hi : i < n) {len : Nat} {f : Nat → Int64} (he : M i = .inl (ca 1, len, .inr (.inl f))) {j : Int32} (k : Nat) (hj : j = nI k) (hk : k < len) (hlen : len < 2 ^ 31) {x : Int64} (hdg : decode cc pc = .ok (.lastore, 1)) (kk : xK z (xw ad (va_up M i (.inl (ca 1, len, .inr (.inl (vp_updL f k x))))) n) cs ss (pc + 1) lv rest) : xK z (xw ad M n) cs ss pc lv (.long x :: .int j :: .ref (ad i) :: rest) := by
  obtain ⟨p, l, e, R, s, m, args, below, meth, c, A, H0, D, tys, nL, Q⟩ := z
  obtain ⟨hx, hb, hml, hown, hts, hN, hK, hA, hn0⟩ := C
  obtain ⟨rfl, rfl, rfl, rfl, -⟩ := E
  subst hj
  intro H locs ls hP hD hS hl0
  refine va_last hx hb hK hP hD hS i 1 (xw_at hi he) rfl (vp_in_nI hk hlen) hdg (fun H1 locs1 hP1 hD1 hS1 => ?_)
  rw [nI_clamp (Nat.lt_trans hk hlen), xw_set] at hP1 hD1
  exact kk H1 locs1 ls hP1 hD1 hS1 hl0
theorem k_aald (C : xC z cc own nl) (E : xE z l rm D (xty ca) rt nm postz mcz msz) (i : Nat) (hi : i < n) (t0 : Nat) {cA : ClassId} {ty : FieldType} (ht : (xty ca)[t0]? = some (cA, ty)) (hty : ty.isReference = true) {len : Nat} {f : Nat → Option Nat} (he : M i = .inl (cA, len, .inr (.inr (.inr (.inr f))))) {j : Int32} (k : Nat) (hj : j = nI k) (hk : k < len) (hlen : len < 2 ^ 31) (q : Nat) (hf : f k = some (ad q)) (hdg : decode cc pc = .ok (.aaload, 1)) (kk : xK z (xw ad M n) cs ss (pc + 1) lv (.ref (ad q) :: rest)) : xK z (xw ad M n) cs ss pc lv (.int j :: .ref (ad i) :: rest) := by
  obtain ⟨p, l, e, R, s, m, args, below, meth, c, A, H0, D, tys, nL, Q⟩ := z
  obtain ⟨hx, hb, hml, hown, hts, hN, hK, hA, hn0⟩ := C
  obtain ⟨rfl, rfl, rfl, rfl, -⟩ := E
  subst hj
  intro H locs ls hP hD hS hl0
  have hin := vp_in_nI hk hlen
  have hcl := nI_clamp (Nat.lt_trans hk hlen)
  have hlt : (nI k).toNatClampNeg < len := by rw [hcl]; exact hk
  exact W.aald (v := .ref (ad q)) (ty := ty) hx hb (hP i _ (xw_at hi he)) ((hK.2 t0 _ ht).1 len (fun j => va_rf (f j))) hty (fun q => by cases q) (by show ¬ (nI k < 0 ∨ (arrV _ _ _).slots.size ≤ _); rw [arrV_size]; exact hin) (by show (arrV _ _ _).slots[_]? = _; rw [arrV_read _ _ hlt, hcl, hf]; rfl) rfl rfl hdg (kk H locs ls hP hD hS hl0)
/-- System.arraycopy of whole int rows, from one cell to another -/
theorem k_copyi (C : xC z cc own nl) (E : xE z l rm D (xty ca) rt nm postz mcz msz) {index : Nat} (h1 : Cond.methodLink own index arraycopyName ∈ xa_W) (h2 : Cond.native arraycopyName ∈ xa_W) (h3 : Cond.static arraycopyName ∈ xa_W) (h4 : Cond.initialized "java/lang/System" ∈ xa_W) (i i0 : Nat) (hi : i < n) (hi0 : i0 < n) {f g : Nat → Int32} (he0 : M i0 = .inl (ca 0, 24, .inl f)) (he : M i = .inl (ca 0, 24, .inl g))
    (hframes : 1 ≤ rm.frames) (hlocals : (rest.map fun v => v.category).sum + (nativeFrameWords "java/lang/System" "arraycopy" 5 + 11) ≤ rm.locals) (hdg : decode cc pc = .ok (.invokestatic index, 3)) (kk : xK z (xw ad (va_up M i (.inl (ca 0, 24, .inl (va_cpy f g 0 0 24)))) n) cs ss (pc + 3) lv rest) : xK z (xw ad M n) cs ss pc lv (.int 24 :: .int 0 :: .ref (ad i) :: .int 0 :: .ref (ad i0) :: rest) := by
  obtain ⟨p, l, e, R, s, m, args, below, meth, c, A, H0, D, tys, nL, Q⟩ := z
  obtain ⟨hx, hb, hml, hown, hts, hN, hK, hA, hn0⟩ := C
  obtain ⟨rfl, rfl, rfl, rfl, -⟩ := E
  intro H locs ls hP hD hS hl0
  have e0 : (0 : Int32).toNatClampNeg = 0 := by decide
  have e24 : (24 : Int32).toNatClampNeg = 24 := by decide
  refine va_copyi hx hb (hml.trans hl0.1.symm) hown (hts _ h1) (hts _ h2) (hts _ h3) (hts _ h4) hK hP hD hS i0 i 0 0 (xw_at hi0 he0) (xw_at hi he) rfl rfl rfl (by decide) (by decide) (by decide) (by rw [e0, e24]; decide) (by rw [e0, e24]; decide) (fun _ _ => rfl) hframes hlocals hdg (fun H1 locs1 hP1 hD1 hS1 => ?_)
  rw [e0, e24, xw_set] at hP1 hD1
  exact kk H1 locs1 ls hP1 hD1 hS1 hl0
theorem k_mmin (C : xC z cc own nl) (E : xE z l rm D (xty ca) rt nm postz mcz msz) {w : va_W} {index : Nat} (h1 : Cond.methodLink own index Lib.Math.min.name ∈ xa_W) (h2 : Cond.static Lib.Math.min.name ∈ xa_W) (h3 : Cond.initialized "java/lang/Math" ∈ xa_W) (h4 : Cond.code Lib.Math.min.name Lib.Math.min.code 2 (some .int) ∈ xa_W) (hframes : 1 ≤ rm.frames) (hlocals : (rest.map fun v => v.category).sum + 13 ≤ rm.locals) (hc : cs ≤ rm.cells) (hs : ss ≤ rm.slots) {x y : Int32} (hdg : decode cc pc = .ok (.invokestatic index, 3)) (kk : xK z w cs ss (pc + 3) lv (.int (if y < x then y else x) :: rest)) : xK z w cs ss pc lv (.int y :: .int x :: rest) := by
  obtain ⟨p, l, e, R, s, m, args, below, meth, c, A, H0, D, tys, nL, Q⟩ := z
  obtain ⟨hx, hb, hml, hown, hts, hN, hK, hA, hn0⟩ := C
  obtain ⟨rfl, rfl, rfl, rfl, -⟩ := E
  exact fun H locs ls hP hD hS hl0 => va_mmin hx hb (hml.trans hl0.1.symm) hown (hts _ h1) (hts _ h2) (hts _ h3) (hts _ h4) hframes hlocals hc hs hdg (kk H locs ls hP hD hS hl0)
theorem k_mmax (C : xC z cc own nl) (E : xE z l rm D (xty ca) rt nm postz mcz msz) {w : va_W} {index : Nat} (h1 : Cond.methodLink own index Lib.Math.max.name ∈ xa_W) (h2 : Cond.static Lib.Math.max.name ∈ xa_W) (h3 : Cond.initialized "java/lang/Math" ∈ xa_W) (h4 : Cond.code Lib.Math.max.name Lib.Math.max.code 2 (some .int) ∈ xa_W) (hframes : 1 ≤ rm.frames) (hlocals : (rest.map fun v => v.category).sum + 13 ≤ rm.locals) (hc : cs ≤ rm.cells) (hs : ss ≤ rm.slots) {x y : Int32} (hdg : decode cc pc = .ok (.invokestatic index, 3)) (kk : xK z w cs ss (pc + 3) lv (.int (if x < y then y else x) :: rest)) : xK z w cs ss pc lv (.int y :: .int x :: rest) := by
  obtain ⟨p, l, e, R, s, m, args, below, meth, c, A, H0, D, tys, nL, Q⟩ := z
  obtain ⟨hx, hb, hml, hown, hts, hN, hK, hA, hn0⟩ := C
  obtain ⟨rfl, rfl, rfl, rfl, -⟩ := E
  exact fun H locs ls hP hD hS hl0 => va_mmax hx hb (hml.trans hl0.1.symm) hown (hts _ h1) (hts _ h2) (hts _ h3) (hts _ h4) hframes hlocals hc hs hdg (kk H locs ls hP hD hS hl0)
theorem k_mminL (C : xC z cc own nl) (E : xE z l rm D (xty ca) rt nm postz mcz msz) {w : va_W} {index : Nat} (h1 : Cond.methodLink own index Lib.MathLoose.min_long.x ∈ xa_W) (h2 : Cond.static Lib.MathLoose.min_long.x ∈ xa_W) (h3 : Cond.initialized "java/lang/Math" ∈ xa_W) (h4 : Cond.code Lib.MathLoose.min_long.x Lib.MathLoose.min_long.code 4 (some .long) ∈ xa_W) (hframes : 1 ≤ rm.frames) (hlocals : (rest.map fun v => v.category).sum + 15 ≤ rm.locals) (hc : cs ≤ rm.cells) (hs : ss ≤ rm.slots) {x y : Int64} (hdg : decode cc pc = .ok (.invokestatic index, 3)) (kk : xK z w cs ss (pc + 3) lv (.long (if y < x then y else x) :: rest)) : xK z w cs ss pc lv (.long y :: .long x :: rest) := by
  obtain ⟨p, l, e, R, s, m, args, below, meth, c, A, H0, D, tys, nL, Q⟩ := z
  obtain ⟨hx, hb, hml, hown, hts, hN, hK, hA, hn0⟩ := C
  obtain ⟨rfl, rfl, rfl, rfl, -⟩ := E
  exact fun H locs ls hP hD hS hl0 => va_mmin_long hx hb (hml.trans hl0.1.symm) hown (hts _ h1) (hts _ h2) (hts _ h3) (hts _ h4) hframes hlocals hc hs hdg (kk H locs ls hP hD hS hl0)
end XA
