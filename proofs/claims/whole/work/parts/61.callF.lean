/-! ===== calls and arrays without a method's end ===== -/
def xF : xk → Launch → Room → va_G → List (ClassId × FieldType) → Prop
  | (_, l', _, R, _, _, _, _, _, _, _, _, D', tys', _, _), l, rm, D, tys => l' = l ∧ R = rm ∧ D' = D ∧ tys' = tys
theorem xE.F {z : xk} {l : Launch} {rm : Room} {D : va_G} {tys : List (ClassId × FieldType)} {rt : Option FieldType} {nm : String} {postz : Option Value → va_W → Prop} {mcz msz : Nat} (E : xE z l rm D tys rt nm postz mcz msz) : xF z l rm D tys := by
  obtain ⟨p, l, e, R, s, m, args, below, meth, c, A, H0, D, tys, nL, Q⟩ := z
  obtain ⟨h1, h2, h3, h4, -⟩ := E
  exact ⟨h1, h2, h3, h4⟩
section XF
variable {z : xk} {w : va_W} {cc : ByteArray} {own : String} {nl : Nat} {cs ss : Nat} {pc : Nat} {lv : List (Nat × Value)} {rest : List Value}
variable {l : Launch} {rm : Room} {D : va_G} {tys : List (ClassId × FieldType)}
theorem k_callVF (C : xC z cc own nl) (F : xF z l rm D tys) {y : MethodName} {b : ByteArray} {n : Nat} {r : Option FieldType} {fr lo mc ms : Nat} {a : Nat} {As st0 : List Value} {post : Option Value → va_W → Prop} (hM : xM l D tys y b n r fr lo mc ms (.ref a :: As) w post)
    {index : Nat} (h1 : Cond.methodLink own index y ∈ xa_W) (h2 : Cond.instanceMethod y ∈ xa_W) (h3 : Cond.selects y.cls y y ∈ xa_W) (h4 : Cond.initialized y.cls ∈ xa_W) (h5 : Cond.code y b n r ∈ xa_W)
    (hd : y.cls ≠ "java/lang/invoke/MethodHandle" ∧ y.cls ≠ "java/lang/invoke/VarHandle" ∧ (parseMethodDescriptor y.desc).map (fun d => d.parameters.length) = some As.length)
    (q0 : Nat) {ci : Nat} {fs : List Value} {T : u_T} {N : Nat} (he : w[q0]? = some (a, .inr (ci, fs))) (hc : vwCl[ci]? = some (y.cls, T, N))
    (hR : fr + 1 ≤ rm.frames ∧ 8 + (n + 11) + lo ≤ rm.locals) (hf : cs + mc ≤ rm.cells ∧ ss + ms ≤ rm.slots)
    (hst : st0 = As.reverse ++ .ref a :: rest) (hw : (rest.map fun v => v.category).sum ≤ 8) (hdg : decode cc pc = .ok (.invokevirtual index, 3))
    (kk : ∀ (v : Option Value) (w' : va_W), post v w' → xK z w' (cs + mc) (ss + ms) (pc + 3) lv (v.toList ++ rest)) : xK z w cs ss pc lv st0 := by
  obtain ⟨p, l, e, R, s, m, args, below, meth, c, A, H0, D, tys, nL, Q⟩ := z
  obtain ⟨hx, hb, hml, hown, hts, hN, hK, hA, hn0⟩ := C
  obtain ⟨rfl, rfl, rfl, rfl⟩ := F
  intro H locs ls hP hD hS hl0
  have hp := xM.pre (y := y) (av := .ref a :: As) hN hK hP hD
  refine k_run (va_runV (As := As) (rest := rest) (b := a) (C := y.cls) (n := As.length) ⟨hx, hb, hml, hown, hts⟩ (hM H.size) ⟨callB_of (ws' := xa_W) As.length hts (xa_good h5) rfl rfl rfl (hts _ h4) (hts _ h1) hd hR, hts _ h2, hts _ h3⟩ ⟨hp.1, va_recv hK hP hc he, hp.2⟩ rfl rfl hl0.1 hst (lv_room hw) hdg hf) hA hD hS hl0 kk
theorem k_callNF (C : xC z cc own nl) (F : xF z l rm D tys) {y : MethodName} {b : ByteArray} {n : Nat} {r : Option FieldType} {fr lo mc ms : Nat} {a : Nat} {As st0 : List Value} {post : Option Value → va_W → Prop} (hM : xM l D tys y b n r fr lo mc ms (.ref a :: As) w post)
    {index : Nat} {host : String} (h1 : Cond.methodLinkNest own index y host ∈ xa_N) (h2 : Cond.instanceMethod y ∈ xa_W) (h3 : Cond.selects y.cls y y ∈ xa_W) (h4 : Cond.initialized y.cls ∈ xa_W) (h5 : Cond.code y b n r ∈ xa_W)
    (hd : y.cls ≠ "java/lang/invoke/MethodHandle" ∧ y.cls ≠ "java/lang/invoke/VarHandle" ∧ (parseMethodDescriptor y.desc).map (fun d => d.parameters.length) = some As.length)
    (q0 : Nat) {ci : Nat} {fs : List Value} {T : u_T} {N : Nat} (he : w[q0]? = some (a, .inr (ci, fs))) (hc : vwCl[ci]? = some (y.cls, T, N))
    (hR : fr + 1 ≤ rm.frames ∧ 8 + (n + 11) + lo ≤ rm.locals) (hf : cs + mc ≤ rm.cells ∧ ss + ms ≤ rm.slots)
    (hst : st0 = As.reverse ++ .ref a :: rest) (hw : (rest.map fun v => v.category).sum ≤ 8) (hdg : decode cc pc = .ok (.invokevirtual index, 3))
    (kk : ∀ (v : Option Value) (w' : va_W), post v w' → xK z w' (cs + mc) (ss + ms) (pc + 3) lv (v.toList ++ rest)) : xK z w cs ss pc lv st0 := by
  obtain ⟨p, l, e, R, s, m, args, below, meth, c, A, H0, D, tys, nL, Q⟩ := z
  obtain ⟨hx, hb, hml, hown, hts, hN, hK, hA, hn0⟩ := C
  obtain ⟨rfl, rfl, rfl, rfl⟩ := F
  intro H locs ls hP hD hS hl0
  have hp := xM.pre (y := y) (av := .ref a :: As) hN hK hP hD
  refine k_run (va_runVN (As := As) (rest := rest) (b := a) (C := y.cls) (n := As.length) ⟨hx, hb, hml, hown, hts⟩ (hM H.size) ⟨va_cnB (ws' := xa_W) As.length hts (xa_good h5) rfl rfl rfl (hN _ h1) (hts _ h4) hd hR, hts _ h2, hts _ h3⟩ ⟨hp.1, va_recv hK hP hc he, hp.2⟩ rfl rfl hl0.1 hst (lv_room hw) hdg hf) hA hD hS hl0 kk
theorem k_callSF (C : xC z cc own nl) (F : xF z l rm D tys) {y : MethodName} {b : ByteArray} {n : Nat} {r : Option FieldType} {fr lo mc ms : Nat} {As st0 : List Value} {post : Option Value → va_W → Prop} (hM : xM l D tys y b n r fr lo mc ms As w post)
    {index : Nat} (h1 : Cond.methodLink own index y ∈ xa_W) (h2 : Cond.static y ∈ xa_W) (h4 : Cond.initialized y.cls ∈ xa_W) (h5 : Cond.code y b n r ∈ xa_W)
    (hd : y.cls ≠ "java/lang/invoke/MethodHandle" ∧ y.cls ≠ "java/lang/invoke/VarHandle" ∧ (parseMethodDescriptor y.desc).map (fun d => d.parameters.length) = some As.length)
    (hR : fr + 1 ≤ rm.frames ∧ 8 + (n + 11) + lo ≤ rm.locals) (hf : cs + mc ≤ rm.cells ∧ ss + ms ≤ rm.slots)
    (hst : st0 = As.reverse ++ rest) (hw : (rest.map fun v => v.category).sum ≤ 8) (hdg : decode cc pc = .ok (.invokestatic index, 3))
    (kk : ∀ (v : Option Value) (w' : va_W), post v w' → xK z w' (cs + mc) (ss + ms) (pc + 3) lv (v.toList ++ rest)) : xK z w cs ss pc lv st0 := by
  obtain ⟨p, l, e, R, s, m, args, below, meth, c, A, H0, D, tys, nL, Q⟩ := z
  obtain ⟨hx, hb, hml, hown, hts, hN, hK, hA, hn0⟩ := C
  obtain ⟨rfl, rfl, rfl, rfl⟩ := F
  intro H locs ls hP hD hS hl0
  have hp := xM.pre (y := y) (av := As) hN hK hP hD
  refine k_run (va_runS (As := As) (rest := rest) (n := As.length) ⟨hx, hb, hml, hown, hts⟩ (hM H.size) ⟨callB_of (ws' := xa_W) As.length hts (xa_good h5) rfl rfl rfl (hts _ h4) (hts _ h1) hd hR, hts _ h2⟩ hp rfl rfl hl0.1 hst (lv_room hw) hdg hf) hA hD hS hl0 kk
variable {ad : Nat → Nat} {M : Nat → va_E} {n : Nat} {ca : Nat → ClassId}
theorem k_ialdF (C : xC z cc own nl) (F : xF z l rm D (xty ca)) (i : Nat) (hi : i < n) {len : Nat} {f : Nat → Int32} (he : M i = .inl (ca 0, len, .inl f)) {j : Int32} (k : Nat) (hj : j = nI k) (hk : k < len) (hlen : len < 2 ^ 31) (hdg : decode cc pc = .ok (.iaload, 1)) (kk : xK z (xw ad M n) cs ss (pc + 1) lv (.int (f k) :: rest)) : xK z (xw ad M n) cs ss pc lv (.int j :: .ref (ad i) :: rest) := by
  obtain ⟨p, l, e, R, s, m, args, below, meth, c, A, H0, D, tys, nL, Q⟩ := z
  obtain ⟨hx, hb, hml, hown, hts, hN, hK, hA, hn0⟩ := C
  obtain ⟨rfl, rfl, rfl, rfl⟩ := F
  subst hj
  intro H locs ls hP hD hS hl0
  refine va_iald hx hb hK hP i 0 (xw_at hi he) rfl (vp_in_nI hk hlen) hdg ?_
  rw [nI_clamp (Nat.lt_trans hk hlen)]
  exact kk H locs ls hP hD hS hl0
theorem k_laldF (C : xC z cc own nl) (F : xF z l rm D (xty ca)) (i : Nat) (hi : i < n) {len : Nat} {f : Nat → Int64} (he : M i = .inl (ca 1, len, .inr (.inl f))) {j : Int32} (k : Nat) (hj : j = nI k) (hk : k < len) (hlen : len < 2 ^ 31) (hdg : decode cc pc = .ok (.laload, 1)) (kk : xK z (xw ad M n) cs ss (pc + 1) lv (.long (f k) :: rest)) : xK z (xw ad M n) cs ss pc lv (.int j :: .ref (ad i) :: rest) := by
  obtain ⟨p, l, e, R, s, m, args, below, meth, c, A, H0, D, tys, nL, Q⟩ := z
  obtain ⟨hx, hb, hml, hown, hts, hN, hK, hA, hn0⟩ := C
  obtain ⟨rfl, rfl, rfl, rfl⟩ := F
  subst hj
  intro H locs ls hP hD hS hl0
  refine va_lald hx hb hK hP i 1 (xw_at hi he) rfl (vp_in_nI hk hlen) hdg ?_
  rw [nI_clamp (Nat.lt_trans hk hlen)]
  exact kk H locs ls hP hD hS hl0
theorem k_lastF (C : xC z cc own nl) (F : xF z l rm D (xty ca)) (i : Nat) (hi : i < n) {len : Nat} {f : Nat → Int64} (he : M i = .inl (ca 1, len, .inr (.inl f))) {j : Int32} (k : Nat) (hj : j = nI k) (hk : k < len) (hlen : len < 2 ^ 31) {x : Int64} (hdg : decode cc pc = .ok (.lastore, 1)) (kk : xK z (xw ad (va_up M i (.inl (ca 1, len, .inr (.inl (vp_updL f k x))))) n) cs ss (pc + 1) lv rest) : xK z (xw ad M n) cs ss pc lv (.long x :: .int j :: .ref (ad i) :: rest) := by
  obtain ⟨p, l, e, R, s, m, args, below, meth, c, A, H0, D, tys, nL, Q⟩ := z
  obtain ⟨hx, hb, hml, hown, hts, hN, hK, hA, hn0⟩ := C
  obtain ⟨rfl, rfl, rfl, rfl⟩ := F
  subst hj
  intro H locs ls hP hD hS hl0
  refine va_last hx hb hK hP hD hS i 1 (xw_at hi he) rfl (vp_in_nI hk hlen) hdg (fun H1 locs1 hP1 hD1 hS1 => ?_)
  rw [nI_clamp (Nat.lt_trans hk hlen), xw_set] at hP1 hD1
  exact kk H1 locs1 ls hP1 hD1 hS1 hl0
theorem k_aaldF (C : xC z cc own nl) (F : xF z l rm D (xty ca)) (i : Nat) (hi : i < n) (t0 : Nat) {cA : ClassId} {ty : FieldType} (ht : (xty ca)[t0]? = some (cA, ty)) (hty : ty.isReference = true) {len : Nat} {f : Nat → Option Nat} (he : M i = .inl (cA, len, .inr (.inr (.inr (.inr f))))) {j : Int32} (k : Nat) (hj : j = nI k) (hk : k < len) (hlen : len < 2 ^ 31) (q : Nat) (hf : f k = some (ad q)) (hdg : decode cc pc = .ok (.aaload, 1)) (kk : xK z (xw ad M n) cs ss (pc + 1) lv (.ref (ad q) :: rest)) : xK z (xw ad M n) cs ss pc lv (.int j :: .ref (ad i) :: rest) := by
  obtain ⟨p, l, e, R, s, m, args, below, meth, c, A, H0, D, tys, nL, Q⟩ := z
  obtain ⟨hx, hb, hml, hown, hts, hN, hK, hA, hn0⟩ := C
  obtain ⟨rfl, rfl, rfl, rfl⟩ := F
  subst hj
  intro H locs ls hP hD hS hl0
  have hin := vp_in_nI hk hlen
  have hcl := nI_clamp (Nat.lt_trans hk hlen)
  have hlt : (nI k).toNatClampNeg < len := by rw [hcl]; exact hk
  exact W.aald (v := .ref (ad q)) (ty := ty) hx hb (hP i _ (xw_at hi he)) ((hK.2 t0 _ ht).1 len (fun j => va_rf (f j))) hty (fun q => by cases q) (by show ¬ (nI k < 0 ∨ (arrV _ _ _).slots.size ≤ _); rw [arrV_size]; exact hin) (by show (arrV _ _ _).slots[_]? = _; rw [arrV_read _ _ hlt, hcl, hf]; rfl) rfl rfl hdg (kk H locs ls hP hD hS hl0)
theorem k_iastF (C : xC z cc own nl) (F : xF z l rm D (xty ca)) (i : Nat) (hi : i < n) {len : Nat} {f : Nat → Int32} (he : M i = .inl (ca 0, len, .inl f)) {j : Int32} (k : Nat) (hj : j = nI k) (hk : k < len) (hlen : len < 2 ^ 31) {x : Int32} (hdg : decode cc pc = .ok (.iastore, 1)) (kk : xK z (xw ad (va_up M i (.inl (ca 0, len, .inl (upd f k x)))) n) cs ss (pc + 1) lv rest) : xK z (xw ad M n) cs ss pc lv (.int x :: .int j :: .ref (ad i) :: rest) := by
  obtain ⟨p, l, e, R, s, m, args, below, meth, c, A, H0, D, tys, nL, Q⟩ := z
  obtain ⟨hx, hb, hml, hown, hts, hN, hK, hA, hn0⟩ := C
  obtain ⟨rfl, rfl, rfl, rfl⟩ := F
  subst hj
  intro H locs ls hP hD hS hl0
  refine va_iast hx hb hK hP hD hS i 0 (xw_at hi he) rfl (vp_in_nI hk hlen) hdg (fun H1 locs1 hP1 hD1 hS1 => ?_)
  rw [nI_clamp (Nat.lt_trans hk hlen), xw_set] at hP1 hD1
  exact kk H1 locs1 ls hP1 hD1 hS1 hl0
end XF
