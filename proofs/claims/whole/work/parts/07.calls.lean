/-! ===== ends, calls, memory rows over xK ===== -/
section XM
variable {z : xk} {cc : ByteArray} {own : String} {nl : Nat} {w : va_W} {cs ss : Nat} {pc : Nat} {lv : List (Nat × Value)} {rest : List Value}
variable {l : Launch} {rm : Room} {D : va_G} {tys : List (ClassId × FieldType)} {nm : String} {postz : Option Value → va_W → Prop} {mcz msz : Nat} {rt : Option FieldType}
theorem k_iret (C : xC z cc own nl) (E : xE z l rm D tys (some .int) nm postz mcz msz) {v : Int32} (hp : postz (some (.int v)) w) (hdg : decode cc pc = .ok (.ireturn, 1)) : xK z w mcz msz pc lv [.int v] := by
  obtain ⟨p, l, e, R, s, m, args, below, meth, c, A, H0, D, tys, nL, Q⟩ := z
  obtain ⟨hx, hb, hml, hown, hts, hN, hK, hA, hn0⟩ := C
  obtain ⟨rfl, rfl, rfl, rfl, hr, hlocks, hnm, rfl, w0, rfl, rfl⟩ := E
  exact fun H locs ls hP hD hS hl0 => W.iret hx hb hr (fun t ht hW => ⟨⟨_, w, rfl, hp, by rw [ht]; exact hP, hD⟩, hS.F ht⟩) hS.2.2 hdg
theorem k_zret (C : xC z cc own nl) (E : xE z l rm D tys (some .boolean) nm postz mcz msz) {v : Int32} (hp : postz (some (.int v)) w) (hv : v = 0 ∨ v = 1) (hdg : decode cc pc = .ok (.ireturn, 1)) : xK z w mcz msz pc lv [.int v] := by
  obtain ⟨p, l, e, R, s, m, args, below, meth, c, A, H0, D, tys, nL, Q⟩ := z
  obtain ⟨hx, hb, hml, hown, hts, hN, hK, hA, hn0⟩ := C
  obtain ⟨rfl, rfl, rfl, rfl, hr, hlocks, hnm, rfl, w0, rfl, rfl⟩ := E
  have hnv : narrow .boolean (.int v) = .int v := by rcases hv with rfl | rfl <;> rfl
  exact fun H locs ls hP hD hS hl0 => W.zret hx hb hr hnv (fun t ht hW => ⟨⟨_, w, rfl, hp, by rw [ht]; exact hP, hD⟩, hS.F ht⟩) hS.2.2 hdg
theorem k_lret (C : xC z cc own nl) (E : xE z l rm D tys (some .long) nm postz mcz msz) {v : Int64} (hp : postz (some (.long v)) w) (hdg : decode cc pc = .ok (.lreturn, 1)) : xK z w mcz msz pc lv [.long v] := by
  obtain ⟨p, l, e, R, s, m, args, below, meth, c, A, H0, D, tys, nL, Q⟩ := z
  obtain ⟨hx, hb, hml, hown, hts, hN, hK, hA, hn0⟩ := C
  obtain ⟨rfl, rfl, rfl, rfl, hr, hlocks, hnm, rfl, w0, rfl, rfl⟩ := E
  exact fun H locs ls hP hD hS hl0 => W.lret hx hb hr (fun t ht hW => ⟨⟨_, w, rfl, hp, by rw [ht]; exact hP, hD⟩, hS.F ht⟩) hS.2.2 hdg
theorem k_vret (C : xC z cc own nl) (E : xE z l rm D tys none nm postz mcz msz) (hp : postz none w) (hdg : decode cc pc = .ok (.return_, 1)) : xK z w mcz msz pc lv [] := by
  obtain ⟨p, l, e, R, s, m, args, below, meth, c, A, H0, D, tys, nL, Q⟩ := z
  obtain ⟨hx, hb, hml, hown, hts, hN, hK, hA, hn0⟩ := C
  obtain ⟨rfl, rfl, rfl, rfl, hr, hlocks, hnm, rfl, w0, rfl, rfl⟩ := E
  exact fun H locs ls hP hD hS hl0 => W.vret hx hb hr (fun t ht hW => ⟨⟨_, w, rfl, hp, by rw [ht]; exact hP, hD⟩, hS.F ht⟩) hS.2.2 hdg
/-- a run of a callee, over the whole world -/
theorem xM.pre {s : State} {H : Heap} {y : MethodName} {av : List Value} (hN : xa_NF s) (hK : va_K D vwCl tys s) (hP : va_P D vwCl w H) {A : Nat → Prop} (hD : va_D A w) : FrameBlind (va_Pc av (fun U => U.heap.size = H.size ∧ va_P D vwCl w U.heap ∧ va_K D vwCl tys U ∧ xa_NF U ∧ va_D (fun _ => True) w)) ∧ ∀ U : State, U.heap = H → s.WarmedH U.vm → va_Pc av (fun U => U.heap.size = H.size ∧ va_P D vwCl w U.heap ∧ va_K D vwCl tys U ∧ xa_NF U ∧ va_D (fun _ => True) w) av.toArray U := by
  refine ⟨fun a U g mk q => ?_, fun U hU hW => ⟨rfl, by rw [hU], by rw [hU]; exact hP, va_K.moved hW.alike hK, hN.warm hW, hD.weaken (fun _ _ _ _ => trivial)⟩⟩
  obtain ⟨q0, q1, qP, qK, qN, qD⟩ := q
  exact ⟨q0, q1, qP, va_K.moved (u := U) (U := U.calling g mk a) (Vm.Alike.refl U.vm) qK, xa_NF.same (u := U) (U := U.calling g mk a) rfl qN, qD⟩
theorem k_run {p : Program} {e : Env} {R : Room} {s : State} {m : MethodId} {args : Array Value} {below : List Frame} {meth : Method} {c : Code} {A : Nat → Prop} {H0 : Heap} {nL : Nat} {Q : State → Prop} {mc ms : Nat} {post : Option Value → va_W → Prop} {st0 : List Value} {a : Array Value} {H : Heap} {locs : List Loc} {ls : Array Slot}
    (hr : va_Run p l e R s m args below meth c H locs cs ss mc ms (F0 m pc ls st0) rest (xQ D post w H.size a) (va_A w H.size)) (hA : ∀ q, H0.size ≤ q → A q) (hD : va_D A w) (hS : va_S A H0 H locs) (hl0 : lv_has ls nL lv)
    (kk : ∀ (v : Option Value) (w' : va_W), post v w' → xK (p, l, e, R, s, m, args, below, meth, c, A, H0, D, tys, nL, Q) w' (cs + mc) (ss + ms) (pc + 3) lv (v.toList ++ rest)) : W p l e R s m args below meth c H locs cs ss Q (F0 m pc ls st0) := by
  intro T hT X
  obtain ⟨v, st₀, t, T', L, h0, X', hL, e1, e2, ⟨⟨v', w', hv, hp, hb, hd⟩, hz, hk⟩, st⟩ := hr T hT X
  cases hv
  rw [h0] at hz hk
  have hF : ∀ q, va_A w H.size q → A q := by
    intro q h
    rcases h with ⟨k, en, h⟩ | h
    · exact hD.2 k (q, en) h
    · exact hA q (Nat.le_trans hS.1 h)
  obtain ⟨t2, a1, b1⟩ := kk v w' hp T'.heap (locs ++ L) ls (by rw [e1]; exact hb) (hd.weaken (fun _ q _ h => hF q.1 h))
    ⟨Nat.le_trans hS.1 (by rw [e1]; exact hz), fun q h1 h2 => by rw [e1, hk q (Nat.lt_of_lt_of_le h1 hS.1) (fun y => h2 (hF q y))]; exact hS.2.1 q h1 h2, fun q hq => by
      rcases List.mem_append.mp hq with h | h
      · exact hS.2.2 q h
      · exact hF _ (hL q h)⟩ hl0 T' rfl X'
  exact ⟨t2, st t2 a1, b1⟩
/-- a virtual call of an own class's method, the whole world its -/
theorem k_callV (C : xC z cc own nl) (E : xE z l rm D tys rt nm postz mcz msz) {y : MethodName} {b : ByteArray} {n : Nat} {r : Option FieldType} {fr lo mc ms : Nat} {a : Nat} {As st0 : List Value} {post : Option Value → va_W → Prop} (hM : xM l D tys y b n r fr lo mc ms (.ref a :: As) w post)
    {index : Nat} (h1 : Cond.methodLink own index y ∈ xa_W) (h2 : Cond.instanceMethod y ∈ xa_W) (h3 : Cond.selects y.cls y y ∈ xa_W) (h4 : Cond.initialized y.cls ∈ xa_W) (h5 : Cond.code y b n r ∈ xa_W)
    (hd : y.cls ≠ "java/lang/invoke/MethodHandle" ∧ y.cls ≠ "java/lang/invoke/VarHandle" ∧ (parseMethodDescriptor y.desc).map (fun d => d.parameters.length) = some As.length)
    (q0 : Nat) {ci : Nat} {fs : List Value} {T : u_T} {N : Nat} (he : w[q0]? = some (a, .inr (ci, fs))) (hc : vwCl[ci]? = some (y.cls, T, N))
    (hR : fr + 1 ≤ rm.frames ∧ 8 + (n + 11) + lo ≤ rm.locals) (hf : cs + mc ≤ rm.cells ∧ ss + ms ≤ rm.slots)
    (hst : st0 = As.reverse ++ .ref a :: rest) (hw : (rest.map fun v => v.category).sum ≤ 8) (hdg : decode cc pc = .ok (.invokevirtual index, 3))
    (kk : ∀ (v : Option Value) (w' : va_W), post v w' → xK z w' (cs + mc) (ss + ms) (pc + 3) lv (v.toList ++ rest)) : xK z w cs ss pc lv st0 := by
  obtain ⟨p, l, e, R, s, m, args, below, meth, c, A, H0, D, tys, nL, Q⟩ := z
  obtain ⟨hx, hb, hml, hown, hts, hN, hK, hA, hn0⟩ := C
  obtain ⟨rfl, rfl, rfl, rfl, -⟩ := E
  intro H locs ls hP hD hS hl0
  have hp := xM.pre (y := y) (av := .ref a :: As) hN hK hP hD
  refine k_run (va_runV (As := As) (rest := rest) (b := a) (C := y.cls) (n := As.length) ⟨hx, hb, hml, hown, hts⟩ (hM H.size) ⟨callB_of (ws' := xa_W) As.length hts (xa_good h5) rfl rfl rfl (hts _ h4) (hts _ h1) hd hR, hts _ h2, hts _ h3⟩ ⟨hp.1, va_recv hK hP hc he, hp.2⟩ rfl rfl hl0.1 hst (lv_room hw) hdg hf) hA hD hS hl0 kk
/-- a virtual call of a nest mate's method -/
theorem k_callN (C : xC z cc own nl) (E : xE z l rm D tys rt nm postz mcz msz) {y : MethodName} {b : ByteArray} {n : Nat} {r : Option FieldType} {fr lo mc ms : Nat} {a : Nat} {As st0 : List Value} {post : Option Value → va_W → Prop} (hM : xM l D tys y b n r fr lo mc ms (.ref a :: As) w post)
    {index : Nat} {host : String} (h1 : Cond.methodLinkNest own index y host ∈ xa_N) (h2 : Cond.instanceMethod y ∈ xa_W) (h3 : Cond.selects y.cls y y ∈ xa_W) (h4 : Cond.initialized y.cls ∈ xa_W) (h5 : Cond.code y b n r ∈ xa_W)
    (hd : y.cls ≠ "java/lang/invoke/MethodHandle" ∧ y.cls ≠ "java/lang/invoke/VarHandle" ∧ (parseMethodDescriptor y.desc).map (fun d => d.parameters.length) = some As.length)
    (q0 : Nat) {ci : Nat} {fs : List Value} {T : u_T} {N : Nat} (he : w[q0]? = some (a, .inr (ci, fs))) (hc : vwCl[ci]? = some (y.cls, T, N))
    (hR : fr + 1 ≤ rm.frames ∧ 8 + (n + 11) + lo ≤ rm.locals) (hf : cs + mc ≤ rm.cells ∧ ss + ms ≤ rm.slots)
    (hst : st0 = As.reverse ++ .ref a :: rest) (hw : (rest.map fun v => v.category).sum ≤ 8) (hdg : decode cc pc = .ok (.invokevirtual index, 3))
    (kk : ∀ (v : Option Value) (w' : va_W), post v w' → xK z w' (cs + mc) (ss + ms) (pc + 3) lv (v.toList ++ rest)) : xK z w cs ss pc lv st0 := by
  obtain ⟨p, l, e, R, s, m, args, below, meth, c, A, H0, D, tys, nL, Q⟩ := z
  obtain ⟨hx, hb, hml, hown, hts, hN, hK, hA, hn0⟩ := C
  obtain ⟨rfl, rfl, rfl, rfl, -⟩ := E
  intro H locs ls hP hD hS hl0
  have hp := xM.pre (y := y) (av := .ref a :: As) hN hK hP hD
  refine k_run (va_runVN (As := As) (rest := rest) (b := a) (C := y.cls) (n := As.length) ⟨hx, hb, hml, hown, hts⟩ (hM H.size) ⟨va_cnB (ws' := xa_W) As.length hts (xa_good h5) rfl rfl rfl (hN _ h1) (hts _ h4) hd hR, hts _ h2, hts _ h3⟩ ⟨hp.1, va_recv hK hP hc he, hp.2⟩ rfl rfl hl0.1 hst (lv_room hw) hdg hf) hA hD hS hl0 kk
/-- a static call -/
theorem k_callS (C : xC z cc own nl) (E : xE z l rm D tys rt nm postz mcz msz) {y : MethodName} {b : ByteArray} {n : Nat} {r : Option FieldType} {fr lo mc ms : Nat} {As st0 : List Value} {post : Option Value → va_W → Prop} (hM : xM l D tys y b n r fr lo mc ms As w post)
    {index : Nat} (h1 : Cond.methodLink own index y ∈ xa_W) (h2 : Cond.static y ∈ xa_W) (h4 : Cond.initialized y.cls ∈ xa_W) (h5 : Cond.code y b n r ∈ xa_W)
    (hd : y.cls ≠ "java/lang/invoke/MethodHandle" ∧ y.cls ≠ "java/lang/invoke/VarHandle" ∧ (parseMethodDescriptor y.desc).map (fun d => d.parameters.length) = some As.length)
    (hR : fr + 1 ≤ rm.frames ∧ 8 + (n + 11) + lo ≤ rm.locals) (hf : cs + mc ≤ rm.cells ∧ ss + ms ≤ rm.slots)
    (hst : st0 = As.reverse ++ rest) (hw : (rest.map fun v => v.category).sum ≤ 8) (hdg : decode cc pc = .ok (.invokestatic index, 3))
    (kk : ∀ (v : Option Value) (w' : va_W), post v w' → xK z w' (cs + mc) (ss + ms) (pc + 3) lv (v.toList ++ rest)) : xK z w cs ss pc lv st0 := by
  obtain ⟨p, l, e, R, s, m, args, below, meth, c, A, H0, D, tys, nL, Q⟩ := z
  obtain ⟨hx, hb, hml, hown, hts, hN, hK, hA, hn0⟩ := C
  obtain ⟨rfl, rfl, rfl, rfl, -⟩ := E
  intro H locs ls hP hD hS hl0
  have hp := xM.pre (y := y) (av := As) hN hK hP hD
  refine k_run (va_runS (As := As) (rest := rest) (n := As.length) ⟨hx, hb, hml, hown, hts⟩ (hM H.size) ⟨callB_of (ws' := xa_W) As.length hts (xa_good h5) rfl rfl rfl (hts _ h4) (hts _ h1) hd hR, hts _ h2⟩ hp rfl rfl hl0.1 hst (lv_room hw) hdg hf) hA hD hS hl0 kk
/-! memory, by the cells' numbers -/
variable {ad : Nat → Nat} {M : Nat → va_E} {n : Nat}
theorem k_get (C : xC z cc own nl) (i : Nat) (hi : i < n) {ci : Nat} {fs : List Value} (he : M i = .inr (ci, fs)) {Cn : String} {T : u_T} {N : Nat} (hc : vwCl[ci]? = some (Cn, T, N)) (hin : ∀ w ∈ u_ws Cn T N, w ∈ xa_W) (k : Nat) (hk : k < N) {index : Nat} {ref : String} (hlink : Cond.fieldLink own index ref (T k).2.1 (T k).2.2.1 ∈ xa_W) (hsame : (T k).1 = ref) {v : Value} (hv : fs[k]? = some v) (hdg : decode cc pc = .ok (.getfield index, 3)) (kk : xK z (xw ad M n) cs ss (pc + 3) lv (v :: rest)) : xK z (xw ad M n) cs ss pc lv (.ref (ad i) :: rest) := by
  obtain ⟨p, l, e, R, s, m, args, below, meth, c, A, H0, D, tys, nL, Q⟩ := z
  obtain ⟨hx, hb, hml, hown, hts, hN, hK, hA, hn0⟩ := C
  exact fun H locs ls hP hD hS hl0 => va_get hx hb hts hin hown hK hP i (xw_at hi he) hc k hk (hts _ hlink) (by rw [hsame]; exact fun _ h => h) hv hdg (kk H locs ls hP hD hS hl0)
theorem k_getN (C : xC z cc own nl) (i : Nat) (hi : i < n) {ci : Nat} {fs : List Value} (he : M i = .inr (ci, fs)) {Cn : String} {T : u_T} {N : Nat} (hc : vwCl[ci]? = some (Cn, T, N)) (hin : ∀ w ∈ u_ws Cn T N, w ∈ xa_W) (k : Nat) (hk : k < N) {index : Nat} {ref host : String} (hlink : Cond.fieldLinkNest own index ref (T k).2.1 (T k).2.2.1 host ∈ xa_N) (hsame : (T k).1 = ref) {v : Value} (hv : fs[k]? = some v) (hdg : decode cc pc = .ok (.getfield index, 3)) (kk : xK z (xw ad M n) cs ss (pc + 3) lv (v :: rest)) : xK z (xw ad M n) cs ss pc lv (.ref (ad i) :: rest) := by
  obtain ⟨p, l, e, R, s, m, args, below, meth, c, A, H0, D, tys, nL, Q⟩ := z
  obtain ⟨hx, hb, hml, hown, hts, hN, hK, hA, hn0⟩ := C
  exact fun H locs ls hP hD hS hl0 => va_getN hx hb hts hin hown hK hP i (xw_at hi he) hc k hk (va_Nw.use rfl (hN _ hlink)) (by rw [hsame]; exact fun _ h => h) hv hdg (kk H locs ls hP hD hS hl0)
theorem k_put (C : xC z cc own nl) (i : Nat) (hi : i < n) {ci : Nat} {fs : List Value} (he : M i = .inr (ci, fs)) {Cn : String} {T : u_T} {N : Nat} (hc : vwCl[ci]? = some (Cn, T, N)) (hin : ∀ w ∈ u_ws Cn T N, w ∈ xa_W) (ty0 : Nat → FieldType) (hty : ∀ k, k < N → parseFieldDescriptor (T k).2.2.1 = some (ty0 k)) (hnm : ∀ a, a < N → ∀ b, b < N → a ≠ b → (T a).2.1 ≠ (T b).2.1) (k : Nat) (hk : k < N) {index : Nat} {ref : String} (hlink : Cond.fieldLink own index ref (T k).2.1 (T k).2.2.1 ∈ xa_W) (hsame : (T k).1 = ref) (hfin : (T k).2.2.2 = false) {v : Value} (hn : narrow (ty0 k) v = v) (hfit : fits (ty0 k) v = true) (hlen : k < fs.length) (hdg : decode cc pc = .ok (.putfield index, 3)) (kk : xK z (xw ad (va_up M i (.inr (ci, fs.set k v))) n) cs ss (pc + 3) lv rest) : xK z (xw ad M n) cs ss pc lv (v :: .ref (ad i) :: rest) := by
  obtain ⟨p, l, e, R, s, m, args, below, meth, c, A, H0, D, tys, nL, Q⟩ := z
  obtain ⟨hx, hb, hml, hown, hts, hN, hK, hA, hn0⟩ := C
  rw [← xw_set] at kk
  exact fun H locs ls hP hD hS hl0 => va_put hx hb hts hin ty0 hty hnm hown hK hP hD hS i (xw_at hi he) hc k hk (hts _ hlink) (by rw [hsame]; exact fun _ h => h) hfin (hty k hk) hn hfit hlen hdg (fun H1 locs1 hP1 hD1 hS1 => kk H1 locs1 ls hP1 hD1 hS1 hl0)
theorem k_putN (C : xC z cc own nl) (i : Nat) (hi : i < n) {ci : Nat} {fs : List Value} (he : M i = .inr (ci, fs)) {Cn : String} {T : u_T} {N : Nat} (hc : vwCl[ci]? = some (Cn, T, N)) (hin : ∀ w ∈ u_ws Cn T N, w ∈ xa_W) (ty0 : Nat → FieldType) (hty : ∀ k, k < N → parseFieldDescriptor (T k).2.2.1 = some (ty0 k)) (hnm : ∀ a, a < N → ∀ b, b < N → a ≠ b → (T a).2.1 ≠ (T b).2.1) (k : Nat) (hk : k < N) {index : Nat} {ref host : String} (hlink : Cond.fieldLinkNest own index ref (T k).2.1 (T k).2.2.1 host ∈ xa_N) (hsame : (T k).1 = ref) (hfin : (T k).2.2.2 = false) {v : Value} (hn : narrow (ty0 k) v = v) (hfit : fits (ty0 k) v = true) (hlen : k < fs.length) (hdg : decode cc pc = .ok (.putfield index, 3)) (kk : xK z (xw ad (va_up M i (.inr (ci, fs.set k v))) n) cs ss (pc + 3) lv rest) : xK z (xw ad M n) cs ss pc lv (v :: .ref (ad i) :: rest) := by
  obtain ⟨p, l, e, R, s, m, args, below, meth, c, A, H0, D, tys, nL, Q⟩ := z
  obtain ⟨hx, hb, hml, hown, hts, hN, hK, hA, hn0⟩ := C
  rw [← xw_set] at kk
  exact fun H locs ls hP hD hS hl0 => va_putN hx hb hts hin ty0 hty hnm hown hK hP hD hS i (xw_at hi he) hc k hk (va_Nw.use rfl (hN _ hlink)) (by rw [hsame]; exact fun _ h => h) hfin (hty k hk) hn hfit hlen hdg (fun H1 locs1 hP1 hD1 hS1 => kk H1 locs1 ls hP1 hD1 hS1 hl0)
end XM
