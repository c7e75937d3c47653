/-! ===== what is thrown, what is caught ===== -/
def xa_xw : Cond → Bool
  | .declares .. => true
  | .castable .. => true
  | _ => false
def xa_X : List Cond := lw_tbl.filter xa_xw
def xa_XF (U : State) : Prop := ∀ w ∈ xa_X, va_Nw w U
theorem xa_XF.warm {s U : State} (hW : s.WarmedH U.vm) (h : xa_XF s) : xa_XF U := by
  intro w hw
  have h1 := h w hw
  have h2 := (List.mem_filter.mp hw).2
  cases w <;> first | exact va_Nw.warmD hW h1 | exact va_Nw.warmC hW h1 | exact absurd h2 (by simp [xa_xw])
theorem xa_XF.same {u U : State} (hv : u.vm = U.vm) (h : xa_XF u) : xa_XF U := by
  intro w hw
  have h1 := h w hw
  have h2 := (List.mem_filter.mp hw).2
  cases w <;> first | exact va_Nw.same rfl hv h1 | exact absurd h2 (by simp [xa_xw])
theorem xa_XF.use {U : State} (h : xa_XF U) {w : Cond} (hw : w ∈ xa_X) (A : Array Value) : w.before A U = true := by
  have h1 := h w hw
  have h2 := (List.mem_filter.mp hw).2
  cases w <;> first | exact va_Nw.use rfl h1 | exact absurd h2 (by simp [xa_xw])
def xH (N0 : Nat) (U : State) (H : Heap) : Prop := vx_Zq Bundle.tN "UNASSIGNED_STACK" Bundle.steD (fun q => N0 ≤ q) U H ∧ vx_Zq Bundle.tN "SUPPRESSED_SENTINEL" Bundle.listD (fun q => N0 ≤ q) U H
def xX (N0 : Nat) (sa : Nat → Nat) (U : State) : Prop := xa_XF U ∧ vk_R RX6 126 "below is 0" (sa 0) U ∧ vk_R RX6 161 "the SUM of b is 0" (sa 1) U ∧ vk_R RX6 193 "no such figure" (sa 2) U ∧ vk_R RX6 206 "no such byte" (sa 3) U ∧ xH N0 U U.heap ∧ N0 ≤ U.heap.size
theorem xX.at {N0 : Nat} {sa : Nat → Nat} {s U : State} {A : Nat → Prop} {H : Heap} {locs : List Loc} (h : xX N0 sa s) (hU : U.heap = H) (hW : s.WarmedH U.vm) (hS : va_S A s.heap H locs) (hA : ∀ q, A q → N0 ≤ q) : xX N0 sa U := by
  obtain ⟨h1, h2, h3, h4, h5, ⟨h6, h7⟩, h8⟩ := h
  have hq : ∀ a : Nat, a < s.heap.size → ¬ N0 ≤ a → H[a]? = s.heap[a]? := fun a q1 q2 => hS.2.1 a q1 (fun t => q2 (hA a t))
  refine ⟨h1.warm hW, vk_R.warm hW h2, vk_R.warm hW h3, vk_R.warm hW h4, vk_R.warm hW h5, ⟨?_, ?_⟩, ?_⟩
  · rw [hU]; exact vx_Zq.moved hW.alike (h6.kept hq)
  · rw [hU]; exact vx_Zq.moved hW.alike (h7.kept hq)
  · rw [hU]; exact Nat.le_trans h8 hS.1
theorem xX.calling {N0 : Nat} {sa : Nat → Nat} {U : State} (h : xX N0 sa U) (g : JFrame) (mk : MethodId) (a : Array Value) : xX N0 sa (U.calling g mk a) := by
  obtain ⟨h1, h2, h3, h4, h5, ⟨h6, h7⟩, h8⟩ := h
  exact ⟨xa_XF.same (u := U) (U := U.calling g mk a) rfl h1, vk_R.same (u := U) (U := U.calling g mk a) rfl h2, vk_R.same (u := U) (U := U.calling g mk a) rfl h3, vk_R.same (u := U) (U := U.calling g mk a) rfl h4, vk_R.same (u := U) (U := U.calling g mk a) rfl h5, ⟨vx_Zq.moved (u := U) (U := U.calling g mk a) (Vm.Alike.refl U.vm) h6, vx_Zq.moved (u := U) (U := U.calling g mk a) (Vm.Alike.refl U.vm) h7⟩, h8⟩
def xPx (D : va_G) (tys : List (ClassId × FieldType)) (w : va_W) (sz N0 : Nat) (sa : Nat → Nat) (U : State) : Prop := (U.heap.size = sz ∧ va_P D vwCl w U.heap ∧ va_K D vwCl tys U ∧ xa_NF U ∧ va_D (fun _ => True) w) ∧ xX N0 sa U
theorem xPx.pre {D : va_G} {tys : List (ClassId × FieldType)} {w : va_W} {N0 : Nat} {sa : Nat → Nat} {s : State} {H : Heap} {av : List Value} (hN : xa_NF s) (hK : va_K D vwCl tys s) (hP : va_P D vwCl w H) {A : Nat → Prop} (hD : va_D A w) {locs : List Loc} (hX : xX N0 sa s) (hS : va_S A s.heap H locs) (hA : ∀ q, A q → N0 ≤ q) : FrameBlind (va_Pc av (xPx D tys w H.size N0 sa)) ∧ ∀ U : State, U.heap = H → s.WarmedH U.vm → va_Pc av (xPx D tys w H.size N0 sa) av.toArray U := by
  refine ⟨fun a U g mk q => ?_, fun U hU hW => ⟨rfl, ⟨by rw [hU], by rw [hU]; exact hP, va_K.moved hW.alike hK, hN.warm hW, hD.weaken (fun _ _ _ _ => trivial)⟩, hX.at hU hW hS hA⟩⟩
  obtain ⟨q0, ⟨q1, qP, qK, qN, qD⟩, qX⟩ := q
  exact ⟨q0, ⟨q1, qP, va_K.moved (u := U) (U := U.calling g mk a) (Vm.Alike.refl U.vm) qK, xa_NF.same (u := U) (U := U.calling g mk a) rfl qN, qD⟩, qX.calling g mk a⟩
/-- what a body stands on that throws, or whose callee throws -/
def xY0 : xk → Nat → (Nat → Nat) → Prop
  | (_, _, _, _, s, _, _, _, _, _, A, H0, _, _, _, _), N0, sa => xX N0 sa s ∧ H0 = s.heap ∧ ∀ q, A q → N0 ≤ q
def xTb : xk → List (Nat × Nat × Nat × Nat) → Prop
  | (_, _, _, _, _, _, _, _, _, c, _, _, _, _, _, _), hh => c.exceptionTable.toList = tableOf hh
def xXC (D : va_G) (E : String) (px : (Nat → va_E) → Prop) (ad : Nat → Nat) (M : Nat → va_E) (sz : Nat) : String → State → State → Prop := fun E9 st t => E9 = E ∧ (∃ M', px M' ∧ va_P D vwCl (xw ad M' 187) t.heap ∧ va_D (va_A (xw ad M 187) sz) (xw ad M' 187)) ∧ va_F (va_A (xw ad M 187) sz) st t
def xTM (l : Launch) (D : va_G) (tys : List (ClassId × FieldType)) (y : MethodName) (b : ByteArray) (n : Nat) (fr lo : Nat) (av : List Value) (ad : Nat → Nat) (M : Nat → va_E) (N0 : Nat) (sa : Nat → Nat) (f : Int32 → (Nat → va_E) → Prop) (E : String) (px : (Nat → va_E) → Prop) : Prop :=
  ∀ sz : Nat, vx_Met l y (Cond.code y b n (some .int) :: xa_W) { frames := fr, cells := 1, slots := 6, locals := lo } (va_Pc av (xPx D tys (xw ad M 187) sz N0 sa)) (xQ D (fun v w' => ∃ (r : Int32) (M' : Nat → va_E), v = some (.int r) ∧ w' = xw ad M' 187 ∧ f r M') (xw ad M 187) sz) (xXC D E px ad M sz) 1 6 (va_A (xw ad M 187) sz)
/-- a body that may throw E -/
def xT : xk → Launch → va_G → List (ClassId × FieldType) → (Nat → Nat) → (Nat → va_E) → (Int32 → (Nat → va_E) → Prop) → String → ((Nat → va_E) → Prop) → Prop
  | (_, l', _, _, s, _, args, below, meth, c, A, H0, D', tys', _, Q), l, D, tys, ad, M, f, E, px => l' = l ∧ D' = D ∧ tys' = tys ∧ l.stackTraces = false ∧ (∀ x ∈ c.exceptionTable.toList, False) ∧ meth.sig.returnType = some .int ∧ meth.locks = false ∧ H0 = s.heap ∧ A = va_A (xw ad M 187) s.heap.size ∧ Q = vx_MQ below (xQ D (fun v w' => ∃ (r : Int32) (M' : Nat → va_E), v = some (.int r) ∧ w' = xw ad M' 187 ∧ f r M') (xw ad M 187) s.heap.size) (xXC D E px ad M s.heap.size) args s 1 6 (va_A (xw ad M 187) s.heap.size)
section XTH
variable {l : Launch} {D : va_G} {tys : List (ClassId × FieldType)} {ad : Nat → Nat} {M : Nat → va_E} {N0 : Nat} {sa : Nat → Nat} {f : Int32 → (Nat → va_E) → Prop} {E : String} {px : (Nat → va_E) → Prop}
theorem xA_ge (hN : ∀ i, i < 187 → N0 ≤ ad i) {sz : Nat} (hz : N0 ≤ sz) : ∀ q, va_A (xw ad M 187) sz q → N0 ≤ q := by
  intro q h
  rcases h with ⟨k, e, h⟩ | h
  · have hk : k < 187 := by
      have := (List.getElem?_eq_some_iff.mp h).1
      rw [xw_len] at this
      exact this
    rw [xw_get hk] at h
    have := hN k hk
    injection h with h1
    injection h1 with h2 h3
    omega
  · omega
theorem xTM.of {y : MethodName} {b : ByteArray} {n fr lo : Nat} {av : List Value} (hl : l.stackTraces = false) (hN : ∀ i, i < 187 → N0 ≤ ad i) (hy : plainName y.cls = true) (hn : (lg_sl av).length ≤ n)
    (body : ∀ z : xk, xC z b y.cls n → xF z l { frames := fr, cells := 1, slots := 6, locals := lo } D tys → xY0 z N0 sa → xT z l D tys ad M f E px → xK z (xw ad M 187) 0 0 0 (lv_args 0 av) []) : xTM l D tys y b n fr lo av ad M N0 sa f E px := by
  intro sz
  refine vx_ofW (cc := b) (maxL := n) (ret := some .int) hy rfl ?_
  intro p e s m args below meth c s₁ B hml htab hv
  obtain ⟨rfl, ⟨hsz, hP, hK, hNF, hD0⟩, hX⟩ := hv
  have hx := B.exec
  have hb := B.bytes
  have hr := B.returns
  have hts := atoms_spec (ws := Cond.code y b n (some .int) :: xa_W) B.pre
  have hown : s.vm.findClass y.cls = some m.cls := findClass_of_methodNamed B.named
  have hlocks := B.notSynchronized
  subst hsz
  have hD := hD0.self (sz := s.heap.size)
  have hA : ∀ q : Nat, s.heap.size ≤ q → va_A (xw ad M 187) s.heap.size q := fun q h => Or.inr h
  have hl9 := lv_entry av (n := n) hn
  rw [lg_entry_eq]
  exact body (p, l, e, _, s, m, av.toArray, below, meth, c, va_A (xw ad M 187) s.heap.size, s.heap, D, tys, n, _) ⟨hx, hb, hml, hown, fun w h => hts w (List.mem_cons_of_mem _ h), hNF, hK, hA, rfl⟩ ⟨rfl, rfl, rfl, rfl⟩ ⟨hX, rfl, xA_ge hN hX.2.2.2.2.2.2⟩ ⟨rfl, rfl, rfl, hl, htab, hr, hlocks, rfl, rfl, rfl⟩ s.heap [] _ hP hD va_S.rf hl9
variable {z : xk} {cc : ByteArray} {own : String} {nl : Nat} {pc : Nat} {lv : List (Nat × Value)} {rest : List Value} {cs ss : Nat} {rm : Room}
theorem k_iretT (C : xC z cc own nl) (T : xT z l D tys ad M f E px) {v : Int32} {M' : Nat → va_E} (hp : f v M') (hdg : decode cc pc = .ok (.ireturn, 1)) : xK z (xw ad M' 187) 0 0 pc lv [.int v] := by
  refine k_widen (cs' := 1) (ss' := 6) (Nat.zero_le _) (Nat.zero_le _) ?_
  obtain ⟨p, l, e, R, s, m, args, below, meth, c, A, H0, D, tys, nL, Q⟩ := z
  obtain ⟨hx, hb, hml, hown, hts, hN, hK, hA, hn0⟩ := C
  obtain ⟨rfl, rfl, rfl, hl, htab, hr, hlocks, rfl, rfl, rfl⟩ := T
  exact fun H locs ls hP hD hS hl0 => vx_ret (W.iret hx hb hr (fun t ht hW => ⟨⟨_, _, rfl, ⟨v, M', rfl, rfl, hp⟩, by rw [ht]; exact hP, hD⟩, hS.F ht⟩) hS.2.2 hdg)
theorem k_throwS (C : xC z cc RX6 nl) (F : xF z l rm D tys) (Y : xY0 z N0 sa) (T : xT z l D tys ad M f E px) {M' : Nat → va_E} (hp : px M') {ik is ic k : Nat} {text : String} {names : List String}
    (hstr : ∀ U, xX N0 sa U → vk_R RX6 is text (sa k) U) (hfit : Bundle.fit E = true) (hnames : ∀ n ∈ names, Bundle.fit n = true) (hk : Cond.classLink RX6 ik E ∈ xa_W) (hini : Cond.initialized E ∈ xa_W)
    (hat1 : ∀ w ∈ (vx_atS RX6 ic E names).filter goodWord, w ∈ xa_W) (hat2 : ∀ w ∈ (vx_atS RX6 ic E names).filter (fun w => !goodWord w), w ∈ xa_X) (hgood : ∀ w ∈ Cond.classLink RX6 ik E :: Cond.initialized E :: vx_atS RX6 ic E names, vx_ot w = true)
    (d0 : decode cc pc = .ok (.new ik, 3)) (d3 : decode cc (pc + 3) = .ok (.dup, 1)) (d4 : decode cc (pc + 4) = .ok (.ldc is, 2)) (d6 : decode cc (pc + 6) = .ok (.invokespecial ic, 3)) (d9 : decode cc (pc + 9) = .ok (.athrow, 1))
    (hRf : names.length + 3 < rm.frames) (hRl : 13 * (names.length + 1) + 43 ≤ rm.locals) (hRc : 1 ≤ rm.cells) (hRs : 6 ≤ rm.slots) : xK z (xw ad M' 187) 0 0 pc lv [] := by
  obtain ⟨p, l, e, R, s, m, args, below, meth, c, A, H0, D, tys, nL, Q⟩ := z
  obtain ⟨hx, hb, hml, hown, hts, hN, hK, hA, hn0⟩ := C
  obtain ⟨rfl, rfl, rfl, rfl⟩ := F
  obtain ⟨hX, h0, hAN⟩ := Y
  obtain ⟨-, -, -, hl, htab, hr, hlocks, rfl, rfl, rfl⟩ := T
  intro H locs ls hP hD hS hl0
  have hAN9 : ∀ q, va_A (xw ad M 187) s.heap.size q → N0 ≤ q := hAN
  refine vx_throwS (own := RX6) (cls := E) (text := text) (names := names) (ik := ik) (is := is) (ic := ic) (sa := sa k) (A := va_A (xw ad M 187) s.heap.size) hx hb hl hown hfit hnames (hts _ hk) (hts _ hini) (hstr s hX) (vx_hat (fun w hw => hts w (hat1 w hw)) hat2 (fun w hw => hX.1.use hw _)) hgood (hX.2.2.2.2.2.1.1.narrow hAN9) (hX.2.2.2.2.2.1.2.narrow hAN9) hS (hl0.1.trans hml.symm) d0 d3 d4 d6 d9 (fun x hx => (htab x hx).elim) hRf (by simpa using hRl) hRc hRs hlocks ?_ hS.2.2 (Nat.le_refl _) (Nat.le_refl _)
  intro t ht hz hk9
  have hP9 : va_P D vwCl (xw ad M' 187) t.heap := hP.kept (fun k x hx => hk9 x.1 ((hP k x hx).lt))
  refine ⟨rfl, ⟨M', hp, hP9, hD⟩, Nat.le_trans hS.1 hz, fun q h1 h2 => ?_⟩
  rw [hk9 q (Nat.lt_of_lt_of_le h1 hS.1)]
  exact hS.2.1 q h1 h2
/-- a call within a try: it returns, or what it throws is caught here -/
theorem k_callT (C : xC z cc own nl) (F : xF z l rm D tys) (Y : xY0 z N0 sa) {x1 x2 x3 x4 : Nat} (htab : xTb z [(x1, x2, x3, x4)])
    {y : MethodName} {b : ByteArray} {n fr lo a : Nat} {As st0 : List Value} (hM : xTM l D tys y b n fr lo (.ref (ad a) :: As) ad M N0 sa f E px)
    {index : Nat} (h1 : Cond.methodLink own index y ∈ xa_W) (h2 : Cond.instanceMethod y ∈ xa_W) (h3 : Cond.selects y.cls y y ∈ xa_W) (h4 : Cond.initialized y.cls ∈ xa_W) (h5 : Cond.code y b n (some .int) ∈ xa_W)
    (hd : y.cls ≠ "java/lang/invoke/MethodHandle" ∧ y.cls ≠ "java/lang/invoke/VarHandle" ∧ (parseMethodDescriptor y.desc).map (fun d => d.parameters.length) = some As.length)
    (ha : a < 187) {ci : Nat} {fs : List Value} {Tt : u_T} {N : Nat} (he : M a = .inr (ci, fs)) (hc : vwCl[ci]? = some (y.cls, Tt, N))
    (hR : fr + 1 ≤ rm.frames ∧ 8 + (n + 11) + lo ≤ rm.locals) (hf : cs + 1 ≤ rm.cells ∧ ss + 6 ≤ rm.slots)
    (hst : st0 = As.reverse ++ .ref (ad a) :: rest) (hw : (rest.map fun v => v.category).sum ≤ 8) (hdg : decode cc pc = .ok (.invokevirtual index, 3))
    (hcov : x1 ≤ pc ∧ pc < x2) (hx4 : x4 ≠ 0) (hlink : Cond.classLink own x4 E ∈ xa_W) (hcast : Cond.castable E E ∈ xa_X)
    (kk : ∀ (r : Int32) (M' : Nat → va_E), f r M' → xK z (xw ad M' 187) (cs + 1) (ss + 6) (pc + 3) lv (.int r :: rest))
    (kx : ∀ (q : Nat) (M' : Nat → va_E), px M' → xK z (xw ad M' 187) (cs + 1) (ss + 6) x3 lv [.ref q]) : xK z (xw ad M 187) cs ss pc lv st0 := by
  obtain ⟨p, l, e, R, s, m, args, below, meth, c, A, H0, D, tys, nL, Q⟩ := z
  have htb : c.exceptionTable.toList = tableOf [(x1, x2, x3, x4)] := htab
  obtain ⟨hx, hb, hml, hown, hts, hN, hK, hA, hn0⟩ := C
  obtain ⟨rfl, rfl, rfl, rfl⟩ := F
  obtain ⟨hX, rfl, hAN⟩ := Y
  intro H locs ls hP hD hS hl0
  have hp := xPx.pre (av := .ref (ad a) :: As) hN hK hP hD hX hS hAN
  have hr := vx_runV (e := e) (below := below) (meth := meth) (locs := locs) (cells := cs) (slots := ss) (As := As) (rest := rest) (b := ad a) (C := y.cls) (n := As.length) (g := F0 m pc ls st0) ⟨hx, hb, hml, hown, hts⟩ (hM H.size) ⟨callB_of (ws' := xa_W) As.length hts (xa_good h5) rfl rfl rfl (hts _ h4) (hts _ h1) hd hR, hts _ h2, hts _ h3⟩ ⟨hp.1, va_recv hK hP hc (xw_at ha he), hp.2⟩ rfl rfl hl0.1 hst (lv_room hw) hdg hf
  have hF : ∀ q, va_A (xw ad M 187) H.size q → A q := by
    intro q h
    rcases h with ⟨k, en, h⟩ | h
    · exact hD.2 k (q, en) h
    · exact hA q (Nat.le_trans hS.1 h)
  intro T hT X
  rcases hr T hT X with ⟨v, st₀, t, T', L, h0, X', hL, e1, e2, ⟨⟨v', w', hv, ⟨r, M', rfl, rfl, hp9⟩, hb9, hd9⟩, hz, hk9⟩, st⟩ | ⟨q, st₀, t, T', L, E9, ce, h0, X', hL, e1, e2, ⟨rfl, ⟨M', hp9, hb9, hd9⟩, hz, hk9⟩, hce, hcv, hcl, st⟩
  · cases hv
    rw [h0] at hz hk9
    obtain ⟨t2, a1, b1⟩ := kk r M' hp9 T'.heap (locs ++ L) ls (by rw [e1]; exact hb9) (hd9.weaken (fun _ q _ h => hF q.1 h))
      ⟨Nat.le_trans hS.1 (by rw [e1]; exact hz), fun q h1 h2 => by rw [e1, hk9 q (Nat.lt_of_lt_of_le h1 hS.1) (fun y => h2 (hF q y))]; exact hS.2.1 q h1 h2, fun q hq => by
        rcases List.mem_append.mp hq with h | h
        · exact hS.2.2 q h
        · exact hF _ (hL q h)⟩ hl0 T' rfl X'
    exact ⟨t2, st t2 a1, b1⟩
  · rw [h0] at hz hk9
    have hS9 : va_S A s.heap T'.heap (locs ++ L) := ⟨Nat.le_trans hS.1 (by rw [e1]; exact hz), fun q h1 h2 => by rw [e1, hk9 q (Nat.lt_of_lt_of_le h1 hS.1) (fun y => h2 (hF q y))]; exact hS.2.1 q h1 h2, fun q hq => by
        rcases List.mem_append.mp hq with h | h
        · exact hS.2.2 q h
        · exact hF _ (hL q h)⟩
    have hk := kx q M' hp9 T'.heap (locs ++ L) ls (by rw [e1]; exact hb9) (hd9.weaken (fun _ q _ h => hF q.1 h)) hS9 hl0
    obtain ⟨t2, a1, b1⟩ := vx_catch (own := own) (name := E9) (E := E9) (pc := pc) (rest := rest) hown [] { startPc := x1, endPc := x2, handlerPc := x3, catchType := x4 } [] htb (fun z hz => nomatch hz) (by simp [covers]; exact hcov) hx4 (hts _ hlink) (hX.1.use hcast _) (by rw [e1]; exact hce) hcv hcl hk T' rfl X'
    exact ⟨t2, st.trans a1, b1⟩
/-- a method with a table of its own, that throws nothing -/
def xMW (l : Launch) (D : va_G) (tys : List (ClassId × FieldType)) (y : MethodName) (b : ByteArray) (n : Nat) (hh : List (Nat × Nat × Nat × Nat)) (fr lo : Nat) (av : List Value) (ad : Nat → Nat) (M : Nat → va_E) (N0 : Nat) (sa : Nat → Nat) (f : Int32 → (Nat → va_E) → Prop) : Prop :=
  ∀ sz : Nat, Met l y (Cond.codeWith y b n (some .int) hh :: xa_W) { frames := fr, cells := 1, slots := 6, locals := lo } (va_Pc av (xPx D tys (xw ad M 187) sz N0 sa)) (xQ D (fun v w' => ∃ (r : Int32) (M' : Nat → va_E), v = some (.int r) ∧ w' = xw ad M' 187 ∧ f r M') (xw ad M 187) sz) 1 6 (va_A (xw ad M 187) sz)
theorem xMW.of {y : MethodName} {b : ByteArray} {n fr lo : Nat} {hh : List (Nat × Nat × Nat × Nat)} {av : List Value} (hN : ∀ i, i < 187 → N0 ≤ ad i) (hy : plainName y.cls = true) (hn : (lg_sl av).length ≤ n)
    (body : ∀ z : xk, xC z b y.cls n → xE z l { frames := fr, cells := 1, slots := 6, locals := lo } D tys (some .int) y.name (fun v w' => ∃ (r : Int32) (M' : Nat → va_E), v = some (.int r) ∧ w' = xw ad M' 187 ∧ f r M') 1 6 → xY0 z N0 sa → xTb z hh → xK z (xw ad M 187) 0 0 0 (lv_args 0 av) []) : xMW l D tys y b n hh fr lo av ad M N0 sa f := by
  intro sz
  refine va_MetW (cc := b) (maxL := n) (ret := some .int) (hh := hh) hy rfl ?_
  intro p e s m args below meth c s₁ B hml hv
  obtain ⟨rfl, ⟨hsz, hP, hK, hNF, hD0⟩, hX⟩ := hv
  have hx := B.exec
  have hb := B.bytes
  have hr := B.returns
  have hts := atoms_spec (ws := Cond.codeWith y b n (some .int) hh :: xa_W) B.pre
  have hown : s.vm.findClass y.cls = some m.cls := findClass_of_methodNamed B.named
  have hlocks := B.notSynchronized
  have hin : meth.name = y.name := (name_of_methodNamed B.named B.method).1
  have htab : c.exceptionTable.toList = tableOf hh := vx_table (x := y) B (hts _ List.mem_cons_self)
  subst hsz
  have hD := hD0.self (sz := s.heap.size)
  have hA : ∀ q : Nat, s.heap.size ≤ q → va_A (xw ad M 187) s.heap.size q := fun q h => Or.inr h
  have hl9 := lv_entry av (n := n) hn
  rw [lg_entry_eq]
  exact body (p, l, e, _, s, m, av.toArray, below, meth, c, va_A (xw ad M 187) s.heap.size, s.heap, D, tys, n, _) ⟨hx, hb, hml, hown, fun w h => hts w (List.mem_cons_of_mem _ h), hNF, hK, hA, rfl⟩ ⟨rfl, rfl, rfl, rfl, hr, hlocks, hin, rfl, _, rfl, rfl⟩ ⟨hX, rfl, xA_ge hN hX.2.2.2.2.2.2⟩ htab s.heap [] _ hP hD va_S.rf hl9
/-- a static call of such a method -/
theorem k_callSW (C : xC z cc own nl) (F : xF z l rm D tys) (Y : xY0 z N0 sa) {y : MethodName} {b : ByteArray} {n fr lo : Nat} {hh : List (Nat × Nat × Nat × Nat)} {As st0 : List Value} (hM : xMW l D tys y b n hh fr lo As ad M N0 sa f)
    {index : Nat} (h1 : Cond.methodLink own index y ∈ xa_W) (h2 : Cond.static y ∈ xa_W) (h4 : Cond.initialized y.cls ∈ xa_W) (h5 : Cond.codeWith y b n (some .int) hh ∈ xa_W)
    (hd : y.cls ≠ "java/lang/invoke/MethodHandle" ∧ y.cls ≠ "java/lang/invoke/VarHandle" ∧ (parseMethodDescriptor y.desc).map (fun d => d.parameters.length) = some As.length)
    (hR : fr + 1 ≤ rm.frames ∧ 8 + (n + 11) + lo ≤ rm.locals) (hf : cs + 1 ≤ rm.cells ∧ ss + 6 ≤ rm.slots)
    (hst : st0 = As.reverse ++ rest) (hw : (rest.map fun v => v.category).sum ≤ 8) (hdg : decode cc pc = .ok (.invokestatic index, 3))
    (kk : ∀ (r : Int32) (M' : Nat → va_E), f r M' → xK z (xw ad M' 187) (cs + 1) (ss + 6) (pc + 3) lv (.int r :: rest)) : xK z (xw ad M 187) cs ss pc lv st0 := by
  obtain ⟨p, l, e, R, s, m, args, below, meth, c, A, H0, D, tys, nL, Q⟩ := z
  obtain ⟨hx, hb, hml, hown, hts, hN, hK, hA, hn0⟩ := C
  obtain ⟨rfl, rfl, rfl, rfl⟩ := F
  obtain ⟨hX, rfl, hAN⟩ := Y
  intro H locs ls hP hD hS hl0
  have hp := xPx.pre (av := As) hN hK hP hD hX hS hAN
  have hG : GoodIn xa_W (Cond.codeWith y b n (some .int) hh :: xa_W) := by
    intro w hw9
    have h9 : w ∈ xa_W := by
      rcases List.mem_cons.mp hw9 with rfl | h9
      · exact h5
      · exact h9
    exact ⟨h9, good_of_word (List.mem_filter.mp h9).2⟩
  have cw : vx_CSW R s args own index y b n (some .int) hh (Cond.codeWith y b n (some .int) hh :: xa_W) { frames := fr, cells := 1, slots := 6, locals := lo } 1 6 As.length := by
    refine ⟨⟨rfl, rfl, hR.1, hR.2, pay_in hts hG, List.mem_cons_self⟩, hts _ h5, hts _ h4, ⟨hd.1, hd.2.1⟩, fun sig h => ?_, hts _ h1, hts _ h2⟩
    have h2 := hd.2.2
    rw [h] at h2
    exact (Option.some.inj h2).symm
  refine k_run (tys := tys) (post := fun v w' => ∃ (r : Int32) (M' : Nat → va_E), v = some (.int r) ∧ w' = xw ad M' 187 ∧ f r M') (vx_runSW (e := e) (below := below) (meth := meth) (As := As) (rest := rest) ⟨hx, hb, hml, hown, hts⟩ (hM H.size) cw hp rfl rfl hl0.1 hst (lv_room hw) hdg hf) hA hD hS hl0 (fun v w9 h9 => ?_)
  obtain ⟨r, M', rfl, rfl, h9⟩ := h9
  exact kk r M' h9
end XTH
