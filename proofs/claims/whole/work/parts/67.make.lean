/-! ===== what is made: objects and arrays, at the world's end ===== -/
theorem lx_get {α : Type} (X L : List α) (k : Nat) : (X ++ L)[X.length + k]? = L[k]? := by
  rw [List.getElem?_append_right (Nat.le_add_right _ _), Nat.add_sub_cancel_left]
theorem lx_set {α : Type} (X L : List α) (k : Nat) (e : α) : (X ++ L).set (X.length + k) e = X ++ L.set k e := by
  rw [List.set_append_right _ _ (Nat.le_add_right _ _), Nat.add_sub_cancel_left]
def xA (U : State) : Prop := va_AO "ExactMoney$Wide" U ∧ va_AO "ExactMoney$Pool" U ∧ va_AOA .int U
theorem xA.moved {u U : State} (h : u.vm.Alike U.vm) (q : xA u) : xA U := ⟨q.1.moved h, q.2.1.moved h, q.2.2.moved h⟩
def xYA : xk → Prop
  | (_, _, _, _, s, _, _, _, _, _, _, _, _, _, _, _) => xA s
def xPA (D : va_G) (tys : List (ClassId × FieldType)) (w : va_W) (sz : Nat) (U : State) : Prop := (U.heap.size = sz ∧ va_P D vwCl w U.heap ∧ va_K D vwCl tys U ∧ xa_NF U ∧ va_D (fun _ => True) w) ∧ xA U
/-- a maker's contract -/
def xMA (l : Launch) (D : va_G) (tys : List (ClassId × FieldType)) (y : MethodName) (b : ByteArray) (n fr lo mc ms : Nat) (av : List Value) (w : va_W) (post : Option Value → va_W → Prop) : Prop :=
  ∀ sz : Nat, Met l y (Cond.code y b n none :: xa_W) { frames := fr, cells := mc, slots := ms, locals := lo } (va_Pc av (xPA D tys w sz)) (xQ D post w sz) mc ms (va_A w sz)
theorem xMA.of {l : Launch} {D : va_G} {tys : List (ClassId × FieldType)} {y : MethodName} {b : ByteArray} {n fr lo mc ms : Nat} {av : List Value} {w : va_W} {post : Option Value → va_W → Prop} (hy : plainName y.cls = true) (hn : (lg_sl av).length ≤ n)
    (body : ∀ z : xk, xC z b y.cls n → xE z l { frames := fr, cells := mc, slots := ms, locals := lo } D tys none y.name post mc ms → xYA z → xK z w 0 0 0 (lv_args 0 av) []) : xMA l D tys y b n fr lo mc ms av w post := by
  intro sz
  refine Met.ofW (cc := b) (maxL := n) (ret := none) hy rfl ?_
  intro p e s m args below meth c s₁ B hml hv
  obtain ⟨rfl, ⟨hsz, hP, hK, hN, hD0⟩, hXA⟩ := hv
  have hx := B.exec
  have hb := B.bytes
  have hr := B.returns
  have hts := atoms_spec (ws := Cond.code y b n none :: xa_W) B.pre
  have hown : s.vm.findClass y.cls = some m.cls := findClass_of_methodNamed B.named
  have hlocks := B.notSynchronized
  have hin : meth.name = y.name := (name_of_methodNamed B.named B.method).1
  subst hsz
  have hD := hD0.self (sz := s.heap.size)
  have hA : ∀ q : Nat, s.heap.size ≤ q → va_A w s.heap.size q := fun q h => Or.inr h
  have hl := lv_entry av (n := n) hn
  rw [lg_entry_eq]
  exact body (p, l, e, _, s, m, av.toArray, below, meth, c, va_A w s.heap.size, s.heap, D, tys, n, _) ⟨hx, hb, hml, hown, fun w h => hts w (List.mem_cons_of_mem _ h), hN, hK, hA, rfl⟩ ⟨rfl, rfl, rfl, rfl, hr, hlocks, hin, rfl, w, rfl, rfl⟩ hXA s.heap [] _ hP hD va_S.rf hl
section XMK
variable {z : xk} {w X L L' : va_W} {cc : ByteArray} {own : String} {nl : Nat} {cs ss : Nat} {pc : Nat} {lv : List (Nat × Value)} {rest : List Value}
variable {l : Launch} {rm : Room} {D : va_G} {tys : List (ClassId × FieldType)} {ca : Nat → ClassId}
theorem xPA.pre {s : State} {H : Heap} {av : List Value} (hN : xa_NF s) (hK : va_K D vwCl tys s) (hP : va_P D vwCl w H) {A : Nat → Prop} (hD : va_D A w) (hXA : xA s) : FrameBlind (va_Pc av (xPA D tys w H.size)) ∧ ∀ U : State, U.heap = H → s.WarmedH U.vm → va_Pc av (xPA D tys w H.size) av.toArray U := by
  refine ⟨fun a U g mk q => ?_, fun U hU hW => ⟨rfl, ⟨by rw [hU], by rw [hU]; exact hP, va_K.moved hW.alike hK, hN.warm hW, hD.weaken (fun _ _ _ _ => trivial)⟩, hXA.moved hW.alike⟩⟩
  obtain ⟨q0, ⟨q1, qP, qK, qN, qD⟩, qA⟩ := q
  exact ⟨q0, ⟨q1, qP, va_K.moved (u := U) (U := U.calling g mk a) (Vm.Alike.refl U.vm) qK, xa_NF.same (u := U) (U := U.calling g mk a) rfl qN, qD⟩, xA.moved (u := U) (U := U.calling g mk a) (Vm.Alike.refl U.vm) qA⟩
/-- a maker of a nest mate is called -/
theorem g_callIN (C : xC z cc own nl) (F : xF z l rm D tys) (Y : xYA z) {y : MethodName} {b : ByteArray} {n fr lo mc ms : Nat} {a : Nat} {e : va_E} {B : Type} {Pb : B → Prop} {pic : B → va_W}
    (hM : xMA l D tys y b n fr lo mc ms [.ref a] ((X ++ L) ++ [(a, e)]) (fun v w' => v = none ∧ ∃ b : B, Pb b ∧ w' = (X ++ L) ++ pic b))
    {index : Nat} {host : String} (h1 : Cond.methodLinkNest own index y host ∈ xa_N) (h2 : Cond.instanceMethod y ∈ xa_W) (h3 : y.name = "<init>") (h4 : Cond.initialized y.cls ∈ xa_W) (h5 : Cond.code y b n none ∈ xa_W)
    (hd : y.cls ≠ "java/lang/invoke/MethodHandle" ∧ y.cls ≠ "java/lang/invoke/VarHandle" ∧ (parseMethodDescriptor y.desc).map (fun d => d.parameters.length) = some 0)
    (hR : fr + 1 ≤ rm.frames ∧ 8 + (n + 11) + lo ≤ rm.locals) (hf : cs + mc ≤ rm.cells ∧ ss + ms ≤ rm.slots) (hw : (rest.map fun v => v.category).sum ≤ 8) (hdg : decode cc pc = .ok (.invokespecial index, 3))
    (kk : ∀ b : B, Pb b → xK z (X ++ (L ++ pic b)) (cs + mc) (ss + ms) (pc + 3) lv rest) : xK z (X ++ (L ++ [(a, e)])) cs ss pc lv (.ref a :: rest) := by
  rw [← List.append_assoc]
  obtain ⟨p, l, e, R, s, m, args, below, meth, c, A, H0, D, tys, nL, Q⟩ := z
  obtain ⟨hx, hb, hml, hown, hts, hN, hK, hA, hn0⟩ := C
  obtain ⟨rfl, rfl, rfl, rfl⟩ := F
  intro H locs ls hP hD hS hl0
  have hp := xPA.pre (av := [.ref a]) hN hK hP hD Y
  refine k_run (tys := tys) (va_runIN (As := []) (rest := rest) (b := a) (n := 0) ⟨hx, hb, hml, hown, hts⟩ (hM H.size) ⟨va_cnB (ws' := xa_W) 0 hts (xa_good h5) rfl rfl rfl (hN _ h1) (hts _ h4) hd hR, h3, hts _ h2⟩ hp rfl rfl hl0.1 rfl (lv_room hw) hdg hf) hA hD hS hl0 (fun v w' h => ?_)
  obtain ⟨rfl, b9, hb9, rfl⟩ := h
  have := kk b9 hb9
  rw [← List.append_assoc] at this
  exact this
theorem g_callI (C : xC z cc own nl) (F : xF z l rm D tys) (Y : xYA z) {y : MethodName} {b : ByteArray} {n fr lo mc ms : Nat} {a : Nat} {e : va_E} {B : Type} {Pb : B → Prop} {pic : B → va_W}
    (hM : xMA l D tys y b n fr lo mc ms [.ref a] ((X ++ L) ++ [(a, e)]) (fun v w' => v = none ∧ ∃ b : B, Pb b ∧ w' = (X ++ L) ++ pic b))
    {index : Nat} (h1 : Cond.methodLink own index y ∈ xa_W) (h2 : Cond.instanceMethod y ∈ xa_W) (h3 : y.name = "<init>") (h4 : Cond.initialized y.cls ∈ xa_W) (h5 : Cond.code y b n none ∈ xa_W)
    (hd : y.cls ≠ "java/lang/invoke/MethodHandle" ∧ y.cls ≠ "java/lang/invoke/VarHandle" ∧ (parseMethodDescriptor y.desc).map (fun d => d.parameters.length) = some 0)
    (hR : fr + 1 ≤ rm.frames ∧ 8 + (n + 11) + lo ≤ rm.locals) (hf : cs + mc ≤ rm.cells ∧ ss + ms ≤ rm.slots) (hw : (rest.map fun v => v.category).sum ≤ 8) (hdg : decode cc pc = .ok (.invokespecial index, 3))
    (kk : ∀ b : B, Pb b → xK z (X ++ (L ++ pic b)) (cs + mc) (ss + ms) (pc + 3) lv rest) : xK z (X ++ (L ++ [(a, e)])) cs ss pc lv (.ref a :: rest) := by
  rw [← List.append_assoc]
  obtain ⟨p, l, e, R, s, m, args, below, meth, c, A, H0, D, tys, nL, Q⟩ := z
  obtain ⟨hx, hb, hml, hown, hts, hN, hK, hA, hn0⟩ := C
  obtain ⟨rfl, rfl, rfl, rfl⟩ := F
  intro H locs ls hP hD hS hl0
  have hp := xPA.pre (av := [.ref a]) hN hK hP hD Y
  refine k_run (tys := tys) (va_runI (As := []) (rest := rest) (b := a) (n := 0) ⟨hx, hb, hml, hown, hts⟩ (hM H.size) ⟨callB_of (ws' := xa_W) 0 hts (xa_good h5) rfl rfl rfl (hts _ h4) (hts _ h1) hd hR, h3, hts _ h2⟩ hp rfl rfl hl0.1 rfl (lv_room hw) hdg hf) hA hD hS hl0 (fun v w' h => ?_)
  obtain ⟨rfl, b9, hb9, rfl⟩ := h
  have := kk b9 hb9
  rw [← List.append_assoc] at this
  exact this
/-- new -/
theorem g_new (C : xC z cc own nl) (F : xF z l rm D tys) {Cn : String} {T : u_T} {N ci index : Nat} (hin : ∀ w ∈ u_ws Cn T N, w ∈ xa_W) (ty : Nat → FieldType) (hty : ∀ k, k < N → parseFieldDescriptor (T k).2.2.1 = some (ty k)) (hcl : Cond.classLink own index Cn ∈ xa_W) (hinst : Cond.instantiable Cn N ∈ xa_W) (hini : Cond.initialized Cn ∈ xa_W) (hc : vwCl[ci]? = some (Cn, T, N)) {fs : List Value} (hfs : ∀ j, j < N → defaultValue (ty j) = vp_V fs j) (hcells : cs + 1 ≤ rm.cells) (hslots : ss + N ≤ rm.slots) (hdg : decode cc pc = .ok (.new index, 3))
    (kk : ∀ q : Nat, xK z (X ++ (L ++ [(q, .inr (ci, fs))])) (cs + 1) (ss + N) (pc + 3) lv (.ref q :: rest)) : xK z (X ++ L) cs ss pc lv rest := by
  obtain ⟨p, l, e, R, s, m, args, below, meth, c, A, H0, D, tys, nL, Q⟩ := z
  obtain ⟨hx, hb, hml, hown, hts, hN, hK, hA, hn0⟩ := C
  obtain ⟨rfl, rfl, rfl, rfl⟩ := F
  intro H locs ls hP hD hS hl0
  refine va_new hx hb hts hin ty hty hown (hts _ hcl) (hts _ hinst) (hts _ hini) hK hP hD hS hA hc hfs hcells hslots hdg (fun q H1 hP1 hD1 hS1 => ?_)
  rw [List.append_assoc] at hP1 hD1
  exact kk q H1 locs ls hP1 hD1 hS1 hl0
/-- new int[n], new long[n] -/
theorem g_newi (C : xC z cc own nl) (F : xF z l rm D (xty ca)) (harr : Cond.arrayClass .int ∈ xa_W) {v : Int32} (N : Nat) (hv : v = nI N) (hn : N < 1000) (hcells : cs + 1 ≤ rm.cells) (hslots : ss + N ≤ rm.slots) (hdg : decode cc pc = .ok (.newarray .int, 2))
    (kk : ∀ q : Nat, xK z (X ++ (L ++ [(q, .inl (ca 0, N, .inl (fun _ => 0)))])) (cs + 1) (ss + N) (pc + 2) lv (.ref q :: rest)) : xK z (X ++ L) cs ss pc lv (.int v :: rest) := by
  obtain ⟨p, l, e, R, s, m, args, below, meth, c, A, H0, D, tys, nL, Q⟩ := z
  obtain ⟨hx, hb, hml, hown, hts, hN, hK, hA, hn0⟩ := C
  obtain ⟨rfl, rfl, rfl, rfl⟩ := F
  subst hv
  intro H locs ls hP hD hS hl0
  refine va_newa (atype := .int) (ty := .int) (N' := N) (a0 := (N, .inl (fun _ => 0))) hx hb (hts _ harr) rfl hK hP hD hS hA (fun cA => rfl) (nI_pos (n := N) (by omega)) (nI_clamp (by omega)) (by show N * 4 ≤ _; omega) hcells hslots hdg (fun q cA H1 hK1 hP1 hD1 hS1 => ?_)
  have h1 : s.vm.findClass ("[" ++ FieldType.int.toString) = some cA := (hK1.2 5 _ rfl).2
  have h2 : s.vm.findClass ("[" ++ FieldType.int.toString) = some (ca 0) := (hK.2 0 _ rfl).2
  have h3 : cA = ca 0 := Option.some.inj (h1.symm.trans h2)
  subst h3
  rw [List.append_assoc] at hP1 hD1
  exact kk q H1 locs ls hP1 hD1 hS1 hl0
theorem g_newl (C : xC z cc own nl) (F : xF z l rm D (xty ca)) (harr : Cond.arrayClass .long ∈ xa_W) {v : Int32} (N : Nat) (hv : v = nI N) (hn : N < 1000) (hcells : cs + 1 ≤ rm.cells) (hslots : ss + N ≤ rm.slots) (hdg : decode cc pc = .ok (.newarray .long, 2))
    (kk : ∀ q : Nat, xK z (X ++ (L ++ [(q, .inl (ca 1, N, .inr (.inl (fun _ => 0))))])) (cs + 1) (ss + N) (pc + 2) lv (.ref q :: rest)) : xK z (X ++ L) cs ss pc lv (.int v :: rest) := by
  obtain ⟨p, l, e, R, s, m, args, below, meth, c, A, H0, D, tys, nL, Q⟩ := z
  obtain ⟨hx, hb, hml, hown, hts, hN, hK, hA, hn0⟩ := C
  obtain ⟨rfl, rfl, rfl, rfl⟩ := F
  subst hv
  intro H locs ls hP hD hS hl0
  refine va_newa (atype := .long) (ty := .long) (N' := N) (a0 := (N, .inr (.inl (fun _ => 0)))) hx hb (hts _ harr) rfl hK hP hD hS hA (fun cA => rfl) (nI_pos (n := N) (by omega)) (nI_clamp (by omega)) (by show N * 8 ≤ _; omega) hcells hslots hdg (fun q cA H1 hK1 hP1 hD1 hS1 => ?_)
  have h1 : s.vm.findClass ("[" ++ FieldType.long.toString) = some cA := (hK1.2 5 _ rfl).2
  have h2 : s.vm.findClass ("[" ++ FieldType.long.toString) = some (ca 1) := (hK.2 1 _ rfl).2
  have h3 : cA = ca 1 := Option.some.inj (h1.symm.trans h2)
  subst h3
  rw [List.append_assoc] at hP1 hD1
  exact kk q H1 locs ls hP1 hD1 hS1 hl0
/-- new C[n] -/
theorem g_anew (C : xC z cc own nl) (F : xF z l rm D (xty ca)) (t0 : Nat) {Cn : String} (ht : (xty ca)[t0]? = some (ca t0, .object Cn)) {index : Nat} (hcl : Cond.classLink own index Cn ∈ xa_W) (hov : ∀ s, (z.2.2.2.2.1 = s) → va_AO Cn s) {v : Int32} (N : Nat) (hv : v = nI N) (hn : N < 1000) (hcells : cs + 1 ≤ rm.cells) (hslots : ss + N ≤ rm.slots) (hdg : decode cc pc = .ok (.anewarray index, 3))
    (kk : ∀ q : Nat, xK z (X ++ (L ++ [(q, .inl (ca t0, N, .inr (.inr (.inr (.inr (fun _ => none))))))])) (cs + 1) (ss + N) (pc + 3) lv (.ref q :: rest)) : xK z (X ++ L) cs ss pc lv (.int v :: rest) := by
  obtain ⟨p, l, e, R, s, m, args, below, meth, c, A, H0, D, tys, nL, Q⟩ := z
  obtain ⟨hx, hb, hml, hown, hts, hN, hK, hA, hn0⟩ := C
  obtain ⟨rfl, rfl, rfl, rfl⟩ := F
  subst hv
  intro H locs ls hP hD hS hl0
  refine va_newq (C := Cn) (N' := N) hx hb hown (hts _ hcl) (hov s rfl) hK hP hD hS hA (nI_pos (n := N) (by omega)) (nI_clamp (by omega)) (by omega) hcells hslots hdg (fun q cA H1 hK1 hP1 hD1 hS1 => ?_)
  obtain ⟨_, _, -, -, -, h1⟩ := (hK1.2 5 _ rfl).2
  obtain ⟨_, _, -, -, -, h2⟩ := (hK.2 t0 _ ht).2
  have h3 : cA = ca t0 := Option.some.inj (h1.symm.trans h2)
  subst h3
  rw [List.append_assoc] at hP1 hD1
  exact kk q H1 locs ls hP1 hD1 hS1 hl0
/-- a place of an array of objects is set -/
theorem g_aast (C : xC z cc own nl) (F : xF z l rm D (xty ca)) (k0 t0 k1 ci : Nat) {r : vw_C} {n a v : Nat} {vs : List Value} {f : Nat → Option Nat} (ha : L[k0]? = some (a, .inl (ca t0, n, .inr (.inr (.inr (.inr f)))))) (ht : (xty ca)[t0]? = some (ca t0, .object r.1)) (hv : L[k1]? = some (v, .inr (ci, vs))) (hc : vwCl[ci]? = some r) {i : Int32} (k : Nat) (hi : i = nI k) (hk : k < n) (hn : n < 1000) (hdg : decode cc pc = .ok (.aastore, 1))
    (hL : L.set k0 (a, .inl (ca t0, n, .inr (.inr (.inr (.inr (va_up f k (some v))))))) = L') (kk : xK z (X ++ L') cs ss (pc + 1) lv rest) : xK z (X ++ L) cs ss pc lv (.ref v :: .int i :: .ref a :: rest) := by
  obtain ⟨p, l, e, R, s, m, args, below, meth, c, A, H0, D, tys, nL, Q⟩ := z
  obtain ⟨hx, hb, hml, hown, hts, hN, hK, hA, hn0⟩ := C
  obtain ⟨rfl, rfl, rfl, rfl⟩ := F
  subst hi
  subst hL
  intro H locs ls hP hD hS hl0
  refine va_astq hx hb hK hP hD hS (X.length + k0) t0 (X.length + k1) ci ((lx_get _ _ _).trans ha) ht ((lx_get _ _ _).trans hv) hc (vp_in_nI hk (by omega)) hdg (fun H1 locs1 hP1 hD1 hS1 => ?_)
  rw [nI_clamp (by omega), lx_set] at hP1 hD1
  exact kk H1 locs1 ls hP1 hD1 hS1 hl0
theorem g_iast (C : xC z cc own nl) (F : xF z l rm D (xty ca)) (k0 : Nat) {n a : Nat} {f : Nat → Int32} {x : Int32} (ha : L[k0]? = some (a, .inl (ca 0, n, .inl f))) {i : Int32} (k : Nat) (hi : i = nI k) (hk : k < n) (hn : n < 1000) (hdg : decode cc pc = .ok (.iastore, 1))
    (hL : L.set k0 (a, .inl (ca 0, n, .inl (upd f k x))) = L') (kk : xK z (X ++ L') cs ss (pc + 1) lv rest) : xK z (X ++ L) cs ss pc lv (.int x :: .int i :: .ref a :: rest) := by
  obtain ⟨p, l, e, R, s, m, args, below, meth, c, A, H0, D, tys, nL, Q⟩ := z
  obtain ⟨hx, hb, hml, hown, hts, hN, hK, hA, hn0⟩ := C
  obtain ⟨rfl, rfl, rfl, rfl⟩ := F
  subst hi
  subst hL
  intro H locs ls hP hD hS hl0
  refine va_iast hx hb hK hP hD hS (X.length + k0) 0 ((lx_get _ _ _).trans ha) rfl (vp_in_nI hk (by omega)) hdg (fun H1 locs1 hP1 hD1 hS1 => ?_)
  rw [nI_clamp (by omega), lx_set] at hP1 hD1
  exact kk H1 locs1 ls hP1 hD1 hS1 hl0
/-- an array of references, seen otherwise -/
theorem g_arr (k0 : Nat) {n a : Nat} {cA : ClassId} {f g : Nat → Option Nat} (ha : L[k0]? = some (a, .inl (cA, n, .inr (.inr (.inr (.inr f)))))) (hfg : ∀ j, j < n → f j = g j)
    (hL : L.set k0 (a, .inl (cA, n, .inr (.inr (.inr (.inr g))))) = L') (kk : xK z (X ++ L') cs ss pc lv rest) : xK z (X ++ L) cs ss pc lv rest := by
  obtain ⟨p, l, e, R, s, m, args, below, meth, c, A, H0, D, tys, nL, Q⟩ := z
  subst hL
  intro H locs ls hP hD hS hl0
  have h1 : (X ++ L)[X.length + k0]? = some (a, .inl (cA, n, .inr (.inr (.inr (.inr f))))) := (lx_get _ _ _).trans ha
  have h2 := hP _ _ h1
  have h3 : vp_cell cA (n, .inr (.inr (.inr (.inr f)))) = vp_cell cA (n, .inr (.inr (.inr (.inr g)))) := by
    rw [vp_cell_q, vp_cell_q]
    unfold arrV
    congr 2
    funext j
    exact congrArg va_rf (hfg j.1 j.2)
  have hP1 := hP.set hD h1 (e := .inl (cA, n, .inr (.inr (.inr (.inr g))))) (by show H[a]? = some (vp_cell _ _); rw [← h3]; exact h2) (fun _ _ => rfl)
  have hD1 := hD.set (e := .inl (cA, n, .inr (.inr (.inr (.inr g))))) h1
  rw [lx_set] at hP1 hD1
  exact kk H locs ls hP1 hD1 hS hl0
theorem g_eqL (hL : L = L') (kk : xK z (X ++ L') cs ss pc lv rest) : xK z (X ++ L) cs ss pc lv rest := by rw [hL]; exact kk
theorem g_get (C : xC z cc own nl) (k0 : Nat) {a ci : Nat} {fs : List Value} (he : L[k0]? = some (a, .inr (ci, fs))) {Cn : String} {T : u_T} {N : Nat} (hc : vwCl[ci]? = some (Cn, T, N)) (hin : ∀ w ∈ u_ws Cn T N, w ∈ xa_W) (k : Nat) (hk : k < N) {index : Nat} {ref : String} (hlink : Cond.fieldLink own index ref (T k).2.1 (T k).2.2.1 ∈ xa_W) (hsame : (T k).1 = ref) {v : Value} (hv : fs[k]? = some v) (hdg : decode cc pc = .ok (.getfield index, 3)) (kk : xK z (X ++ L) cs ss (pc + 3) lv (v :: rest)) : xK z (X ++ L) cs ss pc lv (.ref a :: rest) := by
  obtain ⟨p, l, e, R, s, m, args, below, meth, c, A, H0, D, tys, nL, Q⟩ := z
  obtain ⟨hx, hb, hml, hown, hts, hN, hK, hA, hn0⟩ := C
  exact fun H locs ls hP hD hS hl0 => va_get hx hb hts hin hown hK hP (X.length + k0) ((lx_get _ _ _).trans he) hc k hk (hts _ hlink) (by rw [hsame]; exact fun _ h => h) hv hdg (kk H locs ls hP hD hS hl0)
theorem g_put (C : xC z cc own nl) (k0 : Nat) {a ci : Nat} {fs : List Value} (he : L[k0]? = some (a, .inr (ci, fs))) {Cn : String} {T : u_T} {N : Nat} (hc : vwCl[ci]? = some (Cn, T, N)) (hin : ∀ w ∈ u_ws Cn T N, w ∈ xa_W) (ty0 : Nat → FieldType) (hty : ∀ k, k < N → parseFieldDescriptor (T k).2.2.1 = some (ty0 k)) (hnm : ∀ a, a < N → ∀ b, b < N → a ≠ b → (T a).2.1 ≠ (T b).2.1) (k : Nat) (hk : k < N) {index : Nat} {ref : String} (hlink : Cond.fieldLink own index ref (T k).2.1 (T k).2.2.1 ∈ xa_W) (hsame : (T k).1 = ref) (hfin : (T k).2.2.2 = false) {v : Value} (hn : narrow (ty0 k) v = v) (hfit : fits (ty0 k) v = true) (hlen : k < fs.length) (hdg : decode cc pc = .ok (.putfield index, 3)) (hL : L.set k0 (a, .inr (ci, fs.set k v)) = L') (kk : xK z (X ++ L') cs ss (pc + 3) lv rest) : xK z (X ++ L) cs ss pc lv (v :: .ref a :: rest) := by
  obtain ⟨p, l, e, R, s, m, args, below, meth, c, A, H0, D, tys, nL, Q⟩ := z
  obtain ⟨hx, hb, hml, hown, hts, hN, hK, hA, hn0⟩ := C
  subst hL
  rw [← lx_set] at kk
  exact fun H locs ls hP hD hS hl0 => va_put hx hb hts hin ty0 hty hnm hown hK hP hD hS (X.length + k0) ((lx_get _ _ _).trans he) hc k hk (hts _ hlink) (by rw [hsame]; exact fun _ h => h) hfin (hty k hk) hn hfit hlen hdg (fun H1 locs1 hP1 hD1 hS1 => kk H1 locs1 ls hP1 hD1 hS1 hl0)
theorem g_putF (C : xC z cc own nl) {rt : Option FieldType} {nm : String} {postz : Option Value → va_W → Prop} {mcz msz : Nat} (E : xE z l rm D tys rt nm postz mcz msz) (h9 : nm = "<init>") (k0 : Nat) {a ci : Nat} {fs : List Value} (he : L[k0]? = some (a, .inr (ci, fs))) {Cn : String} {T : u_T} {N : Nat} (hc : vwCl[ci]? = some (Cn, T, N)) (hin : ∀ w ∈ u_ws Cn T N, w ∈ xa_W) (ty0 : Nat → FieldType) (hty : ∀ k, k < N → parseFieldDescriptor (T k).2.2.1 = some (ty0 k)) (hnm : ∀ a, a < N → ∀ b, b < N → a ≠ b → (T a).2.1 ≠ (T b).2.1) (k : Nat) (hk : k < N) {index : Nat} {ref : String} (hlink : Cond.fieldLink own index ref (T k).2.1 (T k).2.2.1 ∈ xa_W) (hsame : (T k).1 = ref) (hfin : (T k).2.2.2 = true) (hdecl : (T k).1 = own) {v : Value} (hn : narrow (ty0 k) v = v) (hfit : fits (ty0 k) v = true) (hlen : k < fs.length) (hdg : decode cc pc = .ok (.putfield index, 3)) (hL : L.set k0 (a, .inr (ci, fs.set k v)) = L') (kk : xK z (X ++ L') cs ss (pc + 3) lv rest) : xK z (X ++ L) cs ss pc lv (v :: .ref a :: rest) := by
  obtain ⟨p, l, e, R, s, m, args, below, meth, c, A, H0, D, tys, nL, Q⟩ := z
  obtain ⟨hx, hb, hml, hown, hts, hN, hK, hA, hn0⟩ := C
  obtain ⟨rfl, rfl, rfl, rfl, hr, hlocks, hnm9, -⟩ := E
  subst hL
  rw [← lx_set] at kk
  exact fun H locs ls hP hD hS hl0 => va_putF hx hb hts hin ty0 hty hnm hown hK hP hD hS (X.length + k0) ((lx_get _ _ _).trans he) hc k hk (hts _ hlink) (by rw [hsame]; exact fun _ h => h) hfin (hnm9.trans h9) hdecl (hty k hk) hn hfit hlen hdg (fun H1 locs1 hP1 hD1 hS1 => kk H1 locs1 ls hP1 hD1 hS1 hl0)
/-- Object's own maker -/
theorem g_obj (C : xC z cc own nl) (F : xF z l rm D tys) {index : Nat} (h1 : Cond.methodLink own index Lib.objectInit ∈ xa_W) (h2 : Cond.instanceMethod Lib.objectInit ∈ xa_W) (h3 : Cond.code Lib.objectInit ⟨#[0xb1]⟩ 1 none ∈ xa_W) {a : Nat} (hR : 1 ≤ rm.frames ∧ 12 ≤ rm.locals) (hdg : decode cc pc = .ok (.invokespecial index, 3)) (kk : xK z w cs ss (pc + 3) lv []) : xK z w cs ss pc lv [.ref a] := by
  obtain ⟨p, l, e, R, s, m, args, below, meth, c, A, H0, D, tys, nL, Q⟩ := z
  obtain ⟨hx, hb, hml, hown, hts, hN, hK, hA, hn0⟩ := C
  obtain ⟨rfl, rfl, rfl, rfl⟩ := F
  exact fun H locs ls hP hD hS hl0 => W.objInit hx hb hown (hts _ h1) (hts _ h2) (hts _ h3) (g := F0 m pc ls [.ref a]) rfl (hl0.1.trans hml.symm) rfl hdg hR.1 hR.2 (kk H locs ls hP hD hS hl0)
/-- new int[n][4] -/
theorem g_mna (C : xC z cc own nl) (F : xF z l rm D (xty ca)) (Y : xYA z) {index : Nat} (hcl : Cond.classLink own index ("[" ++ (FieldType.array .int).toString) ∈ xa_W) (harr : Cond.arrayClass .int ∈ xa_W) {v u : Int32} (N K : Nat) (hv : v = nI N) (hu : u = nI K) (hn : N < 1000) (hk : K < 1000) (hcells : cs + (1 + N) ≤ rm.cells) (hslots : ss + (N + N * K) ≤ rm.slots) (hdg : decode cc pc = .ok (.multianewarray index 2, 4))
    (kk : ∀ (q : Nat) (r : Nat → Nat), xK z (X ++ (L ++ ((q, .inl (ca 4, N, .inr (.inr (.inr (.inr (fun i => if i < N then some (r i) else none)))))) :: (List.range N).map (fun i => (r i, .inl (ca 0, K, .inl (fun _ => 0))))))) (cs + 1 + N) (ss + N + N * K) (pc + 4) lv (.ref q :: rest)) : xK z (X ++ L) cs ss pc lv (.int u :: .int v :: rest) := by
  obtain ⟨p, l, e, R, s, m, args, below, meth, c, A, H0, D, tys, nL, Q⟩ := z
  obtain ⟨hx, hb, hml, hown, hts, hN, hK, hA, hn0⟩ := C
  obtain ⟨rfl, rfl, rfl, rfl⟩ := F
  subst hv
  subst hu
  intro H locs ls hP hD hS hl0
  have h2 : s.vm.findClass (FieldType.array .int).toString = some (ca 0) := (hK.2 0 _ rfl).2
  have e0 : (X ++ L) ++ va_pl [] (fun _ => Sum.inl (ca 0, 0, .inl (fun _ => 0))) = X ++ L := by simp [va_pl]
  refine va_mna (X := X ++ L) (L := []) (f := fun _ => Sum.inl (ca 0, 0, .inl (fun _ => 0))) (N' := N) (K' := K) (z := (K, .inl (fun _ => 0))) hx hb hown (hts _ hcl) Y.2.2 (hts _ harr) h2 hK (by rw [e0]; exact hP) (by rw [e0]; exact hD) hS hA (nI_pos (n := N) (by omega)) (nI_pos (n := K) (by omega)) (nI_clamp (by omega)) (nI_clamp (by omega)) (by omega) (by show K * 4 ≤ _; omega) (by omega) rfl rfl hcells hslots (fun c9 => by show ({ cls := c9, slots := Array.replicate K (.int 0), vm := .none } : Cell) = arrV c9 K (fun _ => .int 0); rw [arrV_new]) hdg (fun q r cA H1 hr1 hr2 hK1 hP1 hD1 hS1 => ?_)
  have h1 : s.vm.findClass ("[" ++ (FieldType.array .int).toString) = some cA := (hK1.2 5 _ rfl).2
  have h4 : s.vm.findClass ("[" ++ (FieldType.array .int).toString) = some (ca 4) := (hK.2 4 _ rfl).2
  have h3 : cA = ca 4 := Option.some.inj (h1.symm.trans h4)
  subst h3
  have e1 : va_pl ([] ++ (List.range N).map r) (vr_up (fun _ => Sum.inl (ca 0, 0, .inl (fun _ => 0))) ((List.range N).map r) (.inl (ca 0, K, .inl (fun _ => 0)))) = (List.range N).map (fun i => (r i, (.inl (ca 0, K, .inl (fun _ => 0)) : va_E))) := by
    unfold va_pl
    rw [List.nil_append, List.map_map]
    apply List.map_congr_left
    intro i hi
    show (r i, vr_up _ _ _ (r i)) = _
    rw [vr_up_in (List.mem_map.mpr ⟨i, hi, rfl⟩)]
  rw [e1, List.append_assoc, List.append_assoc] at hP1 hD1
  exact kk q r H1 locs ls hP1 hD1 hS1 hl0
end XMK
