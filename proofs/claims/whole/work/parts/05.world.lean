/-! ===== words: one list for all methods ===== -/
def xa_W : List Cond := lw_tbl.filter goodWord
theorem xa_mem {w : Cond} (h : w ∈ lw_tbl) (g : goodWord w = true) : w ∈ xa_W := List.mem_filter.mpr ⟨h, g⟩
theorem xa_t {w : Cond} (i : Nat) (h : tables_1[i]? = some w) (g : goodWord w = true) : w ∈ xa_W := xa_mem (List.mem_append_right _ (List.mem_of_getElem? h)) g
theorem xa_s {w : Cond} (i : Nat) (h : (k2_sels lw_privs)[i]? = some w) (g : goodWord w = true) : w ∈ xa_W := xa_mem (List.mem_append_left _ (List.mem_of_getElem? h)) g
theorem xa_good {y : MethodName} {b : ByteArray} {n : Nat} {r : Option FieldType} (hc : Cond.code y b n r ∈ xa_W) : GoodIn xa_W (Cond.code y b n r :: xa_W) := by
  intro w hw
  have h : w ∈ xa_W := by
    rcases List.mem_cons.mp hw with rfl | h
    · exact hc
    · exact h
  exact ⟨h, good_of_word (List.mem_filter.mp h).2⟩
def xa_nest : Cond → Bool
  | .fieldLinkNest .. => true
  | .methodLinkNest .. => true
  | _ => false
def xa_N : List Cond := lw_tbl.filter xa_nest
theorem xa_n {w : Cond} (i : Nat) (h : tables_1[i]? = some w) (g : xa_nest w = true) : w ∈ xa_N := List.mem_filter.mpr ⟨List.mem_append_right _ (List.mem_of_getElem? h), g⟩
def xa_NF (U : State) : Prop := ∀ w ∈ xa_N, va_Nw w U
theorem xa_NF.warm {s U : State} (hW : s.WarmedH U.vm) (h : xa_NF s) : xa_NF U := by
  intro w hw
  have h1 := h w hw
  have h2 := (List.mem_filter.mp hw).2
  cases w <;> first | exact va_Nw.warmF hW h1 | exact va_Nw.warmM hW h1 | exact absurd h2 (by simp [xa_nest])
theorem xa_NF.same {u U : State} (hv : u.vm = U.vm) (h : xa_NF u) : xa_NF U := by
  intro w hw
  have h1 := h w hw
  have h2 := (List.mem_filter.mp hw).2
  cases w <;> first | exact va_Nw.same rfl hv h1 | exact absurd h2 (by simp [xa_nest])
/-! ===== worlds: cells by number ===== -/
def xw (ad : Nat → Nat) (M : Nat → va_E) (n : Nat) : va_W := (List.range n).map fun i => (ad i, M i)
theorem xw_get {ad : Nat → Nat} {M : Nat → va_E} {n i : Nat} (h : i < n) : (xw ad M n)[i]? = some (ad i, M i) := by
  simp [xw, h]
theorem xw_at {ad : Nat → Nat} {M : Nat → va_E} {n i : Nat} {e : va_E} (h : i < n) (he : M i = e) : (xw ad M n)[i]? = some (ad i, e) := by
  rw [xw_get h, he]
theorem xw_len {ad : Nat → Nat} {M : Nat → va_E} {n : Nat} : (xw ad M n).length = n := by simp [xw]
theorem xw_set {ad : Nat → Nat} {M : Nat → va_E} {n i : Nat} {e : va_E} : (xw ad M n).set i (ad i, e) = xw ad (va_up M i e) n := by
  apply List.ext_getElem?
  intro j
  rw [List.getElem?_set]
  by_cases hj : j < n
  · rw [xw_get (M := va_up M i e) hj, xw_get (M := M) hj, xw_len]
    by_cases hij : i = j
    · subst hij
      rw [if_pos rfl, if_pos hj]
      simp [va_up]
    · rw [if_neg hij]
      simp [va_up, Ne.symm hij]
  · have h1 : (xw ad M n)[j]? = none := List.getElem?_eq_none (by rw [xw_len]; omega)
    have h2 : (xw ad (va_up M i e) n)[j]? = none := List.getElem?_eq_none (by rw [xw_len]; omega)
    rw [h1, h2, xw_len]
    by_cases hij : i = j
    · subst hij
      rw [if_pos rfl, if_neg hj]
    · rw [if_neg hij]
theorem xw_push {ad : Nat → Nat} {M : Nat → va_E} {n q : Nat} {e : va_E} : xw ad M n ++ [(q, e)] = xw (va_up ad n q) (va_up M n e) (n + 1) := by
  unfold xw
  rw [List.range_succ, List.map_append]
  congr 1
  · apply List.map_congr_left
    intro i hi
    have := List.mem_range.mp hi
    simp [va_up, Nat.ne_of_lt this]
  · simp [va_up]
/-! ===== the judgement: z is all that stays ===== -/
abbrev xk : Type := Program × Launch × Env × Room × State × MethodId × Array Value × List Frame × Method × Code × (Nat → Prop) × Heap × va_G × List (ClassId × FieldType) × Nat × (State → Prop)
def xK : xk → va_W → Nat → Nat → Nat → List (Nat × Value) → List Value → Prop
  | (p, l, e, R, s, m, args, below, meth, c, A, H0, D, _, nL, Q), w, cs, ss, pc, lv, st => ∀ (H : Heap) (locs : List Loc) (ls : Array Slot), va_P D vwCl w H → va_D A w → va_S A H0 H locs → lv_has ls nL lv → W p l e R s m args below meth c H locs cs ss Q (F0 m pc ls st)
def xC : xk → ByteArray → String → Nat → Prop
  | (p, _, _, _, s, m, args, _, _, c, A, H0, D, tys, nL, _), cc, own, nl => p.tables.exec = Jvm.exec ∧ c.code = cc ∧ c.maxLocals = nL ∧ s.vm.findClass own = some m.cls ∧ (∀ w ∈ xa_W, w.before args s = true) ∧ xa_NF s ∧ va_K D vwCl tys s ∧ (∀ q, H0.size ≤ q → A q) ∧ nL = nl
/-- a method's end -/
def xQ (D : va_G) (post : Option Value → va_W → Prop) (w : va_W) (sz : Nat) : Array Value → State → Outcome → State → Prop := fun _ st oc t => (∃ (v : Option Value) (w' : va_W), oc = .returned v ∧ post v w' ∧ va_P D vwCl w' t.heap ∧ va_D (va_A w sz) w') ∧ va_F (va_A w sz) st t
def xE : xk → Launch → Room → va_G → List (ClassId × FieldType) → Option FieldType → String → (Option Value → va_W → Prop) → Nat → Nat → Prop
  | (_, l', _, R, s, _, args, below, meth, _, A, H0, D', tys', _, Q), l, rm, D, tys, ret, nm, post, mc, ms => l' = l ∧ R = rm ∧ D' = D ∧ tys' = tys ∧ meth.sig.returnType = ret ∧ meth.locks = false ∧ meth.name = nm ∧ H0 = s.heap ∧ ∃ w0, A = va_A w0 s.heap.size ∧ Q = MQ below (xQ D post w0 s.heap.size) args s mc ms (va_A w0 s.heap.size)
/-- a method's contract: from the world w with the arguments av it returns, with 'post answer world' -/
def xM (l : Launch) (D : va_G) (tys : List (ClassId × FieldType)) (y : MethodName) (b : ByteArray) (n : Nat) (r : Option FieldType) (fr lo mc ms : Nat) (av : List Value) (w : va_W) (post : Option Value → va_W → Prop) : Prop :=
  ∀ sz : Nat, Met l y (Cond.code y b n r :: xa_W) { frames := fr, cells := mc, slots := ms, locals := lo } (va_Pc av (fun U => U.heap.size = sz ∧ va_P D vwCl w U.heap ∧ va_K D vwCl tys U ∧ xa_NF U ∧ va_D (fun _ => True) w)) (xQ D post w sz) mc ms (va_A w sz)
theorem xM.of {l : Launch} {D : va_G} {tys : List (ClassId × FieldType)} {y : MethodName} {b : ByteArray} {n : Nat} {r : Option FieldType} {fr lo mc ms : Nat} {av : List Value} {w : va_W} {post : Option Value → va_W → Prop} (hy : plainName y.cls = true) (hn : (lg_sl av).length ≤ n)
    (body : ∀ z : xk, xC z b y.cls n → xE z l { frames := fr, cells := mc, slots := ms, locals := lo } D tys r y.name post mc ms → xK z w 0 0 0 (lv_args 0 av) []) : xM l D tys y b n r fr lo mc ms av w post := by
  intro sz
  refine Met.ofW (cc := b) (maxL := n) (ret := r) hy rfl ?_
  intro p e s m args below meth c s₁ B hml hv
  obtain ⟨rfl, hsz, hP, hK, hN, hD0⟩ := hv
  have hx := B.exec
  have hb := B.bytes
  have hr := B.returns
  have hts := atoms_spec (ws := Cond.code y b n r :: xa_W) B.pre
  have hown : s.vm.findClass y.cls = some m.cls := findClass_of_methodNamed B.named
  have hlocks := B.notSynchronized
  have hin : meth.name = y.name := (name_of_methodNamed B.named B.method).1
  subst hsz
  have hD := hD0.self (sz := s.heap.size)
  have hA : ∀ q : Nat, s.heap.size ≤ q → va_A w s.heap.size q := fun q h => Or.inr h
  have hl := lv_entry av (n := n) hn
  rw [lg_entry_eq]
  exact body (p, l, e, _, s, m, av.toArray, below, meth, c, va_A w s.heap.size, s.heap, D, tys, n, _) ⟨hx, hb, hml, hown, fun w h => hts w (List.mem_cons_of_mem _ h), hN, hK, hA, rfl⟩ ⟨rfl, rfl, rfl, rfl, hr, hlocks, hin, rfl, w, rfl, rfl⟩ s.heap [] _ hP hD va_S.rf hl
