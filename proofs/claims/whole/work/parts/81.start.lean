set_option maxRecDepth 100000 in
theorem inA_J0 : ∀ w ∈ u_ws RJ0 TJ0 2, w ∈ xa_W := by decide +kernel
set_option maxRecDepth 100000 in
theorem inA_Jx00060 : ∀ w ∈ u_ws RJx00060 TJx00060 6, w ∈ xa_W := by decide +kernel
theorem an_J0 : Cond.instantiable RJ0 4 ∈ xa_W := xa_t 676 (by decide +kernel) (by decide +kernel)
theorem an_Jx00060 : Cond.instantiable RJx00060 6 ∈ xa_W := xa_t 701 (by decide +kernel) (by decide +kernel)
theorem lt_33 : Cond.arrayOver (.object "ExactMoney$Wide") ∈ lw_tbl := List.mem_append_right _ (List.mem_of_getElem? (i := 33) (by decide +kernel))
theorem lt_35 : Cond.arrayOver (.object "ExactMoney$Pool") ∈ lw_tbl := List.mem_append_right _ (List.mem_of_getElem? (i := 35) (by decide +kernel))
theorem lt_180 : Cond.arrayOver (.array .int) ∈ lw_tbl := List.mem_append_right _ (List.mem_of_getElem? (i := 180) (by decide +kernel))
theorem lt_687 : Cond.stringRef RX6 126 "below is 0" ∈ lw_tbl := List.mem_append_right _ (List.mem_of_getElem? (i := 687) (by decide +kernel))
theorem lt_696 : Cond.stringRef RX6 161 "the SUM of b is 0" ∈ lw_tbl := List.mem_append_right _ (List.mem_of_getElem? (i := 696) (by decide +kernel))
theorem lt_724 : Cond.stringRef RX6 193 "no such figure" ∈ lw_tbl := List.mem_append_right _ (List.mem_of_getElem? (i := 724) (by decide +kernel))
theorem lt_733 : Cond.stringRef RX6 206 "no such byte" ∈ lw_tbl := List.mem_append_right _ (List.mem_of_getElem? (i := 733) (by decide +kernel))
theorem lt_627 : Cond.laysStatic Bundle.tN "UNASSIGNED_STACK" Bundle.steD ∈ lw_tbl := List.mem_append_right _ (List.mem_of_getElem? (i := 627) (by decide +kernel))
theorem lt_629 : Cond.laysStatic Bundle.tN "SUPPRESSED_SENTINEL" Bundle.listD ∈ lw_tbl := List.mem_append_right _ (List.mem_of_getElem? (i := 629) (by decide +kernel))
theorem lt_10 : Cond.initialized Bundle.tN ∈ lw_tbl := List.mem_append_right _ (List.mem_of_getElem? (i := 10) (by decide +kernel))
/-- the machine's facts at the law's entry -/
theorem ls_K {s : State} {args : Array Value} (hts : ∀ w ∈ lw_tbl, w.before args s = true) : ∃ (D : va_G) (ca : Nat → ClassId), va_K D vwCl (xty ca) s := by
  have htW : ∀ w ∈ xa_W, w.before args s = true := fun w h => hts w (List.mem_filter.mp h).1
  obtain ⟨c0, i0, hK0⟩ := u_known (C := RJ0) (T := TJ0) (N := 2) (n := 4) htW inA_J0 (htW _ an_J0)
  obtain ⟨c1, i1, hK1⟩ := u_known (C := RJx00060) (T := TJx00060) (N := 6) (n := 6) htW inA_Jx00060 (htW _ an_Jx00060)
  obtain ⟨c2, i2, hK2⟩ := u_known (C := RX0) (T := TX0) (N := 5) (n := 5) htW inA_X0 (htW _ an_X0)
  obtain ⟨c3, i3, hK3⟩ := u_known (C := RX1) (T := TX1) (N := 8) (n := 8) htW inA_X1 (htW _ an_X1)
  obtain ⟨c4, i4, hK4⟩ := u_known (C := RX2) (T := TX2) (N := 2) (n := 2) htW inA_X2 (htW _ an_X2)
  obtain ⟨c5, i5, hK5⟩ := u_known (C := RX3) (T := TX3) (N := 4) (n := 4) htW inA_X3 (htW _ an_X3)
  obtain ⟨c6, i6, hK6⟩ := u_known (C := RX4) (T := TX4) (N := 7) (n := 7) htW inA_X4 (htW _ an_X4)
  obtain ⟨c7, i7, hK7⟩ := u_known (C := RX5) (T := TX5) (N := 1) (n := 1) htW inA_X5 (htW _ an_X5)
  obtain ⟨c8, i8, hK8⟩ := u_known (C := RX6) (T := TX6) (N := 13) (n := 13) htW inA_X6 (htW _ an_X6)
  obtain ⟨c9, i9, hK9⟩ := u_known (C := RX7) (T := TX7) (N := 20) (n := 20) htW inA_X7 (htW _ an_X7)
  obtain ⟨a0, r0⟩ : ∃ c, ArrOfT s c .int ∧ va_RA s c .int := by
    obtain ⟨c, k, comp, h1, h2, h3⟩ := Cond.arrayClass_spec (htW _ aw_int)
    exact ⟨c, fun N z => ⟨(fun q hq => by cases hq), k, h2, comp, h3⟩, h1⟩
  obtain ⟨a1, r1⟩ : ∃ c, ArrOfT s c .long ∧ va_RA s c .long := by
    obtain ⟨c, k, comp, h1, h2, h3⟩ := Cond.arrayClass_spec (htW _ aw_long)
    exact ⟨c, fun N z => ⟨(fun q hq => by cases hq), k, h2, comp, h3⟩, h1⟩
  obtain ⟨a2, r2⟩ : ∃ c, ArrOfT s c (.object "ExactMoney$Wide") ∧ va_RA s c (.object "ExactMoney$Wide") := by
    obtain ⟨comp, c, k, h1, h2, h3, h4, h5⟩ := Cond.arrayOver_spec (hts _ lt_33)
    exact ⟨c, fun N z => ⟨(fun q hq => by cases hq), k, h3, comp, h4⟩, k, comp, h3, h4, h1, h5⟩
  obtain ⟨a3, r3⟩ : ∃ c, ArrOfT s c (.object "ExactMoney$Pool") ∧ va_RA s c (.object "ExactMoney$Pool") := by
    obtain ⟨comp, c, k, h1, h2, h3, h4, h5⟩ := Cond.arrayOver_spec (hts _ lt_35)
    exact ⟨c, fun N z => ⟨(fun q hq => by cases hq), k, h3, comp, h4⟩, k, comp, h3, h4, h1, h5⟩
  obtain ⟨a4, r4⟩ : ∃ c, ArrOfT s c (.array .int) ∧ va_RA s c (.array .int) := by
    obtain ⟨comp, c, k, h1, h2, h3, h4, h5⟩ := arrayOverA_spec (hts _ lt_180)
    exact ⟨c, fun N z => ⟨(fun q hq => by cases hq), k, h3, comp, h4⟩, h5⟩
  refine ⟨(fun k => [c0, c1, c2, c3, c4, c5, c6, c7, c8, c9].getD k 0, fun k => [i0, i1, i2, i3, i4, i5, i6, i7, i8, i9].getD k (fun _ => 0)), fun k => [a0, a1, a2, a3, a4].getD k 0, fun k q hq => ?_, fun k q hq => ?_⟩
  · match k, hq with
    | 0, hq => obtain rfl := Option.some.inj hq; exact hK0
    | 1, hq => obtain rfl := Option.some.inj hq; exact hK1
    | 2, hq => obtain rfl := Option.some.inj hq; exact hK2
    | 3, hq => obtain rfl := Option.some.inj hq; exact hK3
    | 4, hq => obtain rfl := Option.some.inj hq; exact hK4
    | 5, hq => obtain rfl := Option.some.inj hq; exact hK5
    | 6, hq => obtain rfl := Option.some.inj hq; exact hK6
    | 7, hq => obtain rfl := Option.some.inj hq; exact hK7
    | 8, hq => obtain rfl := Option.some.inj hq; exact hK8
    | 9, hq => obtain rfl := Option.some.inj hq; exact hK9
    | n + 10, hq => exact absurd hq (by simp [vwCl])
  · match k, hq with
    | 0, hq => obtain rfl := Option.some.inj hq; exact r0
    | 1, hq => obtain rfl := Option.some.inj hq; exact r1
    | 2, hq => obtain rfl := Option.some.inj hq; exact r2
    | 3, hq => obtain rfl := Option.some.inj hq; exact r3
    | 4, hq => obtain rfl := Option.some.inj hq; exact r4
    | n + 5, hq => exact absurd hq (by simp [xty])
theorem ls_X {s : State} {args : Array Value} {cur : Nat} (hts : ∀ w ∈ lw_tbl, w.before args s = true) (hc : s.vm.findClass RX6 = some cur) (h1 : (Cond.isRef (.static Bundle.tN "UNASSIGNED_STACK" Bundle.steD)).before args s = true) (h2 : (Cond.isRef (.static Bundle.tN "SUPPRESSED_SENTINEL" Bundle.listD)).before args s = true) : ∃ sa, xX s.heap.size sa s := by
  obtain ⟨-, -, -, a0, -, -, -, -, -, q0⟩ := Cond.stringRef_spec hc (hts _ lt_687)
  obtain ⟨-, -, -, a1, -, -, -, -, -, q1⟩ := Cond.stringRef_spec hc (hts _ lt_696)
  obtain ⟨-, -, -, a2, -, -, -, -, -, q2⟩ := Cond.stringRef_spec hc (hts _ lt_724)
  obtain ⟨-, -, -, a3, -, -, -, -, -, q3⟩ := Cond.stringRef_spec hc (hts _ lt_733)
  have hA : ∀ a : Nat, a < s.heap.size → ¬ s.heap.size ≤ a := fun a h => Nat.not_le.mpr h
  refine ⟨fun k => [a0, a1, a2, a3].getD k 0, fun w hw => ?_, vk_R.of (hts _ lt_687) q0, vk_R.of (hts _ lt_696) q1, vk_R.of (hts _ lt_724) q2, vk_R.of (hts _ lt_733) q3, ⟨vx_Zqof (hts _ lt_627) (hts _ lt_10) h1 hA, vx_Zqof (hts _ lt_629) (hts _ lt_10) h2 hA⟩, Nat.le_refl _⟩
  have h3 := hts w (List.mem_filter.mp hw).1
  have h4 := (List.mem_filter.mp hw).2
  cases w <;> first | exact va_Nw.of rfl h3 | exact absurd h4 (by simp [xa_xw])
theorem ls_N {s : State} {args : Array Value} (hts : ∀ w ∈ lw_tbl, w.before args s = true) : xa_NF s := by
  intro w hw
  have h3 := hts w (List.mem_filter.mp hw).1
  have h4 := (List.mem_filter.mp hw).2
  cases w <;> first | exact va_Nw.of rfl h3 | exact absurd h4 (by simp [xa_nest])
/-! THE CLAIM OUT OF ONE WALK OF THE LAW'S BODY. Your part is whole_start (and what it stands on); all else here is the same for every law, but numbers. -/
def R_law : String := "ExactMoneyLaw"
def lw_P (b : Addr) (xs : List Int32) (args : Array Value) (s : State) : Prop := args = #[.ref b] ∧ s.IntsAt b xs ∧ xs.length ≤ 4096 ∧ (Jvm.Cond.and given_1 narrow_1).before args s = true
def lw_Q (_ : Array Value) (s : State) (o : Outcome) (t : State) : Prop := o = .returned (some (.int 1)) ∧ Framed s o t [] 603072 7215210
def lw_Z (below : List Frame) (a : Array Value) (s : State) : State → Prop := fun t => ∃ o, t.status = .running ∧ Ended t below o ∧ lw_Q a s o t
/-- the law's own end, with 1 on the stack, nothing written that was there before, its room as the claim has it -/
theorem lw_ret {p : Program} {l : Launch} {e : Env} {s : State} {m : MethodId} {below : List Frame} {meth : Method} {c : Code} {b : Nat} (hx : p.tables.exec = Jvm.exec) (hb : c.code = code) (hr : meth.sig.returnType = ret) (hlocks : meth.locks = false) {pc : Nat} {H : Heap} {ls : Array Slot} (hdg : decode code pc = .ok (.ireturn, 1)) : W p l e room_1 s m #[Value.ref b] below meth c H [] 603072 7215210 (lw_Z below #[Value.ref b] s) (F0 m pc ls [.int 1]) := by
  intro T hT X
  obtain ⟨fs, hret, hrun, hended, hW, hframe⟩ := X.leave (v := some (.int 1)) (hlocks := hlocks) (fun h => by rw [hr] at h; cases h)
  have hmeth' : T.vm.method? m = some meth := X.method'
  refine ⟨T.setFrames fs, ?_, .returned (some (.int 1)), hrun, hended, rfl, ⟨_, rfl⟩, hW, hframe⟩
  jvm_step X.here [X.here.top, hx, hb, hdg, hmeth', hr, ret, narrow_b1]
  (try refine ⟨rfl, ?_⟩); (try refine ⟨rfl, ?_⟩)
  first | (intro acts; rw [hret _ acts rfl rfl rfl]) | rw [hret _ _ rfl rfl rfl]
  exact Steps.refl _
/-- what holds at the law's entry: the machine, the code, the tables' words (any of lw_tbl by 'hts w (by decide +kernel)'), the script of L ints xs at the cell b, what the Statement gives of the start (any of its parts by flat_of_before) -/
def lw_At (p : Program) (s : State) (m : MethodId) (meth : Method) (c : Code) (b L : Nat) (xs : Nat → Int32) : Prop :=
  p.tables.exec = Jvm.exec ∧ c.code = code ∧ meth.sig.returnType = ret ∧ c.maxLocals = 7 ∧ s.vm.findClass R_law = some m.cls ∧ (∀ w ∈ lw_tbl, w.before #[Value.ref b] s = true) ∧ va_X b L xs s s.heap ∧ b < s.heap.size ∧ meth.locks = false ∧ (Jvm.Cond.and given_1 narrow_1).before #[Value.ref b] s = true

theorem ls_end {p : Program} {l : Launch} {e : Env} {s : State} {m : MethodId} {below : List Frame} {meth : Method} {c : Code} {b : Nat} {D : va_G} {tys : List (ClassId × FieldType)} {w : va_W} {cs ss : Nat} {lv : List (Nat × Value)} (hx : p.tables.exec = Jvm.exec) (hb : c.code = code) (hr : meth.sig.returnType = ret) (hlocks : meth.locks = false) (h1 : cs ≤ 603072) (h2 : ss ≤ 7215210) :
    xK (p, l, e, room_1, s, m, #[Value.ref b], below, meth, c, (fun q => s.heap.size ≤ q), s.heap, D, tys, 7, lw_Z below #[Value.ref b] s) w cs ss 1593 lv [.int 1] := by
  intro H locs ls hP hD hS hl0
  exact va_forget (fun q hq => hS.2.2 q hq) (W.widen h1 h2 (lw_ret hx hb hr hlocks dL_law_1593))
set_option maxHeartbeats 4000000 in
set_option maxRecDepth 100000 in
theorem ls_walk {z : xk} {l : Launch} {D : va_G} {ca : Nat → ClassId} {N0 : Nat} {sa : Nat → Nat} {b L : Nat} {xs : Nat → Int32} (C : xC z cL_law RL 7) (F : xF z l room_1 D (xty ca)) (Y : xY0 z N0 sa) (YA : xYA z) (S : xSc z b L xs) (hl : l.stackTraces = false) (hL : L ≤ 4096)
    (kend : ∀ w cs ss lv, cs ≤ 603072 → ss ≤ 7215210 → xK z w cs ss 1593 lv [.int 1]) : xK z ([] ++ []) 0 0 0 [(0, .ref b)] [] := by
  refine g_new (pc := 0) C F inA_X6 tyX6 tyX6_ok al_L_8 an_X6 wI_X6 (ci := 8) rfl (fs := [.null, .null, .null, .null, .null, .null, .null, .null, .int 0, .int 0, .int 0, .int 0, .int 0]) (fun j hj => by match j, hj with | 0, _ => rfl | 1, _ => rfl | 2, _ => rfl | 3, _ => rfl | 4, _ => rfl | 5, _ => rfl | 6, _ => rfl | 7, _ => rfl | 8, _ => rfl | 9, _ => rfl | 10, _ => rfl | 11, _ => rfl | 12, _ => rfl | n + 13, h => exact absurd h (by omega)) (by decide) (by decide) dL_law_0 (fun q0 => ?_)
  refine k_dup (pc := 3) C dL_law_3 rfl ?_
  refine g_callI (pc := 4) (Pb := fun _ => True) (pic := fun t : T6 => pX6 ca q0 t) C F YA (i6_init (X := _)) wm_L_29 wi_yX6_init rfl wI_X6 wc_yX6_init ⟨by decide, by decide, by decide⟩ (by decide) (by decide) (Nat.le_of_ble_eq_true rfl) dL_law_4 (fun t ht => ?_)
  refine k_astore_n (pc := 7) (lv' := [(1, .ref q0), (0, .ref b)]) C dL_law_7 rfl (by decide) rfl ?_
  refine g_new (pc := 8) C F inA_X7 tyX7 tyX7_ok al_L_30 an_X7 wI_X7 (ci := 9) rfl (fs := [.int 0, .null, .null, .null, .null, .int 0, .null, .int 0, .int 0, .null, .int 0, .null, .null, .null, .null, .int 0, .int 0, .int 0, .null, .int 0]) (fun j hj => by match j, hj with | 0, _ => rfl | 1, _ => rfl | 2, _ => rfl | 3, _ => rfl | 4, _ => rfl | 5, _ => rfl | 6, _ => rfl | 7, _ => rfl | 8, _ => rfl | 9, _ => rfl | 10, _ => rfl | 11, _ => rfl | 12, _ => rfl | 13, _ => rfl | 14, _ => rfl | 15, _ => rfl | 16, _ => rfl | 17, _ => rfl | 18, _ => rfl | 19, _ => rfl | n + 20, h => exact absurd h (by omega)) (by decide) (by decide) dL_law_8 (fun q8 => ?_)
  refine k_dup (pc := 11) C dL_law_11 rfl ?_
  refine g_callI (pc := 12) (Pb := fun b7 => b7 0 = q8) (pic := pX7 ca) C F YA (i7_init (X := _)) wm_L_32 wi_yX7_init rfl wI_X7 wc_yX7_init ⟨by decide, by decide, by decide⟩ (by decide) (by decide) (Nat.le_of_ble_eq_true rfl) dL_law_12 (fun b7 h7 => ?_)
  subst h7
  refine k_astore_n (pc := 15) (lv' := [(2, .ref (b7 0)), (1, .ref q0), (0, .ref b)]) C dL_law_15 rfl (by decide) rfl ?_
  refine k_iconst (pc := 16) (v := nI 1) C dL_law_16 (by decide) ?_
  refine g_newl (pc := 17) C F aw_long 1 rfl (by decide) (by decide) (by decide) dL_law_17 (fun q17 => ?_)
  refine k_astore_n (pc := 19) (lv' := [(3, .ref q17), (2, .ref (b7 0)), (1, .ref q0), (0, .ref b)]) C dL_law_19 rfl (by decide) rfl ?_
  refine k_iconst (pc := 20) (v := nI 0) C dL_law_20 (by decide) ?_
  refine k_istore (pc := 21) (lv' := [(4, .int (nI 0)), (3, .ref q17), (2, .ref (b7 0)), (1, .ref q0), (0, .ref b)]) C dL_law_21 (by decide) rfl ?_
  refine k_widen (cs' := 187 + 0) (ss' := 3613 + 6 * 0) (by decide) (by decide) ?_
  refine g_made ?_
  refine k_hN Y (fun hN0 => ?_)
  refine lw_loop C F Y S hl hN0 hL (fun V U sc ia la it hit => ?_) (L / 8) 0 _ _ _ _ _ rfl LI_0
  refine k_iconst (pc := 1592) (v := 1) C dL_law_1592 (by decide) ?_
  exact kend _ _ _ _ (by omega) (by omega)
theorem whole_start {p : Program} {e : Env} {s : State} {m : MethodId} {below : List Frame} {meth : Method} {c : Code} (l : Launch) {b L : Nat} {xs : Nat → Int32} (hl : l.stackTraces = false) (hL : L ≤ 4096) (C0 : lw_At p s m meth c b L xs) : W p l e room_1 s m #[Value.ref b] below meth c s.heap [] 0 0 (lw_Z below #[Value.ref b] s) (entryFrame m ([Value.ref b] : List Value).toArray 7) := by
  obtain ⟨hx, hb, hr, hml, hown, hts, hX, hbl, hlocks, hgv⟩ := id C0
  have htW : ∀ w ∈ xa_W, w.before #[Value.ref b] s = true := fun w h => hts w (List.mem_filter.mp h).1
  obtain ⟨D, ca, hK⟩ := ls_K hts
  have hs := flat_of_before _ hgv
  obtain ⟨sa, hX0⟩ := ls_X hts (hK.1 8 _ rfl).2.1 (hs _ (by decide +kernel)) (hs _ (by decide +kernel))
  have hP : va_P D vwCl ([] ++ []) s.heap := fun k q h => by simp at h
  have hD : va_D (fun q : Nat => s.heap.size ≤ q) ([] ++ []) := ⟨fun i j p q h => by simp at h, fun k q h => by simp at h⟩
  have hl9 := lv_entry ([.ref b]) (n := 7) (Nat.le_of_ble_eq_true rfl)
  rw [lg_entry_eq]
  generalize (lg_sl ([.ref b]) ++ List.replicate (7 - (lg_sl ([.ref b])).length) Slot.unset).toArray = ls at hl9 ⊢
  have hl9 : lv_has ls 7 [(0, .ref b)] := hl9
  exact ls_walk (z := (p, l, e, room_1, s, m, #[Value.ref b], below, meth, c, (fun q => s.heap.size ≤ q), s.heap, D, xty ca, 7, lw_Z below #[Value.ref b] s)) ⟨hx, hb, hml, hown, htW, ls_N hts, hK, fun _ h => h, rfl⟩ ⟨rfl, rfl, rfl, rfl⟩ ⟨hX0, rfl, fun _ h => h⟩ ⟨va_AO.of (hts _ lt_33), va_AO.of (hts _ lt_35), va_AOA.of (hts _ lt_180)⟩ ⟨hX, hbl, Nat.not_le.mpr hbl, hL⟩ hl hL (fun w cs ss lv h1 h2 => ls_end hx hb hr hlocks h1 h2) s.heap [] ls hP hD va_S.rf hl9
