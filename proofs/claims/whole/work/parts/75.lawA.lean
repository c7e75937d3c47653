theorem WL_up {g : Nat → Int64} {w : Nat → Nat} {x : Int32} {v : Int64} (c : okW x v) (h : WL g w) : WL (vp_updL g (rI x) v) (va_up w (rI x) v.toInt.toNat) := by
  intro k hk
  unfold vp_updL va_up
  by_cases e : k = rI x
  · rw [if_pos e, if_pos e]
    apply Int64.toInt_inj.mp
    have h1 := c.2.1
    have h2 := c.2.2
    have h3 : v.toInt.toNat < 2 ^ 63 := by omega
    rw [lN_ti (by omega), if_pos h3]
    omega
  · rw [if_neg e, if_neg e]
    exact h k hk
theorem WB_up {w : Nat → Nat} {x : Int32} {v : Int64} (c : okW x v) (h : WB w) : WB (va_up w (rI x) v.toInt.toNat) := by
  intro k hk
  unfold va_up
  have h1 := c.2.1
  have h2 := c.2.2
  by_cases e : k = rI x
  · rw [if_pos e]
    omega
  · rw [if_neg e]
    exact h k hk
section LW9
variable {z : xk} {l : Launch} {D : va_G} {ca : Nat → ClassId} {ad : Nat → Nat} {V U : Nat → Nat} {sc : Nat → Int32} {ia : Nat → Nat → Int32} {la : Nat → Nat → Int64} {N0 : Nat} {sa : Nat → Nat} {b L it : Nat} {xs : Nat → Int32}
set_option maxHeartbeats 4000000 in
set_option maxRecDepth 100000 in
theorem lw_c0 (C : xC z cL_law RL 7) (F : xF z l room_1 D (xty ca)) (Y : xY0 z N0 sa) (S : xSc z b L xs) (hl : l.stackTraces = false) (hN0 : ∀ i, i < 187 → N0 ≤ ad i) (h : LIq V U sc ia la) (hit : 8 * it + 8 ≤ L) (hL : L ≤ 4096) (kk : ∀ V U sc ia la, LIq V U sc ia la → xK z (xw ad (cm ad ca (V, U, sc, ia, la)) 187) (187 + (it + 1)) (3613 + 6 * (it + 1)) 1586 [(4, .int (nI (8 * it))), (3, .ref (ad 186)), (2, .ref (ad 174)), (1, .ref (ad 0)), (0, .ref b)] []) : xK z (xw ad (cm ad ca (V, U, sc, ia, la)) 187) (187 + it) (3613 + 6 * it) 172 [(4, .int (nI (8 * it))), (3, .ref (ad 186)), (2, .ref (ad 174)), (1, .ref (ad 0)), (0, .ref b)] [] := by
  obtain ⟨hN, hF, hW, hU, hP, hO, hR, hS⟩ := h
  have hN9 := hN
  obtain ⟨T, hT, hM, hB⟩ := hN9
  have hcs : 187 + it ≤ room_1.cells ∧ 3613 + 6 * it ≤ room_1.slots := by show 187 + it ≤ 603072 ∧ 3613 + 6 * it ≤ 7215210; omega
  have hcs' : 187 + it + 1 ≤ room_1.cells ∧ 3613 + 6 * it + 6 ≤ room_1.slots := by show 187 + it + 1 ≤ 603072 ∧ 3613 + 6 * it + 6 ≤ 7215210; omega
  refine k_aload_n (pc := 172) C dL_law_172 rfl 3 rfl ?_
  refine k_arg (pc := 173) C S 1 4 0 rfl rfl (by omega) dL_law_173 dL_law_174 dL_law_176 (by decide) dL_law_177 dL_law_178 ?_
  refine k_arg (pc := 179) C S 2 4 0 rfl rfl (by omega) dL_law_179 dL_law_180 dL_law_182 (by decide) dL_law_183 dL_law_184 ?_
  refine k_i2l (pc := 185) C dL_law_185 rfl ?_
  refine k_bipush (pc := 186) (v := nI 32) C dL_law_186 (by decide) ?_
  refine k_lshl (pc := 188) C dL_law_188 rfl ?_
  refine k_arg (pc := 189) C S 3 4 0 rfl rfl (by omega) dL_law_189 dL_law_190 dL_law_192 (by decide) dL_law_193 dL_law_194 ?_
  refine k_i2l (pc := 195) C dL_law_195 rfl ?_
  refine k_ldc2 (pc := 196) C kc_L_33 dL_law_196 ?_
  refine k_land (pc := 199) C dL_law_199 ?_
  refine k_lor (pc := 200) C dL_law_200 ?_
  refine k_eql (y := LG (xs (8 * it + 2)) (xs (8 * it + 3))) rfl ?_
  refine cvF_L_35 (pc := 201) C F hcs (c6_put hT hB) rfl (by decide) cm_0 ⟨by decide, by decide⟩ rfl (Nat.le_of_ble_eq_true rfl) dL_law_201 (fun r201 M201 h201 => ?_)
  obtain ⟨V1, rfl, e6, h6⟩ := h201
  refine k_aload_n (pc := 204) C dL_law_204 rfl 2 rfl ?_
  refine k_arg (pc := 205) C S 1 4 0 rfl rfl (by omega) dL_law_205 dL_law_206 dL_law_208 (by decide) dL_law_209 dL_law_210 ?_
  refine k_arg (pc := 211) C S 2 4 0 rfl rfl (by omega) dL_law_211 dL_law_212 dL_law_214 (by decide) dL_law_215 dL_law_216 ?_
  refine k_i2l (pc := 217) C dL_law_217 rfl ?_
  refine k_bipush (pc := 218) (v := nI 32) C dL_law_218 (by decide) ?_
  refine k_lshl (pc := 220) C dL_law_220 rfl ?_
  refine k_arg (pc := 221) C S 3 4 0 rfl rfl (by omega) dL_law_221 dL_law_222 dL_law_224 (by decide) dL_law_225 dL_law_226 ?_
  refine k_i2l (pc := 227) C dL_law_227 rfl ?_
  refine k_ldc2 (pc := 228) C kc_L_33 dL_law_228 ?_
  refine k_land (pc := 231) C dL_law_231 ?_
  refine k_lor (pc := 232) C dL_law_232 ?_
  refine k_eql (y := LG (xs (8 * it + 2)) (xs (8 * it + 3))) rfl ?_
  refine cvF_L_39 (pc := 233) C F hcs (c7_put hM hB) rfl (by decide) cm_174 ⟨by decide, by decide⟩ rfl (Nat.le_of_ble_eq_true rfl) dL_law_233 (fun r233 M233 h233 => ?_)
  obtain ⟨U1, rfl, e7, h7⟩ := h233
  refine k_icmp_eq (pc := 236) (tgt := 1586) C dL_law_236 (by decide) (fun _ => ?_) (fun c => absurd (e6.trans e7.symm) c)
  refine k_widen (cs' := 187 + (it + 1)) (ss' := 3613 + 6 * (it + 1)) (by omega) (by omega) ?_
  exact kk V1 U1 sc ia la (⟨⟨_, h6, h7, sPut_TB hB _ _⟩, hF, hW, hU, hP, hO, hR, hS⟩)
set_option maxHeartbeats 4000000 in
set_option maxRecDepth 100000 in
theorem lw_c1 (C : xC z cL_law RL 7) (F : xF z l room_1 D (xty ca)) (Y : xY0 z N0 sa) (S : xSc z b L xs) (hl : l.stackTraces = false) (hN0 : ∀ i, i < 187 → N0 ≤ ad i) (h : LIq V U sc ia la) (hit : 8 * it + 8 ≤ L) (hL : L ≤ 4096) (kk : ∀ V U sc ia la, LIq V U sc ia la → xK z (xw ad (cm ad ca (V, U, sc, ia, la)) 187) (187 + (it + 1)) (3613 + 6 * (it + 1)) 1586 [(4, .int (nI (8 * it))), (3, .ref (ad 186)), (2, .ref (ad 174)), (1, .ref (ad 0)), (0, .ref b)] []) : xK z (xw ad (cm ad ca (V, U, sc, ia, la)) 187) (187 + it) (3613 + 6 * it) 241 [(4, .int (nI (8 * it))), (3, .ref (ad 186)), (2, .ref (ad 174)), (1, .ref (ad 0)), (0, .ref b)] [] := by
  obtain ⟨hN, hF, hW, hU, hP, hO, hR, hS⟩ := h
  have hN9 := hN
  obtain ⟨T, hT, hM, hB⟩ := hN9
  have hcs : 187 + it ≤ room_1.cells ∧ 3613 + 6 * it ≤ room_1.slots := by show 187 + it ≤ 603072 ∧ 3613 + 6 * it ≤ 7215210; omega
  have hcs' : 187 + it + 1 ≤ room_1.cells ∧ 3613 + 6 * it + 6 ≤ room_1.slots := by show 187 + it + 1 ≤ 603072 ∧ 3613 + 6 * it + 6 ≤ 7215210; omega
  refine k_aload_n (pc := 241) C dL_law_241 rfl 3 rfl ?_
  refine k_arg (pc := 242) C S 1 4 0 rfl rfl (by omega) dL_law_242 dL_law_243 dL_law_245 (by decide) dL_law_246 dL_law_247 ?_
  refine k_arg (pc := 248) C S 2 4 0 rfl rfl (by omega) dL_law_248 dL_law_249 dL_law_251 (by decide) dL_law_252 dL_law_253 ?_
  refine cvF_L_40 (pc := 254) C F hcs (c6_more hT hB) rfl (by decide) cm_0 ⟨by decide, by decide⟩ rfl (Nat.le_of_ble_eq_true rfl) dL_law_254 (fun r254 M254 h254 => ?_)
  obtain ⟨V1, rfl, e6, h6⟩ := h254
  refine k_aload_n (pc := 257) C dL_law_257 rfl 2 rfl ?_
  refine k_arg (pc := 258) C S 1 4 0 rfl rfl (by omega) dL_law_258 dL_law_259 dL_law_261 (by decide) dL_law_262 dL_law_263 ?_
  refine k_arg (pc := 264) C S 2 4 0 rfl rfl (by omega) dL_law_264 dL_law_265 dL_law_267 (by decide) dL_law_268 dL_law_269 ?_
  refine cvF_L_43 (pc := 270) C F hcs (c7_more hM hB) rfl (by decide) cm_174 ⟨by decide, by decide⟩ rfl (Nat.le_of_ble_eq_true rfl) dL_law_270 (fun r270 M270 h270 => ?_)
  obtain ⟨U1, rfl, e7, h7⟩ := h270
  refine k_icmp_eq (pc := 273) (tgt := 1586) C dL_law_273 (by decide) (fun _ => ?_) (fun c => absurd (e6.trans e7.symm) c)
  refine k_widen (cs' := 187 + (it + 1)) (ss' := 3613 + 6 * (it + 1)) (by omega) (by omega) ?_
  exact kk V1 U1 sc ia la (⟨⟨_, h6, h7, sMore_TB hB _ _⟩, hF, hW, hU, hP, hO, hR, hS⟩)
set_option maxHeartbeats 4000000 in
set_option maxRecDepth 100000 in
theorem lw_c2 (C : xC z cL_law RL 7) (F : xF z l room_1 D (xty ca)) (Y : xY0 z N0 sa) (S : xSc z b L xs) (hl : l.stackTraces = false) (hN0 : ∀ i, i < 187 → N0 ≤ ad i) (h : LIq V U sc ia la) (hit : 8 * it + 8 ≤ L) (hL : L ≤ 4096) (kk : ∀ V U sc ia la, LIq V U sc ia la → xK z (xw ad (cm ad ca (V, U, sc, ia, la)) 187) (187 + (it + 1)) (3613 + 6 * (it + 1)) 1586 [(4, .int (nI (8 * it))), (3, .ref (ad 186)), (2, .ref (ad 174)), (1, .ref (ad 0)), (0, .ref b)] []) : xK z (xw ad (cm ad ca (V, U, sc, ia, la)) 187) (187 + it) (3613 + 6 * it) 278 [(4, .int (nI (8 * it))), (3, .ref (ad 186)), (2, .ref (ad 174)), (1, .ref (ad 0)), (0, .ref b)] [] := by
  obtain ⟨hN, hF, hW, hU, hP, hO, hR, hS⟩ := h
  have hN9 := hN
  obtain ⟨T, hT, hM, hB⟩ := hN9
  have hcs : 187 + it ≤ room_1.cells ∧ 3613 + 6 * it ≤ room_1.slots := by show 187 + it ≤ 603072 ∧ 3613 + 6 * it ≤ 7215210; omega
  have hcs' : 187 + it + 1 ≤ room_1.cells ∧ 3613 + 6 * it + 6 ≤ room_1.slots := by show 187 + it + 1 ≤ 603072 ∧ 3613 + 6 * it + 6 ≤ 7215210; omega
  refine k_aload_n (pc := 278) C dL_law_278 rfl 3 rfl ?_
  refine k_arg (pc := 279) C S 1 4 0 rfl rfl (by omega) dL_law_279 dL_law_280 dL_law_282 (by decide) dL_law_283 dL_law_284 ?_
  refine k_arg (pc := 285) C S 2 4 0 rfl rfl (by omega) dL_law_285 dL_law_286 dL_law_288 (by decide) dL_law_289 dL_law_290 ?_
  refine cvF_L_44 (pc := 291) C F hcs (c6_limb hT hB) rfl (by decide) cm_0 ⟨by decide, by decide⟩ rfl (Nat.le_of_ble_eq_true rfl) dL_law_291 (fun r291 M291 h291 => ?_)
  obtain ⟨rfl, e6⟩ := h291
  refine k_aload_n (pc := 294) C dL_law_294 rfl 2 rfl ?_
  refine k_arg (pc := 295) C S 1 4 0 rfl rfl (by omega) dL_law_295 dL_law_296 dL_law_298 (by decide) dL_law_299 dL_law_300 ?_
  refine k_arg (pc := 301) C S 2 4 0 rfl rfl (by omega) dL_law_301 dL_law_302 dL_law_304 (by decide) dL_law_305 dL_law_306 ?_
  refine cvF_L_48 (pc := 307) C F hcs (c7_limb hM hB) rfl (by decide) cm_174 ⟨by decide, by decide⟩ rfl (Nat.le_of_ble_eq_true rfl) dL_law_307 (fun r307 M307 h307 => ?_)
  obtain ⟨rfl, e7⟩ := h307
  refine k_lcmp (pc := 310) C dL_law_310 ?_
  refine k_if_eq (pc := 311) (tgt := 1586) C dL_law_311 (by decide) (fun _ => ?_) (fun c => absurd (by rw [e6, e7]; exact lg_cmp0 _) c)
  refine k_widen (cs' := 187 + (it + 1)) (ss' := 3613 + 6 * (it + 1)) (by omega) (by omega) ?_
  exact kk V U sc ia la (⟨hN, hF, hW, hU, hP, hO, hR, hS⟩)
set_option maxHeartbeats 4000000 in
set_option maxRecDepth 100000 in
theorem lw_c3 (C : xC z cL_law RL 7) (F : xF z l room_1 D (xty ca)) (Y : xY0 z N0 sa) (S : xSc z b L xs) (hl : l.stackTraces = false) (hN0 : ∀ i, i < 187 → N0 ≤ ad i) (h : LIq V U sc ia la) (hit : 8 * it + 8 ≤ L) (hL : L ≤ 4096) (kk : ∀ V U sc ia la, LIq V U sc ia la → xK z (xw ad (cm ad ca (V, U, sc, ia, la)) 187) (187 + (it + 1)) (3613 + 6 * (it + 1)) 1586 [(4, .int (nI (8 * it))), (3, .ref (ad 186)), (2, .ref (ad 174)), (1, .ref (ad 0)), (0, .ref b)] []) : xK z (xw ad (cm ad ca (V, U, sc, ia, la)) 187) (187 + it) (3613 + 6 * it) 316 [(4, .int (nI (8 * it))), (3, .ref (ad 186)), (2, .ref (ad 174)), (1, .ref (ad 0)), (0, .ref b)] [] := by
  obtain ⟨hN, hF, hW, hU, hP, hO, hR, hS⟩ := h
  have hN9 := hN
  obtain ⟨T, hT, hM, hB⟩ := hN9
  have hcs : 187 + it ≤ room_1.cells ∧ 3613 + 6 * it ≤ room_1.slots := by show 187 + it ≤ 603072 ∧ 3613 + 6 * it ≤ 7215210; omega
  have hcs' : 187 + it + 1 ≤ room_1.cells ∧ 3613 + 6 * it + 6 ≤ room_1.slots := by show 187 + it + 1 ≤ 603072 ∧ 3613 + 6 * it + 6 ≤ 7215210; omega
  refine k_aload_n (pc := 316) C dL_law_316 rfl 3 rfl ?_
  refine k_arg (pc := 317) C S 1 4 0 rfl rfl (by omega) dL_law_317 dL_law_318 dL_law_320 (by decide) dL_law_321 dL_law_322 ?_
  refine k_arg (pc := 323) C S 2 4 0 rfl rfl (by omega) dL_law_323 dL_law_324 dL_law_326 (by decide) dL_law_327 dL_law_328 ?_
  refine k_arg (pc := 329) C S 3 4 0 rfl rfl (by omega) dL_law_329 dL_law_330 dL_law_332 (by decide) dL_law_333 dL_law_334 ?_
  refine cvF_L_49 (pc := 335) C F hcs (c6_add hT hB) rfl (by decide) cm_0 ⟨by decide, by decide⟩ rfl (Nat.le_of_ble_eq_true rfl) dL_law_335 (fun r335 M335 h335 => ?_)
  obtain ⟨V1, rfl, e6, h6, -⟩ := h335
  refine k_aload_n (pc := 338) C dL_law_338 rfl 2 rfl ?_
  refine k_arg (pc := 339) C S 1 4 0 rfl rfl (by omega) dL_law_339 dL_law_340 dL_law_342 (by decide) dL_law_343 dL_law_344 ?_
  refine k_arg (pc := 345) C S 2 4 0 rfl rfl (by omega) dL_law_345 dL_law_346 dL_law_348 (by decide) dL_law_349 dL_law_350 ?_
  refine k_arg (pc := 351) C S 3 4 0 rfl rfl (by omega) dL_law_351 dL_law_352 dL_law_354 (by decide) dL_law_355 dL_law_356 ?_
  refine cvF_L_52 (pc := 357) C F hcs (c7_add hM hB) rfl (by decide) cm_174 ⟨by decide, by decide⟩ rfl (Nat.le_of_ble_eq_true rfl) dL_law_357 (fun r357 M357 h357 => ?_)
  obtain ⟨U1, rfl, e7, h7, -⟩ := h357
  refine k_icmp_eq (pc := 360) (tgt := 1586) C dL_law_360 (by decide) (fun _ => ?_) (fun c => absurd (e6.trans e7.symm) c)
  refine k_widen (cs' := 187 + (it + 1)) (ss' := 3613 + 6 * (it + 1)) (by omega) (by omega) ?_
  exact kk V1 U1 sc ia la (⟨⟨_, h6, h7, sAdd_TB hB _ _ _⟩, hF, hW, hU, hP, hO, hR, hS⟩)
set_option maxHeartbeats 4000000 in
set_option maxRecDepth 100000 in
theorem lw_c4 (C : xC z cL_law RL 7) (F : xF z l room_1 D (xty ca)) (Y : xY0 z N0 sa) (S : xSc z b L xs) (hl : l.stackTraces = false) (hN0 : ∀ i, i < 187 → N0 ≤ ad i) (h : LIq V U sc ia la) (hit : 8 * it + 8 ≤ L) (hL : L ≤ 4096) (kk : ∀ V U sc ia la, LIq V U sc ia la → xK z (xw ad (cm ad ca (V, U, sc, ia, la)) 187) (187 + (it + 1)) (3613 + 6 * (it + 1)) 1586 [(4, .int (nI (8 * it))), (3, .ref (ad 186)), (2, .ref (ad 174)), (1, .ref (ad 0)), (0, .ref b)] []) : xK z (xw ad (cm ad ca (V, U, sc, ia, la)) 187) (187 + it) (3613 + 6 * it) 365 [(4, .int (nI (8 * it))), (3, .ref (ad 186)), (2, .ref (ad 174)), (1, .ref (ad 0)), (0, .ref b)] [] := by
  obtain ⟨hN, hF, hW, hU, hP, hO, hR, hS⟩ := h
  have hN9 := hN
  obtain ⟨T, hT, hM, hB⟩ := hN9
  have hcs : 187 + it ≤ room_1.cells ∧ 3613 + 6 * it ≤ room_1.slots := by show 187 + it ≤ 603072 ∧ 3613 + 6 * it ≤ 7215210; omega
  have hcs' : 187 + it + 1 ≤ room_1.cells ∧ 3613 + 6 * it + 6 ≤ room_1.slots := by show 187 + it + 1 ≤ 603072 ∧ 3613 + 6 * it + 6 ≤ 7215210; omega
  refine k_aload_n (pc := 365) C dL_law_365 rfl 3 rfl ?_
  refine k_arg (pc := 366) C S 1 4 0 rfl rfl (by omega) dL_law_366 dL_law_367 dL_law_369 (by decide) dL_law_370 dL_law_371 ?_
  refine k_arg (pc := 372) C S 2 4 0 rfl rfl (by omega) dL_law_372 dL_law_373 dL_law_375 (by decide) dL_law_376 dL_law_377 ?_
  refine k_arg (pc := 378) C S 3 4 0 rfl rfl (by omega) dL_law_378 dL_law_379 dL_law_381 (by decide) dL_law_382 dL_law_383 ?_
  refine cvF_L_53 (pc := 384) C F hcs (c6_take hT hB) rfl (by decide) cm_0 ⟨by decide, by decide⟩ rfl (Nat.le_of_ble_eq_true rfl) dL_law_384 (fun r384 M384 h384 => ?_)
  obtain ⟨V1, rfl, e6, h6, -⟩ := h384
  refine k_aload_n (pc := 387) C dL_law_387 rfl 2 rfl ?_
  refine k_arg (pc := 388) C S 1 4 0 rfl rfl (by omega) dL_law_388 dL_law_389 dL_law_391 (by decide) dL_law_392 dL_law_393 ?_
  refine k_arg (pc := 394) C S 2 4 0 rfl rfl (by omega) dL_law_394 dL_law_395 dL_law_397 (by decide) dL_law_398 dL_law_399 ?_
  refine k_arg (pc := 400) C S 3 4 0 rfl rfl (by omega) dL_law_400 dL_law_401 dL_law_403 (by decide) dL_law_404 dL_law_405 ?_
  refine cvF_L_56 (pc := 406) C F hcs (c7_take hM hB) rfl (by decide) cm_174 ⟨by decide, by decide⟩ rfl (Nat.le_of_ble_eq_true rfl) dL_law_406 (fun r406 M406 h406 => ?_)
  obtain ⟨U1, rfl, e7, h7, -⟩ := h406
  refine k_icmp_eq (pc := 409) (tgt := 1586) C dL_law_409 (by decide) (fun _ => ?_) (fun c => absurd (e6.trans e7.symm) c)
  refine k_widen (cs' := 187 + (it + 1)) (ss' := 3613 + 6 * (it + 1)) (by omega) (by omega) ?_
  exact kk V1 U1 sc ia la (⟨⟨_, h6, h7, sTake_TB hB _ _ _⟩, hF, hW, hU, hP, hO, hR, hS⟩)
end LW9
