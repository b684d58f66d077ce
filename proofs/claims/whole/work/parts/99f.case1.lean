/-! the cases of the law: laid by wip/gen/law.py -/
set_option maxHeartbeats 4000000 in
set_option maxRecDepth 100000 in
theorem law_c0 {p : Program} {l : Launch} {e : Env} {s : State} {m : MethodId} {below : List Frame} {meth : Method} {c : Code} {H : Heap} {locs : List Loc} {cells slots : Nat} {Q : State → Prop} {ls : Array Slot} {b L i : Nat} {xs : Nat → Int32} {D : va_G} {cs : Nat → ClassId} {ad am : Nat → Nat} {o : Nat} {f : Nat → Int64} {M N : wM} {J K : wJ} (Cx : lwK p l s m c b L xs D cs) (hi : i + 7 ≤ L) (h1 : cells + 6 ≤ 601024) (h2 : slots + 36 ≤ 7293034) (hc : lC D (lAq s) s.heap (wL cs ad o f M J ++ wW 23 mSh am cs N K) H locs) (hS : Sim M N) (hl : lv_has ls 7 (lv0 b ad am o i)) (kk : lwE p l e s m below meth c b D cs ad am o i (cells + 6) (slots + 36) Q) : W p l e room_1 s m #[Value.ref b] below meth c H locs cells slots Q (F0 m 152 ls []) := by
  obtain ⟨hF, hflag, hK, hZ, hX, hbl, hL⟩ := id Cx
  obtain ⟨hx, hb, hml, hown, hts⟩ := id hF
  obtain ⟨cnt, t, d, n, sc, hs⟩ := hS
  have hA : ∀ q : Nat, s.heap.size ≤ q → lAq s q := fun _ h => h
  refine lv_aload_n hx hb dL_law_152 rfl (lv_at hl 1 rfl) ?_
  refine lv_aload_n hx hb dL_law_153 rfl (lv_at hl 3 rfl) ?_
  refine fr_L (As := [.ref (ad 329), .ref o]) (rest := []) (mc := 1) (ms := 6) (post := wX_addBlock M J cnt) hF (vx_cwSW 2 hts gL_law_L_addBlock rfl rfl rfl (by decide +kernel) ⟨(Nat.le_of_ble_eq_true rfl), (Nat.le_of_ble_eq_true rfl)⟩) hK hA hZ hc (k_L_addBlock l hflag D ad cs o f M J cnt hs.1.cM hs.1.c16) rfl rfl hl.1 (Nat.le_of_ble_eq_true rfl) ⟨(by show cells + 1 ≤ 601024; omega), (by show slots + 6 ≤ 7293034; omega)⟩ dL_law_154 (fun k M1 J1 f1 H1 locs1 hw hc => ?_)
  refine lv_istore (lv' := (5, .int k) :: lv0 b ad am o i) hx hb dL_law_157 hl (by decide) rfl (fun ls hl => ?_)
  refine lv_aload_n hx hb dL_law_159 rfl (lv_at hl 3 rfl) ?_
  refine fr_Vi (sh := mSh) (ad := am) (k := 0) (As := []) (rest := []) (post := qM_addBlock N K cnt) hF (cwV 0 hts gL_law_X9_addBlock rfl rfl rfl (by decide +kernel) ⟨(Nat.le_of_ble_eq_true rfl), (Nat.le_of_ble_eq_true rfl)⟩) hK hA (lC_perm hc List.perm_append_comm) (k_X9_addBlock l D am cs _ N K cnt hs.1.cN hs.1.c16) (by decide) rfl rfl rfl rfl hl.1 (Nat.le_of_ble_eq_true rfl) ⟨(by show cells + 1 ≤ 601024; omega), (by show slots + 6 ≤ 7293034; omega)⟩ dL_law_160 (fun b9 N1 K1 H2 locs2 hm hc => ?_)
  exact lw_tI (P := 163) Cx (lC_perm hc List.perm_append_comm) (St_addBlock hs hw hm) hl (by omega) (by omega) (by omega) (by omega) kk dL_law_163 dL_law_165 dL_law_166 dL_law_169 dL_law_171 dL_law_176 dL_law_178 dL_law_181 dL_law_182 dL_law_183 dL_law_184 dL_law_186 dL_law_187 dL_law_188 dL_law_193 (by decide)
set_option maxHeartbeats 4000000 in
set_option maxRecDepth 100000 in
theorem law_c1 {p : Program} {l : Launch} {e : Env} {s : State} {m : MethodId} {below : List Frame} {meth : Method} {c : Code} {H : Heap} {locs : List Loc} {cells slots : Nat} {Q : State → Prop} {ls : Array Slot} {b L i : Nat} {xs : Nat → Int32} {D : va_G} {cs : Nat → ClassId} {ad am : Nat → Nat} {o : Nat} {f : Nat → Int64} {M N : wM} {J K : wJ} (Cx : lwK p l s m c b L xs D cs) (hi : i + 7 ≤ L) (h1 : cells + 6 ≤ 601024) (h2 : slots + 36 ≤ 7293034) (hc : lC D (lAq s) s.heap (wL cs ad o f M J ++ wW 23 mSh am cs N K) H locs) (hS : Sim M N) (hl : lv_has ls 7 (lv0 b ad am o i)) (kk : lwE p l e s m below meth c b D cs ad am o i (cells + 6) (slots + 36) Q) : W p l e room_1 s m #[Value.ref b] below meth c H locs cells slots Q (F0 m 196 ls []) := by
  obtain ⟨hF, hflag, hK, hZ, hX, hbl, hL⟩ := id Cx
  obtain ⟨hx, hb, hml, hown, hts⟩ := id hF
  obtain ⟨cnt, t, d, n, sc, hs⟩ := hS
  have hA : ∀ q : Nat, s.heap.size ≤ q → lAq s q := fun _ h => h
  refine lv_aload_n hx hb dL_law_196 rfl (lv_at hl 1 rfl) ?_
  refine lw_arg (k := 1) Cx hi (by decide) (lv_at hl 0 rfl) (lv_at hl 4 rfl) hc.2.2 dL_law_197 dL_law_198 dL_law_200 (by decide) dL_law_201 dL_law_202 ?_
  refine lw_arg (k := 2) Cx hi (by decide) (lv_at hl 0 rfl) (lv_at hl 4 rfl) hc.2.2 dL_law_203 dL_law_204 dL_law_206 (by decide) dL_law_207 dL_law_208 ?_
  refine lw_arg (k := 3) Cx hi (by decide) (lv_at hl 0 rfl) (lv_at hl 4 rfl) hc.2.2 dL_law_209 dL_law_210 dL_law_212 (by decide) dL_law_213 dL_law_214 ?_
  refine lv_aload_n hx hb dL_law_215 rfl (lv_at hl 3 rfl) ?_
  refine fr_L (As := [.ref (ad 329), .int (xs (i + 1)), .int (xs (i + 2)), .int (xs (i + 3)), .ref o]) (rest := []) (mc := 2) (ms := 12) (post := wX_setInitial M J (xs (i + 1)) (xs (i + 2)) (xs (i + 3))) hF (vx_cwSW 5 hts gL_law_L_setInitial rfl rfl rfl (by decide +kernel) ⟨(Nat.le_of_ble_eq_true rfl), (Nat.le_of_ble_eq_true rfl)⟩) hK hA hZ hc (k_L_setInitial l hflag D ad cs o f M J (xs (i + 1)) (xs (i + 2)) (xs (i + 3))) rfl rfl hl.1 (Nat.le_of_ble_eq_true rfl) ⟨(by show cells + 2 ≤ 601024; omega), (by show slots + 12 ≤ 7293034; omega)⟩ dL_law_216 (fun k M1 J1 f1 H1 locs1 hw hc => ?_)
  refine lv_istore (lv' := (5, .int k) :: lv0 b ad am o i) hx hb dL_law_219 hl (by decide) rfl (fun ls hl => ?_)
  refine lv_aload_n hx hb dL_law_221 rfl (lv_at hl 3 rfl) ?_
  refine lw_arg (k := 1) Cx hi (by decide) (lv_at hl 1 rfl) (lv_at hl 5 rfl) hc.2.2 dL_law_222 dL_law_223 dL_law_225 (by decide) dL_law_226 dL_law_227 ?_
  refine lw_arg (k := 2) Cx hi (by decide) (lv_at hl 1 rfl) (lv_at hl 5 rfl) hc.2.2 dL_law_228 dL_law_229 dL_law_231 (by decide) dL_law_232 dL_law_233 ?_
  refine lw_arg (k := 3) Cx hi (by decide) (lv_at hl 1 rfl) (lv_at hl 5 rfl) hc.2.2 dL_law_234 dL_law_235 dL_law_237 (by decide) dL_law_238 dL_law_239 ?_
  refine fr_Vi (sh := mSh) (ad := am) (k := 0) (As := [.int (xs (i + 1)), .int (xs (i + 2)), .int (xs (i + 3))]) (rest := []) (post := qM_setInitial N K (xs (i + 1)) (xs (i + 2)) (xs (i + 3))) hF (cwV 3 hts gL_law_X9_setInitial rfl rfl rfl (by decide +kernel) ⟨(Nat.le_of_ble_eq_true rfl), (Nat.le_of_ble_eq_true rfl)⟩) hK hA (lC_perm hc List.perm_append_comm) (k_X9_setInitial l D am cs _ N K (xs (i + 1)) (xs (i + 2)) (xs (i + 3))) (by decide) rfl rfl rfl rfl hl.1 (Nat.le_of_ble_eq_true rfl) ⟨(by show cells + 2 ≤ 601024; omega), (by show slots + 12 ≤ 7293034; omega)⟩ dL_law_240 (fun b9 N1 K1 H2 locs2 hm hc => ?_)
  exact lw_tZ (P := 243) Cx (lC_perm hc List.perm_append_comm) (St_setInitial hs hw hm) hl (by omega) (by omega) (by omega) (by omega) kk dL_law_243 dL_law_245 dL_law_246 dL_law_249 dL_law_251 dL_law_256 dL_law_258 dL_law_261 dL_law_262 dL_law_263 dL_law_264 dL_law_266 dL_law_269 dL_law_270 dL_law_273 dL_law_274 dL_law_275 dL_law_280 (by decide)
set_option maxHeartbeats 4000000 in
set_option maxRecDepth 100000 in
theorem law_c2 {p : Program} {l : Launch} {e : Env} {s : State} {m : MethodId} {below : List Frame} {meth : Method} {c : Code} {H : Heap} {locs : List Loc} {cells slots : Nat} {Q : State → Prop} {ls : Array Slot} {b L i : Nat} {xs : Nat → Int32} {D : va_G} {cs : Nat → ClassId} {ad am : Nat → Nat} {o : Nat} {f : Nat → Int64} {M N : wM} {J K : wJ} (Cx : lwK p l s m c b L xs D cs) (hi : i + 7 ≤ L) (h1 : cells + 6 ≤ 601024) (h2 : slots + 36 ≤ 7293034) (hc : lC D (lAq s) s.heap (wL cs ad o f M J ++ wW 23 mSh am cs N K) H locs) (hS : Sim M N) (hl : lv_has ls 7 (lv0 b ad am o i)) (kk : lwE p l e s m below meth c b D cs ad am o i (cells + 6) (slots + 36) Q) : W p l e room_1 s m #[Value.ref b] below meth c H locs cells slots Q (F0 m 283 ls []) := by
  obtain ⟨hF, hflag, hK, hZ, hX, hbl, hL⟩ := id Cx
  obtain ⟨hx, hb, hml, hown, hts⟩ := id hF
  obtain ⟨cnt, t, d, n, sc, hs⟩ := hS
  have hA : ∀ q : Nat, s.heap.size ≤ q → lAq s q := fun _ h => h
  refine lv_aload_n hx hb dL_law_283 rfl (lv_at hl 1 rfl) ?_
  refine lw_arg (k := 1) Cx hi (by decide) (lv_at hl 0 rfl) (lv_at hl 4 rfl) hc.2.2 dL_law_284 dL_law_285 dL_law_287 (by decide) dL_law_288 dL_law_289 ?_
  refine lw_arg (k := 2) Cx hi (by decide) (lv_at hl 0 rfl) (lv_at hl 4 rfl) hc.2.2 dL_law_290 dL_law_291 dL_law_293 (by decide) dL_law_294 dL_law_295 ?_
  refine lw_arg (k := 3) Cx hi (by decide) (lv_at hl 0 rfl) (lv_at hl 4 rfl) hc.2.2 dL_law_296 dL_law_297 dL_law_299 (by decide) dL_law_300 dL_law_301 ?_
  refine lw_arg (k := 4) Cx hi (by decide) (lv_at hl 0 rfl) (lv_at hl 4 rfl) hc.2.2 dL_law_302 dL_law_303 dL_law_305 (by decide) dL_law_306 dL_law_307 ?_
  refine lv_aload_n hx hb dL_law_308 rfl (lv_at hl 3 rfl) ?_
  refine fr_L (As := [.ref (ad 329), .int (xs (i + 1)), .int (xs (i + 2)), .int (xs (i + 3)), .int (xs (i + 4)), .ref o]) (rest := []) (mc := 4) (ms := 24) (post := wX_input M J (xs (i + 1)) (xs (i + 2)) (xs (i + 3)) (xs (i + 4)) cnt) hF (vx_cwSW 6 hts gL_law_L_input rfl rfl rfl (by decide +kernel) ⟨(Nat.le_of_ble_eq_true rfl), (Nat.le_of_ble_eq_true rfl)⟩) hK hA hZ hc (k_L_input l hflag D ad cs o f M J (xs (i + 1)) (xs (i + 2)) (xs (i + 3)) (xs (i + 4)) cnt hs.1.cM hs.1.c16 (fun b hb => (hs.1.pr.2.2.1 b hb).1)) rfl rfl hl.1 (Nat.le_of_ble_eq_true rfl) ⟨(by show cells + 4 ≤ 601024; omega), (by show slots + 24 ≤ 7293034; omega)⟩ dL_law_309 (fun k M1 J1 f1 H1 locs1 hw hc => ?_)
  refine lv_istore (lv' := (5, .int k) :: lv0 b ad am o i) hx hb dL_law_312 hl (by decide) rfl (fun ls hl => ?_)
  refine lv_aload_n hx hb dL_law_314 rfl (lv_at hl 3 rfl) ?_
  refine lw_arg (k := 1) Cx hi (by decide) (lv_at hl 1 rfl) (lv_at hl 5 rfl) hc.2.2 dL_law_315 dL_law_316 dL_law_318 (by decide) dL_law_319 dL_law_320 ?_
  refine lw_arg (k := 2) Cx hi (by decide) (lv_at hl 1 rfl) (lv_at hl 5 rfl) hc.2.2 dL_law_321 dL_law_322 dL_law_324 (by decide) dL_law_325 dL_law_326 ?_
  refine lw_arg (k := 3) Cx hi (by decide) (lv_at hl 1 rfl) (lv_at hl 5 rfl) hc.2.2 dL_law_327 dL_law_328 dL_law_330 (by decide) dL_law_331 dL_law_332 ?_
  refine lw_arg (k := 4) Cx hi (by decide) (lv_at hl 1 rfl) (lv_at hl 5 rfl) hc.2.2 dL_law_333 dL_law_334 dL_law_336 (by decide) dL_law_337 dL_law_338 ?_
  refine fr_Vi (sh := mSh) (ad := am) (k := 0) (As := [.int (xs (i + 1)), .int (xs (i + 2)), .int (xs (i + 3)), .int (xs (i + 4))]) (rest := []) (post := qM_input N K (xs (i + 1)) (xs (i + 2)) (xs (i + 3)) (xs (i + 4)) cnt) hF (cwV 4 hts gL_law_X9_input rfl rfl rfl (by decide +kernel) ⟨(Nat.le_of_ble_eq_true rfl), (Nat.le_of_ble_eq_true rfl)⟩) hK hA (lC_perm hc List.perm_append_comm) (k_X9_input l D am cs _ N K (xs (i + 1)) (xs (i + 2)) (xs (i + 3)) (xs (i + 4)) cnt hs.1.cN hs.1.c16 hs.1.m.2.2.2.2.1) (by decide) rfl rfl rfl rfl hl.1 (Nat.le_of_ble_eq_true rfl) ⟨(by show cells + 4 ≤ 601024; omega), (by show slots + 24 ≤ 7293034; omega)⟩ dL_law_339 (fun b9 N1 K1 H2 locs2 hm hc => ?_)
  exact lw_tI (P := 342) Cx (lC_perm hc List.perm_append_comm) (St_input hs hw hm) hl (by omega) (by omega) (by omega) (by omega) kk dL_law_342 dL_law_344 dL_law_345 dL_law_348 dL_law_350 dL_law_355 dL_law_357 dL_law_360 dL_law_361 dL_law_362 dL_law_363 dL_law_365 dL_law_366 dL_law_367 dL_law_372 (by decide)
set_option maxHeartbeats 4000000 in
set_option maxRecDepth 100000 in
theorem law_c3 {p : Program} {l : Launch} {e : Env} {s : State} {m : MethodId} {below : List Frame} {meth : Method} {c : Code} {H : Heap} {locs : List Loc} {cells slots : Nat} {Q : State → Prop} {ls : Array Slot} {b L i : Nat} {xs : Nat → Int32} {D : va_G} {cs : Nat → ClassId} {ad am : Nat → Nat} {o : Nat} {f : Nat → Int64} {M N : wM} {J K : wJ} (Cx : lwK p l s m c b L xs D cs) (hi : i + 7 ≤ L) (h1 : cells + 6 ≤ 601024) (h2 : slots + 36 ≤ 7293034) (hc : lC D (lAq s) s.heap (wL cs ad o f M J ++ wW 23 mSh am cs N K) H locs) (hS : Sim M N) (hl : lv_has ls 7 (lv0 b ad am o i)) (kk : lwE p l e s m below meth c b D cs ad am o i (cells + 6) (slots + 36) Q) : W p l e room_1 s m #[Value.ref b] below meth c H locs cells slots Q (F0 m 375 ls []) := by
  obtain ⟨hF, hflag, hK, hZ, hX, hbl, hL⟩ := id Cx
  obtain ⟨hx, hb, hml, hown, hts⟩ := id hF
  obtain ⟨cnt, t, d, n, sc, hs⟩ := hS
  have hA : ∀ q : Nat, s.heap.size ≤ q → lAq s q := fun _ h => h
  refine lv_aload_n hx hb dL_law_375 rfl (lv_at hl 1 rfl) ?_
  refine lw_arg (k := 1) Cx hi (by decide) (lv_at hl 0 rfl) (lv_at hl 4 rfl) hc.2.2 dL_law_376 dL_law_377 dL_law_379 (by decide) dL_law_380 dL_law_381 ?_
  refine lw_arg (k := 2) Cx hi (by decide) (lv_at hl 0 rfl) (lv_at hl 4 rfl) hc.2.2 dL_law_382 dL_law_383 dL_law_385 (by decide) dL_law_386 dL_law_387 ?_
  refine lw_arg (k := 3) Cx hi (by decide) (lv_at hl 0 rfl) (lv_at hl 4 rfl) hc.2.2 dL_law_388 dL_law_389 dL_law_391 (by decide) dL_law_392 dL_law_393 ?_
  refine lw_arg (k := 4) Cx hi (by decide) (lv_at hl 0 rfl) (lv_at hl 4 rfl) hc.2.2 dL_law_394 dL_law_395 dL_law_397 (by decide) dL_law_398 dL_law_399 ?_
  refine lw_arg (k := 5) Cx hi (by decide) (lv_at hl 0 rfl) (lv_at hl 4 rfl) hc.2.2 dL_law_400 dL_law_401 dL_law_403 (by decide) dL_law_404 dL_law_405 ?_
  refine lv_aload_n hx hb dL_law_406 rfl (lv_at hl 3 rfl) ?_
  refine fr_L (As := [.ref (ad 329), .int (xs (i + 1)), .int (xs (i + 2)), .int (xs (i + 3)), .int (xs (i + 4)), .int (xs (i + 5)), .ref o]) (rest := []) (mc := 5) (ms := 30) (post := wX_compute M J (xs (i + 1)) (xs (i + 2)) (xs (i + 3)) (xs (i + 4)) (xs (i + 5)) cnt) hF (vx_cwSW 7 hts gL_law_L_compute rfl rfl rfl (by decide +kernel) ⟨(Nat.le_of_ble_eq_true rfl), (Nat.le_of_ble_eq_true rfl)⟩) hK hA hZ hc (k_L_compute l hflag D ad cs o f M J (xs (i + 1)) (xs (i + 2)) (xs (i + 3)) (xs (i + 4)) (xs (i + 5)) cnt hs.1.cM hs.1.c16 (fun b hb => (hs.1.pr.2.2.1 b hb).1)) rfl rfl hl.1 (Nat.le_of_ble_eq_true rfl) ⟨(by show cells + 5 ≤ 601024; omega), (by show slots + 30 ≤ 7293034; omega)⟩ dL_law_407 (fun k M1 J1 f1 H1 locs1 hw hc => ?_)
  refine lv_istore (lv' := (5, .int k) :: lv0 b ad am o i) hx hb dL_law_410 hl (by decide) rfl (fun ls hl => ?_)
  refine lv_aload_n hx hb dL_law_412 rfl (lv_at hl 3 rfl) ?_
  refine lw_arg (k := 1) Cx hi (by decide) (lv_at hl 1 rfl) (lv_at hl 5 rfl) hc.2.2 dL_law_413 dL_law_414 dL_law_416 (by decide) dL_law_417 dL_law_418 ?_
  refine lw_arg (k := 2) Cx hi (by decide) (lv_at hl 1 rfl) (lv_at hl 5 rfl) hc.2.2 dL_law_419 dL_law_420 dL_law_422 (by decide) dL_law_423 dL_law_424 ?_
  refine lw_arg (k := 3) Cx hi (by decide) (lv_at hl 1 rfl) (lv_at hl 5 rfl) hc.2.2 dL_law_425 dL_law_426 dL_law_428 (by decide) dL_law_429 dL_law_430 ?_
  refine lw_arg (k := 4) Cx hi (by decide) (lv_at hl 1 rfl) (lv_at hl 5 rfl) hc.2.2 dL_law_431 dL_law_432 dL_law_434 (by decide) dL_law_435 dL_law_436 ?_
  refine lw_arg (k := 5) Cx hi (by decide) (lv_at hl 1 rfl) (lv_at hl 5 rfl) hc.2.2 dL_law_437 dL_law_438 dL_law_440 (by decide) dL_law_441 dL_law_442 ?_
  refine fr_Vi (sh := mSh) (ad := am) (k := 0) (As := [.int (xs (i + 1)), .int (xs (i + 2)), .int (xs (i + 3)), .int (xs (i + 4)), .int (xs (i + 5))]) (rest := []) (post := qM_compute N K (xs (i + 1)) (xs (i + 2)) (xs (i + 3)) (xs (i + 4)) (xs (i + 5)) cnt) hF (cwV 5 hts gL_law_X9_compute rfl rfl rfl (by decide +kernel) ⟨(Nat.le_of_ble_eq_true rfl), (Nat.le_of_ble_eq_true rfl)⟩) hK hA (lC_perm hc List.perm_append_comm) (k_X9_compute l D am cs _ N K (xs (i + 1)) (xs (i + 2)) (xs (i + 3)) (xs (i + 4)) (xs (i + 5)) cnt hs.1.cN hs.1.c16 hs.1.m.2.2.2.2.1) (by decide) rfl rfl rfl rfl hl.1 (Nat.le_of_ble_eq_true rfl) ⟨(by show cells + 5 ≤ 601024; omega), (by show slots + 30 ≤ 7293034; omega)⟩ dL_law_443 (fun b9 N1 K1 H2 locs2 hm hc => ?_)
  exact lw_tI (P := 446) Cx (lC_perm hc List.perm_append_comm) (St_compute hs hw hm) hl (by omega) (by omega) (by omega) (by omega) kk dL_law_446 dL_law_448 dL_law_449 dL_law_452 dL_law_454 dL_law_459 dL_law_461 dL_law_464 dL_law_465 dL_law_466 dL_law_467 dL_law_469 dL_law_470 dL_law_471 dL_law_476 (by decide)
set_option maxHeartbeats 4000000 in
set_option maxRecDepth 100000 in
theorem law_c4 {p : Program} {l : Launch} {e : Env} {s : State} {m : MethodId} {below : List Frame} {meth : Method} {c : Code} {H : Heap} {locs : List Loc} {cells slots : Nat} {Q : State → Prop} {ls : Array Slot} {b L i : Nat} {xs : Nat → Int32} {D : va_G} {cs : Nat → ClassId} {ad am : Nat → Nat} {o : Nat} {f : Nat → Int64} {M N : wM} {J K : wJ} (Cx : lwK p l s m c b L xs D cs) (hi : i + 7 ≤ L) (h1 : cells + 6 ≤ 601024) (h2 : slots + 36 ≤ 7293034) (hc : lC D (lAq s) s.heap (wL cs ad o f M J ++ wW 23 mSh am cs N K) H locs) (hS : Sim M N) (hl : lv_has ls 7 (lv0 b ad am o i)) (kk : lwE p l e s m below meth c b D cs ad am o i (cells + 6) (slots + 36) Q) : W p l e room_1 s m #[Value.ref b] below meth c H locs cells slots Q (F0 m 479 ls []) := by
  obtain ⟨hF, hflag, hK, hZ, hX, hbl, hL⟩ := id Cx
  obtain ⟨hx, hb, hml, hown, hts⟩ := id hF
  obtain ⟨cnt, t, d, n, sc, hs⟩ := hS
  have hA : ∀ q : Nat, s.heap.size ≤ q → lAq s q := fun _ h => h
  refine lv_aload_n hx hb dL_law_479 rfl (lv_at hl 1 rfl) ?_
  refine lw_arg (k := 1) Cx hi (by decide) (lv_at hl 0 rfl) (lv_at hl 4 rfl) hc.2.2 dL_law_480 dL_law_481 dL_law_483 (by decide) dL_law_484 dL_law_485 ?_
  refine lw_arg (k := 2) Cx hi (by decide) (lv_at hl 0 rfl) (lv_at hl 4 rfl) hc.2.2 dL_law_486 dL_law_487 dL_law_489 (by decide) dL_law_490 dL_law_491 ?_
  refine lv_aload_n hx hb dL_law_492 rfl (lv_at hl 3 rfl) ?_
  refine fr_L (As := [.ref (ad 329), .int (xs (i + 1)), .int (xs (i + 2)), .ref o]) (rest := []) (mc := 2) (ms := 12) (post := wX_jump M J (xs (i + 1)) (xs (i + 2)) cnt) hF (vx_cwSW 4 hts gL_law_L_jump rfl rfl rfl (by decide +kernel) ⟨(Nat.le_of_ble_eq_true rfl), (Nat.le_of_ble_eq_true rfl)⟩) hK hA hZ hc (k_L_jump l hflag D ad cs o f M J (xs (i + 1)) (xs (i + 2)) cnt hs.1.cM hs.1.c16) rfl rfl hl.1 (Nat.le_of_ble_eq_true rfl) ⟨(by show cells + 2 ≤ 601024; omega), (by show slots + 12 ≤ 7293034; omega)⟩ dL_law_493 (fun k M1 J1 f1 H1 locs1 hw hc => ?_)
  refine lv_istore (lv' := (5, .int k) :: lv0 b ad am o i) hx hb dL_law_496 hl (by decide) rfl (fun ls hl => ?_)
  refine lv_aload_n hx hb dL_law_498 rfl (lv_at hl 3 rfl) ?_
  refine lw_arg (k := 1) Cx hi (by decide) (lv_at hl 1 rfl) (lv_at hl 5 rfl) hc.2.2 dL_law_499 dL_law_500 dL_law_502 (by decide) dL_law_503 dL_law_504 ?_
  refine lw_arg (k := 2) Cx hi (by decide) (lv_at hl 1 rfl) (lv_at hl 5 rfl) hc.2.2 dL_law_505 dL_law_506 dL_law_508 (by decide) dL_law_509 dL_law_510 ?_
  refine fr_Vi (sh := mSh) (ad := am) (k := 0) (As := [.int (xs (i + 1)), .int (xs (i + 2))]) (rest := []) (post := qM_jump N K (xs (i + 1)) (xs (i + 2)) cnt) hF (cwV 2 hts gL_law_X9_jump rfl rfl rfl (by decide +kernel) ⟨(Nat.le_of_ble_eq_true rfl), (Nat.le_of_ble_eq_true rfl)⟩) hK hA (lC_perm hc List.perm_append_comm) (k_X9_jump l D am cs _ N K (xs (i + 1)) (xs (i + 2)) cnt hs.1.cN hs.1.c16) (by decide) rfl rfl rfl rfl hl.1 (Nat.le_of_ble_eq_true rfl) ⟨(by show cells + 2 ≤ 601024; omega), (by show slots + 12 ≤ 7293034; omega)⟩ dL_law_511 (fun b9 N1 K1 H2 locs2 hm hc => ?_)
  exact lw_tI (P := 514) Cx (lC_perm hc List.perm_append_comm) (St_jump hs hw hm) hl (by omega) (by omega) (by omega) (by omega) kk dL_law_514 dL_law_516 dL_law_517 dL_law_520 dL_law_522 dL_law_527 dL_law_529 dL_law_532 dL_law_533 dL_law_534 dL_law_535 dL_law_537 dL_law_538 dL_law_539 dL_law_544 (by decide)
set_option maxHeartbeats 4000000 in
set_option maxRecDepth 100000 in
theorem law_c5 {p : Program} {l : Launch} {e : Env} {s : State} {m : MethodId} {below : List Frame} {meth : Method} {c : Code} {H : Heap} {locs : List Loc} {cells slots : Nat} {Q : State → Prop} {ls : Array Slot} {b L i : Nat} {xs : Nat → Int32} {D : va_G} {cs : Nat → ClassId} {ad am : Nat → Nat} {o : Nat} {f : Nat → Int64} {M N : wM} {J K : wJ} (Cx : lwK p l s m c b L xs D cs) (hi : i + 7 ≤ L) (h1 : cells + 6 ≤ 601024) (h2 : slots + 36 ≤ 7293034) (hc : lC D (lAq s) s.heap (wL cs ad o f M J ++ wW 23 mSh am cs N K) H locs) (hS : Sim M N) (hl : lv_has ls 7 (lv0 b ad am o i)) (kk : lwE p l e s m below meth c b D cs ad am o i (cells + 6) (slots + 36) Q) : W p l e room_1 s m #[Value.ref b] below meth c H locs cells slots Q (F0 m 547 ls []) := by
  obtain ⟨hF, hflag, hK, hZ, hX, hbl, hL⟩ := id Cx
  obtain ⟨hx, hb, hml, hown, hts⟩ := id hF
  obtain ⟨cnt, t, d, n, sc, hs⟩ := hS
  have hA : ∀ q : Nat, s.heap.size ≤ q → lAq s q := fun _ h => h
  refine lv_aload_n hx hb dL_law_547 rfl (lv_at hl 1 rfl) ?_
  refine lw_arg (k := 1) Cx hi (by decide) (lv_at hl 0 rfl) (lv_at hl 4 rfl) hc.2.2 dL_law_548 dL_law_549 dL_law_551 (by decide) dL_law_552 dL_law_553 ?_
  refine lw_arg (k := 2) Cx hi (by decide) (lv_at hl 0 rfl) (lv_at hl 4 rfl) hc.2.2 dL_law_554 dL_law_555 dL_law_557 (by decide) dL_law_558 dL_law_559 ?_
  refine lw_arg (k := 3) Cx hi (by decide) (lv_at hl 0 rfl) (lv_at hl 4 rfl) hc.2.2 dL_law_560 dL_law_561 dL_law_563 (by decide) dL_law_564 dL_law_565 ?_
  refine lw_arg (k := 4) Cx hi (by decide) (lv_at hl 0 rfl) (lv_at hl 4 rfl) hc.2.2 dL_law_566 dL_law_567 dL_law_569 (by decide) dL_law_570 dL_law_571 ?_
  refine lw_arg (k := 5) Cx hi (by decide) (lv_at hl 0 rfl) (lv_at hl 4 rfl) hc.2.2 dL_law_572 dL_law_573 dL_law_575 (by decide) dL_law_576 dL_law_577 ?_
  refine lw_argb (k := 6) Cx hi (by decide) (lv_at hl 0 rfl) (lv_at hl 4 rfl) hc.2.2 dL_law_578 dL_law_579 dL_law_581 (by decide) dL_law_583 dL_law_584 ?_
  refine lv_aload_n hx hb dL_law_585 rfl (lv_at hl 3 rfl) ?_
  refine fr_L (As := [.ref (ad 329), .int (xs (i + 1)), .int (xs (i + 2)), .int (xs (i + 3)), .int (xs (i + 4)), .int (xs (i + 5)), .int (xs (i + 6)), .ref o]) (rest := []) (mc := 6) (ms := 36) (post := wX_branch M J (xs (i + 1)) (xs (i + 2)) (xs (i + 3)) (xs (i + 4)) (xs (i + 5)) (xs (i + 6)) cnt) hF (vx_cwSW 8 hts gL_law_L_branch rfl rfl rfl (by decide +kernel) ⟨(Nat.le_of_ble_eq_true rfl), (Nat.le_of_ble_eq_true rfl)⟩) hK hA hZ hc (k_L_branch l hflag D ad cs o f M J (xs (i + 1)) (xs (i + 2)) (xs (i + 3)) (xs (i + 4)) (xs (i + 5)) (xs (i + 6)) cnt hs.1.cM hs.1.c16) rfl rfl hl.1 (Nat.le_of_ble_eq_true rfl) ⟨(by show cells + 6 ≤ 601024; omega), (by show slots + 36 ≤ 7293034; omega)⟩ dL_law_586 (fun k M1 J1 f1 H1 locs1 hw hc => ?_)
  refine lv_istore (lv' := (5, .int k) :: lv0 b ad am o i) hx hb dL_law_589 hl (by decide) rfl (fun ls hl => ?_)
  refine lv_aload_n hx hb dL_law_591 rfl (lv_at hl 3 rfl) ?_
  refine lw_arg (k := 1) Cx hi (by decide) (lv_at hl 1 rfl) (lv_at hl 5 rfl) hc.2.2 dL_law_592 dL_law_593 dL_law_595 (by decide) dL_law_596 dL_law_597 ?_
  refine lw_arg (k := 2) Cx hi (by decide) (lv_at hl 1 rfl) (lv_at hl 5 rfl) hc.2.2 dL_law_598 dL_law_599 dL_law_601 (by decide) dL_law_602 dL_law_603 ?_
  refine lw_arg (k := 3) Cx hi (by decide) (lv_at hl 1 rfl) (lv_at hl 5 rfl) hc.2.2 dL_law_604 dL_law_605 dL_law_607 (by decide) dL_law_608 dL_law_609 ?_
  refine lw_arg (k := 4) Cx hi (by decide) (lv_at hl 1 rfl) (lv_at hl 5 rfl) hc.2.2 dL_law_610 dL_law_611 dL_law_613 (by decide) dL_law_614 dL_law_615 ?_
  refine lw_arg (k := 5) Cx hi (by decide) (lv_at hl 1 rfl) (lv_at hl 5 rfl) hc.2.2 dL_law_616 dL_law_617 dL_law_619 (by decide) dL_law_620 dL_law_621 ?_
  refine lw_argb (k := 6) Cx hi (by decide) (lv_at hl 1 rfl) (lv_at hl 5 rfl) hc.2.2 dL_law_622 dL_law_623 dL_law_625 (by decide) dL_law_627 dL_law_628 ?_
  refine fr_Vi (sh := mSh) (ad := am) (k := 0) (As := [.int (xs (i + 1)), .int (xs (i + 2)), .int (xs (i + 3)), .int (xs (i + 4)), .int (xs (i + 5)), .int (xs (i + 6))]) (rest := []) (post := qM_branch N K (xs (i + 1)) (xs (i + 2)) (xs (i + 3)) (xs (i + 4)) (xs (i + 5)) (xs (i + 6)) cnt) hF (cwV 6 hts gL_law_X9_branch rfl rfl rfl (by decide +kernel) ⟨(Nat.le_of_ble_eq_true rfl), (Nat.le_of_ble_eq_true rfl)⟩) hK hA (lC_perm hc List.perm_append_comm) (k_X9_branch l D am cs _ N K (xs (i + 1)) (xs (i + 2)) (xs (i + 3)) (xs (i + 4)) (xs (i + 5)) (xs (i + 6)) cnt hs.1.cN hs.1.c16) (by decide) rfl rfl rfl rfl hl.1 (Nat.le_of_ble_eq_true rfl) ⟨(by show cells + 6 ≤ 601024; omega), (by show slots + 36 ≤ 7293034; omega)⟩ dL_law_629 (fun b9 N1 K1 H2 locs2 hm hc => ?_)
  exact lw_tI (P := 632) Cx (lC_perm hc List.perm_append_comm) (St_branch hs hw hm) hl (by omega) (by omega) (by omega) (by omega) kk dL_law_632 dL_law_634 dL_law_635 dL_law_638 dL_law_640 dL_law_645 dL_law_647 dL_law_650 dL_law_651 dL_law_652 dL_law_653 dL_law_655 dL_law_656 dL_law_657 dL_law_662 (by decide)
set_option maxHeartbeats 4000000 in
set_option maxRecDepth 100000 in
theorem law_c6 {p : Program} {l : Launch} {e : Env} {s : State} {m : MethodId} {below : List Frame} {meth : Method} {c : Code} {H : Heap} {locs : List Loc} {cells slots : Nat} {Q : State → Prop} {ls : Array Slot} {b L i : Nat} {xs : Nat → Int32} {D : va_G} {cs : Nat → ClassId} {ad am : Nat → Nat} {o : Nat} {f : Nat → Int64} {M N : wM} {J K : wJ} (Cx : lwK p l s m c b L xs D cs) (hi : i + 7 ≤ L) (h1 : cells + 6 ≤ 601024) (h2 : slots + 36 ≤ 7293034) (hc : lC D (lAq s) s.heap (wL cs ad o f M J ++ wW 23 mSh am cs N K) H locs) (hS : Sim M N) (hl : lv_has ls 7 (lv0 b ad am o i)) (kk : lwE p l e s m below meth c b D cs ad am o i (cells + 6) (slots + 36) Q) : W p l e room_1 s m #[Value.ref b] below meth c H locs cells slots Q (F0 m 665 ls []) := by
  obtain ⟨hF, hflag, hK, hZ, hX, hbl, hL⟩ := id Cx
  obtain ⟨hx, hb, hml, hown, hts⟩ := id hF
  obtain ⟨cnt, t, d, n, sc, hs⟩ := hS
  have hA : ∀ q : Nat, s.heap.size ≤ q → lAq s q := fun _ h => h
  refine lv_aload_n hx hb dL_law_665 rfl (lv_at hl 1 rfl) ?_
  refine lw_arg (k := 1) Cx hi (by decide) (lv_at hl 0 rfl) (lv_at hl 4 rfl) hc.2.2 dL_law_666 dL_law_667 dL_law_669 (by decide) dL_law_670 dL_law_671 ?_
  refine lv_aload_n hx hb dL_law_672 rfl (lv_at hl 3 rfl) ?_
  refine fr_L (As := [.ref (ad 329), .int (xs (i + 1)), .ref o]) (rest := []) (mc := 1) (ms := 6) (post := wX_clear M J (xs (i + 1)) cnt) hF (vx_cwSW 3 hts gL_law_L_clear rfl rfl rfl (by decide +kernel) ⟨(Nat.le_of_ble_eq_true rfl), (Nat.le_of_ble_eq_true rfl)⟩) hK hA hZ hc (k_L_clear l hflag D ad cs o f M J (xs (i + 1)) cnt hs.1.cM hs.1.c16) rfl rfl hl.1 (Nat.le_of_ble_eq_true rfl) ⟨(by show cells + 1 ≤ 601024; omega), (by show slots + 6 ≤ 7293034; omega)⟩ dL_law_673 (fun k M1 J1 f1 H1 locs1 hw hc => ?_)
  refine lv_istore (lv' := (5, .int k) :: lv0 b ad am o i) hx hb dL_law_676 hl (by decide) rfl (fun ls hl => ?_)
  refine lv_aload_n hx hb dL_law_678 rfl (lv_at hl 3 rfl) ?_
  refine lw_arg (k := 1) Cx hi (by decide) (lv_at hl 1 rfl) (lv_at hl 5 rfl) hc.2.2 dL_law_679 dL_law_680 dL_law_682 (by decide) dL_law_683 dL_law_684 ?_
  refine fr_Vi (sh := mSh) (ad := am) (k := 0) (As := [.int (xs (i + 1))]) (rest := []) (post := qM_clear N K (xs (i + 1)) cnt) hF (cwV 1 hts gL_law_X9_clear rfl rfl rfl (by decide +kernel) ⟨(Nat.le_of_ble_eq_true rfl), (Nat.le_of_ble_eq_true rfl)⟩) hK hA (lC_perm hc List.perm_append_comm) (k_X9_clear l D am cs _ N K (xs (i + 1)) cnt hs.1.cN hs.1.c16) (by decide) rfl rfl rfl rfl hl.1 (Nat.le_of_ble_eq_true rfl) ⟨(by show cells + 1 ≤ 601024; omega), (by show slots + 6 ≤ 7293034; omega)⟩ dL_law_685 (fun b9 N1 K1 H2 locs2 hm hc => ?_)
  exact lw_tI (P := 688) Cx (lC_perm hc List.perm_append_comm) (St_clear hs hw hm) hl (by omega) (by omega) (by omega) (by omega) kk dL_law_688 dL_law_690 dL_law_691 dL_law_694 dL_law_696 dL_law_701 dL_law_703 dL_law_706 dL_law_707 dL_law_708 dL_law_709 dL_law_711 dL_law_712 dL_law_713 dL_law_718 (by decide)
