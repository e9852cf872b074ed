/-! THE LAW'S OPERATIONS (printed by wip/whole/law.py) -/
section LAW
variable {p : Program} {l : Launch} {e : Env} {s : State} {m : MethodId} {below : List Frame} {meth : Method} {c : Code} {H : Heap} {locs : List Loc} {cells slots : Nat} {Q : State → Prop} {b L i k : Nat} {xs : Nat → Int32} {G : sGl} {ls : Array Slot} {S : sWo} {M : sOb}
set_option maxRecDepth 100000 in
set_option maxHeartbeats 4000000 in
theorem lw_o_let (C : lwC p s m c b L i xs G ls) (hf : cells ≤ room_1.cells ∧ slots ≤ room_1.slots) (hk : k < 512) (hR : Rel S M k) (hw : sHw G s S M H locs) (kk : ∀ (S' : sWo) (M' : sOb) (H1 : Heap) (locs1 : List Loc), Rel S' M' (k + 1) → sHw G s S' M' H1 locs1 → W p l e room_1 s m #[Value.ref b] below meth c H1 locs1 cells slots Q (F0 m 1320 ls [])) : W p l e room_1 s m #[Value.ref b] below meth c H locs cells slots Q (F0 m 220 ls []) := by
  obtain ⟨hx, hb, hml, hown, hts, hX, hbl, hbA, hi, hL, hl⟩ := id C
  obtain ⟨v, S1, M1, e1, e2, hR1⟩ := op_let hR hk (xs (i + 1)) (xs (i + 2))
  refine lv_aload_n hx hb dL_law_220 rfl (lv_at hl 1 rfl) ?_
  refine lw_arg 1 (z := 1) C hw (by decide) (by decide) dL_law_221 dL_law_222 dL_law_223 dL_law_224 dL_law_225 ?_
  refine lw_arg 2 (z := 2) C hw (by decide) (by decide) dL_law_226 dL_law_227 dL_law_228 dL_law_229 dL_law_230 ?_
  refine kV (As := [.int (xs (i + 1)), .int (xs (i + 2))]) (rest := []) (st' := [.int v]) ⟨hx, hb, hml, hown, hts⟩ (kX4_let l G e1) (cwV 2 hts gL_law_X4_let rfl rfl rfl qqX4_let ⟨Nat.le_of_ble_eq_true rfl, Nat.le_of_ble_eq_true rfl⟩) hw (rvOw hw) rfl hl.1 rfl (Nat.le_of_ble_eq_true rfl) dL_law_231 hf rfl (fun H locs hw => ?_)
  refine lv_aload_n hx hb dL_law_234 rfl (lv_at hl 2 rfl) ?_
  refine lw_arg 1 (z := 1) C hw (by decide) (by decide) dL_law_235 dL_law_236 dL_law_237 dL_law_238 dL_law_239 ?_
  refine lw_arg 2 (z := 2) C hw (by decide) (by decide) dL_law_240 dL_law_241 dL_law_242 dL_law_243 dL_law_244 ?_
  refine kV (As := [.int (xs (i + 1)), .int (xs (i + 2))]) (rest := [.int v]) (st' := [.int v, .int v]) ⟨hx, hb, hml, hown, hts⟩ (kX5_let l G e2) (cwV 2 hts gL_law_X5_let rfl rfl rfl qqX5_let ⟨Nat.le_of_ble_eq_true rfl, Nat.le_of_ble_eq_true rfl⟩) hw (rvMd hw) rfl hl.1 rfl (Nat.le_of_ble_eq_true rfl) dL_law_245 hf rfl (fun H locs hw => ?_)
  exact lv_icmp_eq (tgt := 1320) hx hb dL_law_248 (by decide) (fun _ => kk S1 M1 _ _ hR1 hw) (fun z => absurd rfl z)
set_option maxRecDepth 100000 in
set_option maxHeartbeats 4000000 in
theorem lw_o_runner (C : lwC p s m c b L i xs G ls) (hf : cells ≤ room_1.cells ∧ slots ≤ room_1.slots) (hk : k < 512) (hR : Rel S M k) (hw : sHw G s S M H locs) (kk : ∀ (S' : sWo) (M' : sOb) (H1 : Heap) (locs1 : List Loc), Rel S' M' (k + 1) → sHw G s S' M' H1 locs1 → W p l e room_1 s m #[Value.ref b] below meth c H1 locs1 cells slots Q (F0 m 1320 ls [])) : W p l e room_1 s m #[Value.ref b] below meth c H locs cells slots Q (F0 m 253 ls []) := by
  obtain ⟨hx, hb, hml, hown, hts, hX, hbl, hbA, hi, hL, hl⟩ := id C
  obtain ⟨v, S1, M1, e1, e2, hR1⟩ := op_runner hR hk (xs (i + 1)) (xs (i + 2)) (xs (i + 3))
  refine lv_aload_n hx hb dL_law_253 rfl (lv_at hl 1 rfl) ?_
  refine lw_arg 1 (z := 1) C hw (by decide) (by decide) dL_law_254 dL_law_255 dL_law_256 dL_law_257 dL_law_258 ?_
  refine lw_arg 2 (z := 2) C hw (by decide) (by decide) dL_law_259 dL_law_260 dL_law_261 dL_law_262 dL_law_263 ?_
  refine lw_arg 3 (z := 3) C hw (by decide) (by decide) dL_law_264 dL_law_265 dL_law_266 dL_law_267 dL_law_268 ?_
  refine kV (As := [.int (xs (i + 1)), .int (xs (i + 2)), .int (xs (i + 3))]) (rest := []) (st' := [.int v]) ⟨hx, hb, hml, hown, hts⟩ (kX4_runner l G e1) (cwV 3 hts gL_law_X4_runner rfl rfl rfl qqX4_runner ⟨Nat.le_of_ble_eq_true rfl, Nat.le_of_ble_eq_true rfl⟩) hw (rvOw hw) rfl hl.1 rfl (Nat.le_of_ble_eq_true rfl) dL_law_269 hf rfl (fun H locs hw => ?_)
  refine lv_aload_n hx hb dL_law_272 rfl (lv_at hl 2 rfl) ?_
  refine lw_arg 1 (z := 1) C hw (by decide) (by decide) dL_law_273 dL_law_274 dL_law_275 dL_law_276 dL_law_277 ?_
  refine lw_arg 2 (z := 2) C hw (by decide) (by decide) dL_law_278 dL_law_279 dL_law_280 dL_law_281 dL_law_282 ?_
  refine lw_arg 3 (z := 3) C hw (by decide) (by decide) dL_law_283 dL_law_284 dL_law_285 dL_law_286 dL_law_287 ?_
  refine kV (As := [.int (xs (i + 1)), .int (xs (i + 2)), .int (xs (i + 3))]) (rest := [.int v]) (st' := [.int v, .int v]) ⟨hx, hb, hml, hown, hts⟩ (kX5_runner l G e2) (cwV 3 hts gL_law_X5_runner rfl rfl rfl qqX5_runner ⟨Nat.le_of_ble_eq_true rfl, Nat.le_of_ble_eq_true rfl⟩) hw (rvMd hw) rfl hl.1 rfl (Nat.le_of_ble_eq_true rfl) dL_law_288 hf rfl (fun H locs hw => ?_)
  exact lv_icmp_eq (tgt := 1320) hx hb dL_law_291 (by decide) (fun _ => kk S1 M1 _ _ hR1 hw) (fun z => absurd rfl z)
set_option maxRecDepth 100000 in
set_option maxHeartbeats 4000000 in
theorem lw_o_of (C : lwC p s m c b L i xs G ls) (hf : cells ≤ room_1.cells ∧ slots ≤ room_1.slots) (hk : k < 512) (hR : Rel S M k) (hw : sHw G s S M H locs) (kk : ∀ (S' : sWo) (M' : sOb) (H1 : Heap) (locs1 : List Loc), Rel S' M' (k + 1) → sHw G s S' M' H1 locs1 → W p l e room_1 s m #[Value.ref b] below meth c H1 locs1 cells slots Q (F0 m 1320 ls [])) : W p l e room_1 s m #[Value.ref b] below meth c H locs cells slots Q (F0 m 296 ls []) := by
  obtain ⟨hx, hb, hml, hown, hts, hX, hbl, hbA, hi, hL, hl⟩ := id C
  obtain ⟨v, S1, M1, e1, e2, hR1⟩ := op_of hR hk (xs (i + 1)) (xs (i + 2))
  refine lv_aload_n hx hb dL_law_296 rfl (lv_at hl 1 rfl) ?_
  refine lw_arg 1 (z := 1) C hw (by decide) (by decide) dL_law_297 dL_law_298 dL_law_299 dL_law_300 dL_law_301 ?_
  refine lw_arg 2 (z := 2) C hw (by decide) (by decide) dL_law_302 dL_law_303 dL_law_304 dL_law_305 dL_law_306 ?_
  refine kV (As := [.int (xs (i + 1)), .int (xs (i + 2))]) (rest := []) (st' := [.int v]) ⟨hx, hb, hml, hown, hts⟩ (kX4_of l G e1) (cwV 2 hts gL_law_X4_of rfl rfl rfl qqX4_of ⟨Nat.le_of_ble_eq_true rfl, Nat.le_of_ble_eq_true rfl⟩) hw (rvOw hw) rfl hl.1 rfl (Nat.le_of_ble_eq_true rfl) dL_law_307 hf rfl (fun H locs hw => ?_)
  refine lv_aload_n hx hb dL_law_310 rfl (lv_at hl 2 rfl) ?_
  refine lw_arg 1 (z := 1) C hw (by decide) (by decide) dL_law_311 dL_law_312 dL_law_313 dL_law_314 dL_law_315 ?_
  refine lw_arg 2 (z := 2) C hw (by decide) (by decide) dL_law_316 dL_law_317 dL_law_318 dL_law_319 dL_law_320 ?_
  refine kV (As := [.int (xs (i + 1)), .int (xs (i + 2))]) (rest := [.int v]) (st' := [.int v, .int v]) ⟨hx, hb, hml, hown, hts⟩ (kX5_of l G e2) (cwV 2 hts gL_law_X5_of rfl rfl rfl qqX5_of ⟨Nat.le_of_ble_eq_true rfl, Nat.le_of_ble_eq_true rfl⟩) hw (rvMd hw) rfl hl.1 rfl (Nat.le_of_ble_eq_true rfl) dL_law_321 hf rfl (fun H locs hw => ?_)
  exact lv_icmp_eq (tgt := 1320) hx hb dL_law_324 (by decide) (fun _ => kk S1 M1 _ _ hR1 hw) (fun z => absurd rfl z)
set_option maxRecDepth 100000 in
set_option maxHeartbeats 4000000 in
theorem lw_o_set (C : lwC p s m c b L i xs G ls) (hf : cells ≤ room_1.cells ∧ slots ≤ room_1.slots) (hk : k < 512) (hR : Rel S M k) (hw : sHw G s S M H locs) (kk : ∀ (S' : sWo) (M' : sOb) (H1 : Heap) (locs1 : List Loc), Rel S' M' (k + 1) → sHw G s S' M' H1 locs1 → W p l e room_1 s m #[Value.ref b] below meth c H1 locs1 cells slots Q (F0 m 1320 ls [])) : W p l e room_1 s m #[Value.ref b] below meth c H locs cells slots Q (F0 m 329 ls []) := by
  obtain ⟨hx, hb, hml, hown, hts, hX, hbl, hbA, hi, hL, hl⟩ := id C
  obtain ⟨v, S1, M1, e1, e2, hR1⟩ := op_set hR hk (xs (i + 1)) (xs (i + 2)) (xs (i + 3))
  refine lv_aload_n hx hb dL_law_329 rfl (lv_at hl 1 rfl) ?_
  refine lw_arg 1 (z := 1) C hw (by decide) (by decide) dL_law_330 dL_law_331 dL_law_332 dL_law_333 dL_law_334 ?_
  refine lw_arg 2 (z := 2) C hw (by decide) (by decide) dL_law_335 dL_law_336 dL_law_337 dL_law_338 dL_law_339 ?_
  refine lw_arg 3 (z := 3) C hw (by decide) (by decide) dL_law_340 dL_law_341 dL_law_342 dL_law_343 dL_law_344 ?_
  refine kV (As := [.int (xs (i + 1)), .int (xs (i + 2)), .int (xs (i + 3))]) (rest := []) (st' := [.int v]) ⟨hx, hb, hml, hown, hts⟩ (kX4_set l G e1) (cwV 3 hts gL_law_X4_set rfl rfl rfl qqX4_set ⟨Nat.le_of_ble_eq_true rfl, Nat.le_of_ble_eq_true rfl⟩) hw (rvOw hw) rfl hl.1 rfl (Nat.le_of_ble_eq_true rfl) dL_law_345 hf rfl (fun H locs hw => ?_)
  refine lv_aload_n hx hb dL_law_348 rfl (lv_at hl 2 rfl) ?_
  refine lw_arg 1 (z := 1) C hw (by decide) (by decide) dL_law_349 dL_law_350 dL_law_351 dL_law_352 dL_law_353 ?_
  refine lw_arg 2 (z := 2) C hw (by decide) (by decide) dL_law_354 dL_law_355 dL_law_356 dL_law_357 dL_law_358 ?_
  refine lw_arg 3 (z := 3) C hw (by decide) (by decide) dL_law_359 dL_law_360 dL_law_361 dL_law_362 dL_law_363 ?_
  refine kV (As := [.int (xs (i + 1)), .int (xs (i + 2)), .int (xs (i + 3))]) (rest := [.int v]) (st' := [.int v, .int v]) ⟨hx, hb, hml, hown, hts⟩ (kX5_set l G e2) (cwV 3 hts gL_law_X5_set rfl rfl rfl qqX5_set ⟨Nat.le_of_ble_eq_true rfl, Nat.le_of_ble_eq_true rfl⟩) hw (rvMd hw) rfl hl.1 rfl (Nat.le_of_ble_eq_true rfl) dL_law_364 hf rfl (fun H locs hw => ?_)
  exact lv_icmp_eq (tgt := 1320) hx hb dL_law_367 (by decide) (fun _ => kk S1 M1 _ _ hR1 hw) (fun z => absurd rfl z)
set_option maxRecDepth 100000 in
set_option maxHeartbeats 4000000 in
theorem lw_o_turn (C : lwC p s m c b L i xs G ls) (hf : cells ≤ room_1.cells ∧ slots ≤ room_1.slots) (hk : k < 512) (hR : Rel S M k) (hw : sHw G s S M H locs) (kk : ∀ (S' : sWo) (M' : sOb) (H1 : Heap) (locs1 : List Loc), Rel S' M' (k + 1) → sHw G s S' M' H1 locs1 → W p l e room_1 s m #[Value.ref b] below meth c H1 locs1 cells slots Q (F0 m 1320 ls [])) : W p l e room_1 s m #[Value.ref b] below meth c H locs cells slots Q (F0 m 372 ls []) := by
  obtain ⟨hx, hb, hml, hown, hts, hX, hbl, hbA, hi, hL, hl⟩ := id C
  obtain ⟨v, S1, M1, e1, e2, hR1⟩ := op_turn hR hk (xs (i + 1)) (xs (i + 2))
  refine lv_aload_n hx hb dL_law_372 rfl (lv_at hl 1 rfl) ?_
  refine lw_arg 1 (z := 1) C hw (by decide) (by decide) dL_law_373 dL_law_374 dL_law_375 dL_law_376 dL_law_377 ?_
  refine lw_arg 2 (z := 2) C hw (by decide) (by decide) dL_law_378 dL_law_379 dL_law_380 dL_law_381 dL_law_382 ?_
  refine kV (As := [.int (xs (i + 1)), .int (xs (i + 2))]) (rest := []) (st' := [.int v]) ⟨hx, hb, hml, hown, hts⟩ (kX4_turn l G e1) (cwV 2 hts gL_law_X4_turn rfl rfl rfl qqX4_turn ⟨Nat.le_of_ble_eq_true rfl, Nat.le_of_ble_eq_true rfl⟩) hw (rvOw hw) rfl hl.1 rfl (Nat.le_of_ble_eq_true rfl) dL_law_383 hf rfl (fun H locs hw => ?_)
  refine lv_aload_n hx hb dL_law_386 rfl (lv_at hl 2 rfl) ?_
  refine lw_arg 1 (z := 1) C hw (by decide) (by decide) dL_law_387 dL_law_388 dL_law_389 dL_law_390 dL_law_391 ?_
  refine lw_arg 2 (z := 2) C hw (by decide) (by decide) dL_law_392 dL_law_393 dL_law_394 dL_law_395 dL_law_396 ?_
  refine kV (As := [.int (xs (i + 1)), .int (xs (i + 2))]) (rest := [.int v]) (st' := [.int v, .int v]) ⟨hx, hb, hml, hown, hts⟩ (kX5_turn l G e2) (cwV 2 hts gL_law_X5_turn rfl rfl rfl qqX5_turn ⟨Nat.le_of_ble_eq_true rfl, Nat.le_of_ble_eq_true rfl⟩) hw (rvMd hw) rfl hl.1 rfl (Nat.le_of_ble_eq_true rfl) dL_law_397 hf rfl (fun H locs hw => ?_)
  exact lv_icmp_eq (tgt := 1320) hx hb dL_law_400 (by decide) (fun _ => kk S1 M1 _ _ hR1 hw) (fun z => absurd rfl z)
set_option maxRecDepth 100000 in
set_option maxHeartbeats 4000000 in
theorem lw_o_as (C : lwC p s m c b L i xs G ls) (hf : cells ≤ room_1.cells ∧ slots ≤ room_1.slots) (hk : k < 512) (hR : Rel S M k) (hw : sHw G s S M H locs) (kk : ∀ (S' : sWo) (M' : sOb) (H1 : Heap) (locs1 : List Loc), Rel S' M' (k + 1) → sHw G s S' M' H1 locs1 → W p l e room_1 s m #[Value.ref b] below meth c H1 locs1 cells slots Q (F0 m 1320 ls [])) : W p l e room_1 s m #[Value.ref b] below meth c H locs cells slots Q (F0 m 405 ls []) := by
  obtain ⟨hx, hb, hml, hown, hts, hX, hbl, hbA, hi, hL, hl⟩ := id C
  obtain ⟨v, S1, M1, e1, e2, hR1⟩ := op_as hR hk (xs (i + 1)) (xs (i + 2))
  refine lv_aload_n hx hb dL_law_405 rfl (lv_at hl 1 rfl) ?_
  refine lw_arg 1 (z := 1) C hw (by decide) (by decide) dL_law_406 dL_law_407 dL_law_408 dL_law_409 dL_law_410 ?_
  refine lw_arg 2 (z := 2) C hw (by decide) (by decide) dL_law_411 dL_law_412 dL_law_413 dL_law_414 dL_law_415 ?_
  refine kV (As := [.int (xs (i + 1)), .int (xs (i + 2))]) (rest := []) (st' := [.int v]) ⟨hx, hb, hml, hown, hts⟩ (kX4_as l G e1) (cwV 2 hts gL_law_X4_as rfl rfl rfl qqX4_as ⟨Nat.le_of_ble_eq_true rfl, Nat.le_of_ble_eq_true rfl⟩) hw (rvOw hw) rfl hl.1 rfl (Nat.le_of_ble_eq_true rfl) dL_law_416 hf rfl (fun H locs hw => ?_)
  refine lv_aload_n hx hb dL_law_419 rfl (lv_at hl 2 rfl) ?_
  refine lw_arg 1 (z := 1) C hw (by decide) (by decide) dL_law_420 dL_law_421 dL_law_422 dL_law_423 dL_law_424 ?_
  refine lw_arg 2 (z := 2) C hw (by decide) (by decide) dL_law_425 dL_law_426 dL_law_427 dL_law_428 dL_law_429 ?_
  refine kV (As := [.int (xs (i + 1)), .int (xs (i + 2))]) (rest := [.int v]) (st' := [.int v, .int v]) ⟨hx, hb, hml, hown, hts⟩ (kX5_as l G e2) (cwV 2 hts gL_law_X5_as rfl rfl rfl qqX5_as ⟨Nat.le_of_ble_eq_true rfl, Nat.le_of_ble_eq_true rfl⟩) hw (rvMd hw) rfl hl.1 rfl (Nat.le_of_ble_eq_true rfl) dL_law_430 hf rfl (fun H locs hw => ?_)
  exact lv_icmp_eq (tgt := 1320) hx hb dL_law_433 (by decide) (fun _ => kk S1 M1 _ _ hR1 hw) (fun z => absurd rfl z)
set_option maxRecDepth 100000 in
set_option maxHeartbeats 4000000 in
theorem lw_o_wish (C : lwC p s m c b L i xs G ls) (hf : cells ≤ room_1.cells ∧ slots ≤ room_1.slots) (hk : k < 512) (hR : Rel S M k) (hw : sHw G s S M H locs) (kk : ∀ (S' : sWo) (M' : sOb) (H1 : Heap) (locs1 : List Loc), Rel S' M' (k + 1) → sHw G s S' M' H1 locs1 → W p l e room_1 s m #[Value.ref b] below meth c H1 locs1 cells slots Q (F0 m 1320 ls [])) : W p l e room_1 s m #[Value.ref b] below meth c H locs cells slots Q (F0 m 438 ls []) := by
  obtain ⟨hx, hb, hml, hown, hts, hX, hbl, hbA, hi, hL, hl⟩ := id C
  obtain ⟨v, S1, M1, e1, e2, hR1⟩ := op_wish hR hk (xs (i + 1))
  refine lv_aload_n hx hb dL_law_438 rfl (lv_at hl 1 rfl) ?_
  refine lw_arg 1 (z := 1) C hw (by decide) (by decide) dL_law_439 dL_law_440 dL_law_441 dL_law_442 dL_law_443 ?_
  refine kV (As := [.int (xs (i + 1))]) (rest := []) (st' := [.int v]) ⟨hx, hb, hml, hown, hts⟩ (kX4_wish l G e1) (cwV 1 hts gL_law_X4_wish rfl rfl rfl qqX4_wish ⟨Nat.le_of_ble_eq_true rfl, Nat.le_of_ble_eq_true rfl⟩) hw (rvOw hw) rfl hl.1 rfl (Nat.le_of_ble_eq_true rfl) dL_law_444 hf rfl (fun H locs hw => ?_)
  refine lv_aload_n hx hb dL_law_447 rfl (lv_at hl 2 rfl) ?_
  refine lw_arg 1 (z := 1) C hw (by decide) (by decide) dL_law_448 dL_law_449 dL_law_450 dL_law_451 dL_law_452 ?_
  refine kV (As := [.int (xs (i + 1))]) (rest := [.int v]) (st' := [.int v, .int v]) ⟨hx, hb, hml, hown, hts⟩ (kX5_wish l G e2) (cwV 1 hts gL_law_X5_wish rfl rfl rfl qqX5_wish ⟨Nat.le_of_ble_eq_true rfl, Nat.le_of_ble_eq_true rfl⟩) hw (rvMd hw) rfl hl.1 rfl (Nat.le_of_ble_eq_true rfl) dL_law_453 hf rfl (fun H locs hw => ?_)
  exact lv_icmp_eq (tgt := 1320) hx hb dL_law_456 (by decide) (fun _ => kk S1 M1 _ _ hR1 hw) (fun z => absurd rfl z)
set_option maxRecDepth 100000 in
set_option maxHeartbeats 4000000 in
theorem lw_o_line (C : lwC p s m c b L i xs G ls) (hf : cells ≤ room_1.cells ∧ slots ≤ room_1.slots) (hk : k < 512) (hR : Rel S M k) (hw : sHw G s S M H locs) (kk : ∀ (S' : sWo) (M' : sOb) (H1 : Heap) (locs1 : List Loc), Rel S' M' (k + 1) → sHw G s S' M' H1 locs1 → W p l e room_1 s m #[Value.ref b] below meth c H1 locs1 cells slots Q (F0 m 1320 ls [])) : W p l e room_1 s m #[Value.ref b] below meth c H locs cells slots Q (F0 m 461 ls []) := by
  obtain ⟨hx, hb, hml, hown, hts, hX, hbl, hbA, hi, hL, hl⟩ := id C
  obtain ⟨v, S1, M1, e1, e2, hR1⟩ := op_line hR hk
  refine lv_aload_n hx hb dL_law_461 rfl (lv_at hl 1 rfl) ?_
  refine kV (As := []) (rest := []) (st' := [.int v]) ⟨hx, hb, hml, hown, hts⟩ (kX4_line l G e1) (cwV 0 hts gL_law_X4_line rfl rfl rfl qqX4_line ⟨Nat.le_of_ble_eq_true rfl, Nat.le_of_ble_eq_true rfl⟩) hw (rvOw hw) rfl hl.1 rfl (Nat.le_of_ble_eq_true rfl) dL_law_462 hf rfl (fun H locs hw => ?_)
  refine lv_aload_n hx hb dL_law_465 rfl (lv_at hl 2 rfl) ?_
  refine kV (As := []) (rest := [.int v]) (st' := [.int v, .int v]) ⟨hx, hb, hml, hown, hts⟩ (kX5_line l G e2) (cwV 0 hts gL_law_X5_line rfl rfl rfl qqX5_line ⟨Nat.le_of_ble_eq_true rfl, Nat.le_of_ble_eq_true rfl⟩) hw (rvMd hw) rfl hl.1 rfl (Nat.le_of_ble_eq_true rfl) dL_law_466 hf rfl (fun H locs hw => ?_)
  exact lv_icmp_eq (tgt := 1320) hx hb dL_law_469 (by decide) (fun _ => kk S1 M1 _ _ hR1 hw) (fun z => absurd rfl z)
set_option maxRecDepth 100000 in
set_option maxHeartbeats 4000000 in
theorem lw_o_seconds (C : lwC p s m c b L i xs G ls) (hf : cells ≤ room_1.cells ∧ slots ≤ room_1.slots) (hk : k < 512) (hR : Rel S M k) (hw : sHw G s S M H locs) (kk : ∀ (S' : sWo) (M' : sOb) (H1 : Heap) (locs1 : List Loc), Rel S' M' (k + 1) → sHw G s S' M' H1 locs1 → W p l e room_1 s m #[Value.ref b] below meth c H1 locs1 cells slots Q (F0 m 1320 ls [])) : W p l e room_1 s m #[Value.ref b] below meth c H locs cells slots Q (F0 m 474 ls []) := by
  obtain ⟨hx, hb, hml, hown, hts, hX, hbl, hbA, hi, hL, hl⟩ := id C
  obtain ⟨v, S1, M1, e1, e2, hR1⟩ := op_seconds hR hk (xs (i + 1))
  refine lv_aload_n hx hb dL_law_474 rfl (lv_at hl 1 rfl) ?_
  refine lw_arg 1 (z := 1) C hw (by decide) (by decide) dL_law_475 dL_law_476 dL_law_477 dL_law_478 dL_law_479 ?_
  refine kV (As := [.int (xs (i + 1))]) (rest := []) (st' := [.int v]) ⟨hx, hb, hml, hown, hts⟩ (kX4_seconds l G e1) (cwV 1 hts gL_law_X4_seconds rfl rfl rfl qqX4_seconds ⟨Nat.le_of_ble_eq_true rfl, Nat.le_of_ble_eq_true rfl⟩) hw (rvOw hw) rfl hl.1 rfl (Nat.le_of_ble_eq_true rfl) dL_law_480 hf rfl (fun H locs hw => ?_)
  refine lv_aload_n hx hb dL_law_483 rfl (lv_at hl 2 rfl) ?_
  refine lw_arg 1 (z := 1) C hw (by decide) (by decide) dL_law_484 dL_law_485 dL_law_486 dL_law_487 dL_law_488 ?_
  refine kV (As := [.int (xs (i + 1))]) (rest := [.int v]) (st' := [.int v, .int v]) ⟨hx, hb, hml, hown, hts⟩ (kX5_seconds l G e2) (cwV 1 hts gL_law_X5_seconds rfl rfl rfl qqX5_seconds ⟨Nat.le_of_ble_eq_true rfl, Nat.le_of_ble_eq_true rfl⟩) hw (rvMd hw) rfl hl.1 rfl (Nat.le_of_ble_eq_true rfl) dL_law_489 hf rfl (fun H locs hw => ?_)
  exact lv_icmp_eq (tgt := 1320) hx hb dL_law_492 (by decide) (fun _ => kk S1 M1 _ _ hR1 hw) (fun z => absurd rfl z)
end LAW
