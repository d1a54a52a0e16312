/-! THE LAW'S CASES (made by gen11.py) -/
section LAW
variable {p : Program} {l : Launch} {e : Env} {s : State} {m : MethodId} {below : List Frame} {meth : Method} {c : Code} {D : va_G} {cA : Nat → ClassId} {b : Nat} {Q : State → Prop} {H : Heap} {locs : List Loc}
theorem law_k0 (F : lw_Fx p s m c D cA b) {i L a1 a2 : Nat} {xs : Nat → Int32} {ls : Array Slot} (hX : va_X b L xs s s.heap) (hbl : b < s.heap.size) (hl : lv_has ls 4 (lw_ls b a1 a2 i)) (hi : i + 5 ≤ L) (hL : L ≤ 320) (hW : lw_W s D cA H locs a1 a2) (kk : ∀ (H1 : Heap) (locs1 : List Loc), lw_W s D cA H1 locs1 a1 a2 → W p l e room_1 s m #[Value.ref b] below meth c H1 locs1 107 1800 Q (F0 m 942 ls [])) : W p l e room_1 s m #[Value.ref b] below meth c H locs 107 1800 Q (F0 m 176 ls []) := by
  have hx := F.1
  have hb := F.2.1
  refine lv_aload_n hx hb d_law_176 rfl (lv_at hl 1 rfl) ?_
  refine law_arg F hX hbl hW.S hl hi hL (j := 1) (by decide) d_law_177 d_law_178 d_law_179 d_law_180 d_law_181 (by decide) ?_
  refine law_callC F [xs (i + 1)] [] hl.1 d_law_182 lw_m72 (sim_feed _) rfl (by decide) hW (fun v H1 locs1 hV => ?_)
  refine lv_aload_n hx hb d_law_185 rfl (lv_at hl 2 rfl) ?_
  refine law_arg F hX hbl hV.S hl hi hL (j := 1) (by decide) d_law_186 d_law_187 d_law_188 d_law_189 d_law_190 (by decide) ?_
  refine law_callM F [xs (i + 1)] [.int v] hl.1 d_law_191 lw_m115 rfl (show (1 : Nat) ≤ 8 by decide) hV (fun H2 locs2 hW2 => ?_)
  exact lv_icmp_eq (tgt := 942) hx hb d_law_194 (by decide) (fun _ => kk H2 locs2 hW2) (fun z => absurd rfl z)
theorem law_k1 (F : lw_Fx p s m c D cA b) {i L a1 a2 : Nat} {xs : Nat → Int32} {ls : Array Slot} (hX : va_X b L xs s s.heap) (hbl : b < s.heap.size) (hl : lv_has ls 4 (lw_ls b a1 a2 i)) (hi : i + 5 ≤ L) (hL : L ≤ 320) (hW : lw_W s D cA H locs a1 a2) (kk : ∀ (H1 : Heap) (locs1 : List Loc), lw_W s D cA H1 locs1 a1 a2 → W p l e room_1 s m #[Value.ref b] below meth c H1 locs1 107 1800 Q (F0 m 942 ls [])) : W p l e room_1 s m #[Value.ref b] below meth c H locs 107 1800 Q (F0 m 199 ls []) := by
  have hx := F.1
  have hb := F.2.1
  refine lv_aload_n hx hb d_law_199 rfl (lv_at hl 1 rfl) ?_
  refine law_callC F [] [] hl.1 d_law_200 lw_m73 (sim_shop) rfl (by decide) hW (fun v H1 locs1 hV => ?_)
  refine lv_aload_n hx hb d_law_203 rfl (lv_at hl 2 rfl) ?_
  refine law_callM F [] [.int v] hl.1 d_law_204 lw_m128 rfl (show (1 : Nat) ≤ 8 by decide) hV (fun H2 locs2 hW2 => ?_)
  exact lv_icmp_eq (tgt := 942) hx hb d_law_207 (by decide) (fun _ => kk H2 locs2 hW2) (fun z => absurd rfl z)
theorem law_k2 (F : lw_Fx p s m c D cA b) {i L a1 a2 : Nat} {xs : Nat → Int32} {ls : Array Slot} (hX : va_X b L xs s s.heap) (hbl : b < s.heap.size) (hl : lv_has ls 4 (lw_ls b a1 a2 i)) (hi : i + 5 ≤ L) (hL : L ≤ 320) (hW : lw_W s D cA H locs a1 a2) (kk : ∀ (H1 : Heap) (locs1 : List Loc), lw_W s D cA H1 locs1 a1 a2 → W p l e room_1 s m #[Value.ref b] below meth c H1 locs1 107 1800 Q (F0 m 942 ls [])) : W p l e room_1 s m #[Value.ref b] below meth c H locs 107 1800 Q (F0 m 212 ls []) := by
  have hx := F.1
  have hb := F.2.1
  refine lv_aload_n hx hb d_law_212 rfl (lv_at hl 1 rfl) ?_
  refine law_callC F [] [] hl.1 d_law_213 lw_m74 (sim_fault) rfl (by decide) hW (fun v H1 locs1 hV => ?_)
  refine lv_aload_n hx hb d_law_216 rfl (lv_at hl 2 rfl) ?_
  refine law_callM F [] [.int v] hl.1 d_law_217 lw_m129 rfl (show (1 : Nat) ≤ 8 by decide) hV (fun H2 locs2 hW2 => ?_)
  exact lv_icmp_eq (tgt := 942) hx hb d_law_220 (by decide) (fun _ => kk H2 locs2 hW2) (fun z => absurd rfl z)
theorem law_k3 (F : lw_Fx p s m c D cA b) {i L a1 a2 : Nat} {xs : Nat → Int32} {ls : Array Slot} (hX : va_X b L xs s s.heap) (hbl : b < s.heap.size) (hl : lv_has ls 4 (lw_ls b a1 a2 i)) (hi : i + 5 ≤ L) (hL : L ≤ 320) (hW : lw_W s D cA H locs a1 a2) (kk : ∀ (H1 : Heap) (locs1 : List Loc), lw_W s D cA H1 locs1 a1 a2 → W p l e room_1 s m #[Value.ref b] below meth c H1 locs1 107 1800 Q (F0 m 942 ls [])) : W p l e room_1 s m #[Value.ref b] below meth c H locs 107 1800 Q (F0 m 225 ls []) := by
  have hx := F.1
  have hb := F.2.1
  refine lv_aload_n hx hb d_law_225 rfl (lv_at hl 1 rfl) ?_
  refine law_arg F hX hbl hW.S hl hi hL (j := 1) (by decide) d_law_226 d_law_227 d_law_228 d_law_229 d_law_230 (by decide) ?_
  refine law_callC F [xs (i + 1)] [] hl.1 d_law_231 lw_m75 (sim_told _) rfl (by decide) hW (fun v H1 locs1 hV => ?_)
  refine lv_aload_n hx hb d_law_234 rfl (lv_at hl 2 rfl) ?_
  refine law_arg F hX hbl hV.S hl hi hL (j := 1) (by decide) d_law_235 d_law_236 d_law_237 d_law_238 d_law_239 (by decide) ?_
  refine law_callM F [xs (i + 1)] [.int v] hl.1 d_law_240 lw_m135 rfl (show (1 : Nat) ≤ 8 by decide) hV (fun H2 locs2 hW2 => ?_)
  exact lv_icmp_eq (tgt := 942) hx hb d_law_243 (by decide) (fun _ => kk H2 locs2 hW2) (fun z => absurd rfl z)
theorem law_k4 (F : lw_Fx p s m c D cA b) {i L a1 a2 : Nat} {xs : Nat → Int32} {ls : Array Slot} (hX : va_X b L xs s s.heap) (hbl : b < s.heap.size) (hl : lv_has ls 4 (lw_ls b a1 a2 i)) (hi : i + 5 ≤ L) (hL : L ≤ 320) (hW : lw_W s D cA H locs a1 a2) (kk : ∀ (H1 : Heap) (locs1 : List Loc), lw_W s D cA H1 locs1 a1 a2 → W p l e room_1 s m #[Value.ref b] below meth c H1 locs1 107 1800 Q (F0 m 942 ls [])) : W p l e room_1 s m #[Value.ref b] below meth c H locs 107 1800 Q (F0 m 248 ls []) := by
  have hx := F.1
  have hb := F.2.1
  refine lv_aload_n hx hb d_law_248 rfl (lv_at hl 1 rfl) ?_
  refine law_arg F hX hbl hW.S hl hi hL (j := 1) (by decide) d_law_249 d_law_250 d_law_251 d_law_252 d_law_253 (by decide) ?_
  refine law_callC F [xs (i + 1)] [] hl.1 d_law_254 lw_m76 (sim_yard _) rfl (by decide) hW (fun v H1 locs1 hV => ?_)
  refine lv_aload_n hx hb d_law_257 rfl (lv_at hl 2 rfl) ?_
  refine law_arg F hX hbl hV.S hl hi hL (j := 1) (by decide) d_law_258 d_law_259 d_law_260 d_law_261 d_law_262 (by decide) ?_
  refine law_callM F [xs (i + 1)] [.int v] hl.1 d_law_263 lw_m136 rfl (show (1 : Nat) ≤ 8 by decide) hV (fun H2 locs2 hW2 => ?_)
  exact lv_icmp_eq (tgt := 942) hx hb d_law_266 (by decide) (fun _ => kk H2 locs2 hW2) (fun z => absurd rfl z)
theorem law_k5 (F : lw_Fx p s m c D cA b) {i L a1 a2 : Nat} {xs : Nat → Int32} {ls : Array Slot} (hX : va_X b L xs s s.heap) (hbl : b < s.heap.size) (hl : lv_has ls 4 (lw_ls b a1 a2 i)) (hi : i + 5 ≤ L) (hL : L ≤ 320) (hW : lw_W s D cA H locs a1 a2) (kk : ∀ (H1 : Heap) (locs1 : List Loc), lw_W s D cA H1 locs1 a1 a2 → W p l e room_1 s m #[Value.ref b] below meth c H1 locs1 107 1800 Q (F0 m 942 ls [])) : W p l e room_1 s m #[Value.ref b] below meth c H locs 107 1800 Q (F0 m 271 ls []) := by
  have hx := F.1
  have hb := F.2.1
  refine lv_aload_n hx hb d_law_271 rfl (lv_at hl 1 rfl) ?_
  refine law_arg F hX hbl hW.S hl hi hL (j := 1) (by decide) d_law_272 d_law_273 d_law_274 d_law_275 d_law_276 (by decide) ?_
  refine law_arg F hX hbl hW.S hl hi hL (j := 2) (by decide) d_law_277 d_law_278 d_law_279 d_law_280 d_law_281 (by decide) ?_
  refine law_callC F [xs (i + 1), xs (i + 2)] [] hl.1 d_law_282 lw_m77 (sim_table _ _) rfl (by decide) hW (fun v H1 locs1 hV => ?_)
  refine lv_aload_n hx hb d_law_285 rfl (lv_at hl 2 rfl) ?_
  refine law_arg F hX hbl hV.S hl hi hL (j := 1) (by decide) d_law_286 d_law_287 d_law_288 d_law_289 d_law_290 (by decide) ?_
  refine law_arg F hX hbl hV.S hl hi hL (j := 2) (by decide) d_law_291 d_law_292 d_law_293 d_law_294 d_law_295 (by decide) ?_
  refine law_callM F [xs (i + 1), xs (i + 2)] [.int v] hl.1 d_law_296 lw_m137 rfl (show (1 : Nat) ≤ 8 by decide) hV (fun H2 locs2 hW2 => ?_)
  exact lv_icmp_eq (tgt := 942) hx hb d_law_299 (by decide) (fun _ => kk H2 locs2 hW2) (fun z => absurd rfl z)
theorem law_k6 (F : lw_Fx p s m c D cA b) {i L a1 a2 : Nat} {xs : Nat → Int32} {ls : Array Slot} (hX : va_X b L xs s s.heap) (hbl : b < s.heap.size) (hl : lv_has ls 4 (lw_ls b a1 a2 i)) (hi : i + 5 ≤ L) (hL : L ≤ 320) (hW : lw_W s D cA H locs a1 a2) (kk : ∀ (H1 : Heap) (locs1 : List Loc), lw_W s D cA H1 locs1 a1 a2 → W p l e room_1 s m #[Value.ref b] below meth c H1 locs1 107 1800 Q (F0 m 942 ls [])) : W p l e room_1 s m #[Value.ref b] below meth c H locs 107 1800 Q (F0 m 304 ls []) := by
  have hx := F.1
  have hb := F.2.1
  refine lv_aload_n hx hb d_law_304 rfl (lv_at hl 1 rfl) ?_
  refine law_arg F hX hbl hW.S hl hi hL (j := 1) (by decide) d_law_305 d_law_306 d_law_307 d_law_308 d_law_309 (by decide) ?_
  refine law_arg F hX hbl hW.S hl hi hL (j := 2) (by decide) d_law_310 d_law_311 d_law_312 d_law_313 d_law_314 (by decide) ?_
  refine law_callC F [xs (i + 1), xs (i + 2)] [] hl.1 d_law_315 lw_m78 (sim_piece _ _) rfl (by decide) hW (fun v H1 locs1 hV => ?_)
  refine lv_aload_n hx hb d_law_318 rfl (lv_at hl 2 rfl) ?_
  refine law_arg F hX hbl hV.S hl hi hL (j := 1) (by decide) d_law_319 d_law_320 d_law_321 d_law_322 d_law_323 (by decide) ?_
  refine law_arg F hX hbl hV.S hl hi hL (j := 2) (by decide) d_law_324 d_law_325 d_law_326 d_law_327 d_law_328 (by decide) ?_
  refine law_callM F [xs (i + 1), xs (i + 2)] [.int v] hl.1 d_law_329 lw_m139 rfl (show (1 : Nat) ≤ 8 by decide) hV (fun H2 locs2 hW2 => ?_)
  exact lv_icmp_eq (tgt := 942) hx hb d_law_332 (by decide) (fun _ => kk H2 locs2 hW2) (fun z => absurd rfl z)
theorem law_k7 (F : lw_Fx p s m c D cA b) {i L a1 a2 : Nat} {xs : Nat → Int32} {ls : Array Slot} (hX : va_X b L xs s s.heap) (hbl : b < s.heap.size) (hl : lv_has ls 4 (lw_ls b a1 a2 i)) (hi : i + 5 ≤ L) (hL : L ≤ 320) (hW : lw_W s D cA H locs a1 a2) (kk : ∀ (H1 : Heap) (locs1 : List Loc), lw_W s D cA H1 locs1 a1 a2 → W p l e room_1 s m #[Value.ref b] below meth c H1 locs1 107 1800 Q (F0 m 942 ls [])) : W p l e room_1 s m #[Value.ref b] below meth c H locs 107 1800 Q (F0 m 337 ls []) := by
  have hx := F.1
  have hb := F.2.1
  refine lv_aload_n hx hb d_law_337 rfl (lv_at hl 1 rfl) ?_
  refine law_arg F hX hbl hW.S hl hi hL (j := 1) (by decide) d_law_338 d_law_339 d_law_340 d_law_341 d_law_342 (by decide) ?_
  refine law_arg F hX hbl hW.S hl hi hL (j := 2) (by decide) d_law_343 d_law_344 d_law_345 d_law_346 d_law_347 (by decide) ?_
  refine law_callC F [xs (i + 1), xs (i + 2)] [] hl.1 d_law_348 lw_m79 (sim_wanted _ _) rfl (by decide) hW (fun v H1 locs1 hV => ?_)
  refine lv_aload_n hx hb d_law_351 rfl (lv_at hl 2 rfl) ?_
  refine law_arg F hX hbl hV.S hl hi hL (j := 1) (by decide) d_law_352 d_law_353 d_law_354 d_law_355 d_law_356 (by decide) ?_
  refine law_arg F hX hbl hV.S hl hi hL (j := 2) (by decide) d_law_357 d_law_358 d_law_359 d_law_360 d_law_361 (by decide) ?_
  refine law_callM F [xs (i + 1), xs (i + 2)] [.int v] hl.1 d_law_362 lw_m140 rfl (show (1 : Nat) ≤ 8 by decide) hV (fun H2 locs2 hW2 => ?_)
  exact lv_icmp_eq (tgt := 942) hx hb d_law_365 (by decide) (fun _ => kk H2 locs2 hW2) (fun z => absurd rfl z)
theorem law_k8 (F : lw_Fx p s m c D cA b) {i L a1 a2 : Nat} {xs : Nat → Int32} {ls : Array Slot} (hX : va_X b L xs s s.heap) (hbl : b < s.heap.size) (hl : lv_has ls 4 (lw_ls b a1 a2 i)) (hi : i + 5 ≤ L) (hL : L ≤ 320) (hW : lw_W s D cA H locs a1 a2) (kk : ∀ (H1 : Heap) (locs1 : List Loc), lw_W s D cA H1 locs1 a1 a2 → W p l e room_1 s m #[Value.ref b] below meth c H1 locs1 107 1800 Q (F0 m 942 ls [])) : W p l e room_1 s m #[Value.ref b] below meth c H locs 107 1800 Q (F0 m 370 ls []) := by
  have hx := F.1
  have hb := F.2.1
  refine lv_aload_n hx hb d_law_370 rfl (lv_at hl 1 rfl) ?_
  refine law_arg F hX hbl hW.S hl hi hL (j := 1) (by decide) d_law_371 d_law_372 d_law_373 d_law_374 d_law_375 (by decide) ?_
  refine law_arg F hX hbl hW.S hl hi hL (j := 2) (by decide) d_law_376 d_law_377 d_law_378 d_law_379 d_law_380 (by decide) ?_
  refine law_arg F hX hbl hW.S hl hi hL (j := 3) (by decide) d_law_381 d_law_382 d_law_383 d_law_384 d_law_385 (by decide) ?_
  refine law_callC F [xs (i + 1), xs (i + 2), xs (i + 3)] [] hl.1 d_law_386 lw_m80 (sim_cut _ _ _) rfl (by decide) hW (fun v H1 locs1 hV => ?_)
  refine lv_aload_n hx hb d_law_389 rfl (lv_at hl 2 rfl) ?_
  refine law_arg F hX hbl hV.S hl hi hL (j := 1) (by decide) d_law_390 d_law_391 d_law_392 d_law_393 d_law_394 (by decide) ?_
  refine law_arg F hX hbl hV.S hl hi hL (j := 2) (by decide) d_law_395 d_law_396 d_law_397 d_law_398 d_law_399 (by decide) ?_
  refine law_arg F hX hbl hV.S hl hi hL (j := 3) (by decide) d_law_400 d_law_401 d_law_402 d_law_403 d_law_404 (by decide) ?_
  refine law_callM F [xs (i + 1), xs (i + 2), xs (i + 3)] [.int v] hl.1 d_law_405 lw_m144 rfl (show (1 : Nat) ≤ 8 by decide) hV (fun H2 locs2 hW2 => ?_)
  exact lv_icmp_eq (tgt := 942) hx hb d_law_408 (by decide) (fun _ => kk H2 locs2 hW2) (fun z => absurd rfl z)
theorem law_k9 (F : lw_Fx p s m c D cA b) {i L a1 a2 : Nat} {xs : Nat → Int32} {ls : Array Slot} (hX : va_X b L xs s s.heap) (hbl : b < s.heap.size) (hl : lv_has ls 4 (lw_ls b a1 a2 i)) (hi : i + 5 ≤ L) (hL : L ≤ 320) (hW : lw_W s D cA H locs a1 a2) (kk : ∀ (H1 : Heap) (locs1 : List Loc), lw_W s D cA H1 locs1 a1 a2 → W p l e room_1 s m #[Value.ref b] below meth c H1 locs1 107 1800 Q (F0 m 942 ls [])) : W p l e room_1 s m #[Value.ref b] below meth c H locs 107 1800 Q (F0 m 413 ls []) := by
  have hx := F.1
  have hb := F.2.1
  refine lv_aload_n hx hb d_law_413 rfl (lv_at hl 1 rfl) ?_
  refine law_arg F hX hbl hW.S hl hi hL (j := 1) (by decide) d_law_414 d_law_415 d_law_416 d_law_417 d_law_418 (by decide) ?_
  refine law_arg F hX hbl hW.S hl hi hL (j := 2) (by decide) d_law_419 d_law_420 d_law_421 d_law_422 d_law_423 (by decide) ?_
  refine law_callC F [xs (i + 1), xs (i + 2)] [] hl.1 d_law_424 lw_m81 (sim_turn _ _) rfl (by decide) hW (fun v H1 locs1 hV => ?_)
  refine lv_aload_n hx hb d_law_427 rfl (lv_at hl 2 rfl) ?_
  refine law_arg F hX hbl hV.S hl hi hL (j := 1) (by decide) d_law_428 d_law_429 d_law_430 d_law_431 d_law_432 (by decide) ?_
  refine law_arg F hX hbl hV.S hl hi hL (j := 2) (by decide) d_law_433 d_law_434 d_law_435 d_law_436 d_law_437 (by decide) ?_
  refine law_callM F [xs (i + 1), xs (i + 2)] [.int v] hl.1 d_law_438 lw_m147 rfl (show (1 : Nat) ≤ 8 by decide) hV (fun H2 locs2 hW2 => ?_)
  exact lv_icmp_eq (tgt := 942) hx hb d_law_441 (by decide) (fun _ => kk H2 locs2 hW2) (fun z => absurd rfl z)
theorem law_k10 (F : lw_Fx p s m c D cA b) {i L a1 a2 : Nat} {xs : Nat → Int32} {ls : Array Slot} (hX : va_X b L xs s s.heap) (hbl : b < s.heap.size) (hl : lv_has ls 4 (lw_ls b a1 a2 i)) (hi : i + 5 ≤ L) (hL : L ≤ 320) (hW : lw_W s D cA H locs a1 a2) (kk : ∀ (H1 : Heap) (locs1 : List Loc), lw_W s D cA H1 locs1 a1 a2 → W p l e room_1 s m #[Value.ref b] below meth c H1 locs1 107 1800 Q (F0 m 942 ls [])) : W p l e room_1 s m #[Value.ref b] below meth c H locs 107 1800 Q (F0 m 446 ls []) := by
  have hx := F.1
  have hb := F.2.1
  refine lv_aload_n hx hb d_law_446 rfl (lv_at hl 1 rfl) ?_
  refine law_arg F hX hbl hW.S hl hi hL (j := 1) (by decide) d_law_447 d_law_448 d_law_449 d_law_450 d_law_451 (by decide) ?_
  refine law_arg F hX hbl hW.S hl hi hL (j := 2) (by decide) d_law_452 d_law_453 d_law_454 d_law_455 d_law_456 (by decide) ?_
  refine law_callC F [xs (i + 1), xs (i + 2)] [] hl.1 d_law_457 lw_m82 (sim_change _ _) rfl (by decide) hW (fun v H1 locs1 hV => ?_)
  refine lv_aload_n hx hb d_law_460 rfl (lv_at hl 2 rfl) ?_
  refine law_arg F hX hbl hV.S hl hi hL (j := 1) (by decide) d_law_461 d_law_462 d_law_463 d_law_464 d_law_465 (by decide) ?_
  refine law_arg F hX hbl hV.S hl hi hL (j := 2) (by decide) d_law_466 d_law_467 d_law_468 d_law_469 d_law_470 (by decide) ?_
  refine law_callM F [xs (i + 1), xs (i + 2)] [.int v] hl.1 d_law_471 lw_m148 rfl (show (1 : Nat) ≤ 8 by decide) hV (fun H2 locs2 hW2 => ?_)
  exact lv_icmp_eq (tgt := 942) hx hb d_law_474 (by decide) (fun _ => kk H2 locs2 hW2) (fun z => absurd rfl z)
theorem law_k11 (F : lw_Fx p s m c D cA b) {i L a1 a2 : Nat} {xs : Nat → Int32} {ls : Array Slot} (hX : va_X b L xs s s.heap) (hbl : b < s.heap.size) (hl : lv_has ls 4 (lw_ls b a1 a2 i)) (hi : i + 5 ≤ L) (hL : L ≤ 320) (hW : lw_W s D cA H locs a1 a2) (kk : ∀ (H1 : Heap) (locs1 : List Loc), lw_W s D cA H1 locs1 a1 a2 → W p l e room_1 s m #[Value.ref b] below meth c H1 locs1 107 1800 Q (F0 m 942 ls [])) : W p l e room_1 s m #[Value.ref b] below meth c H locs 107 1800 Q (F0 m 479 ls []) := by
  have hx := F.1
  have hb := F.2.1
  refine lv_aload_n hx hb d_law_479 rfl (lv_at hl 1 rfl) ?_
  refine law_arg F hX hbl hW.S hl hi hL (j := 1) (by decide) d_law_480 d_law_481 d_law_482 d_law_483 d_law_484 (by decide) ?_
  refine law_callC F [xs (i + 1)] [] hl.1 d_law_485 lw_m83 (sim_drift _) rfl (by decide) hW (fun v H1 locs1 hV => ?_)
  refine lv_aload_n hx hb d_law_488 rfl (lv_at hl 2 rfl) ?_
  refine law_arg F hX hbl hV.S hl hi hL (j := 1) (by decide) d_law_489 d_law_490 d_law_491 d_law_492 d_law_493 (by decide) ?_
  refine law_callM F [xs (i + 1)] [.int v] hl.1 d_law_494 lw_m150 rfl (show (1 : Nat) ≤ 8 by decide) hV (fun H2 locs2 hW2 => ?_)
  exact lv_icmp_eq (tgt := 942) hx hb d_law_497 (by decide) (fun _ => kk H2 locs2 hW2) (fun z => absurd rfl z)
theorem law_k12 (F : lw_Fx p s m c D cA b) {i L a1 a2 : Nat} {xs : Nat → Int32} {ls : Array Slot} (hX : va_X b L xs s s.heap) (hbl : b < s.heap.size) (hl : lv_has ls 4 (lw_ls b a1 a2 i)) (hi : i + 5 ≤ L) (hL : L ≤ 320) (hW : lw_W s D cA H locs a1 a2) (kk : ∀ (H1 : Heap) (locs1 : List Loc), lw_W s D cA H1 locs1 a1 a2 → W p l e room_1 s m #[Value.ref b] below meth c H1 locs1 107 1800 Q (F0 m 942 ls [])) : W p l e room_1 s m #[Value.ref b] below meth c H locs 107 1800 Q (F0 m 502 ls []) := by
  have hx := F.1
  have hb := F.2.1
  refine lv_aload_n hx hb d_law_502 rfl (lv_at hl 1 rfl) ?_
  refine law_callC F [] [] hl.1 d_law_503 lw_m84 (sim_undo) rfl (by decide) hW (fun v H1 locs1 hV => ?_)
  refine lv_aload_n hx hb d_law_506 rfl (lv_at hl 2 rfl) ?_
  refine law_callM F [] [.int v] hl.1 d_law_507 lw_m151 rfl (show (1 : Nat) ≤ 8 by decide) hV (fun H2 locs2 hW2 => ?_)
  exact lv_icmp_eq (tgt := 942) hx hb d_law_510 (by decide) (fun _ => kk H2 locs2 hW2) (fun z => absurd rfl z)
theorem law_k13 (F : lw_Fx p s m c D cA b) {i L a1 a2 : Nat} {xs : Nat → Int32} {ls : Array Slot} (hX : va_X b L xs s s.heap) (hbl : b < s.heap.size) (hl : lv_has ls 4 (lw_ls b a1 a2 i)) (hi : i + 5 ≤ L) (hL : L ≤ 320) (hW : lw_W s D cA H locs a1 a2) (kk : ∀ (H1 : Heap) (locs1 : List Loc), lw_W s D cA H1 locs1 a1 a2 → W p l e room_1 s m #[Value.ref b] below meth c H1 locs1 107 1800 Q (F0 m 942 ls [])) : W p l e room_1 s m #[Value.ref b] below meth c H locs 107 1800 Q (F0 m 515 ls []) := by
  have hx := F.1
  have hb := F.2.1
  refine lv_aload_n hx hb d_law_515 rfl (lv_at hl 1 rfl) ?_
  refine law_callC F [] [] hl.1 d_law_516 lw_m85 (sim_agree) rfl (by decide) hW (fun v H1 locs1 hV => ?_)
  refine lv_aload_n hx hb d_law_519 rfl (lv_at hl 2 rfl) ?_
  refine law_callM F [] [.int v] hl.1 d_law_520 lw_m155 rfl (show (1 : Nat) ≤ 8 by decide) hV (fun H2 locs2 hW2 => ?_)
  exact lv_icmp_eq (tgt := 942) hx hb d_law_523 (by decide) (fun _ => kk H2 locs2 hW2) (fun z => absurd rfl z)
theorem law_k14 (F : lw_Fx p s m c D cA b) {i L a1 a2 : Nat} {xs : Nat → Int32} {ls : Array Slot} (hX : va_X b L xs s s.heap) (hbl : b < s.heap.size) (hl : lv_has ls 4 (lw_ls b a1 a2 i)) (hi : i + 5 ≤ L) (hL : L ≤ 320) (hW : lw_W s D cA H locs a1 a2) (kk : ∀ (H1 : Heap) (locs1 : List Loc), lw_W s D cA H1 locs1 a1 a2 → W p l e room_1 s m #[Value.ref b] below meth c H1 locs1 107 1800 Q (F0 m 942 ls [])) : W p l e room_1 s m #[Value.ref b] below meth c H locs 107 1800 Q (F0 m 528 ls []) := by
  have hx := F.1
  have hb := F.2.1
  refine lv_aload_n hx hb d_law_528 rfl (lv_at hl 1 rfl) ?_
  refine law_callC F [] [] hl.1 d_law_529 lw_m86 (sim_clash) rfl (by decide) hW (fun v H1 locs1 hV => ?_)
  refine lv_aload_n hx hb d_law_532 rfl (lv_at hl 2 rfl) ?_
  refine law_callM F [] [.int v] hl.1 d_law_533 lw_m156 rfl (show (1 : Nat) ≤ 8 by decide) hV (fun H2 locs2 hW2 => ?_)
  exact lv_icmp_eq (tgt := 942) hx hb d_law_536 (by decide) (fun _ => kk H2 locs2 hW2) (fun z => absurd rfl z)
theorem law_k15 (F : lw_Fx p s m c D cA b) {i L a1 a2 : Nat} {xs : Nat → Int32} {ls : Array Slot} (hX : va_X b L xs s s.heap) (hbl : b < s.heap.size) (hl : lv_has ls 4 (lw_ls b a1 a2 i)) (hi : i + 5 ≤ L) (hL : L ≤ 320) (hW : lw_W s D cA H locs a1 a2) (kk : ∀ (H1 : Heap) (locs1 : List Loc), lw_W s D cA H1 locs1 a1 a2 → W p l e room_1 s m #[Value.ref b] below meth c H1 locs1 107 1800 Q (F0 m 942 ls [])) : W p l e room_1 s m #[Value.ref b] below meth c H locs 107 1800 Q (F0 m 541 ls []) := by
  have hx := F.1
  have hb := F.2.1
  refine lv_aload_n hx hb d_law_541 rfl (lv_at hl 1 rfl) ?_
  refine law_callC F [] [] hl.1 d_law_542 lw_m87 (sim_slips) rfl (by decide) hW (fun v H1 locs1 hV => ?_)
  refine lv_aload_n hx hb d_law_545 rfl (lv_at hl 2 rfl) ?_
  refine law_callM F [] [.int v] hl.1 d_law_546 lw_m157 rfl (show (1 : Nat) ≤ 8 by decide) hV (fun H2 locs2 hW2 => ?_)
  exact lv_icmp_eq (tgt := 942) hx hb d_law_549 (by decide) (fun _ => kk H2 locs2 hW2) (fun z => absurd rfl z)
theorem law_k16 (F : lw_Fx p s m c D cA b) {i L a1 a2 : Nat} {xs : Nat → Int32} {ls : Array Slot} (hX : va_X b L xs s s.heap) (hbl : b < s.heap.size) (hl : lv_has ls 4 (lw_ls b a1 a2 i)) (hi : i + 5 ≤ L) (hL : L ≤ 320) (hW : lw_W s D cA H locs a1 a2) (kk : ∀ (H1 : Heap) (locs1 : List Loc), lw_W s D cA H1 locs1 a1 a2 → W p l e room_1 s m #[Value.ref b] below meth c H1 locs1 107 1800 Q (F0 m 942 ls [])) : W p l e room_1 s m #[Value.ref b] below meth c H locs 107 1800 Q (F0 m 554 ls []) := by
  have hx := F.1
  have hb := F.2.1
  refine lv_aload_n hx hb d_law_554 rfl (lv_at hl 1 rfl) ?_
  refine law_arg F hX hbl hW.S hl hi hL (j := 1) (by decide) d_law_555 d_law_556 d_law_557 d_law_558 d_law_559 (by decide) ?_
  refine law_arg F hX hbl hW.S hl hi hL (j := 2) (by decide) d_law_560 d_law_561 d_law_562 d_law_563 d_law_564 (by decide) ?_
  refine law_arg F hX hbl hW.S hl hi hL (j := 3) (by decide) d_law_565 d_law_566 d_law_567 d_law_568 d_law_569 (by decide) ?_
  refine law_arg F hX hbl hW.S hl hi hL (j := 4) (by decide) d_law_570 d_law_571 d_law_572 d_law_573 d_law_574 (by decide) ?_
  refine law_callC F [xs (i + 1), xs (i + 2), xs (i + 3), xs (i + 4)] [] hl.1 d_law_575 lw_m88 (sim_most _ _ _ _) rfl (by decide) hW (fun v H1 locs1 hV => ?_)
  refine lv_aload_n hx hb d_law_578 rfl (lv_at hl 2 rfl) ?_
  refine law_arg F hX hbl hV.S hl hi hL (j := 1) (by decide) d_law_579 d_law_580 d_law_581 d_law_582 d_law_583 (by decide) ?_
  refine law_arg F hX hbl hV.S hl hi hL (j := 2) (by decide) d_law_584 d_law_585 d_law_586 d_law_587 d_law_588 (by decide) ?_
  refine law_arg F hX hbl hV.S hl hi hL (j := 3) (by decide) d_law_589 d_law_590 d_law_591 d_law_592 d_law_593 (by decide) ?_
  refine law_arg F hX hbl hV.S hl hi hL (j := 4) (by decide) d_law_594 d_law_595 d_law_596 d_law_597 d_law_598 (by decide) ?_
  refine law_callM F [xs (i + 1), xs (i + 2), xs (i + 3), xs (i + 4)] [.int v] hl.1 d_law_599 lw_m159 rfl (show (1 : Nat) ≤ 8 by decide) hV (fun H2 locs2 hW2 => ?_)
  exact lv_icmp_eq (tgt := 942) hx hb d_law_602 (by decide) (fun _ => kk H2 locs2 hW2) (fun z => absurd rfl z)
theorem law_k17 (F : lw_Fx p s m c D cA b) {i L a1 a2 : Nat} {xs : Nat → Int32} {ls : Array Slot} (hX : va_X b L xs s s.heap) (hbl : b < s.heap.size) (hl : lv_has ls 4 (lw_ls b a1 a2 i)) (hi : i + 5 ≤ L) (hL : L ≤ 320) (hW : lw_W s D cA H locs a1 a2) (kk : ∀ (H1 : Heap) (locs1 : List Loc), lw_W s D cA H1 locs1 a1 a2 → W p l e room_1 s m #[Value.ref b] below meth c H1 locs1 107 1800 Q (F0 m 942 ls [])) : W p l e room_1 s m #[Value.ref b] below meth c H locs 107 1800 Q (F0 m 607 ls []) := by
  have hx := F.1
  have hb := F.2.1
  refine lv_aload_n hx hb d_law_607 rfl (lv_at hl 1 rfl) ?_
  refine law_arg F hX hbl hW.S hl hi hL (j := 1) (by decide) d_law_608 d_law_609 d_law_610 d_law_611 d_law_612 (by decide) ?_
  refine law_callC F [xs (i + 1)] [] hl.1 d_law_613 lw_m89 (sim_gain _) rfl (by decide) hW (fun v H1 locs1 hV => ?_)
  refine lv_aload_n hx hb d_law_616 rfl (lv_at hl 2 rfl) ?_
  refine law_arg F hX hbl hV.S hl hi hL (j := 1) (by decide) d_law_617 d_law_618 d_law_619 d_law_620 d_law_621 (by decide) ?_
  refine law_callM F [xs (i + 1)] [.int v] hl.1 d_law_622 lw_m162 rfl (show (1 : Nat) ≤ 8 by decide) hV (fun H2 locs2 hW2 => ?_)
  exact lv_icmp_eq (tgt := 942) hx hb d_law_625 (by decide) (fun _ => kk H2 locs2 hW2) (fun z => absurd rfl z)
theorem law_k18 (F : lw_Fx p s m c D cA b) {i L a1 a2 : Nat} {xs : Nat → Int32} {ls : Array Slot} (hX : va_X b L xs s s.heap) (hbl : b < s.heap.size) (hl : lv_has ls 4 (lw_ls b a1 a2 i)) (hi : i + 5 ≤ L) (hL : L ≤ 320) (hW : lw_W s D cA H locs a1 a2) (kk : ∀ (H1 : Heap) (locs1 : List Loc), lw_W s D cA H1 locs1 a1 a2 → W p l e room_1 s m #[Value.ref b] below meth c H1 locs1 107 1800 Q (F0 m 942 ls [])) : W p l e room_1 s m #[Value.ref b] below meth c H locs 107 1800 Q (F0 m 630 ls []) := by
  have hx := F.1
  have hb := F.2.1
  refine lv_aload_n hx hb d_law_630 rfl (lv_at hl 1 rfl) ?_
  refine law_callC F [] [] hl.1 d_law_631 lw_m90 (sim_leastDues) rfl (by decide) hW (fun v H1 locs1 hV => ?_)
  refine lv_aload_n hx hb d_law_634 rfl (lv_at hl 2 rfl) ?_
  refine law_callM F [] [.int v] hl.1 d_law_635 lw_m163 rfl (show (1 : Nat) ≤ 8 by decide) hV (fun H2 locs2 hW2 => ?_)
  exact lv_icmp_eq (tgt := 942) hx hb d_law_638 (by decide) (fun _ => kk H2 locs2 hW2) (fun z => absurd rfl z)
theorem law_k19 (F : lw_Fx p s m c D cA b) {i L a1 a2 : Nat} {xs : Nat → Int32} {ls : Array Slot} (hX : va_X b L xs s s.heap) (hbl : b < s.heap.size) (hl : lv_has ls 4 (lw_ls b a1 a2 i)) (hi : i + 5 ≤ L) (hL : L ≤ 320) (hW : lw_W s D cA H locs a1 a2) (kk : ∀ (H1 : Heap) (locs1 : List Loc), lw_W s D cA H1 locs1 a1 a2 → W p l e room_1 s m #[Value.ref b] below meth c H1 locs1 107 1800 Q (F0 m 942 ls [])) : W p l e room_1 s m #[Value.ref b] below meth c H locs 107 1800 Q (F0 m 643 ls []) := by
  have hx := F.1
  have hb := F.2.1
  refine lv_aload_n hx hb d_law_643 rfl (lv_at hl 1 rfl) ?_
  refine law_arg F hX hbl hW.S hl hi hL (j := 1) (by decide) d_law_644 d_law_645 d_law_646 d_law_647 d_law_648 (by decide) ?_
  refine law_callC F [xs (i + 1)] [] hl.1 d_law_649 lw_m91 (sim_cutting _) rfl (by decide) hW (fun v H1 locs1 hV => ?_)
  refine lv_aload_n hx hb d_law_652 rfl (lv_at hl 2 rfl) ?_
  refine law_arg F hX hbl hV.S hl hi hL (j := 1) (by decide) d_law_653 d_law_654 d_law_655 d_law_656 d_law_657 (by decide) ?_
  refine law_callM F [xs (i + 1)] [.int v] hl.1 d_law_658 lw_m165 rfl (show (1 : Nat) ≤ 8 by decide) hV (fun H2 locs2 hW2 => ?_)
  exact lv_icmp_eq (tgt := 942) hx hb d_law_661 (by decide) (fun _ => kk H2 locs2 hW2) (fun z => absurd rfl z)
theorem law_k20 (F : lw_Fx p s m c D cA b) {i L a1 a2 : Nat} {xs : Nat → Int32} {ls : Array Slot} (hX : va_X b L xs s s.heap) (hbl : b < s.heap.size) (hl : lv_has ls 4 (lw_ls b a1 a2 i)) (hi : i + 5 ≤ L) (hL : L ≤ 320) (hW : lw_W s D cA H locs a1 a2) (kk : ∀ (H1 : Heap) (locs1 : List Loc), lw_W s D cA H1 locs1 a1 a2 → W p l e room_1 s m #[Value.ref b] below meth c H1 locs1 107 1800 Q (F0 m 942 ls [])) : W p l e room_1 s m #[Value.ref b] below meth c H locs 107 1800 Q (F0 m 666 ls []) := by
  have hx := F.1
  have hb := F.2.1
  refine lv_aload_n hx hb d_law_666 rfl (lv_at hl 1 rfl) ?_
  refine law_arg F hX hbl hW.S hl hi hL (j := 1) (by decide) d_law_667 d_law_668 d_law_669 d_law_670 d_law_671 (by decide) ?_
  refine law_arg F hX hbl hW.S hl hi hL (j := 2) (by decide) d_law_672 d_law_673 d_law_674 d_law_675 d_law_676 (by decide) ?_
  refine law_callC F [xs (i + 1), xs (i + 2)] [] hl.1 d_law_677 lw_m92 (sim_honest _ _) rfl (by decide) hW (fun v H1 locs1 hV => ?_)
  refine lv_aload_n hx hb d_law_680 rfl (lv_at hl 2 rfl) ?_
  refine law_arg F hX hbl hV.S hl hi hL (j := 1) (by decide) d_law_681 d_law_682 d_law_683 d_law_684 d_law_685 (by decide) ?_
  refine law_arg F hX hbl hV.S hl hi hL (j := 2) (by decide) d_law_686 d_law_687 d_law_688 d_law_689 d_law_690 (by decide) ?_
  refine law_callM F [xs (i + 1), xs (i + 2)] [.int v] hl.1 d_law_691 lw_m166 rfl (show (1 : Nat) ≤ 8 by decide) hV (fun H2 locs2 hW2 => ?_)
  exact lv_icmp_eq (tgt := 942) hx hb d_law_694 (by decide) (fun _ => kk H2 locs2 hW2) (fun z => absurd rfl z)
theorem law_k21 (F : lw_Fx p s m c D cA b) {i L a1 a2 : Nat} {xs : Nat → Int32} {ls : Array Slot} (hX : va_X b L xs s s.heap) (hbl : b < s.heap.size) (hl : lv_has ls 4 (lw_ls b a1 a2 i)) (hi : i + 5 ≤ L) (hL : L ≤ 320) (hW : lw_W s D cA H locs a1 a2) (kk : ∀ (H1 : Heap) (locs1 : List Loc), lw_W s D cA H1 locs1 a1 a2 → W p l e room_1 s m #[Value.ref b] below meth c H1 locs1 107 1800 Q (F0 m 942 ls [])) : W p l e room_1 s m #[Value.ref b] below meth c H locs 107 1800 Q (F0 m 699 ls []) := by
  have hx := F.1
  have hb := F.2.1
  refine lv_aload_n hx hb d_law_699 rfl (lv_at hl 1 rfl) ?_
  refine law_callC F [] [] hl.1 d_law_700 lw_m93 (sim_remnants) rfl (by decide) hW (fun v H1 locs1 hV => ?_)
  refine lv_aload_n hx hb d_law_703 rfl (lv_at hl 2 rfl) ?_
  refine law_callM F [] [.int v] hl.1 d_law_704 lw_m167 rfl (show (1 : Nat) ≤ 8 by decide) hV (fun H2 locs2 hW2 => ?_)
  exact lv_icmp_eq (tgt := 942) hx hb d_law_707 (by decide) (fun _ => kk H2 locs2 hW2) (fun z => absurd rfl z)
theorem law_k22 (F : lw_Fx p s m c D cA b) {i L a1 a2 : Nat} {xs : Nat → Int32} {ls : Array Slot} (hX : va_X b L xs s s.heap) (hbl : b < s.heap.size) (hl : lv_has ls 4 (lw_ls b a1 a2 i)) (hi : i + 5 ≤ L) (hL : L ≤ 320) (hW : lw_W s D cA H locs a1 a2) (kk : ∀ (H1 : Heap) (locs1 : List Loc), lw_W s D cA H1 locs1 a1 a2 → W p l e room_1 s m #[Value.ref b] below meth c H1 locs1 107 1800 Q (F0 m 942 ls [])) : W p l e room_1 s m #[Value.ref b] below meth c H locs 107 1800 Q (F0 m 712 ls []) := by
  have hx := F.1
  have hb := F.2.1
  refine lv_aload_n hx hb d_law_712 rfl (lv_at hl 1 rfl) ?_
  refine law_arg F hX hbl hW.S hl hi hL (j := 1) (by decide) d_law_713 d_law_714 d_law_715 d_law_716 d_law_717 (by decide) ?_
  refine law_arg F hX hbl hW.S hl hi hL (j := 2) (by decide) d_law_718 d_law_719 d_law_720 d_law_721 d_law_722 (by decide) ?_
  refine law_callC F [xs (i + 1), xs (i + 2)] [] hl.1 d_law_723 lw_m94 (sim_kept _ _) rfl (by decide) hW (fun v H1 locs1 hV => ?_)
  refine lv_aload_n hx hb d_law_726 rfl (lv_at hl 2 rfl) ?_
  refine law_arg F hX hbl hV.S hl hi hL (j := 1) (by decide) d_law_727 d_law_728 d_law_729 d_law_730 d_law_731 (by decide) ?_
  refine law_arg F hX hbl hV.S hl hi hL (j := 2) (by decide) d_law_732 d_law_733 d_law_734 d_law_735 d_law_736 (by decide) ?_
  refine law_callM F [xs (i + 1), xs (i + 2)] [.int v] hl.1 d_law_737 lw_m168 rfl (show (1 : Nat) ≤ 8 by decide) hV (fun H2 locs2 hW2 => ?_)
  exact lv_icmp_eq (tgt := 942) hx hb d_law_740 (by decide) (fun _ => kk H2 locs2 hW2) (fun z => absurd rfl z)
theorem law_k23 (F : lw_Fx p s m c D cA b) {i L a1 a2 : Nat} {xs : Nat → Int32} {ls : Array Slot} (hX : va_X b L xs s s.heap) (hbl : b < s.heap.size) (hl : lv_has ls 4 (lw_ls b a1 a2 i)) (hi : i + 5 ≤ L) (hL : L ≤ 320) (hW : lw_W s D cA H locs a1 a2) (kk : ∀ (H1 : Heap) (locs1 : List Loc), lw_W s D cA H1 locs1 a1 a2 → W p l e room_1 s m #[Value.ref b] below meth c H1 locs1 107 1800 Q (F0 m 942 ls [])) : W p l e room_1 s m #[Value.ref b] below meth c H locs 107 1800 Q (F0 m 745 ls []) := by
  have hx := F.1
  have hb := F.2.1
  refine lv_aload_n hx hb d_law_745 rfl (lv_at hl 1 rfl) ?_
  refine law_arg F hX hbl hW.S hl hi hL (j := 1) (by decide) d_law_746 d_law_747 d_law_748 d_law_749 d_law_750 (by decide) ?_
  refine law_arg F hX hbl hW.S hl hi hL (j := 2) (by decide) d_law_751 d_law_752 d_law_753 d_law_754 d_law_755 (by decide) ?_
  refine law_arg F hX hbl hW.S hl hi hL (j := 3) (by decide) d_law_756 d_law_757 d_law_758 d_law_759 d_law_760 (by decide) ?_
  refine law_callC F [xs (i + 1), xs (i + 2), xs (i + 3)] [] hl.1 d_law_761 lw_m95 (sim_left _ _ _) rfl (by decide) hW (fun v H1 locs1 hV => ?_)
  refine lv_aload_n hx hb d_law_764 rfl (lv_at hl 2 rfl) ?_
  refine law_arg F hX hbl hV.S hl hi hL (j := 1) (by decide) d_law_765 d_law_766 d_law_767 d_law_768 d_law_769 (by decide) ?_
  refine law_arg F hX hbl hV.S hl hi hL (j := 2) (by decide) d_law_770 d_law_771 d_law_772 d_law_773 d_law_774 (by decide) ?_
  refine law_arg F hX hbl hV.S hl hi hL (j := 3) (by decide) d_law_775 d_law_776 d_law_777 d_law_778 d_law_779 (by decide) ?_
  refine law_callM F [xs (i + 1), xs (i + 2), xs (i + 3)] [.int v] hl.1 d_law_780 lw_m169 rfl (show (1 : Nat) ≤ 8 by decide) hV (fun H2 locs2 hW2 => ?_)
  exact lv_icmp_eq (tgt := 942) hx hb d_law_783 (by decide) (fun _ => kk H2 locs2 hW2) (fun z => absurd rfl z)
theorem law_k24 (F : lw_Fx p s m c D cA b) {i L a1 a2 : Nat} {xs : Nat → Int32} {ls : Array Slot} (hX : va_X b L xs s s.heap) (hbl : b < s.heap.size) (hl : lv_has ls 4 (lw_ls b a1 a2 i)) (hi : i + 5 ≤ L) (hL : L ≤ 320) (hW : lw_W s D cA H locs a1 a2) (kk : ∀ (H1 : Heap) (locs1 : List Loc), lw_W s D cA H1 locs1 a1 a2 → W p l e room_1 s m #[Value.ref b] below meth c H1 locs1 107 1800 Q (F0 m 942 ls [])) : W p l e room_1 s m #[Value.ref b] below meth c H locs 107 1800 Q (F0 m 788 ls []) := by
  have hx := F.1
  have hb := F.2.1
  refine lv_aload_n hx hb d_law_788 rfl (lv_at hl 1 rfl) ?_
  refine law_callC F [] [] hl.1 d_law_789 lw_m96 (sim_boughtFor) rfl (by decide) hW (fun v H1 locs1 hV => ?_)
  refine lv_aload_n hx hb d_law_792 rfl (lv_at hl 2 rfl) ?_
  refine law_callM F [] [.int v] hl.1 d_law_793 lw_m171 rfl (show (1 : Nat) ≤ 8 by decide) hV (fun H2 locs2 hW2 => ?_)
  exact lv_icmp_eq (tgt := 942) hx hb d_law_796 (by decide) (fun _ => kk H2 locs2 hW2) (fun z => absurd rfl z)
theorem law_k25 (F : lw_Fx p s m c D cA b) {i L a1 a2 : Nat} {xs : Nat → Int32} {ls : Array Slot} (hX : va_X b L xs s s.heap) (hbl : b < s.heap.size) (hl : lv_has ls 4 (lw_ls b a1 a2 i)) (hi : i + 5 ≤ L) (hL : L ≤ 320) (hW : lw_W s D cA H locs a1 a2) (kk : ∀ (H1 : Heap) (locs1 : List Loc), lw_W s D cA H1 locs1 a1 a2 → W p l e room_1 s m #[Value.ref b] below meth c H1 locs1 107 1800 Q (F0 m 942 ls [])) : W p l e room_1 s m #[Value.ref b] below meth c H locs 107 1800 Q (F0 m 801 ls []) := by
  have hx := F.1
  have hb := F.2.1
  refine lv_aload_n hx hb d_law_801 rfl (lv_at hl 1 rfl) ?_
  refine law_callC F [] [] hl.1 d_law_802 lw_m97 (sim_ask) rfl (by decide) hW (fun v H1 locs1 hV => ?_)
  refine lv_aload_n hx hb d_law_805 rfl (lv_at hl 2 rfl) ?_
  refine law_callM F [] [.int v] hl.1 d_law_806 lw_m172 rfl (show (1 : Nat) ≤ 8 by decide) hV (fun H2 locs2 hW2 => ?_)
  exact lv_icmp_eq (tgt := 942) hx hb d_law_809 (by decide) (fun _ => kk H2 locs2 hW2) (fun z => absurd rfl z)
theorem law_k26 (F : lw_Fx p s m c D cA b) {i L a1 a2 : Nat} {xs : Nat → Int32} {ls : Array Slot} (hX : va_X b L xs s s.heap) (hbl : b < s.heap.size) (hl : lv_has ls 4 (lw_ls b a1 a2 i)) (hi : i + 5 ≤ L) (hL : L ≤ 320) (hW : lw_W s D cA H locs a1 a2) (kk : ∀ (H1 : Heap) (locs1 : List Loc), lw_W s D cA H1 locs1 a1 a2 → W p l e room_1 s m #[Value.ref b] below meth c H1 locs1 107 1800 Q (F0 m 942 ls [])) : W p l e room_1 s m #[Value.ref b] below meth c H locs 107 1800 Q (F0 m 814 ls []) := by
  have hx := F.1
  have hb := F.2.1
  refine lv_aload_n hx hb d_law_814 rfl (lv_at hl 1 rfl) ?_
  refine law_arg F hX hbl hW.S hl hi hL (j := 1) (by decide) d_law_815 d_law_816 d_law_817 d_law_818 d_law_819 (by decide) ?_
  refine law_arg F hX hbl hW.S hl hi hL (j := 2) (by decide) d_law_820 d_law_821 d_law_822 d_law_823 d_law_824 (by decide) ?_
  refine law_callC F [xs (i + 1), xs (i + 2)] [] hl.1 d_law_825 lw_m98 (sim_write _ _) rfl (by decide) hW (fun v H1 locs1 hV => ?_)
  refine lv_aload_n hx hb d_law_828 rfl (lv_at hl 2 rfl) ?_
  refine law_arg F hX hbl hV.S hl hi hL (j := 1) (by decide) d_law_829 d_law_830 d_law_831 d_law_832 d_law_833 (by decide) ?_
  refine law_arg F hX hbl hV.S hl hi hL (j := 2) (by decide) d_law_834 d_law_835 d_law_836 d_law_837 d_law_838 (by decide) ?_
  refine law_callM F [xs (i + 1), xs (i + 2)] [.int v] hl.1 d_law_839 lw_m173 rfl (show (1 : Nat) ≤ 8 by decide) hV (fun H2 locs2 hW2 => ?_)
  exact lv_icmp_eq (tgt := 942) hx hb d_law_842 (by decide) (fun _ => kk H2 locs2 hW2) (fun z => absurd rfl z)
theorem law_k27 (F : lw_Fx p s m c D cA b) {i L a1 a2 : Nat} {xs : Nat → Int32} {ls : Array Slot} (hX : va_X b L xs s s.heap) (hbl : b < s.heap.size) (hl : lv_has ls 4 (lw_ls b a1 a2 i)) (hi : i + 5 ≤ L) (hL : L ≤ 320) (hW : lw_W s D cA H locs a1 a2) (kk : ∀ (H1 : Heap) (locs1 : List Loc), lw_W s D cA H1 locs1 a1 a2 → W p l e room_1 s m #[Value.ref b] below meth c H1 locs1 107 1800 Q (F0 m 942 ls [])) : W p l e room_1 s m #[Value.ref b] below meth c H locs 107 1800 Q (F0 m 847 ls []) := by
  have hx := F.1
  have hb := F.2.1
  refine lv_aload_n hx hb d_law_847 rfl (lv_at hl 1 rfl) ?_
  refine law_callC F [] [] hl.1 d_law_848 lw_m99 (sim_tear) rfl (by decide) hW (fun v H1 locs1 hV => ?_)
  refine lv_aload_n hx hb d_law_851 rfl (lv_at hl 2 rfl) ?_
  refine law_callM F [] [.int v] hl.1 d_law_852 lw_m174 rfl (show (1 : Nat) ≤ 8 by decide) hV (fun H2 locs2 hW2 => ?_)
  exact lv_icmp_eq (tgt := 942) hx hb d_law_855 (by decide) (fun _ => kk H2 locs2 hW2) (fun z => absurd rfl z)
theorem law_k28 (F : lw_Fx p s m c D cA b) {i L a1 a2 : Nat} {xs : Nat → Int32} {ls : Array Slot} (hX : va_X b L xs s s.heap) (hbl : b < s.heap.size) (hl : lv_has ls 4 (lw_ls b a1 a2 i)) (hi : i + 5 ≤ L) (hL : L ≤ 320) (hW : lw_W s D cA H locs a1 a2) (kk : ∀ (H1 : Heap) (locs1 : List Loc), lw_W s D cA H1 locs1 a1 a2 → W p l e room_1 s m #[Value.ref b] below meth c H1 locs1 107 1800 Q (F0 m 942 ls [])) : W p l e room_1 s m #[Value.ref b] below meth c H locs 107 1800 Q (F0 m 860 ls []) := by
  have hx := F.1
  have hb := F.2.1
  refine lv_aload_n hx hb d_law_860 rfl (lv_at hl 1 rfl) ?_
  refine law_callC F [] [] hl.1 d_law_861 lw_m100 (sim_judge) rfl (by decide) hW (fun v H1 locs1 hV => ?_)
  refine lv_aload_n hx hb d_law_864 rfl (lv_at hl 2 rfl) ?_
  refine law_callM F [] [.int v] hl.1 d_law_865 lw_m175 rfl (show (1 : Nat) ≤ 8 by decide) hV (fun H2 locs2 hW2 => ?_)
  exact lv_icmp_eq (tgt := 942) hx hb d_law_868 (by decide) (fun _ => kk H2 locs2 hW2) (fun z => absurd rfl z)
theorem law_k29 (F : lw_Fx p s m c D cA b) {i L a1 a2 : Nat} {xs : Nat → Int32} {ls : Array Slot} (hX : va_X b L xs s s.heap) (hbl : b < s.heap.size) (hl : lv_has ls 4 (lw_ls b a1 a2 i)) (hi : i + 5 ≤ L) (hL : L ≤ 320) (hW : lw_W s D cA H locs a1 a2) (kk : ∀ (H1 : Heap) (locs1 : List Loc), lw_W s D cA H1 locs1 a1 a2 → W p l e room_1 s m #[Value.ref b] below meth c H1 locs1 107 1800 Q (F0 m 942 ls [])) : W p l e room_1 s m #[Value.ref b] below meth c H locs 107 1800 Q (F0 m 873 ls []) := by
  have hx := F.1
  have hb := F.2.1
  refine lv_aload_n hx hb d_law_873 rfl (lv_at hl 1 rfl) ?_
  refine law_arg F hX hbl hW.S hl hi hL (j := 1) (by decide) d_law_874 d_law_875 d_law_876 d_law_877 d_law_878 (by decide) ?_
  refine law_callC F [xs (i + 1)] [] hl.1 d_law_879 lw_m101 (sim_seed _) rfl (by decide) hW (fun v H1 locs1 hV => ?_)
  refine lv_aload_n hx hb d_law_882 rfl (lv_at hl 2 rfl) ?_
  refine law_arg F hX hbl hV.S hl hi hL (j := 1) (by decide) d_law_883 d_law_884 d_law_885 d_law_886 d_law_887 (by decide) ?_
  refine law_callM F [xs (i + 1)] [.int v] hl.1 d_law_888 lw_m176 rfl (show (1 : Nat) ≤ 8 by decide) hV (fun H2 locs2 hW2 => ?_)
  exact lv_icmp_eq (tgt := 942) hx hb d_law_891 (by decide) (fun _ => kk H2 locs2 hW2) (fun z => absurd rfl z)
theorem law_k30 (F : lw_Fx p s m c D cA b) {i L a1 a2 : Nat} {xs : Nat → Int32} {ls : Array Slot} (hX : va_X b L xs s s.heap) (hbl : b < s.heap.size) (hl : lv_has ls 4 (lw_ls b a1 a2 i)) (hi : i + 5 ≤ L) (hL : L ≤ 320) (hW : lw_W s D cA H locs a1 a2) (kk : ∀ (H1 : Heap) (locs1 : List Loc), lw_W s D cA H1 locs1 a1 a2 → W p l e room_1 s m #[Value.ref b] below meth c H1 locs1 107 1800 Q (F0 m 942 ls [])) : W p l e room_1 s m #[Value.ref b] below meth c H locs 107 1800 Q (F0 m 896 ls []) := by
  have hx := F.1
  have hb := F.2.1
  refine lv_aload_n hx hb d_law_896 rfl (lv_at hl 1 rfl) ?_
  refine law_arg F hX hbl hW.S hl hi hL (j := 1) (by decide) d_law_897 d_law_898 d_law_899 d_law_900 d_law_901 (by decide) ?_
  refine law_callC F [xs (i + 1)] [] hl.1 d_law_902 lw_m102 (sim_keep _) rfl (by decide) hW (fun v H1 locs1 hV => ?_)
  refine lv_aload_n hx hb d_law_905 rfl (lv_at hl 2 rfl) ?_
  refine law_arg F hX hbl hV.S hl hi hL (j := 1) (by decide) d_law_906 d_law_907 d_law_908 d_law_909 d_law_910 (by decide) ?_
  refine law_callM F [xs (i + 1)] [.int v] hl.1 d_law_911 lw_m177 rfl (show (1 : Nat) ≤ 8 by decide) hV (fun H2 locs2 hW2 => ?_)
  exact lv_icmp_eq (tgt := 942) hx hb d_law_914 (by decide) (fun _ => kk H2 locs2 hW2) (fun z => absurd rfl z)
theorem law_k31 (F : lw_Fx p s m c D cA b) {i L a1 a2 : Nat} {xs : Nat → Int32} {ls : Array Slot} (hX : va_X b L xs s s.heap) (hbl : b < s.heap.size) (hl : lv_has ls 4 (lw_ls b a1 a2 i)) (hi : i + 5 ≤ L) (hL : L ≤ 320) (hW : lw_W s D cA H locs a1 a2) (kk : ∀ (H1 : Heap) (locs1 : List Loc), lw_W s D cA H1 locs1 a1 a2 → W p l e room_1 s m #[Value.ref b] below meth c H1 locs1 107 1800 Q (F0 m 942 ls [])) : W p l e room_1 s m #[Value.ref b] below meth c H locs 107 1800 Q (F0 m 919 ls []) := by
  have hx := F.1
  have hb := F.2.1
  refine lv_aload_n hx hb d_law_919 rfl (lv_at hl 1 rfl) ?_
  refine law_arg F hX hbl hW.S hl hi hL (j := 1) (by decide) d_law_920 d_law_921 d_law_922 d_law_923 d_law_924 (by decide) ?_
  refine law_callC F [xs (i + 1)] [] hl.1 d_law_925 lw_m103 (sim_goBack _) rfl (by decide) hW (fun v H1 locs1 hV => ?_)
  refine lv_aload_n hx hb d_law_928 rfl (lv_at hl 2 rfl) ?_
  refine law_arg F hX hbl hV.S hl hi hL (j := 1) (by decide) d_law_929 d_law_930 d_law_931 d_law_932 d_law_933 (by decide) ?_
  refine law_callM F [xs (i + 1)] [.int v] hl.1 d_law_934 lw_m178 rfl (show (1 : Nat) ≤ 8 by decide) hV (fun H2 locs2 hW2 => ?_)
  exact lv_icmp_eq (tgt := 942) hx hb d_law_937 (by decide) (fun _ => kk H2 locs2 hW2) (fun z => absurd rfl z)
end LAW
