set_option maxRecDepth 100000 in
set_option maxHeartbeats 4000000 in
theorem law_0_key {p : Program} {l : Launch} {e : Env} {s : State} {m : MethodId} {below : List Frame} {meth : Method} {c : Code} {bs L i : Nat} {xs : Nat → Int32} {D : va_G} {cy : Nat → ClassId} (hL : L ≤ 2560) (C0 : lw_At p s m meth c bs L xs) (hF : gFx s.heap.size D cy s) {I : gI} {H : Heap} {locs : List Loc} {ls : Array Slot} (hi : aInv bT I) (hw : WF I) (hiL : i + 5 ≤ L) (hS : va_S (gA s.heap.size) s.heap H locs) (hW : gWd s.heap.size D cy (SH0, RF0, I) H) (hl : lv_has ls 4 [(0, .ref bs), (1, .ref (s.heap.size + 0)), (2, .ref (s.heap.size + 67)), (3, .int (Int32.ofNat i))]) (kk : ∀ (I : gI) (H : Heap) (locs : List Loc), aInv bT I → WF I → va_S (gA s.heap.size) s.heap H locs → gWd s.heap.size D cy (SH0, RF0, I) H → W p l e room_1 s m #[Value.ref bs] below meth c H locs 88 3546 (lw_Z below #[Value.ref bs] s) (F0 m 1745 ls [])) : W p l e room_1 s m #[Value.ref bs] below meth c H locs 88 3546 (lw_Z below #[Value.ref bs] s) (F0 m 252 ls []) := by
  obtain ⟨hx, hb, hr, hml, hown, hts, hX, hbl, hlocks, hgv⟩ := id C0
  have hbA : ¬ gA s.heap.size bs := Nat.not_le.mpr hbl
  refine lv_aload_n hx hb dL_252 rfl (lv_at hl 1 rfl) ?_
  refine lv_aload_n hx hb dL_253 rfl (lv_at hl 0 rfl) ?_
  refine lv_iload_n hx hb dL_254 rfl (lv_at hl 3 rfl) ?_
  refine lv_iconst (v := 1) hx hb dL_255 (by decide) ?_
  refine lv_iadd hx hb dL_256 ?_
  refine va_sld hx hb hX hbl hbA hS (lw_in (k := 1) (by omega) hL) dL_257 ?_
  refine lv_aload_n hx hb dL_258 rfl (lv_at hl 0 rfl) ?_
  refine lv_iload_n hx hb dL_259 rfl (lv_at hl 3 rfl) ?_
  refine lv_iconst (v := 2) hx hb dL_260 (by decide) ?_
  refine lv_iadd hx hb dL_261 ?_
  refine va_sld hx hb hX hbl hbA hS (lw_in (k := 2) (by omega) hL) dL_262 ?_
  refine lv_aload_n hx hb dL_263 rfl (lv_at hl 0 rfl) ?_
  refine lv_iload_n hx hb dL_264 rfl (lv_at hl 3 rfl) ?_
  refine lv_iconst (v := 3) hx hb dL_265 (by decide) ?_
  refine lv_iadd hx hb dL_266 ?_
  refine va_sld hx hb hX hbl hbA hS (lw_in (k := 3) (by omega) hL) dL_267 ?_
  refine lv_aload_n hx hb dL_268 rfl (lv_at hl 0 rfl) ?_
  refine lv_iload_n hx hb dL_269 rfl (lv_at hl 3 rfl) ?_
  refine lv_iconst (v := 4) hx hb dL_270 (by decide) ?_
  refine lv_iadd hx hb dL_271 ?_
  refine va_sld hx hb hX hbl hbA hS (lw_in (k := 4) (by omega) hL) dL_272 ?_
  refine law_call (mc1 := 0) (ms1 := 0) (ci := 11) (x := 0) (mj := mX11_key) (vs := [.int _, .int _, .int _, .int _]) (S := []) (d := 0 + 40) hx hb hml hown hts hF hS hW hl dL_273 rfl rfl cml_X11_key wl_2 wl_3 wl_4 rfl (Nat.le_of_ble_eq_true rfl) (Nat.le_of_ble_eq_true rfl) (Nat.le_of_ble_eq_true rfl) (Nat.le_of_ble_eq_true rfl) (Nat.le_of_ble_eq_true rfl) (pr_key 0 [_, _, _, _] _ rfl hi hw) ?_
  rintro _ _ H locs ⟨y, I, rfl, rfl, hG⟩ hW hS
  dsimp only [Option.map, Option.toList, List.cons_append, List.nil_append, gtr]
  refine lv_pop hx hb dL_276 rfl ?_
  refine lv_aload_n hx hb dL_277 rfl (lv_at hl 2 rfl) ?_
  refine lv_aload_n hx hb dL_278 rfl (lv_at hl 0 rfl) ?_
  refine lv_iload_n hx hb dL_279 rfl (lv_at hl 3 rfl) ?_
  refine lv_iconst (v := 1) hx hb dL_280 (by decide) ?_
  refine lv_iadd hx hb dL_281 ?_
  refine va_sld hx hb hX hbl hbA hS (lw_in (k := 1) (by omega) hL) dL_282 ?_
  refine lv_aload_n hx hb dL_283 rfl (lv_at hl 0 rfl) ?_
  refine lv_iload_n hx hb dL_284 rfl (lv_at hl 3 rfl) ?_
  refine lv_iconst (v := 2) hx hb dL_285 (by decide) ?_
  refine lv_iadd hx hb dL_286 ?_
  refine va_sld hx hb hX hbl hbA hS (lw_in (k := 2) (by omega) hL) dL_287 ?_
  refine lv_aload_n hx hb dL_288 rfl (lv_at hl 0 rfl) ?_
  refine lv_iload_n hx hb dL_289 rfl (lv_at hl 3 rfl) ?_
  refine lv_iconst (v := 3) hx hb dL_290 (by decide) ?_
  refine lv_iadd hx hb dL_291 ?_
  refine va_sld hx hb hX hbl hbA hS (lw_in (k := 3) (by omega) hL) dL_292 ?_
  refine lv_aload_n hx hb dL_293 rfl (lv_at hl 0 rfl) ?_
  refine lv_iload_n hx hb dL_294 rfl (lv_at hl 3 rfl) ?_
  refine lv_iconst (v := 4) hx hb dL_295 (by decide) ?_
  refine lv_iadd hx hb dL_296 ?_
  refine va_sld hx hb hX hbl hbA hS (lw_in (k := 4) (by omega) hL) dL_297 ?_
  refine law_call (mc1 := 0) (ms1 := 0) (ci := 12) (x := 67) (mj := mX12_key) (vs := [.int _, .int _, .int _, .int _]) (S := []) (d := 0 + 40) hx hb hml hown hts hF hS hW hl dL_298 rfl rfl cml_X12_key wl_7 wl_8 wl_9 rfl (Nat.le_of_ble_eq_true rfl) (Nat.le_of_ble_eq_true rfl) (Nat.le_of_ble_eq_true rfl) (Nat.le_of_ble_eq_true rfl) (Nat.le_of_ble_eq_true rfl) (hG) ?_
  rintro _ _ H locs ⟨y2, I, rfl, rfl, hy, hi, hw⟩ hW hS
  dsimp only [Option.map, Option.toList, List.cons_append, List.nil_append, gtr]
  refine lv_pop hx hb dL_301 rfl ?_
  refine lv_goto (tgt := 1745) hx hb dL_302 (by decide) ?_
  exact kk I H locs hi hw hS hW
set_option maxRecDepth 100000 in
set_option maxHeartbeats 4000000 in
theorem law_1_keyOf {p : Program} {l : Launch} {e : Env} {s : State} {m : MethodId} {below : List Frame} {meth : Method} {c : Code} {bs L i : Nat} {xs : Nat → Int32} {D : va_G} {cy : Nat → ClassId} (hL : L ≤ 2560) (C0 : lw_At p s m meth c bs L xs) (hF : gFx s.heap.size D cy s) {I : gI} {H : Heap} {locs : List Loc} {ls : Array Slot} (hi : aInv bT I) (hw : WF I) (hiL : i + 5 ≤ L) (hS : va_S (gA s.heap.size) s.heap H locs) (hW : gWd s.heap.size D cy (SH0, RF0, I) H) (hl : lv_has ls 4 [(0, .ref bs), (1, .ref (s.heap.size + 0)), (2, .ref (s.heap.size + 67)), (3, .int (Int32.ofNat i))]) (kk : ∀ (I : gI) (H : Heap) (locs : List Loc), aInv bT I → WF I → va_S (gA s.heap.size) s.heap H locs → gWd s.heap.size D cy (SH0, RF0, I) H → W p l e room_1 s m #[Value.ref bs] below meth c H locs 88 3546 (lw_Z below #[Value.ref bs] s) (F0 m 1745 ls [])) : W p l e room_1 s m #[Value.ref bs] below meth c H locs 88 3546 (lw_Z below #[Value.ref bs] s) (F0 m 305 ls []) := by
  obtain ⟨hx, hb, hr, hml, hown, hts, hX, hbl, hlocks, hgv⟩ := id C0
  have hbA : ¬ gA s.heap.size bs := Nat.not_le.mpr hbl
  refine lv_aload_n hx hb dL_305 rfl (lv_at hl 1 rfl) ?_
  refine lv_aload_n hx hb dL_306 rfl (lv_at hl 0 rfl) ?_
  refine lv_iload_n hx hb dL_307 rfl (lv_at hl 3 rfl) ?_
  refine lv_iconst (v := 1) hx hb dL_308 (by decide) ?_
  refine lv_iadd hx hb dL_309 ?_
  refine va_sld hx hb hX hbl hbA hS (lw_in (k := 1) (by omega) hL) dL_310 ?_
  refine lv_aload_n hx hb dL_311 rfl (lv_at hl 0 rfl) ?_
  refine lv_iload_n hx hb dL_312 rfl (lv_at hl 3 rfl) ?_
  refine lv_iconst (v := 2) hx hb dL_313 (by decide) ?_
  refine lv_iadd hx hb dL_314 ?_
  refine va_sld hx hb hX hbl hbA hS (lw_in (k := 2) (by omega) hL) dL_315 ?_
  refine law_call (mc1 := 0) (ms1 := 0) (ci := 11) (x := 0) (mj := mX11_keyOf) (vs := [.int _, .int _]) (S := []) (d := 0 + 40) hx hb hml hown hts hF hS hW hl dL_316 rfl rfl cml_X11_keyOf wl_11 wl_12 wl_13 rfl (Nat.le_of_ble_eq_true rfl) (Nat.le_of_ble_eq_true rfl) (Nat.le_of_ble_eq_true rfl) (Nat.le_of_ble_eq_true rfl) (Nat.le_of_ble_eq_true rfl) (pb_X11_keyOf 0 [_, _] _ rfl hi hw) ?_
  rintro _ _ H locs ⟨⟨y, rfl, -⟩, I, rfl, hi, hw⟩ hW hS
  dsimp only [Option.map, Option.toList, List.cons_append, List.nil_append, gtr]
  refine lv_pop hx hb dL_319 rfl ?_
  refine lv_aload_n hx hb dL_320 rfl (lv_at hl 2 rfl) ?_
  refine lv_aload_n hx hb dL_321 rfl (lv_at hl 0 rfl) ?_
  refine lv_iload_n hx hb dL_322 rfl (lv_at hl 3 rfl) ?_
  refine lv_iconst (v := 1) hx hb dL_323 (by decide) ?_
  refine lv_iadd hx hb dL_324 ?_
  refine va_sld hx hb hX hbl hbA hS (lw_in (k := 1) (by omega) hL) dL_325 ?_
  refine lv_aload_n hx hb dL_326 rfl (lv_at hl 0 rfl) ?_
  refine lv_iload_n hx hb dL_327 rfl (lv_at hl 3 rfl) ?_
  refine lv_iconst (v := 2) hx hb dL_328 (by decide) ?_
  refine lv_iadd hx hb dL_329 ?_
  refine va_sld hx hb hX hbl hbA hS (lw_in (k := 2) (by omega) hL) dL_330 ?_
  refine law_call (mc1 := 0) (ms1 := 0) (ci := 12) (x := 67) (mj := mX12_keyOf) (vs := [.int _, .int _]) (S := []) (d := 0 + 40) hx hb hml hown hts hF hS hW hl dL_331 rfl rfl cml_X12_keyOf wl_15 wl_16 wl_17 rfl (Nat.le_of_ble_eq_true rfl) (Nat.le_of_ble_eq_true rfl) (Nat.le_of_ble_eq_true rfl) (Nat.le_of_ble_eq_true rfl) (Nat.le_of_ble_eq_true rfl) (pb_X12_keyOf 0 [_, _] _ rfl hi hw) ?_
  rintro _ _ H locs ⟨⟨y, rfl, -⟩, I, rfl, hi, hw⟩ hW hS
  dsimp only [Option.map, Option.toList, List.cons_append, List.nil_append, gtr]
  refine lv_pop hx hb dL_334 rfl ?_
  refine lv_goto (tgt := 1745) hx hb dL_335 (by decide) ?_
  exact kk I H locs hi hw hS hW
set_option maxRecDepth 100000 in
set_option maxHeartbeats 4000000 in
theorem law_2_change {p : Program} {l : Launch} {e : Env} {s : State} {m : MethodId} {below : List Frame} {meth : Method} {c : Code} {bs L i : Nat} {xs : Nat → Int32} {D : va_G} {cy : Nat → ClassId} (hL : L ≤ 2560) (C0 : lw_At p s m meth c bs L xs) (hF : gFx s.heap.size D cy s) {I : gI} {H : Heap} {locs : List Loc} {ls : Array Slot} (hi : aInv bT I) (hw : WF I) (hiL : i + 5 ≤ L) (hS : va_S (gA s.heap.size) s.heap H locs) (hW : gWd s.heap.size D cy (SH0, RF0, I) H) (hl : lv_has ls 4 [(0, .ref bs), (1, .ref (s.heap.size + 0)), (2, .ref (s.heap.size + 67)), (3, .int (Int32.ofNat i))]) (kk : ∀ (I : gI) (H : Heap) (locs : List Loc), aInv bT I → WF I → va_S (gA s.heap.size) s.heap H locs → gWd s.heap.size D cy (SH0, RF0, I) H → W p l e room_1 s m #[Value.ref bs] below meth c H locs 88 3546 (lw_Z below #[Value.ref bs] s) (F0 m 1745 ls [])) : W p l e room_1 s m #[Value.ref bs] below meth c H locs 88 3546 (lw_Z below #[Value.ref bs] s) (F0 m 338 ls []) := by
  obtain ⟨hx, hb, hr, hml, hown, hts, hX, hbl, hlocks, hgv⟩ := id C0
  have hbA : ¬ gA s.heap.size bs := Nat.not_le.mpr hbl
  refine lv_aload_n hx hb dL_338 rfl (lv_at hl 1 rfl) ?_
  refine lv_aload_n hx hb dL_339 rfl (lv_at hl 0 rfl) ?_
  refine lv_iload_n hx hb dL_340 rfl (lv_at hl 3 rfl) ?_
  refine lv_iconst (v := 1) hx hb dL_341 (by decide) ?_
  refine lv_iadd hx hb dL_342 ?_
  refine va_sld hx hb hX hbl hbA hS (lw_in (k := 1) (by omega) hL) dL_343 ?_
  refine lv_aload_n hx hb dL_344 rfl (lv_at hl 0 rfl) ?_
  refine lv_iload_n hx hb dL_345 rfl (lv_at hl 3 rfl) ?_
  refine lv_iconst (v := 2) hx hb dL_346 (by decide) ?_
  refine lv_iadd hx hb dL_347 ?_
  refine va_sld hx hb hX hbl hbA hS (lw_in (k := 2) (by omega) hL) dL_348 ?_
  refine lv_aload_n hx hb dL_349 rfl (lv_at hl 0 rfl) ?_
  refine lv_iload_n hx hb dL_350 rfl (lv_at hl 3 rfl) ?_
  refine lv_iconst (v := 3) hx hb dL_351 (by decide) ?_
  refine lv_iadd hx hb dL_352 ?_
  refine va_sld hx hb hX hbl hbA hS (lw_in (k := 3) (by omega) hL) dL_353 ?_
  refine law_call (mc1 := 0) (ms1 := 0) (ci := 11) (x := 0) (mj := mX11_change) (vs := [.int _, .int _, .int _]) (S := []) (d := 0 + 40) hx hb hml hown hts hF hS hW hl dL_354 rfl rfl cml_X11_change wl_19 wl_20 wl_21 rfl (Nat.le_of_ble_eq_true rfl) (Nat.le_of_ble_eq_true rfl) (Nat.le_of_ble_eq_true rfl) (Nat.le_of_ble_eq_true rfl) (Nat.le_of_ble_eq_true rfl) (pb_X11_change 0 [_, _, _] _ rfl hi hw) ?_
  rintro _ _ H locs ⟨⟨y, rfl, -⟩, I, rfl, hi, hw⟩ hW hS
  dsimp only [Option.map, Option.toList, List.cons_append, List.nil_append, gtr]
  refine lv_pop hx hb dL_357 rfl ?_
  refine lv_aload_n hx hb dL_358 rfl (lv_at hl 2 rfl) ?_
  refine lv_aload_n hx hb dL_359 rfl (lv_at hl 0 rfl) ?_
  refine lv_iload_n hx hb dL_360 rfl (lv_at hl 3 rfl) ?_
  refine lv_iconst (v := 1) hx hb dL_361 (by decide) ?_
  refine lv_iadd hx hb dL_362 ?_
  refine va_sld hx hb hX hbl hbA hS (lw_in (k := 1) (by omega) hL) dL_363 ?_
  refine lv_aload_n hx hb dL_364 rfl (lv_at hl 0 rfl) ?_
  refine lv_iload_n hx hb dL_365 rfl (lv_at hl 3 rfl) ?_
  refine lv_iconst (v := 2) hx hb dL_366 (by decide) ?_
  refine lv_iadd hx hb dL_367 ?_
  refine va_sld hx hb hX hbl hbA hS (lw_in (k := 2) (by omega) hL) dL_368 ?_
  refine lv_aload_n hx hb dL_369 rfl (lv_at hl 0 rfl) ?_
  refine lv_iload_n hx hb dL_370 rfl (lv_at hl 3 rfl) ?_
  refine lv_iconst (v := 3) hx hb dL_371 (by decide) ?_
  refine lv_iadd hx hb dL_372 ?_
  refine va_sld hx hb hX hbl hbA hS (lw_in (k := 3) (by omega) hL) dL_373 ?_
  refine law_call (mc1 := 0) (ms1 := 0) (ci := 12) (x := 67) (mj := mX12_change) (vs := [.int _, .int _, .int _]) (S := []) (d := 0 + 40) hx hb hml hown hts hF hS hW hl dL_374 rfl rfl cml_X12_change wl_23 wl_24 wl_25 rfl (Nat.le_of_ble_eq_true rfl) (Nat.le_of_ble_eq_true rfl) (Nat.le_of_ble_eq_true rfl) (Nat.le_of_ble_eq_true rfl) (Nat.le_of_ble_eq_true rfl) (pb_X12_change 0 [_, _, _] _ rfl hi hw) ?_
  rintro _ _ H locs ⟨⟨y, rfl, -⟩, I, rfl, hi, hw⟩ hW hS
  dsimp only [Option.map, Option.toList, List.cons_append, List.nil_append, gtr]
  refine lv_pop hx hb dL_377 rfl ?_
  refine lv_goto (tgt := 1745) hx hb dL_378 (by decide) ?_
  exact kk I H locs hi hw hS hW
set_option maxRecDepth 100000 in
set_option maxHeartbeats 4000000 in
theorem law_3_remake {p : Program} {l : Launch} {e : Env} {s : State} {m : MethodId} {below : List Frame} {meth : Method} {c : Code} {bs L i : Nat} {xs : Nat → Int32} {D : va_G} {cy : Nat → ClassId} (hL : L ≤ 2560) (C0 : lw_At p s m meth c bs L xs) (hF : gFx s.heap.size D cy s) {I : gI} {H : Heap} {locs : List Loc} {ls : Array Slot} (hi : aInv bT I) (hw : WF I) (hiL : i + 5 ≤ L) (hS : va_S (gA s.heap.size) s.heap H locs) (hW : gWd s.heap.size D cy (SH0, RF0, I) H) (hl : lv_has ls 4 [(0, .ref bs), (1, .ref (s.heap.size + 0)), (2, .ref (s.heap.size + 67)), (3, .int (Int32.ofNat i))]) (kk : ∀ (I : gI) (H : Heap) (locs : List Loc), aInv bT I → WF I → va_S (gA s.heap.size) s.heap H locs → gWd s.heap.size D cy (SH0, RF0, I) H → W p l e room_1 s m #[Value.ref bs] below meth c H locs 88 3546 (lw_Z below #[Value.ref bs] s) (F0 m 1745 ls [])) : W p l e room_1 s m #[Value.ref bs] below meth c H locs 88 3546 (lw_Z below #[Value.ref bs] s) (F0 m 381 ls []) := by
  obtain ⟨hx, hb, hr, hml, hown, hts, hX, hbl, hlocks, hgv⟩ := id C0
  have hbA : ¬ gA s.heap.size bs := Nat.not_le.mpr hbl
  refine lv_aload_n hx hb dL_381 rfl (lv_at hl 1 rfl) ?_
  refine lv_aload_n hx hb dL_382 rfl (lv_at hl 0 rfl) ?_
  refine lv_iload_n hx hb dL_383 rfl (lv_at hl 3 rfl) ?_
  refine lv_iconst (v := 1) hx hb dL_384 (by decide) ?_
  refine lv_iadd hx hb dL_385 ?_
  refine va_sld hx hb hX hbl hbA hS (lw_in (k := 1) (by omega) hL) dL_386 ?_
  refine lv_aload_n hx hb dL_387 rfl (lv_at hl 0 rfl) ?_
  refine lv_iload_n hx hb dL_388 rfl (lv_at hl 3 rfl) ?_
  refine lv_iconst (v := 2) hx hb dL_389 (by decide) ?_
  refine lv_iadd hx hb dL_390 ?_
  refine va_sld hx hb hX hbl hbA hS (lw_in (k := 2) (by omega) hL) dL_391 ?_
  refine law_call (mc1 := 0) (ms1 := 0) (ci := 11) (x := 0) (mj := mX11_remake) (vs := [.int _, .int _]) (S := []) (d := 0 + 40) hx hb hml hown hts hF hS hW hl dL_392 rfl rfl cml_X11_remake wl_27 wl_28 wl_29 rfl (Nat.le_of_ble_eq_true rfl) (Nat.le_of_ble_eq_true rfl) (Nat.le_of_ble_eq_true rfl) (Nat.le_of_ble_eq_true rfl) (Nat.le_of_ble_eq_true rfl) (pb_X11_remake 0 [_, _] _ rfl hi hw) ?_
  rintro _ _ H locs ⟨⟨y, rfl, -⟩, I, rfl, hi, hw⟩ hW hS
  dsimp only [Option.map, Option.toList, List.cons_append, List.nil_append, gtr]
  refine lv_pop hx hb dL_395 rfl ?_
  refine lv_aload_n hx hb dL_396 rfl (lv_at hl 2 rfl) ?_
  refine lv_aload_n hx hb dL_397 rfl (lv_at hl 0 rfl) ?_
  refine lv_iload_n hx hb dL_398 rfl (lv_at hl 3 rfl) ?_
  refine lv_iconst (v := 1) hx hb dL_399 (by decide) ?_
  refine lv_iadd hx hb dL_400 ?_
  refine va_sld hx hb hX hbl hbA hS (lw_in (k := 1) (by omega) hL) dL_401 ?_
  refine lv_aload_n hx hb dL_402 rfl (lv_at hl 0 rfl) ?_
  refine lv_iload_n hx hb dL_403 rfl (lv_at hl 3 rfl) ?_
  refine lv_iconst (v := 2) hx hb dL_404 (by decide) ?_
  refine lv_iadd hx hb dL_405 ?_
  refine va_sld hx hb hX hbl hbA hS (lw_in (k := 2) (by omega) hL) dL_406 ?_
  refine law_call (mc1 := 0) (ms1 := 0) (ci := 12) (x := 67) (mj := mX12_remake) (vs := [.int _, .int _]) (S := []) (d := 0 + 40) hx hb hml hown hts hF hS hW hl dL_407 rfl rfl cml_X12_remake wl_31 wl_32 wl_33 rfl (Nat.le_of_ble_eq_true rfl) (Nat.le_of_ble_eq_true rfl) (Nat.le_of_ble_eq_true rfl) (Nat.le_of_ble_eq_true rfl) (Nat.le_of_ble_eq_true rfl) (pb_X12_remake 0 [_, _] _ rfl hi hw) ?_
  rintro _ _ H locs ⟨⟨y, rfl, -⟩, I, rfl, hi, hw⟩ hW hS
  dsimp only [Option.map, Option.toList, List.cons_append, List.nil_append, gtr]
  refine lv_pop hx hb dL_410 rfl ?_
  refine lv_goto (tgt := 1745) hx hb dL_411 (by decide) ?_
  exact kk I H locs hi hw hS hW
set_option maxRecDepth 100000 in
set_option maxHeartbeats 4000000 in
theorem law_4_sun {p : Program} {l : Launch} {e : Env} {s : State} {m : MethodId} {below : List Frame} {meth : Method} {c : Code} {bs L i : Nat} {xs : Nat → Int32} {D : va_G} {cy : Nat → ClassId} (hL : L ≤ 2560) (C0 : lw_At p s m meth c bs L xs) (hF : gFx s.heap.size D cy s) {I : gI} {H : Heap} {locs : List Loc} {ls : Array Slot} (hi : aInv bT I) (hw : WF I) (hiL : i + 5 ≤ L) (hS : va_S (gA s.heap.size) s.heap H locs) (hW : gWd s.heap.size D cy (SH0, RF0, I) H) (hl : lv_has ls 4 [(0, .ref bs), (1, .ref (s.heap.size + 0)), (2, .ref (s.heap.size + 67)), (3, .int (Int32.ofNat i))]) (kk : ∀ (I : gI) (H : Heap) (locs : List Loc), aInv bT I → WF I → va_S (gA s.heap.size) s.heap H locs → gWd s.heap.size D cy (SH0, RF0, I) H → W p l e room_1 s m #[Value.ref bs] below meth c H locs 88 3546 (lw_Z below #[Value.ref bs] s) (F0 m 1745 ls [])) : W p l e room_1 s m #[Value.ref bs] below meth c H locs 88 3546 (lw_Z below #[Value.ref bs] s) (F0 m 414 ls []) := by
  obtain ⟨hx, hb, hr, hml, hown, hts, hX, hbl, hlocks, hgv⟩ := id C0
  have hbA : ¬ gA s.heap.size bs := Nat.not_le.mpr hbl
  refine lv_aload_n hx hb dL_414 rfl (lv_at hl 1 rfl) ?_
  refine lv_aload_n hx hb dL_415 rfl (lv_at hl 0 rfl) ?_
  refine lv_iload_n hx hb dL_416 rfl (lv_at hl 3 rfl) ?_
  refine lv_iconst (v := 1) hx hb dL_417 (by decide) ?_
  refine lv_iadd hx hb dL_418 ?_
  refine va_sld hx hb hX hbl hbA hS (lw_in (k := 1) (by omega) hL) dL_419 ?_
  refine lv_aload_n hx hb dL_420 rfl (lv_at hl 0 rfl) ?_
  refine lv_iload_n hx hb dL_421 rfl (lv_at hl 3 rfl) ?_
  refine lv_iconst (v := 2) hx hb dL_422 (by decide) ?_
  refine lv_iadd hx hb dL_423 ?_
  refine va_sld hx hb hX hbl hbA hS (lw_in (k := 2) (by omega) hL) dL_424 ?_
  refine law_call (mc1 := 0) (ms1 := 0) (ci := 11) (x := 0) (mj := mX11_sun) (vs := [.int _, .int _]) (S := []) (d := 0 + 40) hx hb hml hown hts hF hS hW hl dL_425 rfl rfl cml_X11_sun wl_35 wl_36 wl_37 rfl (Nat.le_of_ble_eq_true rfl) (Nat.le_of_ble_eq_true rfl) (Nat.le_of_ble_eq_true rfl) (Nat.le_of_ble_eq_true rfl) (Nat.le_of_ble_eq_true rfl) (pb_X11_sun 0 [_, _] _ rfl hi hw) ?_
  rintro _ _ H locs ⟨⟨y, rfl, -⟩, I, rfl, hi, hw⟩ hW hS
  dsimp only [Option.map, Option.toList, List.cons_append, List.nil_append, gtr]
  refine lv_pop hx hb dL_428 rfl ?_
  refine lv_aload_n hx hb dL_429 rfl (lv_at hl 2 rfl) ?_
  refine lv_aload_n hx hb dL_430 rfl (lv_at hl 0 rfl) ?_
  refine lv_iload_n hx hb dL_431 rfl (lv_at hl 3 rfl) ?_
  refine lv_iconst (v := 1) hx hb dL_432 (by decide) ?_
  refine lv_iadd hx hb dL_433 ?_
  refine va_sld hx hb hX hbl hbA hS (lw_in (k := 1) (by omega) hL) dL_434 ?_
  refine lv_aload_n hx hb dL_435 rfl (lv_at hl 0 rfl) ?_
  refine lv_iload_n hx hb dL_436 rfl (lv_at hl 3 rfl) ?_
  refine lv_iconst (v := 2) hx hb dL_437 (by decide) ?_
  refine lv_iadd hx hb dL_438 ?_
  refine va_sld hx hb hX hbl hbA hS (lw_in (k := 2) (by omega) hL) dL_439 ?_
  refine law_call (mc1 := 0) (ms1 := 0) (ci := 12) (x := 67) (mj := mX12_sun) (vs := [.int _, .int _]) (S := []) (d := 0 + 40) hx hb hml hown hts hF hS hW hl dL_440 rfl rfl cml_X12_sun wl_39 wl_40 wl_41 rfl (Nat.le_of_ble_eq_true rfl) (Nat.le_of_ble_eq_true rfl) (Nat.le_of_ble_eq_true rfl) (Nat.le_of_ble_eq_true rfl) (Nat.le_of_ble_eq_true rfl) (pb_X12_sun 0 [_, _] _ rfl hi hw) ?_
  rintro _ _ H locs ⟨⟨y, rfl, -⟩, I, rfl, hi, hw⟩ hW hS
  dsimp only [Option.map, Option.toList, List.cons_append, List.nil_append, gtr]
  refine lv_pop hx hb dL_443 rfl ?_
  refine lv_goto (tgt := 1745) hx hb dL_444 (by decide) ?_
  exact kk I H locs hi hw hS hW
set_option maxRecDepth 100000 in
set_option maxHeartbeats 4000000 in
theorem law_5_gate {p : Program} {l : Launch} {e : Env} {s : State} {m : MethodId} {below : List Frame} {meth : Method} {c : Code} {bs L i : Nat} {xs : Nat → Int32} {D : va_G} {cy : Nat → ClassId} (hL : L ≤ 2560) (C0 : lw_At p s m meth c bs L xs) (hF : gFx s.heap.size D cy s) {I : gI} {H : Heap} {locs : List Loc} {ls : Array Slot} (hi : aInv bT I) (hw : WF I) (hiL : i + 5 ≤ L) (hS : va_S (gA s.heap.size) s.heap H locs) (hW : gWd s.heap.size D cy (SH0, RF0, I) H) (hl : lv_has ls 4 [(0, .ref bs), (1, .ref (s.heap.size + 0)), (2, .ref (s.heap.size + 67)), (3, .int (Int32.ofNat i))]) (kk : ∀ (I : gI) (H : Heap) (locs : List Loc), aInv bT I → WF I → va_S (gA s.heap.size) s.heap H locs → gWd s.heap.size D cy (SH0, RF0, I) H → W p l e room_1 s m #[Value.ref bs] below meth c H locs 88 3546 (lw_Z below #[Value.ref bs] s) (F0 m 1745 ls [])) : W p l e room_1 s m #[Value.ref bs] below meth c H locs 88 3546 (lw_Z below #[Value.ref bs] s) (F0 m 447 ls []) := by
  obtain ⟨hx, hb, hr, hml, hown, hts, hX, hbl, hlocks, hgv⟩ := id C0
  have hbA : ¬ gA s.heap.size bs := Nat.not_le.mpr hbl
  refine lv_aload_n hx hb dL_447 rfl (lv_at hl 1 rfl) ?_
  refine lv_aload_n hx hb dL_448 rfl (lv_at hl 0 rfl) ?_
  refine lv_iload_n hx hb dL_449 rfl (lv_at hl 3 rfl) ?_
  refine lv_iconst (v := 1) hx hb dL_450 (by decide) ?_
  refine lv_iadd hx hb dL_451 ?_
  refine va_sld hx hb hX hbl hbA hS (lw_in (k := 1) (by omega) hL) dL_452 ?_
  refine lv_aload_n hx hb dL_453 rfl (lv_at hl 0 rfl) ?_
  refine lv_iload_n hx hb dL_454 rfl (lv_at hl 3 rfl) ?_
  refine lv_iconst (v := 2) hx hb dL_455 (by decide) ?_
  refine lv_iadd hx hb dL_456 ?_
  refine va_sld hx hb hX hbl hbA hS (lw_in (k := 2) (by omega) hL) dL_457 ?_
  refine lv_aload_n hx hb dL_458 rfl (lv_at hl 0 rfl) ?_
  refine lv_iload_n hx hb dL_459 rfl (lv_at hl 3 rfl) ?_
  refine lv_iconst (v := 3) hx hb dL_460 (by decide) ?_
  refine lv_iadd hx hb dL_461 ?_
  refine va_sld hx hb hX hbl hbA hS (lw_in (k := 3) (by omega) hL) dL_462 ?_
  refine law_call (mc1 := 0) (ms1 := 0) (ci := 11) (x := 0) (mj := mX11_gate) (vs := [.int _, .int _, .int _]) (S := []) (d := 0 + 40) hx hb hml hown hts hF hS hW hl dL_463 rfl rfl cml_X11_gate wl_43 wl_44 wl_45 rfl (Nat.le_of_ble_eq_true rfl) (Nat.le_of_ble_eq_true rfl) (Nat.le_of_ble_eq_true rfl) (Nat.le_of_ble_eq_true rfl) (Nat.le_of_ble_eq_true rfl) (pb_X11_gate 0 [_, _, _] _ rfl hi hw) ?_
  rintro _ _ H locs ⟨⟨y, rfl, -⟩, I, rfl, hi, hw⟩ hW hS
  dsimp only [Option.map, Option.toList, List.cons_append, List.nil_append, gtr]
  refine lv_pop hx hb dL_466 rfl ?_
  refine lv_aload_n hx hb dL_467 rfl (lv_at hl 2 rfl) ?_
  refine lv_aload_n hx hb dL_468 rfl (lv_at hl 0 rfl) ?_
  refine lv_iload_n hx hb dL_469 rfl (lv_at hl 3 rfl) ?_
  refine lv_iconst (v := 1) hx hb dL_470 (by decide) ?_
  refine lv_iadd hx hb dL_471 ?_
  refine va_sld hx hb hX hbl hbA hS (lw_in (k := 1) (by omega) hL) dL_472 ?_
  refine lv_aload_n hx hb dL_473 rfl (lv_at hl 0 rfl) ?_
  refine lv_iload_n hx hb dL_474 rfl (lv_at hl 3 rfl) ?_
  refine lv_iconst (v := 2) hx hb dL_475 (by decide) ?_
  refine lv_iadd hx hb dL_476 ?_
  refine va_sld hx hb hX hbl hbA hS (lw_in (k := 2) (by omega) hL) dL_477 ?_
  refine lv_aload_n hx hb dL_478 rfl (lv_at hl 0 rfl) ?_
  refine lv_iload_n hx hb dL_479 rfl (lv_at hl 3 rfl) ?_
  refine lv_iconst (v := 3) hx hb dL_480 (by decide) ?_
  refine lv_iadd hx hb dL_481 ?_
  refine va_sld hx hb hX hbl hbA hS (lw_in (k := 3) (by omega) hL) dL_482 ?_
  refine law_call (mc1 := 0) (ms1 := 0) (ci := 12) (x := 67) (mj := mX12_gate) (vs := [.int _, .int _, .int _]) (S := []) (d := 0 + 40) hx hb hml hown hts hF hS hW hl dL_483 rfl rfl cml_X12_gate wl_47 wl_48 wl_49 rfl (Nat.le_of_ble_eq_true rfl) (Nat.le_of_ble_eq_true rfl) (Nat.le_of_ble_eq_true rfl) (Nat.le_of_ble_eq_true rfl) (Nat.le_of_ble_eq_true rfl) (pb_X12_gate 0 [_, _, _] _ rfl hi hw) ?_
  rintro _ _ H locs ⟨⟨y, rfl, -⟩, I, rfl, hi, hw⟩ hW hS
  dsimp only [Option.map, Option.toList, List.cons_append, List.nil_append, gtr]
  refine lv_pop hx hb dL_486 rfl ?_
  refine lv_goto (tgt := 1745) hx hb dL_487 (by decide) ?_
  exact kk I H locs hi hw hS hW
set_option maxRecDepth 100000 in
set_option maxHeartbeats 4000000 in
theorem law_6_gateOf {p : Program} {l : Launch} {e : Env} {s : State} {m : MethodId} {below : List Frame} {meth : Method} {c : Code} {bs L i : Nat} {xs : Nat → Int32} {D : va_G} {cy : Nat → ClassId} (hL : L ≤ 2560) (C0 : lw_At p s m meth c bs L xs) (hF : gFx s.heap.size D cy s) {I : gI} {H : Heap} {locs : List Loc} {ls : Array Slot} (hi : aInv bT I) (hw : WF I) (hiL : i + 5 ≤ L) (hS : va_S (gA s.heap.size) s.heap H locs) (hW : gWd s.heap.size D cy (SH0, RF0, I) H) (hl : lv_has ls 4 [(0, .ref bs), (1, .ref (s.heap.size + 0)), (2, .ref (s.heap.size + 67)), (3, .int (Int32.ofNat i))]) (kk : ∀ (I : gI) (H : Heap) (locs : List Loc), aInv bT I → WF I → va_S (gA s.heap.size) s.heap H locs → gWd s.heap.size D cy (SH0, RF0, I) H → W p l e room_1 s m #[Value.ref bs] below meth c H locs 88 3546 (lw_Z below #[Value.ref bs] s) (F0 m 1745 ls [])) : W p l e room_1 s m #[Value.ref bs] below meth c H locs 88 3546 (lw_Z below #[Value.ref bs] s) (F0 m 490 ls []) := by
  obtain ⟨hx, hb, hr, hml, hown, hts, hX, hbl, hlocks, hgv⟩ := id C0
  have hbA : ¬ gA s.heap.size bs := Nat.not_le.mpr hbl
  refine lv_aload_n hx hb dL_490 rfl (lv_at hl 1 rfl) ?_
  refine lv_aload_n hx hb dL_491 rfl (lv_at hl 0 rfl) ?_
  refine lv_iload_n hx hb dL_492 rfl (lv_at hl 3 rfl) ?_
  refine lv_iconst (v := 1) hx hb dL_493 (by decide) ?_
  refine lv_iadd hx hb dL_494 ?_
  refine va_sld hx hb hX hbl hbA hS (lw_in (k := 1) (by omega) hL) dL_495 ?_
  refine lv_aload_n hx hb dL_496 rfl (lv_at hl 0 rfl) ?_
  refine lv_iload_n hx hb dL_497 rfl (lv_at hl 3 rfl) ?_
  refine lv_iconst (v := 2) hx hb dL_498 (by decide) ?_
  refine lv_iadd hx hb dL_499 ?_
  refine va_sld hx hb hX hbl hbA hS (lw_in (k := 2) (by omega) hL) dL_500 ?_
  refine law_call (mc1 := 0) (ms1 := 0) (ci := 11) (x := 0) (mj := mX11_gateOf) (vs := [.int _, .int _]) (S := []) (d := 0 + 40) hx hb hml hown hts hF hS hW hl dL_501 rfl rfl cml_X11_gateOf wl_51 wl_52 wl_53 rfl (Nat.le_of_ble_eq_true rfl) (Nat.le_of_ble_eq_true rfl) (Nat.le_of_ble_eq_true rfl) (Nat.le_of_ble_eq_true rfl) (Nat.le_of_ble_eq_true rfl) (pb_X11_gateOf 0 [_, _] _ rfl hi hw) ?_
  rintro _ _ H locs ⟨⟨y, rfl, -⟩, I, rfl, hi, hw⟩ hW hS
  dsimp only [Option.map, Option.toList, List.cons_append, List.nil_append, gtr]
  refine lv_pop hx hb dL_504 rfl ?_
  refine lv_aload_n hx hb dL_505 rfl (lv_at hl 2 rfl) ?_
  refine lv_aload_n hx hb dL_506 rfl (lv_at hl 0 rfl) ?_
  refine lv_iload_n hx hb dL_507 rfl (lv_at hl 3 rfl) ?_
  refine lv_iconst (v := 1) hx hb dL_508 (by decide) ?_
  refine lv_iadd hx hb dL_509 ?_
  refine va_sld hx hb hX hbl hbA hS (lw_in (k := 1) (by omega) hL) dL_510 ?_
  refine lv_aload_n hx hb dL_511 rfl (lv_at hl 0 rfl) ?_
  refine lv_iload_n hx hb dL_512 rfl (lv_at hl 3 rfl) ?_
  refine lv_iconst (v := 2) hx hb dL_513 (by decide) ?_
  refine lv_iadd hx hb dL_514 ?_
  refine va_sld hx hb hX hbl hbA hS (lw_in (k := 2) (by omega) hL) dL_515 ?_
  refine law_call (mc1 := 0) (ms1 := 0) (ci := 12) (x := 67) (mj := mX12_gateOf) (vs := [.int _, .int _]) (S := []) (d := 0 + 40) hx hb hml hown hts hF hS hW hl dL_516 rfl rfl cml_X12_gateOf wl_55 wl_56 wl_57 rfl (Nat.le_of_ble_eq_true rfl) (Nat.le_of_ble_eq_true rfl) (Nat.le_of_ble_eq_true rfl) (Nat.le_of_ble_eq_true rfl) (Nat.le_of_ble_eq_true rfl) (pb_X12_gateOf 0 [_, _] _ rfl hi hw) ?_
  rintro _ _ H locs ⟨⟨y, rfl, -⟩, I, rfl, hi, hw⟩ hW hS
  dsimp only [Option.map, Option.toList, List.cons_append, List.nil_append, gtr]
  refine lv_pop hx hb dL_519 rfl ?_
  refine lv_goto (tgt := 1745) hx hb dL_520 (by decide) ?_
  exact kk I H locs hi hw hS hW
set_option maxRecDepth 100000 in
set_option maxHeartbeats 4000000 in
theorem law_7_ends {p : Program} {l : Launch} {e : Env} {s : State} {m : MethodId} {below : List Frame} {meth : Method} {c : Code} {bs L i : Nat} {xs : Nat → Int32} {D : va_G} {cy : Nat → ClassId} (hL : L ≤ 2560) (C0 : lw_At p s m meth c bs L xs) (hF : gFx s.heap.size D cy s) {I : gI} {H : Heap} {locs : List Loc} {ls : Array Slot} (hi : aInv bT I) (hw : WF I) (hiL : i + 5 ≤ L) (hS : va_S (gA s.heap.size) s.heap H locs) (hW : gWd s.heap.size D cy (SH0, RF0, I) H) (hl : lv_has ls 4 [(0, .ref bs), (1, .ref (s.heap.size + 0)), (2, .ref (s.heap.size + 67)), (3, .int (Int32.ofNat i))]) (kk : ∀ (I : gI) (H : Heap) (locs : List Loc), aInv bT I → WF I → va_S (gA s.heap.size) s.heap H locs → gWd s.heap.size D cy (SH0, RF0, I) H → W p l e room_1 s m #[Value.ref bs] below meth c H locs 88 3546 (lw_Z below #[Value.ref bs] s) (F0 m 1745 ls [])) : W p l e room_1 s m #[Value.ref bs] below meth c H locs 88 3546 (lw_Z below #[Value.ref bs] s) (F0 m 523 ls []) := by
  obtain ⟨hx, hb, hr, hml, hown, hts, hX, hbl, hlocks, hgv⟩ := id C0
  have hbA : ¬ gA s.heap.size bs := Nat.not_le.mpr hbl
  refine lv_aload_n hx hb dL_523 rfl (lv_at hl 1 rfl) ?_
  refine lv_aload_n hx hb dL_524 rfl (lv_at hl 0 rfl) ?_
  refine lv_iload_n hx hb dL_525 rfl (lv_at hl 3 rfl) ?_
  refine lv_iconst (v := 1) hx hb dL_526 (by decide) ?_
  refine lv_iadd hx hb dL_527 ?_
  refine va_sld hx hb hX hbl hbA hS (lw_in (k := 1) (by omega) hL) dL_528 ?_
  refine law_call (mc1 := 0) (ms1 := 0) (ci := 11) (x := 0) (mj := mX11_ends) (vs := [.int _]) (S := []) (d := 0 + 40) hx hb hml hown hts hF hS hW hl dL_529 rfl rfl cml_X11_ends wl_59 wl_60 wl_61 rfl (Nat.le_of_ble_eq_true rfl) (Nat.le_of_ble_eq_true rfl) (Nat.le_of_ble_eq_true rfl) (Nat.le_of_ble_eq_true rfl) (Nat.le_of_ble_eq_true rfl) (pr_ends 0 [_] _ rfl hi hw) ?_
  rintro _ _ H locs ⟨y, I, rfl, rfl, hG⟩ hW hS
  dsimp only [Option.map, Option.toList, List.cons_append, List.nil_append, gtr]
  refine lv_pop hx hb dL_532 rfl ?_
  refine lv_aload_n hx hb dL_533 rfl (lv_at hl 2 rfl) ?_
  refine lv_aload_n hx hb dL_534 rfl (lv_at hl 0 rfl) ?_
  refine lv_iload_n hx hb dL_535 rfl (lv_at hl 3 rfl) ?_
  refine lv_iconst (v := 1) hx hb dL_536 (by decide) ?_
  refine lv_iadd hx hb dL_537 ?_
  refine va_sld hx hb hX hbl hbA hS (lw_in (k := 1) (by omega) hL) dL_538 ?_
  refine law_call (mc1 := 0) (ms1 := 0) (ci := 12) (x := 67) (mj := mX12_ends) (vs := [.int _]) (S := []) (d := 0 + 40) hx hb hml hown hts hF hS hW hl dL_539 rfl rfl cml_X12_ends wl_63 wl_64 wl_65 rfl (Nat.le_of_ble_eq_true rfl) (Nat.le_of_ble_eq_true rfl) (Nat.le_of_ble_eq_true rfl) (Nat.le_of_ble_eq_true rfl) (Nat.le_of_ble_eq_true rfl) (hG) ?_
  rintro _ _ H locs ⟨y2, I, rfl, rfl, hy, hi, hw⟩ hW hS
  dsimp only [Option.map, Option.toList, List.cons_append, List.nil_append, gtr]
  refine lv_pop hx hb dL_542 rfl ?_
  refine lv_goto (tgt := 1745) hx hb dL_543 (by decide) ?_
  exact kk I H locs hi hw hS hW
set_option maxRecDepth 100000 in
set_option maxHeartbeats 4000000 in
theorem law_8_anew {p : Program} {l : Launch} {e : Env} {s : State} {m : MethodId} {below : List Frame} {meth : Method} {c : Code} {bs L i : Nat} {xs : Nat → Int32} {D : va_G} {cy : Nat → ClassId} (hL : L ≤ 2560) (C0 : lw_At p s m meth c bs L xs) (hF : gFx s.heap.size D cy s) {I : gI} {H : Heap} {locs : List Loc} {ls : Array Slot} (hi : aInv bT I) (hw : WF I) (hiL : i + 5 ≤ L) (hS : va_S (gA s.heap.size) s.heap H locs) (hW : gWd s.heap.size D cy (SH0, RF0, I) H) (hl : lv_has ls 4 [(0, .ref bs), (1, .ref (s.heap.size + 0)), (2, .ref (s.heap.size + 67)), (3, .int (Int32.ofNat i))]) (kk : ∀ (I : gI) (H : Heap) (locs : List Loc), aInv bT I → WF I → va_S (gA s.heap.size) s.heap H locs → gWd s.heap.size D cy (SH0, RF0, I) H → W p l e room_1 s m #[Value.ref bs] below meth c H locs 88 3546 (lw_Z below #[Value.ref bs] s) (F0 m 1745 ls [])) : W p l e room_1 s m #[Value.ref bs] below meth c H locs 88 3546 (lw_Z below #[Value.ref bs] s) (F0 m 546 ls []) := by
  obtain ⟨hx, hb, hr, hml, hown, hts, hX, hbl, hlocks, hgv⟩ := id C0
  have hbA : ¬ gA s.heap.size bs := Nat.not_le.mpr hbl
  refine lv_aload_n hx hb dL_546 rfl (lv_at hl 1 rfl) ?_
  refine law_call (mc1 := 0) (ms1 := 0) (ci := 11) (x := 0) (mj := mX11_anew) (vs := []) (S := []) (d := 0 + 40) hx hb hml hown hts hF hS hW hl dL_547 rfl rfl cml_X11_anew wl_67 wl_68 wl_69 rfl (Nat.le_of_ble_eq_true rfl) (Nat.le_of_ble_eq_true rfl) (Nat.le_of_ble_eq_true rfl) (Nat.le_of_ble_eq_true rfl) (Nat.le_of_ble_eq_true rfl) (pr_anew 0 [] _ rfl hi hw) ?_
  rintro _ _ H locs ⟨y, I, rfl, rfl, hG⟩ hW hS
  dsimp only [Option.map, Option.toList, List.cons_append, List.nil_append, gtr]
  refine lv_pop hx hb dL_550 rfl ?_
  refine lv_aload_n hx hb dL_551 rfl (lv_at hl 2 rfl) ?_
  refine law_call (mc1 := 0) (ms1 := 0) (ci := 12) (x := 67) (mj := mX12_anew) (vs := []) (S := []) (d := 0 + 40) hx hb hml hown hts hF hS hW hl dL_552 rfl rfl cml_X12_anew wl_71 wl_72 wl_73 rfl (Nat.le_of_ble_eq_true rfl) (Nat.le_of_ble_eq_true rfl) (Nat.le_of_ble_eq_true rfl) (Nat.le_of_ble_eq_true rfl) (Nat.le_of_ble_eq_true rfl) (hG) ?_
  rintro _ _ H locs ⟨y2, I, rfl, rfl, hy, hi, hw⟩ hW hS
  dsimp only [Option.map, Option.toList, List.cons_append, List.nil_append, gtr]
  refine lv_pop hx hb dL_555 rfl ?_
  refine lv_goto (tgt := 1745) hx hb dL_556 (by decide) ?_
  exact kk I H locs hi hw hS hW
set_option maxRecDepth 100000 in
set_option maxHeartbeats 4000000 in
theorem law_9_state {p : Program} {l : Launch} {e : Env} {s : State} {m : MethodId} {below : List Frame} {meth : Method} {c : Code} {bs L i : Nat} {xs : Nat → Int32} {D : va_G} {cy : Nat → ClassId} (hL : L ≤ 2560) (C0 : lw_At p s m meth c bs L xs) (hF : gFx s.heap.size D cy s) {I : gI} {H : Heap} {locs : List Loc} {ls : Array Slot} (hi : aInv bT I) (hw : WF I) (hiL : i + 5 ≤ L) (hS : va_S (gA s.heap.size) s.heap H locs) (hW : gWd s.heap.size D cy (SH0, RF0, I) H) (hl : lv_has ls 4 [(0, .ref bs), (1, .ref (s.heap.size + 0)), (2, .ref (s.heap.size + 67)), (3, .int (Int32.ofNat i))]) (kk : ∀ (I : gI) (H : Heap) (locs : List Loc), aInv bT I → WF I → va_S (gA s.heap.size) s.heap H locs → gWd s.heap.size D cy (SH0, RF0, I) H → W p l e room_1 s m #[Value.ref bs] below meth c H locs 88 3546 (lw_Z below #[Value.ref bs] s) (F0 m 1745 ls [])) : W p l e room_1 s m #[Value.ref bs] below meth c H locs 88 3546 (lw_Z below #[Value.ref bs] s) (F0 m 559 ls []) := by
  obtain ⟨hx, hb, hr, hml, hown, hts, hX, hbl, hlocks, hgv⟩ := id C0
  have hbA : ¬ gA s.heap.size bs := Nat.not_le.mpr hbl
  refine lv_aload_n hx hb dL_559 rfl (lv_at hl 1 rfl) ?_
  refine lv_aload_n hx hb dL_560 rfl (lv_at hl 0 rfl) ?_
  refine lv_iload_n hx hb dL_561 rfl (lv_at hl 3 rfl) ?_
  refine lv_iconst (v := 1) hx hb dL_562 (by decide) ?_
  refine lv_iadd hx hb dL_563 ?_
  refine va_sld hx hb hX hbl hbA hS (lw_in (k := 1) (by omega) hL) dL_564 ?_
  refine law_call (mc1 := 0) (ms1 := 0) (ci := 11) (x := 0) (mj := mX11_state) (vs := [.int _]) (S := []) (d := 0 + 40) hx hb hml hown hts hF hS hW hl dL_565 rfl rfl cml_X11_state wl_75 wl_76 wl_77 rfl (Nat.le_of_ble_eq_true rfl) (Nat.le_of_ble_eq_true rfl) (Nat.le_of_ble_eq_true rfl) (Nat.le_of_ble_eq_true rfl) (Nat.le_of_ble_eq_true rfl) (pb_X11_state 0 [_] _ rfl hi hw) ?_
  rintro _ _ H locs ⟨⟨y, rfl, -⟩, I, rfl, hi, hw⟩ hW hS
  dsimp only [Option.map, Option.toList, List.cons_append, List.nil_append, gtr]
  refine lv_pop hx hb dL_568 rfl ?_
  refine lv_aload_n hx hb dL_569 rfl (lv_at hl 2 rfl) ?_
  refine lv_aload_n hx hb dL_570 rfl (lv_at hl 0 rfl) ?_
  refine lv_iload_n hx hb dL_571 rfl (lv_at hl 3 rfl) ?_
  refine lv_iconst (v := 1) hx hb dL_572 (by decide) ?_
  refine lv_iadd hx hb dL_573 ?_
  refine va_sld hx hb hX hbl hbA hS (lw_in (k := 1) (by omega) hL) dL_574 ?_
  refine law_call (mc1 := 0) (ms1 := 0) (ci := 12) (x := 67) (mj := mX12_state) (vs := [.int _]) (S := []) (d := 0 + 40) hx hb hml hown hts hF hS hW hl dL_575 rfl rfl cml_X12_state wl_79 wl_80 wl_81 rfl (Nat.le_of_ble_eq_true rfl) (Nat.le_of_ble_eq_true rfl) (Nat.le_of_ble_eq_true rfl) (Nat.le_of_ble_eq_true rfl) (Nat.le_of_ble_eq_true rfl) (pb_X12_state 0 [_] _ rfl hi hw) ?_
  rintro _ _ H locs ⟨⟨y, rfl, -⟩, I, rfl, hi, hw⟩ hW hS
  dsimp only [Option.map, Option.toList, List.cons_append, List.nil_append, gtr]
  refine lv_pop hx hb dL_578 rfl ?_
  refine lv_goto (tgt := 1745) hx hb dL_579 (by decide) ?_
  exact kk I H locs hi hw hS hW
set_option maxRecDepth 100000 in
set_option maxHeartbeats 4000000 in
theorem law_10_feed {p : Program} {l : Launch} {e : Env} {s : State} {m : MethodId} {below : List Frame} {meth : Method} {c : Code} {bs L i : Nat} {xs : Nat → Int32} {D : va_G} {cy : Nat → ClassId} (hL : L ≤ 2560) (C0 : lw_At p s m meth c bs L xs) (hF : gFx s.heap.size D cy s) {I : gI} {H : Heap} {locs : List Loc} {ls : Array Slot} (hi : aInv bT I) (hw : WF I) (hiL : i + 5 ≤ L) (hS : va_S (gA s.heap.size) s.heap H locs) (hW : gWd s.heap.size D cy (SH0, RF0, I) H) (hl : lv_has ls 4 [(0, .ref bs), (1, .ref (s.heap.size + 0)), (2, .ref (s.heap.size + 67)), (3, .int (Int32.ofNat i))]) (kk : ∀ (I : gI) (H : Heap) (locs : List Loc), aInv bT I → WF I → va_S (gA s.heap.size) s.heap H locs → gWd s.heap.size D cy (SH0, RF0, I) H → W p l e room_1 s m #[Value.ref bs] below meth c H locs 88 3546 (lw_Z below #[Value.ref bs] s) (F0 m 1745 ls [])) : W p l e room_1 s m #[Value.ref bs] below meth c H locs 88 3546 (lw_Z below #[Value.ref bs] s) (F0 m 582 ls []) := by
  obtain ⟨hx, hb, hr, hml, hown, hts, hX, hbl, hlocks, hgv⟩ := id C0
  have hbA : ¬ gA s.heap.size bs := Nat.not_le.mpr hbl
  refine lv_aload_n hx hb dL_582 rfl (lv_at hl 1 rfl) ?_
  refine lv_aload_n hx hb dL_583 rfl (lv_at hl 0 rfl) ?_
  refine lv_iload_n hx hb dL_584 rfl (lv_at hl 3 rfl) ?_
  refine lv_iconst (v := 1) hx hb dL_585 (by decide) ?_
  refine lv_iadd hx hb dL_586 ?_
  refine va_sld hx hb hX hbl hbA hS (lw_in (k := 1) (by omega) hL) dL_587 ?_
  refine lv_i2l hx hb dL_588 rfl ?_
  refine lv_bipush (v := 32) hx hb dL_589 (by decide) ?_
  refine lv_lshl hx hb dL_591 rfl ?_
  refine lv_aload_n hx hb dL_592 rfl (lv_at hl 0 rfl) ?_
  refine lv_iload_n hx hb dL_593 rfl (lv_at hl 3 rfl) ?_
  refine lv_iconst (v := 2) hx hb dL_594 (by decide) ?_
  refine lv_iadd hx hb dL_595 ?_
  refine va_sld hx hb hX hbl hbA hS (lw_in (k := 2) (by omega) hL) dL_596 ?_
  refine lv_i2l hx hb dL_597 rfl ?_
  refine lv_ldc2 (v := 4294967295) hx hb hown (hts (.constantLong R_law 58 4294967295) (gs8 _ (List.mem_of_getElem? (l := tables_1_8) (i := 67) (by decide +kernel)))) dL_598 ?_
  refine lv_land hx hb dL_601 ?_
  refine lv_lor hx hb dL_602 ?_
  refine lv_aload_n hx hb dL_603 rfl (lv_at hl 0 rfl) ?_
  refine lv_iload_n hx hb dL_604 rfl (lv_at hl 3 rfl) ?_
  refine lv_iconst (v := 3) hx hb dL_605 (by decide) ?_
  refine lv_iadd hx hb dL_606 ?_
  refine va_sld hx hb hX hbl hbA hS (lw_in (k := 3) (by omega) hL) dL_607 ?_
  refine law_call (mc1 := 0) (ms1 := 0) (ci := 11) (x := 0) (mj := mX11_feed) (vs := [.long _, .int _]) (S := []) (d := 0 + 40) hx hb hml hown hts hF hS hW hl dL_608 rfl rfl cml_X11_feed wl_83 wl_84 wl_85 rfl (Nat.le_of_ble_eq_true rfl) (Nat.le_of_ble_eq_true rfl) (Nat.le_of_ble_eq_true rfl) (Nat.le_of_ble_eq_true rfl) (Nat.le_of_ble_eq_true rfl) (pb_fX 0 _ _ _ hi hw) ?_
  rintro _ _ H locs ⟨⟨y, rfl, -⟩, I, rfl, hi, hw⟩ hW hS
  dsimp only [Option.map, Option.toList, List.cons_append, List.nil_append, gtr]
  refine lv_pop hx hb dL_611 rfl ?_
  refine lv_aload_n hx hb dL_612 rfl (lv_at hl 2 rfl) ?_
  refine lv_aload_n hx hb dL_613 rfl (lv_at hl 0 rfl) ?_
  refine lv_iload_n hx hb dL_614 rfl (lv_at hl 3 rfl) ?_
  refine lv_iconst (v := 1) hx hb dL_615 (by decide) ?_
  refine lv_iadd hx hb dL_616 ?_
  refine va_sld hx hb hX hbl hbA hS (lw_in (k := 1) (by omega) hL) dL_617 ?_
  refine lv_i2l hx hb dL_618 rfl ?_
  refine lv_bipush (v := 32) hx hb dL_619 (by decide) ?_
  refine lv_lshl hx hb dL_621 rfl ?_
  refine lv_aload_n hx hb dL_622 rfl (lv_at hl 0 rfl) ?_
  refine lv_iload_n hx hb dL_623 rfl (lv_at hl 3 rfl) ?_
  refine lv_iconst (v := 2) hx hb dL_624 (by decide) ?_
  refine lv_iadd hx hb dL_625 ?_
  refine va_sld hx hb hX hbl hbA hS (lw_in (k := 2) (by omega) hL) dL_626 ?_
  refine lv_i2l hx hb dL_627 rfl ?_
  refine lv_ldc2 (v := 4294967295) hx hb hown (hts (.constantLong R_law 58 4294967295) (gs8 _ (List.mem_of_getElem? (l := tables_1_8) (i := 67) (by decide +kernel)))) dL_628 ?_
  refine lv_land hx hb dL_631 ?_
  refine lv_lor hx hb dL_632 ?_
  refine lv_aload_n hx hb dL_633 rfl (lv_at hl 0 rfl) ?_
  refine lv_iload_n hx hb dL_634 rfl (lv_at hl 3 rfl) ?_
  refine lv_iconst (v := 3) hx hb dL_635 (by decide) ?_
  refine lv_iadd hx hb dL_636 ?_
  refine va_sld hx hb hX hbl hbA hS (lw_in (k := 3) (by omega) hL) dL_637 ?_
  refine law_call (mc1 := 0) (ms1 := 0) (ci := 12) (x := 67) (mj := mX12_feed) (vs := [.long _, .int _]) (S := []) (d := 0 + 40) hx hb hml hown hts hF hS hW hl dL_638 rfl rfl cml_X12_feed wl_87 wl_88 wl_89 rfl (Nat.le_of_ble_eq_true rfl) (Nat.le_of_ble_eq_true rfl) (Nat.le_of_ble_eq_true rfl) (Nat.le_of_ble_eq_true rfl) (Nat.le_of_ble_eq_true rfl) (pb_fM 0 _ _ _ hi hw) ?_
  rintro _ _ H locs ⟨⟨y, rfl, -⟩, I, rfl, hi, hw⟩ hW hS
  dsimp only [Option.map, Option.toList, List.cons_append, List.nil_append, gtr]
  refine lv_pop hx hb dL_641 rfl ?_
  refine lv_goto (tgt := 1745) hx hb dL_642 (by decide) ?_
  exact kk I H locs hi hw hS hW
set_option maxRecDepth 100000 in
set_option maxHeartbeats 4000000 in
theorem law_11_rules {p : Program} {l : Launch} {e : Env} {s : State} {m : MethodId} {below : List Frame} {meth : Method} {c : Code} {bs L i : Nat} {xs : Nat → Int32} {D : va_G} {cy : Nat → ClassId} (hL : L ≤ 2560) (C0 : lw_At p s m meth c bs L xs) (hF : gFx s.heap.size D cy s) {I : gI} {H : Heap} {locs : List Loc} {ls : Array Slot} (hi : aInv bT I) (hw : WF I) (hiL : i + 5 ≤ L) (hS : va_S (gA s.heap.size) s.heap H locs) (hW : gWd s.heap.size D cy (SH0, RF0, I) H) (hl : lv_has ls 4 [(0, .ref bs), (1, .ref (s.heap.size + 0)), (2, .ref (s.heap.size + 67)), (3, .int (Int32.ofNat i))]) (kk : ∀ (I : gI) (H : Heap) (locs : List Loc), aInv bT I → WF I → va_S (gA s.heap.size) s.heap H locs → gWd s.heap.size D cy (SH0, RF0, I) H → W p l e room_1 s m #[Value.ref bs] below meth c H locs 88 3546 (lw_Z below #[Value.ref bs] s) (F0 m 1745 ls [])) : W p l e room_1 s m #[Value.ref bs] below meth c H locs 88 3546 (lw_Z below #[Value.ref bs] s) (F0 m 645 ls []) := by
  obtain ⟨hx, hb, hr, hml, hown, hts, hX, hbl, hlocks, hgv⟩ := id C0
  have hbA : ¬ gA s.heap.size bs := Nat.not_le.mpr hbl
  refine lv_aload_n hx hb dL_645 rfl (lv_at hl 1 rfl) ?_
  refine law_call (mc1 := 0) (ms1 := 0) (ci := 11) (x := 0) (mj := mX11_rules) (vs := []) (S := []) (d := 0 + 40) hx hb hml hown hts hF hS hW hl dL_646 rfl rfl cml_X11_rules wl_91 wl_92 wl_93 rfl (Nat.le_of_ble_eq_true rfl) (Nat.le_of_ble_eq_true rfl) (Nat.le_of_ble_eq_true rfl) (Nat.le_of_ble_eq_true rfl) (Nat.le_of_ble_eq_true rfl) (pb_X11_rules 0 [] _ rfl hi hw) ?_
  rintro _ _ H locs ⟨⟨y, rfl, -⟩, I, rfl, hi, hw⟩ hW hS
  dsimp only [Option.map, Option.toList, List.cons_append, List.nil_append, gtr]
  refine lv_pop hx hb dL_649 rfl ?_
  refine lv_aload_n hx hb dL_650 rfl (lv_at hl 2 rfl) ?_
  refine law_call (mc1 := 0) (ms1 := 0) (ci := 12) (x := 67) (mj := mX12_rules) (vs := []) (S := []) (d := 0 + 40) hx hb hml hown hts hF hS hW hl dL_651 rfl rfl cml_X12_rules wl_95 wl_96 wl_97 rfl (Nat.le_of_ble_eq_true rfl) (Nat.le_of_ble_eq_true rfl) (Nat.le_of_ble_eq_true rfl) (Nat.le_of_ble_eq_true rfl) (Nat.le_of_ble_eq_true rfl) (pb_X12_rules 0 [] _ rfl hi hw) ?_
  rintro _ _ H locs ⟨⟨y, rfl, -⟩, I, rfl, hi, hw⟩ hW hS
  dsimp only [Option.map, Option.toList, List.cons_append, List.nil_append, gtr]
  refine lv_pop hx hb dL_654 rfl ?_
  refine lv_goto (tgt := 1745) hx hb dL_655 (by decide) ?_
  exact kk I H locs hi hw hS hW
set_option maxRecDepth 100000 in
set_option maxHeartbeats 4000000 in
theorem law_12_halt {p : Program} {l : Launch} {e : Env} {s : State} {m : MethodId} {below : List Frame} {meth : Method} {c : Code} {bs L i : Nat} {xs : Nat → Int32} {D : va_G} {cy : Nat → ClassId} (hL : L ≤ 2560) (C0 : lw_At p s m meth c bs L xs) (hF : gFx s.heap.size D cy s) {I : gI} {H : Heap} {locs : List Loc} {ls : Array Slot} (hi : aInv bT I) (hw : WF I) (hiL : i + 5 ≤ L) (hS : va_S (gA s.heap.size) s.heap H locs) (hW : gWd s.heap.size D cy (SH0, RF0, I) H) (hl : lv_has ls 4 [(0, .ref bs), (1, .ref (s.heap.size + 0)), (2, .ref (s.heap.size + 67)), (3, .int (Int32.ofNat i))]) (kk : ∀ (I : gI) (H : Heap) (locs : List Loc), aInv bT I → WF I → va_S (gA s.heap.size) s.heap H locs → gWd s.heap.size D cy (SH0, RF0, I) H → W p l e room_1 s m #[Value.ref bs] below meth c H locs 88 3546 (lw_Z below #[Value.ref bs] s) (F0 m 1745 ls [])) : W p l e room_1 s m #[Value.ref bs] below meth c H locs 88 3546 (lw_Z below #[Value.ref bs] s) (F0 m 658 ls []) := by
  obtain ⟨hx, hb, hr, hml, hown, hts, hX, hbl, hlocks, hgv⟩ := id C0
  have hbA : ¬ gA s.heap.size bs := Nat.not_le.mpr hbl
  refine lv_aload_n hx hb dL_658 rfl (lv_at hl 1 rfl) ?_
  refine law_call (mc1 := 0) (ms1 := 0) (ci := 11) (x := 0) (mj := mX11_halt) (vs := []) (S := []) (d := 0 + 40) hx hb hml hown hts hF hS hW hl dL_659 rfl rfl cml_X11_halt wl_99 wl_100 wl_101 rfl (Nat.le_of_ble_eq_true rfl) (Nat.le_of_ble_eq_true rfl) (Nat.le_of_ble_eq_true rfl) (Nat.le_of_ble_eq_true rfl) (Nat.le_of_ble_eq_true rfl) (pr_halt 0 [] _ rfl hi hw) ?_
  rintro _ _ H locs ⟨y, I, rfl, rfl, hG⟩ hW hS
  dsimp only [Option.map, Option.toList, List.cons_append, List.nil_append, gtr]
  refine lv_pop hx hb dL_662 rfl ?_
  refine lv_aload_n hx hb dL_663 rfl (lv_at hl 2 rfl) ?_
  refine law_call (mc1 := 0) (ms1 := 0) (ci := 12) (x := 67) (mj := mX12_halt) (vs := []) (S := []) (d := 0 + 40) hx hb hml hown hts hF hS hW hl dL_664 rfl rfl cml_X12_halt wl_103 wl_104 wl_105 rfl (Nat.le_of_ble_eq_true rfl) (Nat.le_of_ble_eq_true rfl) (Nat.le_of_ble_eq_true rfl) (Nat.le_of_ble_eq_true rfl) (Nat.le_of_ble_eq_true rfl) (hG) ?_
  rintro _ _ H locs ⟨y2, I, rfl, rfl, hy, hi, hw⟩ hW hS
  dsimp only [Option.map, Option.toList, List.cons_append, List.nil_append, gtr]
  refine lv_pop hx hb dL_667 rfl ?_
  refine lv_goto (tgt := 1745) hx hb dL_668 (by decide) ?_
  exact kk I H locs hi hw hS hW
set_option maxRecDepth 100000 in
set_option maxHeartbeats 4000000 in
theorem law_13_on {p : Program} {l : Launch} {e : Env} {s : State} {m : MethodId} {below : List Frame} {meth : Method} {c : Code} {bs L i : Nat} {xs : Nat → Int32} {D : va_G} {cy : Nat → ClassId} (hL : L ≤ 2560) (C0 : lw_At p s m meth c bs L xs) (hF : gFx s.heap.size D cy s) {I : gI} {H : Heap} {locs : List Loc} {ls : Array Slot} (hi : aInv bT I) (hw : WF I) (hiL : i + 5 ≤ L) (hS : va_S (gA s.heap.size) s.heap H locs) (hW : gWd s.heap.size D cy (SH0, RF0, I) H) (hl : lv_has ls 4 [(0, .ref bs), (1, .ref (s.heap.size + 0)), (2, .ref (s.heap.size + 67)), (3, .int (Int32.ofNat i))]) (kk : ∀ (I : gI) (H : Heap) (locs : List Loc), aInv bT I → WF I → va_S (gA s.heap.size) s.heap H locs → gWd s.heap.size D cy (SH0, RF0, I) H → W p l e room_1 s m #[Value.ref bs] below meth c H locs 88 3546 (lw_Z below #[Value.ref bs] s) (F0 m 1745 ls [])) : W p l e room_1 s m #[Value.ref bs] below meth c H locs 88 3546 (lw_Z below #[Value.ref bs] s) (F0 m 671 ls []) := by
  obtain ⟨hx, hb, hr, hml, hown, hts, hX, hbl, hlocks, hgv⟩ := id C0
  have hbA : ¬ gA s.heap.size bs := Nat.not_le.mpr hbl
  refine lv_aload_n hx hb dL_671 rfl (lv_at hl 1 rfl) ?_
  refine lv_aload_n hx hb dL_672 rfl (lv_at hl 0 rfl) ?_
  refine lv_iload_n hx hb dL_673 rfl (lv_at hl 3 rfl) ?_
  refine lv_iconst (v := 1) hx hb dL_674 (by decide) ?_
  refine lv_iadd hx hb dL_675 ?_
  refine va_sld hx hb hX hbl hbA hS (lw_in (k := 1) (by omega) hL) dL_676 ?_
  refine law_call (mc1 := 0) (ms1 := 0) (ci := 11) (x := 0) (mj := mX11_on) (vs := [.int _]) (S := []) (d := 0 + 40) hx hb hml hown hts hF hS hW hl dL_677 rfl rfl cml_X11_on wl_107 wl_108 wl_109 rfl (Nat.le_of_ble_eq_true rfl) (Nat.le_of_ble_eq_true rfl) (Nat.le_of_ble_eq_true rfl) (Nat.le_of_ble_eq_true rfl) (Nat.le_of_ble_eq_true rfl) (pb_X11_on 0 [_] _ rfl hi hw) ?_
  rintro _ _ H locs ⟨⟨y, rfl, -⟩, I, rfl, hi, hw⟩ hW hS
  dsimp only [Option.map, Option.toList, List.cons_append, List.nil_append, gtr]
  refine lv_pop hx hb dL_680 rfl ?_
  refine lv_aload_n hx hb dL_681 rfl (lv_at hl 2 rfl) ?_
  refine lv_aload_n hx hb dL_682 rfl (lv_at hl 0 rfl) ?_
  refine lv_iload_n hx hb dL_683 rfl (lv_at hl 3 rfl) ?_
  refine lv_iconst (v := 1) hx hb dL_684 (by decide) ?_
  refine lv_iadd hx hb dL_685 ?_
  refine va_sld hx hb hX hbl hbA hS (lw_in (k := 1) (by omega) hL) dL_686 ?_
  refine law_call (mc1 := 0) (ms1 := 0) (ci := 12) (x := 67) (mj := mX12_on) (vs := [.int _]) (S := []) (d := 0 + 40) hx hb hml hown hts hF hS hW hl dL_687 rfl rfl cml_X12_on wl_111 wl_112 wl_113 rfl (Nat.le_of_ble_eq_true rfl) (Nat.le_of_ble_eq_true rfl) (Nat.le_of_ble_eq_true rfl) (Nat.le_of_ble_eq_true rfl) (Nat.le_of_ble_eq_true rfl) (pb_X12_on 0 [_] _ rfl hi hw) ?_
  rintro _ _ H locs ⟨⟨y, rfl, -⟩, I, rfl, hi, hw⟩ hW hS
  dsimp only [Option.map, Option.toList, List.cons_append, List.nil_append, gtr]
  refine lv_pop hx hb dL_690 rfl ?_
  refine lv_goto (tgt := 1745) hx hb dL_691 (by decide) ?_
  exact kk I H locs hi hw hS hW
set_option maxRecDepth 100000 in
set_option maxHeartbeats 4000000 in
theorem law_14_when {p : Program} {l : Launch} {e : Env} {s : State} {m : MethodId} {below : List Frame} {meth : Method} {c : Code} {bs L i : Nat} {xs : Nat → Int32} {D : va_G} {cy : Nat → ClassId} (hL : L ≤ 2560) (C0 : lw_At p s m meth c bs L xs) (hF : gFx s.heap.size D cy s) {I : gI} {H : Heap} {locs : List Loc} {ls : Array Slot} (hi : aInv bT I) (hw : WF I) (hiL : i + 5 ≤ L) (hS : va_S (gA s.heap.size) s.heap H locs) (hW : gWd s.heap.size D cy (SH0, RF0, I) H) (hl : lv_has ls 4 [(0, .ref bs), (1, .ref (s.heap.size + 0)), (2, .ref (s.heap.size + 67)), (3, .int (Int32.ofNat i))]) (kk : ∀ (I : gI) (H : Heap) (locs : List Loc), aInv bT I → WF I → va_S (gA s.heap.size) s.heap H locs → gWd s.heap.size D cy (SH0, RF0, I) H → W p l e room_1 s m #[Value.ref bs] below meth c H locs 88 3546 (lw_Z below #[Value.ref bs] s) (F0 m 1745 ls [])) : W p l e room_1 s m #[Value.ref bs] below meth c H locs 88 3546 (lw_Z below #[Value.ref bs] s) (F0 m 694 ls []) := by
  obtain ⟨hx, hb, hr, hml, hown, hts, hX, hbl, hlocks, hgv⟩ := id C0
  have hbA : ¬ gA s.heap.size bs := Nat.not_le.mpr hbl
  refine lv_aload_n hx hb dL_694 rfl (lv_at hl 1 rfl) ?_
  refine lv_aload_n hx hb dL_695 rfl (lv_at hl 0 rfl) ?_
  refine lv_iload_n hx hb dL_696 rfl (lv_at hl 3 rfl) ?_
  refine lv_iconst (v := 1) hx hb dL_697 (by decide) ?_
  refine lv_iadd hx hb dL_698 ?_
  refine va_sld hx hb hX hbl hbA hS (lw_in (k := 1) (by omega) hL) dL_699 ?_
  refine law_call (mc1 := 0) (ms1 := 0) (ci := 11) (x := 0) (mj := mX11_when) (vs := [.int _]) (S := []) (d := 0 + 40) hx hb hml hown hts hF hS hW hl dL_700 rfl rfl cml_X11_when wl_115 wl_116 wl_117 rfl (Nat.le_of_ble_eq_true rfl) (Nat.le_of_ble_eq_true rfl) (Nat.le_of_ble_eq_true rfl) (Nat.le_of_ble_eq_true rfl) (Nat.le_of_ble_eq_true rfl) (pb_X11_when 0 [_] _ rfl hi hw) ?_
  rintro _ _ H locs ⟨⟨y, rfl, -⟩, I, rfl, hi, hw⟩ hW hS
  dsimp only [Option.map, Option.toList, List.cons_append, List.nil_append, gtr]
  refine lv_pop hx hb dL_703 rfl ?_
  refine lv_aload_n hx hb dL_704 rfl (lv_at hl 2 rfl) ?_
  refine lv_aload_n hx hb dL_705 rfl (lv_at hl 0 rfl) ?_
  refine lv_iload_n hx hb dL_706 rfl (lv_at hl 3 rfl) ?_
  refine lv_iconst (v := 1) hx hb dL_707 (by decide) ?_
  refine lv_iadd hx hb dL_708 ?_
  refine va_sld hx hb hX hbl hbA hS (lw_in (k := 1) (by omega) hL) dL_709 ?_
  refine law_call (mc1 := 0) (ms1 := 0) (ci := 12) (x := 67) (mj := mX12_when) (vs := [.int _]) (S := []) (d := 0 + 40) hx hb hml hown hts hF hS hW hl dL_710 rfl rfl cml_X12_when wl_119 wl_120 wl_121 rfl (Nat.le_of_ble_eq_true rfl) (Nat.le_of_ble_eq_true rfl) (Nat.le_of_ble_eq_true rfl) (Nat.le_of_ble_eq_true rfl) (Nat.le_of_ble_eq_true rfl) (pb_X12_when 0 [_] _ rfl hi hw) ?_
  rintro _ _ H locs ⟨⟨y, rfl, -⟩, I, rfl, hi, hw⟩ hW hS
  dsimp only [Option.map, Option.toList, List.cons_append, List.nil_append, gtr]
  refine lv_pop hx hb dL_713 rfl ?_
  refine lv_goto (tgt := 1745) hx hb dL_714 (by decide) ?_
  exact kk I H locs hi hw hS hW
set_option maxRecDepth 100000 in
set_option maxHeartbeats 4000000 in
theorem law_15_strawFor {p : Program} {l : Launch} {e : Env} {s : State} {m : MethodId} {below : List Frame} {meth : Method} {c : Code} {bs L i : Nat} {xs : Nat → Int32} {D : va_G} {cy : Nat → ClassId} (hL : L ≤ 2560) (C0 : lw_At p s m meth c bs L xs) (hF : gFx s.heap.size D cy s) {I : gI} {H : Heap} {locs : List Loc} {ls : Array Slot} (hi : aInv bT I) (hw : WF I) (hiL : i + 5 ≤ L) (hS : va_S (gA s.heap.size) s.heap H locs) (hW : gWd s.heap.size D cy (SH0, RF0, I) H) (hl : lv_has ls 4 [(0, .ref bs), (1, .ref (s.heap.size + 0)), (2, .ref (s.heap.size + 67)), (3, .int (Int32.ofNat i))]) (kk : ∀ (I : gI) (H : Heap) (locs : List Loc), aInv bT I → WF I → va_S (gA s.heap.size) s.heap H locs → gWd s.heap.size D cy (SH0, RF0, I) H → W p l e room_1 s m #[Value.ref bs] below meth c H locs 88 3546 (lw_Z below #[Value.ref bs] s) (F0 m 1745 ls [])) : W p l e room_1 s m #[Value.ref bs] below meth c H locs 88 3546 (lw_Z below #[Value.ref bs] s) (F0 m 717 ls []) := by
  obtain ⟨hx, hb, hr, hml, hown, hts, hX, hbl, hlocks, hgv⟩ := id C0
  have hbA : ¬ gA s.heap.size bs := Nat.not_le.mpr hbl
  refine lv_aload_n hx hb dL_717 rfl (lv_at hl 1 rfl) ?_
  refine lv_aload_n hx hb dL_718 rfl (lv_at hl 0 rfl) ?_
  refine lv_iload_n hx hb dL_719 rfl (lv_at hl 3 rfl) ?_
  refine lv_iconst (v := 1) hx hb dL_720 (by decide) ?_
  refine lv_iadd hx hb dL_721 ?_
  refine va_sld hx hb hX hbl hbA hS (lw_in (k := 1) (by omega) hL) dL_722 ?_
  refine law_call (mc1 := 0) (ms1 := 0) (ci := 11) (x := 0) (mj := mX11_strawFor) (vs := [.int _]) (S := []) (d := 0 + 40) hx hb hml hown hts hF hS hW hl dL_723 rfl rfl cml_X11_strawFor wl_123 wl_124 wl_125 rfl (Nat.le_of_ble_eq_true rfl) (Nat.le_of_ble_eq_true rfl) (Nat.le_of_ble_eq_true rfl) (Nat.le_of_ble_eq_true rfl) (Nat.le_of_ble_eq_true rfl) (pb_X11_strawFor 0 [_] _ rfl hi hw) ?_
  rintro _ _ H locs ⟨⟨y, rfl, -⟩, I, rfl, hi, hw⟩ hW hS
  dsimp only [Option.map, Option.toList, List.cons_append, List.nil_append, gtr]
  refine lv_pop hx hb dL_726 rfl ?_
  refine lv_aload_n hx hb dL_727 rfl (lv_at hl 2 rfl) ?_
  refine lv_aload_n hx hb dL_728 rfl (lv_at hl 0 rfl) ?_
  refine lv_iload_n hx hb dL_729 rfl (lv_at hl 3 rfl) ?_
  refine lv_iconst (v := 1) hx hb dL_730 (by decide) ?_
  refine lv_iadd hx hb dL_731 ?_
  refine va_sld hx hb hX hbl hbA hS (lw_in (k := 1) (by omega) hL) dL_732 ?_
  refine law_call (mc1 := 0) (ms1 := 0) (ci := 12) (x := 67) (mj := mX12_strawFor) (vs := [.int _]) (S := []) (d := 0 + 40) hx hb hml hown hts hF hS hW hl dL_733 rfl rfl cml_X12_strawFor wl_127 wl_128 wl_129 rfl (Nat.le_of_ble_eq_true rfl) (Nat.le_of_ble_eq_true rfl) (Nat.le_of_ble_eq_true rfl) (Nat.le_of_ble_eq_true rfl) (Nat.le_of_ble_eq_true rfl) (pb_X12_strawFor 0 [_] _ rfl hi hw) ?_
  rintro _ _ H locs ⟨⟨y, rfl, -⟩, I, rfl, hi, hw⟩ hW hS
  dsimp only [Option.map, Option.toList, List.cons_append, List.nil_append, gtr]
  refine lv_pop hx hb dL_736 rfl ?_
  refine lv_goto (tgt := 1745) hx hb dL_737 (by decide) ?_
  exact kk I H locs hi hw hS hW
set_option maxRecDepth 100000 in
set_option maxHeartbeats 4000000 in
theorem law_16_gateFor {p : Program} {l : Launch} {e : Env} {s : State} {m : MethodId} {below : List Frame} {meth : Method} {c : Code} {bs L i : Nat} {xs : Nat → Int32} {D : va_G} {cy : Nat → ClassId} (hL : L ≤ 2560) (C0 : lw_At p s m meth c bs L xs) (hF : gFx s.heap.size D cy s) {I : gI} {H : Heap} {locs : List Loc} {ls : Array Slot} (hi : aInv bT I) (hw : WF I) (hiL : i + 5 ≤ L) (hS : va_S (gA s.heap.size) s.heap H locs) (hW : gWd s.heap.size D cy (SH0, RF0, I) H) (hl : lv_has ls 4 [(0, .ref bs), (1, .ref (s.heap.size + 0)), (2, .ref (s.heap.size + 67)), (3, .int (Int32.ofNat i))]) (kk : ∀ (I : gI) (H : Heap) (locs : List Loc), aInv bT I → WF I → va_S (gA s.heap.size) s.heap H locs → gWd s.heap.size D cy (SH0, RF0, I) H → W p l e room_1 s m #[Value.ref bs] below meth c H locs 88 3546 (lw_Z below #[Value.ref bs] s) (F0 m 1745 ls [])) : W p l e room_1 s m #[Value.ref bs] below meth c H locs 88 3546 (lw_Z below #[Value.ref bs] s) (F0 m 740 ls []) := by
  obtain ⟨hx, hb, hr, hml, hown, hts, hX, hbl, hlocks, hgv⟩ := id C0
  have hbA : ¬ gA s.heap.size bs := Nat.not_le.mpr hbl
  refine lv_aload_n hx hb dL_740 rfl (lv_at hl 1 rfl) ?_
  refine lv_aload_n hx hb dL_741 rfl (lv_at hl 0 rfl) ?_
  refine lv_iload_n hx hb dL_742 rfl (lv_at hl 3 rfl) ?_
  refine lv_iconst (v := 1) hx hb dL_743 (by decide) ?_
  refine lv_iadd hx hb dL_744 ?_
  refine va_sld hx hb hX hbl hbA hS (lw_in (k := 1) (by omega) hL) dL_745 ?_
  refine law_call (mc1 := 0) (ms1 := 0) (ci := 11) (x := 0) (mj := mX11_gateFor) (vs := [.int _]) (S := []) (d := 0 + 40) hx hb hml hown hts hF hS hW hl dL_746 rfl rfl cml_X11_gateFor wl_131 wl_132 wl_133 rfl (Nat.le_of_ble_eq_true rfl) (Nat.le_of_ble_eq_true rfl) (Nat.le_of_ble_eq_true rfl) (Nat.le_of_ble_eq_true rfl) (Nat.le_of_ble_eq_true rfl) (pb_X11_gateFor 0 [_] _ rfl hi hw) ?_
  rintro _ _ H locs ⟨⟨y, rfl, -⟩, I, rfl, hi, hw⟩ hW hS
  dsimp only [Option.map, Option.toList, List.cons_append, List.nil_append, gtr]
  refine lv_pop hx hb dL_749 rfl ?_
  refine lv_aload_n hx hb dL_750 rfl (lv_at hl 2 rfl) ?_
  refine lv_aload_n hx hb dL_751 rfl (lv_at hl 0 rfl) ?_
  refine lv_iload_n hx hb dL_752 rfl (lv_at hl 3 rfl) ?_
  refine lv_iconst (v := 1) hx hb dL_753 (by decide) ?_
  refine lv_iadd hx hb dL_754 ?_
  refine va_sld hx hb hX hbl hbA hS (lw_in (k := 1) (by omega) hL) dL_755 ?_
  refine law_call (mc1 := 0) (ms1 := 0) (ci := 12) (x := 67) (mj := mX12_gateFor) (vs := [.int _]) (S := []) (d := 0 + 40) hx hb hml hown hts hF hS hW hl dL_756 rfl rfl cml_X12_gateFor wl_135 wl_136 wl_137 rfl (Nat.le_of_ble_eq_true rfl) (Nat.le_of_ble_eq_true rfl) (Nat.le_of_ble_eq_true rfl) (Nat.le_of_ble_eq_true rfl) (Nat.le_of_ble_eq_true rfl) (pb_X12_gateFor 0 [_] _ rfl hi hw) ?_
  rintro _ _ H locs ⟨⟨y, rfl, -⟩, I, rfl, hi, hw⟩ hW hS
  dsimp only [Option.map, Option.toList, List.cons_append, List.nil_append, gtr]
  refine lv_pop hx hb dL_759 rfl ?_
  refine lv_goto (tgt := 1745) hx hb dL_760 (by decide) ?_
  exact kk I H locs hi hw hS hW
set_option maxRecDepth 100000 in
set_option maxHeartbeats 4000000 in
theorem law_17_gone {p : Program} {l : Launch} {e : Env} {s : State} {m : MethodId} {below : List Frame} {meth : Method} {c : Code} {bs L i : Nat} {xs : Nat → Int32} {D : va_G} {cy : Nat → ClassId} (hL : L ≤ 2560) (C0 : lw_At p s m meth c bs L xs) (hF : gFx s.heap.size D cy s) {I : gI} {H : Heap} {locs : List Loc} {ls : Array Slot} (hi : aInv bT I) (hw : WF I) (hiL : i + 5 ≤ L) (hS : va_S (gA s.heap.size) s.heap H locs) (hW : gWd s.heap.size D cy (SH0, RF0, I) H) (hl : lv_has ls 4 [(0, .ref bs), (1, .ref (s.heap.size + 0)), (2, .ref (s.heap.size + 67)), (3, .int (Int32.ofNat i))]) (kk : ∀ (I : gI) (H : Heap) (locs : List Loc), aInv bT I → WF I → va_S (gA s.heap.size) s.heap H locs → gWd s.heap.size D cy (SH0, RF0, I) H → W p l e room_1 s m #[Value.ref bs] below meth c H locs 88 3546 (lw_Z below #[Value.ref bs] s) (F0 m 1745 ls [])) : W p l e room_1 s m #[Value.ref bs] below meth c H locs 88 3546 (lw_Z below #[Value.ref bs] s) (F0 m 763 ls []) := by
  obtain ⟨hx, hb, hr, hml, hown, hts, hX, hbl, hlocks, hgv⟩ := id C0
  have hbA : ¬ gA s.heap.size bs := Nat.not_le.mpr hbl
  refine lv_aload_n hx hb dL_763 rfl (lv_at hl 1 rfl) ?_
  refine lv_aload_n hx hb dL_764 rfl (lv_at hl 0 rfl) ?_
  refine lv_iload_n hx hb dL_765 rfl (lv_at hl 3 rfl) ?_
  refine lv_iconst (v := 1) hx hb dL_766 (by decide) ?_
  refine lv_iadd hx hb dL_767 ?_
  refine va_sld hx hb hX hbl hbA hS (lw_in (k := 1) (by omega) hL) dL_768 ?_
  refine law_call (mc1 := 0) (ms1 := 0) (ci := 11) (x := 0) (mj := mX11_gone) (vs := [.int _]) (S := []) (d := 0 + 40) hx hb hml hown hts hF hS hW hl dL_769 rfl rfl cml_X11_gone wl_139 wl_140 wl_141 rfl (Nat.le_of_ble_eq_true rfl) (Nat.le_of_ble_eq_true rfl) (Nat.le_of_ble_eq_true rfl) (Nat.le_of_ble_eq_true rfl) (Nat.le_of_ble_eq_true rfl) (pb_X11_gone 0 [_] _ rfl hi hw) ?_
  rintro _ _ H locs ⟨⟨y, rfl, -⟩, I, rfl, hi, hw⟩ hW hS
  dsimp only [Option.map, Option.toList, List.cons_append, List.nil_append, gtr]
  refine lv_pop hx hb dL_772 rfl ?_
  refine lv_aload_n hx hb dL_773 rfl (lv_at hl 2 rfl) ?_
  refine lv_aload_n hx hb dL_774 rfl (lv_at hl 0 rfl) ?_
  refine lv_iload_n hx hb dL_775 rfl (lv_at hl 3 rfl) ?_
  refine lv_iconst (v := 1) hx hb dL_776 (by decide) ?_
  refine lv_iadd hx hb dL_777 ?_
  refine va_sld hx hb hX hbl hbA hS (lw_in (k := 1) (by omega) hL) dL_778 ?_
  refine law_call (mc1 := 0) (ms1 := 0) (ci := 12) (x := 67) (mj := mX12_gone) (vs := [.int _]) (S := []) (d := 0 + 40) hx hb hml hown hts hF hS hW hl dL_779 rfl rfl cml_X12_gone wl_143 wl_144 wl_145 rfl (Nat.le_of_ble_eq_true rfl) (Nat.le_of_ble_eq_true rfl) (Nat.le_of_ble_eq_true rfl) (Nat.le_of_ble_eq_true rfl) (Nat.le_of_ble_eq_true rfl) (pb_X12_gone 0 [_] _ rfl hi hw) ?_
  rintro _ _ H locs ⟨⟨y, rfl, -⟩, I, rfl, hi, hw⟩ hW hS
  dsimp only [Option.map, Option.toList, List.cons_append, List.nil_append, gtr]
  refine lv_pop hx hb dL_782 rfl ?_
  refine lv_goto (tgt := 1745) hx hb dL_783 (by decide) ?_
  exact kk I H locs hi hw hS hW
set_option maxRecDepth 100000 in
set_option maxHeartbeats 4000000 in
theorem law_18_opens {p : Program} {l : Launch} {e : Env} {s : State} {m : MethodId} {below : List Frame} {meth : Method} {c : Code} {bs L i : Nat} {xs : Nat → Int32} {D : va_G} {cy : Nat → ClassId} (hL : L ≤ 2560) (C0 : lw_At p s m meth c bs L xs) (hF : gFx s.heap.size D cy s) {I : gI} {H : Heap} {locs : List Loc} {ls : Array Slot} (hi : aInv bT I) (hw : WF I) (hiL : i + 5 ≤ L) (hS : va_S (gA s.heap.size) s.heap H locs) (hW : gWd s.heap.size D cy (SH0, RF0, I) H) (hl : lv_has ls 4 [(0, .ref bs), (1, .ref (s.heap.size + 0)), (2, .ref (s.heap.size + 67)), (3, .int (Int32.ofNat i))]) (kk : ∀ (I : gI) (H : Heap) (locs : List Loc), aInv bT I → WF I → va_S (gA s.heap.size) s.heap H locs → gWd s.heap.size D cy (SH0, RF0, I) H → W p l e room_1 s m #[Value.ref bs] below meth c H locs 88 3546 (lw_Z below #[Value.ref bs] s) (F0 m 1745 ls [])) : W p l e room_1 s m #[Value.ref bs] below meth c H locs 88 3546 (lw_Z below #[Value.ref bs] s) (F0 m 786 ls []) := by
  obtain ⟨hx, hb, hr, hml, hown, hts, hX, hbl, hlocks, hgv⟩ := id C0
  have hbA : ¬ gA s.heap.size bs := Nat.not_le.mpr hbl
  refine lv_aload_n hx hb dL_786 rfl (lv_at hl 1 rfl) ?_
  refine lv_aload_n hx hb dL_787 rfl (lv_at hl 0 rfl) ?_
  refine lv_iload_n hx hb dL_788 rfl (lv_at hl 3 rfl) ?_
  refine lv_iconst (v := 1) hx hb dL_789 (by decide) ?_
  refine lv_iadd hx hb dL_790 ?_
  refine va_sld hx hb hX hbl hbA hS (lw_in (k := 1) (by omega) hL) dL_791 ?_
  refine law_call (mc1 := 0) (ms1 := 0) (ci := 11) (x := 0) (mj := mX11_opens) (vs := [.int _]) (S := []) (d := 0 + 40) hx hb hml hown hts hF hS hW hl dL_792 rfl rfl cml_X11_opens wl_147 wl_148 wl_149 rfl (Nat.le_of_ble_eq_true rfl) (Nat.le_of_ble_eq_true rfl) (Nat.le_of_ble_eq_true rfl) (Nat.le_of_ble_eq_true rfl) (Nat.le_of_ble_eq_true rfl) (pb_X11_opens 0 [_] _ rfl hi hw) ?_
  rintro _ _ H locs ⟨⟨y, rfl, -⟩, I, rfl, hi, hw⟩ hW hS
  dsimp only [Option.map, Option.toList, List.cons_append, List.nil_append, gtr]
  refine lv_pop hx hb dL_795 rfl ?_
  refine lv_aload_n hx hb dL_796 rfl (lv_at hl 2 rfl) ?_
  refine lv_aload_n hx hb dL_797 rfl (lv_at hl 0 rfl) ?_
  refine lv_iload_n hx hb dL_798 rfl (lv_at hl 3 rfl) ?_
  refine lv_iconst (v := 1) hx hb dL_799 (by decide) ?_
  refine lv_iadd hx hb dL_800 ?_
  refine va_sld hx hb hX hbl hbA hS (lw_in (k := 1) (by omega) hL) dL_801 ?_
  refine law_call (mc1 := 0) (ms1 := 0) (ci := 12) (x := 67) (mj := mX12_opens) (vs := [.int _]) (S := []) (d := 0 + 40) hx hb hml hown hts hF hS hW hl dL_802 rfl rfl cml_X12_opens wl_151 wl_152 wl_153 rfl (Nat.le_of_ble_eq_true rfl) (Nat.le_of_ble_eq_true rfl) (Nat.le_of_ble_eq_true rfl) (Nat.le_of_ble_eq_true rfl) (Nat.le_of_ble_eq_true rfl) (pb_X12_opens 0 [_] _ rfl hi hw) ?_
  rintro _ _ H locs ⟨⟨y, rfl, -⟩, I, rfl, hi, hw⟩ hW hS
  dsimp only [Option.map, Option.toList, List.cons_append, List.nil_append, gtr]
  refine lv_pop hx hb dL_805 rfl ?_
  refine lv_goto (tgt := 1745) hx hb dL_806 (by decide) ?_
  exact kk I H locs hi hw hS hW
set_option maxRecDepth 100000 in
set_option maxHeartbeats 4000000 in
theorem law_19_left {p : Program} {l : Launch} {e : Env} {s : State} {m : MethodId} {below : List Frame} {meth : Method} {c : Code} {bs L i : Nat} {xs : Nat → Int32} {D : va_G} {cy : Nat → ClassId} (hL : L ≤ 2560) (C0 : lw_At p s m meth c bs L xs) (hF : gFx s.heap.size D cy s) {I : gI} {H : Heap} {locs : List Loc} {ls : Array Slot} (hi : aInv bT I) (hw : WF I) (hiL : i + 5 ≤ L) (hS : va_S (gA s.heap.size) s.heap H locs) (hW : gWd s.heap.size D cy (SH0, RF0, I) H) (hl : lv_has ls 4 [(0, .ref bs), (1, .ref (s.heap.size + 0)), (2, .ref (s.heap.size + 67)), (3, .int (Int32.ofNat i))]) (kk : ∀ (I : gI) (H : Heap) (locs : List Loc), aInv bT I → WF I → va_S (gA s.heap.size) s.heap H locs → gWd s.heap.size D cy (SH0, RF0, I) H → W p l e room_1 s m #[Value.ref bs] below meth c H locs 88 3546 (lw_Z below #[Value.ref bs] s) (F0 m 1745 ls [])) : W p l e room_1 s m #[Value.ref bs] below meth c H locs 88 3546 (lw_Z below #[Value.ref bs] s) (F0 m 809 ls []) := by
  obtain ⟨hx, hb, hr, hml, hown, hts, hX, hbl, hlocks, hgv⟩ := id C0
  have hbA : ¬ gA s.heap.size bs := Nat.not_le.mpr hbl
  refine lv_aload_n hx hb dL_809 rfl (lv_at hl 1 rfl) ?_
  refine lv_aload_n hx hb dL_810 rfl (lv_at hl 0 rfl) ?_
  refine lv_iload_n hx hb dL_811 rfl (lv_at hl 3 rfl) ?_
  refine lv_iconst (v := 1) hx hb dL_812 (by decide) ?_
  refine lv_iadd hx hb dL_813 ?_
  refine va_sld hx hb hX hbl hbA hS (lw_in (k := 1) (by omega) hL) dL_814 ?_
  refine lv_aload_n hx hb dL_815 rfl (lv_at hl 0 rfl) ?_
  refine lv_iload_n hx hb dL_816 rfl (lv_at hl 3 rfl) ?_
  refine lv_iconst (v := 2) hx hb dL_817 (by decide) ?_
  refine lv_iadd hx hb dL_818 ?_
  refine va_sld hx hb hX hbl hbA hS (lw_in (k := 2) (by omega) hL) dL_819 ?_
  refine law_call (mc1 := 0) (ms1 := 0) (ci := 11) (x := 0) (mj := mX11_left) (vs := [.int _, .int _]) (S := []) (d := 0 + 40) hx hb hml hown hts hF hS hW hl dL_820 rfl rfl cml_X11_left wl_155 wl_156 wl_157 rfl (Nat.le_of_ble_eq_true rfl) (Nat.le_of_ble_eq_true rfl) (Nat.le_of_ble_eq_true rfl) (Nat.le_of_ble_eq_true rfl) (Nat.le_of_ble_eq_true rfl) (pb_X11_left 0 [_, _] _ rfl hi hw) ?_
  rintro _ _ H locs ⟨⟨y, rfl, -⟩, I, rfl, hi, hw⟩ hW hS
  dsimp only [Option.map, Option.toList, List.cons_append, List.nil_append, gtr]
  refine lv_pop hx hb dL_823 rfl ?_
  refine lv_aload_n hx hb dL_824 rfl (lv_at hl 2 rfl) ?_
  refine lv_aload_n hx hb dL_825 rfl (lv_at hl 0 rfl) ?_
  refine lv_iload_n hx hb dL_826 rfl (lv_at hl 3 rfl) ?_
  refine lv_iconst (v := 1) hx hb dL_827 (by decide) ?_
  refine lv_iadd hx hb dL_828 ?_
  refine va_sld hx hb hX hbl hbA hS (lw_in (k := 1) (by omega) hL) dL_829 ?_
  refine lv_aload_n hx hb dL_830 rfl (lv_at hl 0 rfl) ?_
  refine lv_iload_n hx hb dL_831 rfl (lv_at hl 3 rfl) ?_
  refine lv_iconst (v := 2) hx hb dL_832 (by decide) ?_
  refine lv_iadd hx hb dL_833 ?_
  refine va_sld hx hb hX hbl hbA hS (lw_in (k := 2) (by omega) hL) dL_834 ?_
  refine law_call (mc1 := 0) (ms1 := 0) (ci := 12) (x := 67) (mj := mX12_left) (vs := [.int _, .int _]) (S := []) (d := 0 + 40) hx hb hml hown hts hF hS hW hl dL_835 rfl rfl cml_X12_left wl_159 wl_160 wl_161 rfl (Nat.le_of_ble_eq_true rfl) (Nat.le_of_ble_eq_true rfl) (Nat.le_of_ble_eq_true rfl) (Nat.le_of_ble_eq_true rfl) (Nat.le_of_ble_eq_true rfl) (pb_X12_left 0 [_, _] _ rfl hi hw) ?_
  rintro _ _ H locs ⟨⟨y, rfl, -⟩, I, rfl, hi, hw⟩ hW hS
  dsimp only [Option.map, Option.toList, List.cons_append, List.nil_append, gtr]
  refine lv_pop hx hb dL_838 rfl ?_
  refine lv_goto (tgt := 1745) hx hb dL_839 (by decide) ?_
  exact kk I H locs hi hw hS hW
set_option maxRecDepth 100000 in
set_option maxHeartbeats 4000000 in
theorem law_20_bunches {p : Program} {l : Launch} {e : Env} {s : State} {m : MethodId} {below : List Frame} {meth : Method} {c : Code} {bs L i : Nat} {xs : Nat → Int32} {D : va_G} {cy : Nat → ClassId} (hL : L ≤ 2560) (C0 : lw_At p s m meth c bs L xs) (hF : gFx s.heap.size D cy s) {I : gI} {H : Heap} {locs : List Loc} {ls : Array Slot} (hi : aInv bT I) (hw : WF I) (hiL : i + 5 ≤ L) (hS : va_S (gA s.heap.size) s.heap H locs) (hW : gWd s.heap.size D cy (SH0, RF0, I) H) (hl : lv_has ls 4 [(0, .ref bs), (1, .ref (s.heap.size + 0)), (2, .ref (s.heap.size + 67)), (3, .int (Int32.ofNat i))]) (kk : ∀ (I : gI) (H : Heap) (locs : List Loc), aInv bT I → WF I → va_S (gA s.heap.size) s.heap H locs → gWd s.heap.size D cy (SH0, RF0, I) H → W p l e room_1 s m #[Value.ref bs] below meth c H locs 88 3546 (lw_Z below #[Value.ref bs] s) (F0 m 1745 ls [])) : W p l e room_1 s m #[Value.ref bs] below meth c H locs 88 3546 (lw_Z below #[Value.ref bs] s) (F0 m 842 ls []) := by
  obtain ⟨hx, hb, hr, hml, hown, hts, hX, hbl, hlocks, hgv⟩ := id C0
  have hbA : ¬ gA s.heap.size bs := Nat.not_le.mpr hbl
  refine lv_aload_n hx hb dL_842 rfl (lv_at hl 1 rfl) ?_
  refine lv_aload_n hx hb dL_843 rfl (lv_at hl 0 rfl) ?_
  refine lv_iload_n hx hb dL_844 rfl (lv_at hl 3 rfl) ?_
  refine lv_iconst (v := 1) hx hb dL_845 (by decide) ?_
  refine lv_iadd hx hb dL_846 ?_
  refine va_sld hx hb hX hbl hbA hS (lw_in (k := 1) (by omega) hL) dL_847 ?_
  refine law_call (mc1 := 0) (ms1 := 0) (ci := 11) (x := 0) (mj := mX11_bunches) (vs := [.int _]) (S := []) (d := 0 + 40) hx hb hml hown hts hF hS hW hl dL_848 rfl rfl cml_X11_bunches wl_163 wl_164 wl_165 rfl (Nat.le_of_ble_eq_true rfl) (Nat.le_of_ble_eq_true rfl) (Nat.le_of_ble_eq_true rfl) (Nat.le_of_ble_eq_true rfl) (Nat.le_of_ble_eq_true rfl) (pb_X11_bunches 0 [_] _ rfl hi hw) ?_
  rintro _ _ H locs ⟨⟨y, rfl, -⟩, I, rfl, hi, hw⟩ hW hS
  dsimp only [Option.map, Option.toList, List.cons_append, List.nil_append, gtr]
  refine lv_pop hx hb dL_851 rfl ?_
  refine lv_aload_n hx hb dL_852 rfl (lv_at hl 2 rfl) ?_
  refine lv_aload_n hx hb dL_853 rfl (lv_at hl 0 rfl) ?_
  refine lv_iload_n hx hb dL_854 rfl (lv_at hl 3 rfl) ?_
  refine lv_iconst (v := 1) hx hb dL_855 (by decide) ?_
  refine lv_iadd hx hb dL_856 ?_
  refine va_sld hx hb hX hbl hbA hS (lw_in (k := 1) (by omega) hL) dL_857 ?_
  refine law_call (mc1 := 0) (ms1 := 0) (ci := 12) (x := 67) (mj := mX12_bunches) (vs := [.int _]) (S := []) (d := 0 + 40) hx hb hml hown hts hF hS hW hl dL_858 rfl rfl cml_X12_bunches wl_167 wl_168 wl_169 rfl (Nat.le_of_ble_eq_true rfl) (Nat.le_of_ble_eq_true rfl) (Nat.le_of_ble_eq_true rfl) (Nat.le_of_ble_eq_true rfl) (Nat.le_of_ble_eq_true rfl) (pb_X12_bunches 0 [_] _ rfl hi hw) ?_
  rintro _ _ H locs ⟨⟨y, rfl, -⟩, I, rfl, hi, hw⟩ hW hS
  dsimp only [Option.map, Option.toList, List.cons_append, List.nil_append, gtr]
  refine lv_pop hx hb dL_861 rfl ?_
  refine lv_goto (tgt := 1745) hx hb dL_862 (by decide) ?_
  exact kk I H locs hi hw hS hW
set_option maxRecDepth 100000 in
set_option maxHeartbeats 4000000 in
theorem law_21_best {p : Program} {l : Launch} {e : Env} {s : State} {m : MethodId} {below : List Frame} {meth : Method} {c : Code} {bs L i : Nat} {xs : Nat → Int32} {D : va_G} {cy : Nat → ClassId} (hL : L ≤ 2560) (C0 : lw_At p s m meth c bs L xs) (hF : gFx s.heap.size D cy s) {I : gI} {H : Heap} {locs : List Loc} {ls : Array Slot} (hi : aInv bT I) (hw : WF I) (hiL : i + 5 ≤ L) (hS : va_S (gA s.heap.size) s.heap H locs) (hW : gWd s.heap.size D cy (SH0, RF0, I) H) (hl : lv_has ls 4 [(0, .ref bs), (1, .ref (s.heap.size + 0)), (2, .ref (s.heap.size + 67)), (3, .int (Int32.ofNat i))]) (kk : ∀ (I : gI) (H : Heap) (locs : List Loc), aInv bT I → WF I → va_S (gA s.heap.size) s.heap H locs → gWd s.heap.size D cy (SH0, RF0, I) H → W p l e room_1 s m #[Value.ref bs] below meth c H locs 88 3546 (lw_Z below #[Value.ref bs] s) (F0 m 1745 ls [])) : W p l e room_1 s m #[Value.ref bs] below meth c H locs 88 3546 (lw_Z below #[Value.ref bs] s) (F0 m 865 ls []) := by
  obtain ⟨hx, hb, hr, hml, hown, hts, hX, hbl, hlocks, hgv⟩ := id C0
  have hbA : ¬ gA s.heap.size bs := Nat.not_le.mpr hbl
  refine lv_aload_n hx hb dL_865 rfl (lv_at hl 1 rfl) ?_
  refine lv_aload_n hx hb dL_866 rfl (lv_at hl 0 rfl) ?_
  refine lv_iload_n hx hb dL_867 rfl (lv_at hl 3 rfl) ?_
  refine lv_iconst (v := 1) hx hb dL_868 (by decide) ?_
  refine lv_iadd hx hb dL_869 ?_
  refine va_sld hx hb hX hbl hbA hS (lw_in (k := 1) (by omega) hL) dL_870 ?_
  refine law_call (mc1 := 0) (ms1 := 0) (ci := 11) (x := 0) (mj := mX11_best) (vs := [.int _]) (S := []) (d := 0 + 40) hx hb hml hown hts hF hS hW hl dL_871 rfl rfl cml_X11_best wl_171 wl_172 wl_173 rfl (Nat.le_of_ble_eq_true rfl) (Nat.le_of_ble_eq_true rfl) (Nat.le_of_ble_eq_true rfl) (Nat.le_of_ble_eq_true rfl) (Nat.le_of_ble_eq_true rfl) (pb_X11_best 0 [_] _ rfl hi hw) ?_
  rintro _ _ H locs ⟨⟨y, rfl, -⟩, I, rfl, hi, hw⟩ hW hS
  dsimp only [Option.map, Option.toList, List.cons_append, List.nil_append, gtr]
  refine lv_pop hx hb dL_874 rfl ?_
  refine lv_aload_n hx hb dL_875 rfl (lv_at hl 2 rfl) ?_
  refine lv_aload_n hx hb dL_876 rfl (lv_at hl 0 rfl) ?_
  refine lv_iload_n hx hb dL_877 rfl (lv_at hl 3 rfl) ?_
  refine lv_iconst (v := 1) hx hb dL_878 (by decide) ?_
  refine lv_iadd hx hb dL_879 ?_
  refine va_sld hx hb hX hbl hbA hS (lw_in (k := 1) (by omega) hL) dL_880 ?_
  refine law_call (mc1 := 0) (ms1 := 0) (ci := 12) (x := 67) (mj := mX12_best) (vs := [.int _]) (S := []) (d := 0 + 40) hx hb hml hown hts hF hS hW hl dL_881 rfl rfl cml_X12_best wl_175 wl_176 wl_177 rfl (Nat.le_of_ble_eq_true rfl) (Nat.le_of_ble_eq_true rfl) (Nat.le_of_ble_eq_true rfl) (Nat.le_of_ble_eq_true rfl) (Nat.le_of_ble_eq_true rfl) (pb_X12_best 0 [_] _ rfl hi hw) ?_
  rintro _ _ H locs ⟨⟨y, rfl, -⟩, I, rfl, hi, hw⟩ hW hS
  dsimp only [Option.map, Option.toList, List.cons_append, List.nil_append, gtr]
  refine lv_pop hx hb dL_884 rfl ?_
  refine lv_goto (tgt := 1745) hx hb dL_885 (by decide) ?_
  exact kk I H locs hi hw hS hW
set_option maxRecDepth 100000 in
set_option maxHeartbeats 4000000 in
theorem law_22_ith {p : Program} {l : Launch} {e : Env} {s : State} {m : MethodId} {below : List Frame} {meth : Method} {c : Code} {bs L i : Nat} {xs : Nat → Int32} {D : va_G} {cy : Nat → ClassId} (hL : L ≤ 2560) (C0 : lw_At p s m meth c bs L xs) (hF : gFx s.heap.size D cy s) {I : gI} {H : Heap} {locs : List Loc} {ls : Array Slot} (hi : aInv bT I) (hw : WF I) (hiL : i + 5 ≤ L) (hS : va_S (gA s.heap.size) s.heap H locs) (hW : gWd s.heap.size D cy (SH0, RF0, I) H) (hl : lv_has ls 4 [(0, .ref bs), (1, .ref (s.heap.size + 0)), (2, .ref (s.heap.size + 67)), (3, .int (Int32.ofNat i))]) (kk : ∀ (I : gI) (H : Heap) (locs : List Loc), aInv bT I → WF I → va_S (gA s.heap.size) s.heap H locs → gWd s.heap.size D cy (SH0, RF0, I) H → W p l e room_1 s m #[Value.ref bs] below meth c H locs 88 3546 (lw_Z below #[Value.ref bs] s) (F0 m 1745 ls [])) : W p l e room_1 s m #[Value.ref bs] below meth c H locs 88 3546 (lw_Z below #[Value.ref bs] s) (F0 m 888 ls []) := by
  obtain ⟨hx, hb, hr, hml, hown, hts, hX, hbl, hlocks, hgv⟩ := id C0
  have hbA : ¬ gA s.heap.size bs := Nat.not_le.mpr hbl
  refine lv_aload_n hx hb dL_888 rfl (lv_at hl 1 rfl) ?_
  refine lv_aload_n hx hb dL_889 rfl (lv_at hl 0 rfl) ?_
  refine lv_iload_n hx hb dL_890 rfl (lv_at hl 3 rfl) ?_
  refine lv_iconst (v := 1) hx hb dL_891 (by decide) ?_
  refine lv_iadd hx hb dL_892 ?_
  refine va_sld hx hb hX hbl hbA hS (lw_in (k := 1) (by omega) hL) dL_893 ?_
  refine lv_aload_n hx hb dL_894 rfl (lv_at hl 0 rfl) ?_
  refine lv_iload_n hx hb dL_895 rfl (lv_at hl 3 rfl) ?_
  refine lv_iconst (v := 2) hx hb dL_896 (by decide) ?_
  refine lv_iadd hx hb dL_897 ?_
  refine va_sld hx hb hX hbl hbA hS (lw_in (k := 2) (by omega) hL) dL_898 ?_
  refine law_call (mc1 := 0) (ms1 := 0) (ci := 11) (x := 0) (mj := mX11_ith) (vs := [.int _, .int _]) (S := []) (d := 0 + 40) hx hb hml hown hts hF hS hW hl dL_899 rfl rfl cml_X11_ith wl_179 wl_180 wl_181 rfl (Nat.le_of_ble_eq_true rfl) (Nat.le_of_ble_eq_true rfl) (Nat.le_of_ble_eq_true rfl) (Nat.le_of_ble_eq_true rfl) (Nat.le_of_ble_eq_true rfl) (pb_X11_ith 0 [_, _] _ rfl hi hw) ?_
  rintro _ _ H locs ⟨⟨y, rfl, -⟩, I, rfl, hi, hw⟩ hW hS
  dsimp only [Option.map, Option.toList, List.cons_append, List.nil_append, gtr]
  refine lv_pop hx hb dL_902 rfl ?_
  refine lv_aload_n hx hb dL_903 rfl (lv_at hl 2 rfl) ?_
  refine lv_aload_n hx hb dL_904 rfl (lv_at hl 0 rfl) ?_
  refine lv_iload_n hx hb dL_905 rfl (lv_at hl 3 rfl) ?_
  refine lv_iconst (v := 1) hx hb dL_906 (by decide) ?_
  refine lv_iadd hx hb dL_907 ?_
  refine va_sld hx hb hX hbl hbA hS (lw_in (k := 1) (by omega) hL) dL_908 ?_
  refine lv_aload_n hx hb dL_909 rfl (lv_at hl 0 rfl) ?_
  refine lv_iload_n hx hb dL_910 rfl (lv_at hl 3 rfl) ?_
  refine lv_iconst (v := 2) hx hb dL_911 (by decide) ?_
  refine lv_iadd hx hb dL_912 ?_
  refine va_sld hx hb hX hbl hbA hS (lw_in (k := 2) (by omega) hL) dL_913 ?_
  refine law_call (mc1 := 0) (ms1 := 0) (ci := 12) (x := 67) (mj := mX12_ith) (vs := [.int _, .int _]) (S := []) (d := 0 + 40) hx hb hml hown hts hF hS hW hl dL_914 rfl rfl cml_X12_ith wl_183 wl_184 wl_185 rfl (Nat.le_of_ble_eq_true rfl) (Nat.le_of_ble_eq_true rfl) (Nat.le_of_ble_eq_true rfl) (Nat.le_of_ble_eq_true rfl) (Nat.le_of_ble_eq_true rfl) (pb_X12_ith 0 [_, _] _ rfl hi hw) ?_
  rintro _ _ H locs ⟨⟨y, rfl, -⟩, I, rfl, hi, hw⟩ hW hS
  dsimp only [Option.map, Option.toList, List.cons_append, List.nil_append, gtr]
  refine lv_pop hx hb dL_917 rfl ?_
  refine lv_goto (tgt := 1745) hx hb dL_918 (by decide) ?_
  exact kk I H locs hi hw hS hW
set_option maxRecDepth 100000 in
set_option maxHeartbeats 4000000 in
theorem law_23_ways {p : Program} {l : Launch} {e : Env} {s : State} {m : MethodId} {below : List Frame} {meth : Method} {c : Code} {bs L i : Nat} {xs : Nat → Int32} {D : va_G} {cy : Nat → ClassId} (hL : L ≤ 2560) (C0 : lw_At p s m meth c bs L xs) (hF : gFx s.heap.size D cy s) {I : gI} {H : Heap} {locs : List Loc} {ls : Array Slot} (hi : aInv bT I) (hw : WF I) (hiL : i + 5 ≤ L) (hS : va_S (gA s.heap.size) s.heap H locs) (hW : gWd s.heap.size D cy (SH0, RF0, I) H) (hl : lv_has ls 4 [(0, .ref bs), (1, .ref (s.heap.size + 0)), (2, .ref (s.heap.size + 67)), (3, .int (Int32.ofNat i))]) (kk : ∀ (I : gI) (H : Heap) (locs : List Loc), aInv bT I → WF I → va_S (gA s.heap.size) s.heap H locs → gWd s.heap.size D cy (SH0, RF0, I) H → W p l e room_1 s m #[Value.ref bs] below meth c H locs 88 3546 (lw_Z below #[Value.ref bs] s) (F0 m 1745 ls [])) : W p l e room_1 s m #[Value.ref bs] below meth c H locs 88 3546 (lw_Z below #[Value.ref bs] s) (F0 m 921 ls []) := by
  obtain ⟨hx, hb, hr, hml, hown, hts, hX, hbl, hlocks, hgv⟩ := id C0
  have hbA : ¬ gA s.heap.size bs := Nat.not_le.mpr hbl
  refine lv_aload_n hx hb dL_921 rfl (lv_at hl 1 rfl) ?_
  refine lv_aload_n hx hb dL_922 rfl (lv_at hl 0 rfl) ?_
  refine lv_iload_n hx hb dL_923 rfl (lv_at hl 3 rfl) ?_
  refine lv_iconst (v := 1) hx hb dL_924 (by decide) ?_
  refine lv_iadd hx hb dL_925 ?_
  refine va_sld hx hb hX hbl hbA hS (lw_in (k := 1) (by omega) hL) dL_926 ?_
  refine law_call (mc1 := 0) (ms1 := 0) (ci := 11) (x := 0) (mj := mX11_ways) (vs := [.int _]) (S := []) (d := 0 + 40) hx hb hml hown hts hF hS hW hl dL_927 rfl rfl cml_X11_ways wl_187 wl_188 wl_189 rfl (Nat.le_of_ble_eq_true rfl) (Nat.le_of_ble_eq_true rfl) (Nat.le_of_ble_eq_true rfl) (Nat.le_of_ble_eq_true rfl) (Nat.le_of_ble_eq_true rfl) (pb_X11_ways 0 [_] _ rfl hi hw) ?_
  rintro _ _ H locs ⟨⟨y, rfl, -⟩, I, rfl, hi, hw⟩ hW hS
  dsimp only [Option.map, Option.toList, List.cons_append, List.nil_append, gtr]
  refine lv_pop hx hb dL_930 rfl ?_
  refine lv_aload_n hx hb dL_931 rfl (lv_at hl 2 rfl) ?_
  refine lv_aload_n hx hb dL_932 rfl (lv_at hl 0 rfl) ?_
  refine lv_iload_n hx hb dL_933 rfl (lv_at hl 3 rfl) ?_
  refine lv_iconst (v := 1) hx hb dL_934 (by decide) ?_
  refine lv_iadd hx hb dL_935 ?_
  refine va_sld hx hb hX hbl hbA hS (lw_in (k := 1) (by omega) hL) dL_936 ?_
  refine law_call (mc1 := 0) (ms1 := 0) (ci := 12) (x := 67) (mj := mX12_ways) (vs := [.int _]) (S := []) (d := 0 + 40) hx hb hml hown hts hF hS hW hl dL_937 rfl rfl cml_X12_ways wl_191 wl_192 wl_193 rfl (Nat.le_of_ble_eq_true rfl) (Nat.le_of_ble_eq_true rfl) (Nat.le_of_ble_eq_true rfl) (Nat.le_of_ble_eq_true rfl) (Nat.le_of_ble_eq_true rfl) (pb_X12_ways 0 [_] _ rfl hi hw) ?_
  rintro _ _ H locs ⟨⟨y, rfl, -⟩, I, rfl, hi, hw⟩ hW hS
  dsimp only [Option.map, Option.toList, List.cons_append, List.nil_append, gtr]
  refine lv_pop hx hb dL_940 rfl ?_
  refine lv_goto (tgt := 1745) hx hb dL_941 (by decide) ?_
  exact kk I H locs hi hw hS hW
set_option maxRecDepth 100000 in
set_option maxHeartbeats 4000000 in
theorem law_24_order {p : Program} {l : Launch} {e : Env} {s : State} {m : MethodId} {below : List Frame} {meth : Method} {c : Code} {bs L i : Nat} {xs : Nat → Int32} {D : va_G} {cy : Nat → ClassId} (hL : L ≤ 2560) (C0 : lw_At p s m meth c bs L xs) (hF : gFx s.heap.size D cy s) {I : gI} {H : Heap} {locs : List Loc} {ls : Array Slot} (hi : aInv bT I) (hw : WF I) (hiL : i + 5 ≤ L) (hS : va_S (gA s.heap.size) s.heap H locs) (hW : gWd s.heap.size D cy (SH0, RF0, I) H) (hl : lv_has ls 4 [(0, .ref bs), (1, .ref (s.heap.size + 0)), (2, .ref (s.heap.size + 67)), (3, .int (Int32.ofNat i))]) (kk : ∀ (I : gI) (H : Heap) (locs : List Loc), aInv bT I → WF I → va_S (gA s.heap.size) s.heap H locs → gWd s.heap.size D cy (SH0, RF0, I) H → W p l e room_1 s m #[Value.ref bs] below meth c H locs 88 3546 (lw_Z below #[Value.ref bs] s) (F0 m 1745 ls [])) : W p l e room_1 s m #[Value.ref bs] below meth c H locs 88 3546 (lw_Z below #[Value.ref bs] s) (F0 m 944 ls []) := by
  obtain ⟨hx, hb, hr, hml, hown, hts, hX, hbl, hlocks, hgv⟩ := id C0
  have hbA : ¬ gA s.heap.size bs := Nat.not_le.mpr hbl
  refine lv_aload_n hx hb dL_944 rfl (lv_at hl 1 rfl) ?_
  refine lv_aload_n hx hb dL_945 rfl (lv_at hl 0 rfl) ?_
  refine lv_iload_n hx hb dL_946 rfl (lv_at hl 3 rfl) ?_
  refine lv_iconst (v := 1) hx hb dL_947 (by decide) ?_
  refine lv_iadd hx hb dL_948 ?_
  refine va_sld hx hb hX hbl hbA hS (lw_in (k := 1) (by omega) hL) dL_949 ?_
  refine lv_aload_n hx hb dL_950 rfl (lv_at hl 0 rfl) ?_
  refine lv_iload_n hx hb dL_951 rfl (lv_at hl 3 rfl) ?_
  refine lv_iconst (v := 2) hx hb dL_952 (by decide) ?_
  refine lv_iadd hx hb dL_953 ?_
  refine va_sld hx hb hX hbl hbA hS (lw_in (k := 2) (by omega) hL) dL_954 ?_
  refine law_call (mc1 := 0) (ms1 := 0) (ci := 11) (x := 0) (mj := mX11_order) (vs := [.int _, .int _]) (S := []) (d := 0 + 40) hx hb hml hown hts hF hS hW hl dL_955 rfl rfl cml_X11_order wl_195 wl_196 wl_197 rfl (Nat.le_of_ble_eq_true rfl) (Nat.le_of_ble_eq_true rfl) (Nat.le_of_ble_eq_true rfl) (Nat.le_of_ble_eq_true rfl) (Nat.le_of_ble_eq_true rfl) (pb_X11_order 0 [_, _] _ rfl hi hw) ?_
  rintro _ _ H locs ⟨⟨y, rfl, -⟩, I, rfl, hi, hw⟩ hW hS
  dsimp only [Option.map, Option.toList, List.cons_append, List.nil_append, gtr]
  refine lv_pop hx hb dL_958 rfl ?_
  refine lv_aload_n hx hb dL_959 rfl (lv_at hl 2 rfl) ?_
  refine lv_aload_n hx hb dL_960 rfl (lv_at hl 0 rfl) ?_
  refine lv_iload_n hx hb dL_961 rfl (lv_at hl 3 rfl) ?_
  refine lv_iconst (v := 1) hx hb dL_962 (by decide) ?_
  refine lv_iadd hx hb dL_963 ?_
  refine va_sld hx hb hX hbl hbA hS (lw_in (k := 1) (by omega) hL) dL_964 ?_
  refine lv_aload_n hx hb dL_965 rfl (lv_at hl 0 rfl) ?_
  refine lv_iload_n hx hb dL_966 rfl (lv_at hl 3 rfl) ?_
  refine lv_iconst (v := 2) hx hb dL_967 (by decide) ?_
  refine lv_iadd hx hb dL_968 ?_
  refine va_sld hx hb hX hbl hbA hS (lw_in (k := 2) (by omega) hL) dL_969 ?_
  refine law_call (mc1 := 0) (ms1 := 0) (ci := 12) (x := 67) (mj := mX12_order) (vs := [.int _, .int _]) (S := []) (d := 0 + 40) hx hb hml hown hts hF hS hW hl dL_970 rfl rfl cml_X12_order wl_199 wl_200 wl_201 rfl (Nat.le_of_ble_eq_true rfl) (Nat.le_of_ble_eq_true rfl) (Nat.le_of_ble_eq_true rfl) (Nat.le_of_ble_eq_true rfl) (Nat.le_of_ble_eq_true rfl) (pb_X12_order 0 [_, _] _ rfl hi hw) ?_
  rintro _ _ H locs ⟨⟨y, rfl, -⟩, I, rfl, hi, hw⟩ hW hS
  dsimp only [Option.map, Option.toList, List.cons_append, List.nil_append, gtr]
  refine lv_pop hx hb dL_973 rfl ?_
  refine lv_goto (tgt := 1745) hx hb dL_974 (by decide) ?_
  exact kk I H locs hi hw hS hW
set_option maxRecDepth 100000 in
set_option maxHeartbeats 4000000 in
theorem law_25_bars {p : Program} {l : Launch} {e : Env} {s : State} {m : MethodId} {below : List Frame} {meth : Method} {c : Code} {bs L i : Nat} {xs : Nat → Int32} {D : va_G} {cy : Nat → ClassId} (hL : L ≤ 2560) (C0 : lw_At p s m meth c bs L xs) (hF : gFx s.heap.size D cy s) {I : gI} {H : Heap} {locs : List Loc} {ls : Array Slot} (hi : aInv bT I) (hw : WF I) (hiL : i + 5 ≤ L) (hS : va_S (gA s.heap.size) s.heap H locs) (hW : gWd s.heap.size D cy (SH0, RF0, I) H) (hl : lv_has ls 4 [(0, .ref bs), (1, .ref (s.heap.size + 0)), (2, .ref (s.heap.size + 67)), (3, .int (Int32.ofNat i))]) (kk : ∀ (I : gI) (H : Heap) (locs : List Loc), aInv bT I → WF I → va_S (gA s.heap.size) s.heap H locs → gWd s.heap.size D cy (SH0, RF0, I) H → W p l e room_1 s m #[Value.ref bs] below meth c H locs 88 3546 (lw_Z below #[Value.ref bs] s) (F0 m 1745 ls [])) : W p l e room_1 s m #[Value.ref bs] below meth c H locs 88 3546 (lw_Z below #[Value.ref bs] s) (F0 m 977 ls []) := by
  obtain ⟨hx, hb, hr, hml, hown, hts, hX, hbl, hlocks, hgv⟩ := id C0
  have hbA : ¬ gA s.heap.size bs := Nat.not_le.mpr hbl
  refine lv_aload_n hx hb dL_977 rfl (lv_at hl 1 rfl) ?_
  refine lv_aload_n hx hb dL_978 rfl (lv_at hl 0 rfl) ?_
  refine lv_iload_n hx hb dL_979 rfl (lv_at hl 3 rfl) ?_
  refine lv_iconst (v := 1) hx hb dL_980 (by decide) ?_
  refine lv_iadd hx hb dL_981 ?_
  refine va_sld hx hb hX hbl hbA hS (lw_in (k := 1) (by omega) hL) dL_982 ?_
  refine lv_aload_n hx hb dL_983 rfl (lv_at hl 0 rfl) ?_
  refine lv_iload_n hx hb dL_984 rfl (lv_at hl 3 rfl) ?_
  refine lv_iconst (v := 2) hx hb dL_985 (by decide) ?_
  refine lv_iadd hx hb dL_986 ?_
  refine va_sld hx hb hX hbl hbA hS (lw_in (k := 2) (by omega) hL) dL_987 ?_
  refine law_call (mc1 := 0) (ms1 := 0) (ci := 11) (x := 0) (mj := mX11_bars) (vs := [.int _, .int _]) (S := []) (d := 0 + 40) hx hb hml hown hts hF hS hW hl dL_988 rfl rfl cml_X11_bars wl_203 wl_204 wl_205 rfl (Nat.le_of_ble_eq_true rfl) (Nat.le_of_ble_eq_true rfl) (Nat.le_of_ble_eq_true rfl) (Nat.le_of_ble_eq_true rfl) (Nat.le_of_ble_eq_true rfl) (pb_X11_bars 0 [_, _] _ rfl hi hw) ?_
  rintro _ _ H locs ⟨⟨y, rfl, -⟩, I, rfl, hi, hw⟩ hW hS
  dsimp only [Option.map, Option.toList, List.cons_append, List.nil_append, gtr]
  refine lv_pop hx hb dL_991 rfl ?_
  refine lv_aload_n hx hb dL_992 rfl (lv_at hl 2 rfl) ?_
  refine lv_aload_n hx hb dL_993 rfl (lv_at hl 0 rfl) ?_
  refine lv_iload_n hx hb dL_994 rfl (lv_at hl 3 rfl) ?_
  refine lv_iconst (v := 1) hx hb dL_995 (by decide) ?_
  refine lv_iadd hx hb dL_996 ?_
  refine va_sld hx hb hX hbl hbA hS (lw_in (k := 1) (by omega) hL) dL_997 ?_
  refine lv_aload_n hx hb dL_998 rfl (lv_at hl 0 rfl) ?_
  refine lv_iload_n hx hb dL_999 rfl (lv_at hl 3 rfl) ?_
  refine lv_iconst (v := 2) hx hb dL_1000 (by decide) ?_
  refine lv_iadd hx hb dL_1001 ?_
  refine va_sld hx hb hX hbl hbA hS (lw_in (k := 2) (by omega) hL) dL_1002 ?_
  refine law_call (mc1 := 0) (ms1 := 0) (ci := 12) (x := 67) (mj := mX12_bars) (vs := [.int _, .int _]) (S := []) (d := 0 + 40) hx hb hml hown hts hF hS hW hl dL_1003 rfl rfl cml_X12_bars wl_207 wl_208 wl_209 rfl (Nat.le_of_ble_eq_true rfl) (Nat.le_of_ble_eq_true rfl) (Nat.le_of_ble_eq_true rfl) (Nat.le_of_ble_eq_true rfl) (Nat.le_of_ble_eq_true rfl) (pb_X12_bars 0 [_, _] _ rfl hi hw) ?_
  rintro _ _ H locs ⟨⟨y, rfl, -⟩, I, rfl, hi, hw⟩ hW hS
  dsimp only [Option.map, Option.toList, List.cons_append, List.nil_append, gtr]
  refine lv_pop hx hb dL_1006 rfl ?_
  refine lv_goto (tgt := 1745) hx hb dL_1007 (by decide) ?_
  exact kk I H locs hi hw hS hW
set_option maxRecDepth 100000 in
set_option maxHeartbeats 4000000 in
theorem law_26_game {p : Program} {l : Launch} {e : Env} {s : State} {m : MethodId} {below : List Frame} {meth : Method} {c : Code} {bs L i : Nat} {xs : Nat → Int32} {D : va_G} {cy : Nat → ClassId} (hL : L ≤ 2560) (C0 : lw_At p s m meth c bs L xs) (hF : gFx s.heap.size D cy s) {I : gI} {H : Heap} {locs : List Loc} {ls : Array Slot} (hi : aInv bT I) (hw : WF I) (hiL : i + 5 ≤ L) (hS : va_S (gA s.heap.size) s.heap H locs) (hW : gWd s.heap.size D cy (SH0, RF0, I) H) (hl : lv_has ls 4 [(0, .ref bs), (1, .ref (s.heap.size + 0)), (2, .ref (s.heap.size + 67)), (3, .int (Int32.ofNat i))]) (kk : ∀ (I : gI) (H : Heap) (locs : List Loc), aInv bT I → WF I → va_S (gA s.heap.size) s.heap H locs → gWd s.heap.size D cy (SH0, RF0, I) H → W p l e room_1 s m #[Value.ref bs] below meth c H locs 88 3546 (lw_Z below #[Value.ref bs] s) (F0 m 1745 ls [])) : W p l e room_1 s m #[Value.ref bs] below meth c H locs 88 3546 (lw_Z below #[Value.ref bs] s) (F0 m 1010 ls []) := by
  obtain ⟨hx, hb, hr, hml, hown, hts, hX, hbl, hlocks, hgv⟩ := id C0
  have hbA : ¬ gA s.heap.size bs := Nat.not_le.mpr hbl
  refine lv_aload_n hx hb dL_1010 rfl (lv_at hl 1 rfl) ?_
  refine lv_aload_n hx hb dL_1011 rfl (lv_at hl 0 rfl) ?_
  refine lv_iload_n hx hb dL_1012 rfl (lv_at hl 3 rfl) ?_
  refine lv_iconst (v := 1) hx hb dL_1013 (by decide) ?_
  refine lv_iadd hx hb dL_1014 ?_
  refine va_sld hx hb hX hbl hbA hS (lw_in (k := 1) (by omega) hL) dL_1015 ?_
  refine law_call (mc1 := 0) (ms1 := 0) (ci := 11) (x := 0) (mj := mX11_game) (vs := [.int _]) (S := []) (d := 0 + 40) hx hb hml hown hts hF hS hW hl dL_1016 rfl rfl cml_X11_game wl_211 wl_212 wl_213 rfl (Nat.le_of_ble_eq_true rfl) (Nat.le_of_ble_eq_true rfl) (Nat.le_of_ble_eq_true rfl) (Nat.le_of_ble_eq_true rfl) (Nat.le_of_ble_eq_true rfl) (pb_X11_game 0 [_] _ rfl hi hw) ?_
  rintro _ _ H locs ⟨⟨y, rfl, -⟩, I, rfl, hi, hw⟩ hW hS
  dsimp only [Option.map, Option.toList, List.cons_append, List.nil_append, gtr]
  refine lv_pop hx hb dL_1019 rfl ?_
  refine lv_aload_n hx hb dL_1020 rfl (lv_at hl 2 rfl) ?_
  refine lv_aload_n hx hb dL_1021 rfl (lv_at hl 0 rfl) ?_
  refine lv_iload_n hx hb dL_1022 rfl (lv_at hl 3 rfl) ?_
  refine lv_iconst (v := 1) hx hb dL_1023 (by decide) ?_
  refine lv_iadd hx hb dL_1024 ?_
  refine va_sld hx hb hX hbl hbA hS (lw_in (k := 1) (by omega) hL) dL_1025 ?_
  refine law_call (mc1 := 0) (ms1 := 0) (ci := 12) (x := 67) (mj := mX12_game) (vs := [.int _]) (S := []) (d := 0 + 40) hx hb hml hown hts hF hS hW hl dL_1026 rfl rfl cml_X12_game wl_215 wl_216 wl_217 rfl (Nat.le_of_ble_eq_true rfl) (Nat.le_of_ble_eq_true rfl) (Nat.le_of_ble_eq_true rfl) (Nat.le_of_ble_eq_true rfl) (Nat.le_of_ble_eq_true rfl) (pb_X12_game 0 [_] _ rfl hi hw) ?_
  rintro _ _ H locs ⟨⟨y, rfl, -⟩, I, rfl, hi, hw⟩ hW hS
  dsimp only [Option.map, Option.toList, List.cons_append, List.nil_append, gtr]
  refine lv_pop hx hb dL_1029 rfl ?_
  refine lv_goto (tgt := 1745) hx hb dL_1030 (by decide) ?_
  exact kk I H locs hi hw hS hW
set_option maxRecDepth 100000 in
set_option maxHeartbeats 4000000 in
theorem law_27_play {p : Program} {l : Launch} {e : Env} {s : State} {m : MethodId} {below : List Frame} {meth : Method} {c : Code} {bs L i : Nat} {xs : Nat → Int32} {D : va_G} {cy : Nat → ClassId} (hL : L ≤ 2560) (C0 : lw_At p s m meth c bs L xs) (hF : gFx s.heap.size D cy s) {I : gI} {H : Heap} {locs : List Loc} {ls : Array Slot} (hi : aInv bT I) (hw : WF I) (hiL : i + 5 ≤ L) (hS : va_S (gA s.heap.size) s.heap H locs) (hW : gWd s.heap.size D cy (SH0, RF0, I) H) (hl : lv_has ls 4 [(0, .ref bs), (1, .ref (s.heap.size + 0)), (2, .ref (s.heap.size + 67)), (3, .int (Int32.ofNat i))]) (kk : ∀ (I : gI) (H : Heap) (locs : List Loc), aInv bT I → WF I → va_S (gA s.heap.size) s.heap H locs → gWd s.heap.size D cy (SH0, RF0, I) H → W p l e room_1 s m #[Value.ref bs] below meth c H locs 88 3546 (lw_Z below #[Value.ref bs] s) (F0 m 1745 ls [])) : W p l e room_1 s m #[Value.ref bs] below meth c H locs 88 3546 (lw_Z below #[Value.ref bs] s) (F0 m 1033 ls []) := by
  obtain ⟨hx, hb, hr, hml, hown, hts, hX, hbl, hlocks, hgv⟩ := id C0
  have hbA : ¬ gA s.heap.size bs := Nat.not_le.mpr hbl
  refine lv_aload_n hx hb dL_1033 rfl (lv_at hl 1 rfl) ?_
  refine lv_aload_n hx hb dL_1034 rfl (lv_at hl 0 rfl) ?_
  refine lv_iload_n hx hb dL_1035 rfl (lv_at hl 3 rfl) ?_
  refine lv_iconst (v := 1) hx hb dL_1036 (by decide) ?_
  refine lv_iadd hx hb dL_1037 ?_
  refine va_sld hx hb hX hbl hbA hS (lw_in (k := 1) (by omega) hL) dL_1038 ?_
  refine law_call (mc1 := 0) (ms1 := 0) (ci := 11) (x := 0) (mj := mX11_play) (vs := [.int _]) (S := []) (d := 0 + 40) hx hb hml hown hts hF hS hW hl dL_1039 rfl rfl cml_X11_play wl_219 wl_220 wl_221 rfl (Nat.le_of_ble_eq_true rfl) (Nat.le_of_ble_eq_true rfl) (Nat.le_of_ble_eq_true rfl) (Nat.le_of_ble_eq_true rfl) (Nat.le_of_ble_eq_true rfl) (pb_X11_play 0 [_] _ rfl hi hw) ?_
  rintro _ _ H locs ⟨⟨y, rfl, -⟩, I, rfl, hi, hw⟩ hW hS
  dsimp only [Option.map, Option.toList, List.cons_append, List.nil_append, gtr]
  refine lv_pop hx hb dL_1042 rfl ?_
  refine lv_aload_n hx hb dL_1043 rfl (lv_at hl 2 rfl) ?_
  refine lv_aload_n hx hb dL_1044 rfl (lv_at hl 0 rfl) ?_
  refine lv_iload_n hx hb dL_1045 rfl (lv_at hl 3 rfl) ?_
  refine lv_iconst (v := 1) hx hb dL_1046 (by decide) ?_
  refine lv_iadd hx hb dL_1047 ?_
  refine va_sld hx hb hX hbl hbA hS (lw_in (k := 1) (by omega) hL) dL_1048 ?_
  refine law_call (mc1 := 0) (ms1 := 0) (ci := 12) (x := 67) (mj := mX12_play) (vs := [.int _]) (S := []) (d := 0 + 40) hx hb hml hown hts hF hS hW hl dL_1049 rfl rfl cml_X12_play wl_223 wl_224 wl_225 rfl (Nat.le_of_ble_eq_true rfl) (Nat.le_of_ble_eq_true rfl) (Nat.le_of_ble_eq_true rfl) (Nat.le_of_ble_eq_true rfl) (Nat.le_of_ble_eq_true rfl) (pb_X12_play 0 [_] _ rfl hi hw) ?_
  rintro _ _ H locs ⟨⟨y, rfl, -⟩, I, rfl, hi, hw⟩ hW hS
  dsimp only [Option.map, Option.toList, List.cons_append, List.nil_append, gtr]
  refine lv_pop hx hb dL_1052 rfl ?_
  refine lv_goto (tgt := 1745) hx hb dL_1053 (by decide) ?_
  exact kk I H locs hi hw hS hW
set_option maxRecDepth 100000 in
set_option maxHeartbeats 4000000 in
theorem law_28_report {p : Program} {l : Launch} {e : Env} {s : State} {m : MethodId} {below : List Frame} {meth : Method} {c : Code} {bs L i : Nat} {xs : Nat → Int32} {D : va_G} {cy : Nat → ClassId} (hL : L ≤ 2560) (C0 : lw_At p s m meth c bs L xs) (hF : gFx s.heap.size D cy s) {I : gI} {H : Heap} {locs : List Loc} {ls : Array Slot} (hi : aInv bT I) (hw : WF I) (hiL : i + 5 ≤ L) (hS : va_S (gA s.heap.size) s.heap H locs) (hW : gWd s.heap.size D cy (SH0, RF0, I) H) (hl : lv_has ls 4 [(0, .ref bs), (1, .ref (s.heap.size + 0)), (2, .ref (s.heap.size + 67)), (3, .int (Int32.ofNat i))]) (kk : ∀ (I : gI) (H : Heap) (locs : List Loc), aInv bT I → WF I → va_S (gA s.heap.size) s.heap H locs → gWd s.heap.size D cy (SH0, RF0, I) H → W p l e room_1 s m #[Value.ref bs] below meth c H locs 88 3546 (lw_Z below #[Value.ref bs] s) (F0 m 1745 ls [])) : W p l e room_1 s m #[Value.ref bs] below meth c H locs 88 3546 (lw_Z below #[Value.ref bs] s) (F0 m 1056 ls []) := by
  obtain ⟨hx, hb, hr, hml, hown, hts, hX, hbl, hlocks, hgv⟩ := id C0
  have hbA : ¬ gA s.heap.size bs := Nat.not_le.mpr hbl
  refine lv_aload_n hx hb dL_1056 rfl (lv_at hl 1 rfl) ?_
  refine lv_aload_n hx hb dL_1057 rfl (lv_at hl 0 rfl) ?_
  refine lv_iload_n hx hb dL_1058 rfl (lv_at hl 3 rfl) ?_
  refine lv_iconst (v := 1) hx hb dL_1059 (by decide) ?_
  refine lv_iadd hx hb dL_1060 ?_
  refine va_sld hx hb hX hbl hbA hS (lw_in (k := 1) (by omega) hL) dL_1061 ?_
  refine lv_aload_n hx hb dL_1062 rfl (lv_at hl 0 rfl) ?_
  refine lv_iload_n hx hb dL_1063 rfl (lv_at hl 3 rfl) ?_
  refine lv_iconst (v := 2) hx hb dL_1064 (by decide) ?_
  refine lv_iadd hx hb dL_1065 ?_
  refine va_sld hx hb hX hbl hbA hS (lw_in (k := 2) (by omega) hL) dL_1066 ?_
  refine lv_aload_n hx hb dL_1067 rfl (lv_at hl 0 rfl) ?_
  refine lv_iload_n hx hb dL_1068 rfl (lv_at hl 3 rfl) ?_
  refine lv_iconst (v := 3) hx hb dL_1069 (by decide) ?_
  refine lv_iadd hx hb dL_1070 ?_
  refine va_sld hx hb hX hbl hbA hS (lw_in (k := 3) (by omega) hL) dL_1071 ?_
  refine lv_aload_n hx hb dL_1072 rfl (lv_at hl 0 rfl) ?_
  refine lv_iload_n hx hb dL_1073 rfl (lv_at hl 3 rfl) ?_
  refine lv_iconst (v := 4) hx hb dL_1074 (by decide) ?_
  refine lv_iadd hx hb dL_1075 ?_
  refine va_sld hx hb hX hbl hbA hS (lw_in (k := 4) (by omega) hL) dL_1076 ?_
  refine law_call (mc1 := 0) (ms1 := 0) (ci := 11) (x := 0) (mj := mX11_report) (vs := [.int _, .int _, .int _, .int _]) (S := []) (d := 0 + 40) hx hb hml hown hts hF hS hW hl dL_1077 rfl rfl cml_X11_report wl_227 wl_228 wl_229 rfl (Nat.le_of_ble_eq_true rfl) (Nat.le_of_ble_eq_true rfl) (Nat.le_of_ble_eq_true rfl) (Nat.le_of_ble_eq_true rfl) (Nat.le_of_ble_eq_true rfl) (pb_X11_report 0 [_, _, _, _] _ rfl hi hw) ?_
  rintro _ _ H locs ⟨⟨y, rfl, -⟩, I, rfl, hi, hw⟩ hW hS
  dsimp only [Option.map, Option.toList, List.cons_append, List.nil_append, gtr]
  refine lv_pop hx hb dL_1080 rfl ?_
  refine lv_aload_n hx hb dL_1081 rfl (lv_at hl 2 rfl) ?_
  refine lv_aload_n hx hb dL_1082 rfl (lv_at hl 0 rfl) ?_
  refine lv_iload_n hx hb dL_1083 rfl (lv_at hl 3 rfl) ?_
  refine lv_iconst (v := 1) hx hb dL_1084 (by decide) ?_
  refine lv_iadd hx hb dL_1085 ?_
  refine va_sld hx hb hX hbl hbA hS (lw_in (k := 1) (by omega) hL) dL_1086 ?_
  refine lv_aload_n hx hb dL_1087 rfl (lv_at hl 0 rfl) ?_
  refine lv_iload_n hx hb dL_1088 rfl (lv_at hl 3 rfl) ?_
  refine lv_iconst (v := 2) hx hb dL_1089 (by decide) ?_
  refine lv_iadd hx hb dL_1090 ?_
  refine va_sld hx hb hX hbl hbA hS (lw_in (k := 2) (by omega) hL) dL_1091 ?_
  refine lv_aload_n hx hb dL_1092 rfl (lv_at hl 0 rfl) ?_
  refine lv_iload_n hx hb dL_1093 rfl (lv_at hl 3 rfl) ?_
  refine lv_iconst (v := 3) hx hb dL_1094 (by decide) ?_
  refine lv_iadd hx hb dL_1095 ?_
  refine va_sld hx hb hX hbl hbA hS (lw_in (k := 3) (by omega) hL) dL_1096 ?_
  refine lv_aload_n hx hb dL_1097 rfl (lv_at hl 0 rfl) ?_
  refine lv_iload_n hx hb dL_1098 rfl (lv_at hl 3 rfl) ?_
  refine lv_iconst (v := 4) hx hb dL_1099 (by decide) ?_
  refine lv_iadd hx hb dL_1100 ?_
  refine va_sld hx hb hX hbl hbA hS (lw_in (k := 4) (by omega) hL) dL_1101 ?_
  refine law_call (mc1 := 0) (ms1 := 0) (ci := 12) (x := 67) (mj := mX12_report) (vs := [.int _, .int _, .int _, .int _]) (S := []) (d := 0 + 40) hx hb hml hown hts hF hS hW hl dL_1102 rfl rfl cml_X12_report wl_231 wl_232 wl_233 rfl (Nat.le_of_ble_eq_true rfl) (Nat.le_of_ble_eq_true rfl) (Nat.le_of_ble_eq_true rfl) (Nat.le_of_ble_eq_true rfl) (Nat.le_of_ble_eq_true rfl) (pb_X12_report 0 [_, _, _, _] _ rfl hi hw) ?_
  rintro _ _ H locs ⟨⟨y, rfl, -⟩, I, rfl, hi, hw⟩ hW hS
  dsimp only [Option.map, Option.toList, List.cons_append, List.nil_append, gtr]
  refine lv_pop hx hb dL_1105 rfl ?_
  refine lv_goto (tgt := 1745) hx hb dL_1106 (by decide) ?_
  exact kk I H locs hi hw hS hW
set_option maxRecDepth 100000 in
set_option maxHeartbeats 4000000 in
theorem law_29_forget {p : Program} {l : Launch} {e : Env} {s : State} {m : MethodId} {below : List Frame} {meth : Method} {c : Code} {bs L i : Nat} {xs : Nat → Int32} {D : va_G} {cy : Nat → ClassId} (hL : L ≤ 2560) (C0 : lw_At p s m meth c bs L xs) (hF : gFx s.heap.size D cy s) {I : gI} {H : Heap} {locs : List Loc} {ls : Array Slot} (hi : aInv bT I) (hw : WF I) (hiL : i + 5 ≤ L) (hS : va_S (gA s.heap.size) s.heap H locs) (hW : gWd s.heap.size D cy (SH0, RF0, I) H) (hl : lv_has ls 4 [(0, .ref bs), (1, .ref (s.heap.size + 0)), (2, .ref (s.heap.size + 67)), (3, .int (Int32.ofNat i))]) (kk : ∀ (I : gI) (H : Heap) (locs : List Loc), aInv bT I → WF I → va_S (gA s.heap.size) s.heap H locs → gWd s.heap.size D cy (SH0, RF0, I) H → W p l e room_1 s m #[Value.ref bs] below meth c H locs 88 3546 (lw_Z below #[Value.ref bs] s) (F0 m 1745 ls [])) : W p l e room_1 s m #[Value.ref bs] below meth c H locs 88 3546 (lw_Z below #[Value.ref bs] s) (F0 m 1109 ls []) := by
  obtain ⟨hx, hb, hr, hml, hown, hts, hX, hbl, hlocks, hgv⟩ := id C0
  have hbA : ¬ gA s.heap.size bs := Nat.not_le.mpr hbl
  refine lv_aload_n hx hb dL_1109 rfl (lv_at hl 1 rfl) ?_
  refine law_call (mc1 := 0) (ms1 := 0) (ci := 11) (x := 0) (mj := mX11_forget) (vs := []) (S := []) (d := 0 + 40) hx hb hml hown hts hF hS hW hl dL_1110 rfl rfl cml_X11_forget wl_235 wl_236 wl_237 rfl (Nat.le_of_ble_eq_true rfl) (Nat.le_of_ble_eq_true rfl) (Nat.le_of_ble_eq_true rfl) (Nat.le_of_ble_eq_true rfl) (Nat.le_of_ble_eq_true rfl) (pb_X11_forget 0 [] _ rfl hi hw) ?_
  rintro _ _ H locs ⟨⟨y, rfl, -⟩, I, rfl, hi, hw⟩ hW hS
  dsimp only [Option.map, Option.toList, List.cons_append, List.nil_append, gtr]
  refine lv_pop hx hb dL_1113 rfl ?_
  refine lv_aload_n hx hb dL_1114 rfl (lv_at hl 2 rfl) ?_
  refine law_call (mc1 := 0) (ms1 := 0) (ci := 12) (x := 67) (mj := mX12_forget) (vs := []) (S := []) (d := 0 + 40) hx hb hml hown hts hF hS hW hl dL_1115 rfl rfl cml_X12_forget wl_239 wl_240 wl_241 rfl (Nat.le_of_ble_eq_true rfl) (Nat.le_of_ble_eq_true rfl) (Nat.le_of_ble_eq_true rfl) (Nat.le_of_ble_eq_true rfl) (Nat.le_of_ble_eq_true rfl) (pb_X12_forget 0 [] _ rfl hi hw) ?_
  rintro _ _ H locs ⟨⟨y, rfl, -⟩, I, rfl, hi, hw⟩ hW hS
  dsimp only [Option.map, Option.toList, List.cons_append, List.nil_append, gtr]
  refine lv_pop hx hb dL_1118 rfl ?_
  refine lv_goto (tgt := 1745) hx hb dL_1119 (by decide) ?_
  exact kk I H locs hi hw hS hW
set_option maxRecDepth 100000 in
set_option maxHeartbeats 4000000 in
theorem law_30_lone {p : Program} {l : Launch} {e : Env} {s : State} {m : MethodId} {below : List Frame} {meth : Method} {c : Code} {bs L i : Nat} {xs : Nat → Int32} {D : va_G} {cy : Nat → ClassId} (hL : L ≤ 2560) (C0 : lw_At p s m meth c bs L xs) (hF : gFx s.heap.size D cy s) {I : gI} {H : Heap} {locs : List Loc} {ls : Array Slot} (hi : aInv bT I) (hw : WF I) (hiL : i + 5 ≤ L) (hS : va_S (gA s.heap.size) s.heap H locs) (hW : gWd s.heap.size D cy (SH0, RF0, I) H) (hl : lv_has ls 4 [(0, .ref bs), (1, .ref (s.heap.size + 0)), (2, .ref (s.heap.size + 67)), (3, .int (Int32.ofNat i))]) (kk : ∀ (I : gI) (H : Heap) (locs : List Loc), aInv bT I → WF I → va_S (gA s.heap.size) s.heap H locs → gWd s.heap.size D cy (SH0, RF0, I) H → W p l e room_1 s m #[Value.ref bs] below meth c H locs 88 3546 (lw_Z below #[Value.ref bs] s) (F0 m 1745 ls [])) : W p l e room_1 s m #[Value.ref bs] below meth c H locs 88 3546 (lw_Z below #[Value.ref bs] s) (F0 m 1122 ls []) := by
  obtain ⟨hx, hb, hr, hml, hown, hts, hX, hbl, hlocks, hgv⟩ := id C0
  have hbA : ¬ gA s.heap.size bs := Nat.not_le.mpr hbl
  refine lv_aload_n hx hb dL_1122 rfl (lv_at hl 1 rfl) ?_
  refine lv_aload_n hx hb dL_1123 rfl (lv_at hl 0 rfl) ?_
  refine lv_iload_n hx hb dL_1124 rfl (lv_at hl 3 rfl) ?_
  refine lv_iconst (v := 1) hx hb dL_1125 (by decide) ?_
  refine lv_iadd hx hb dL_1126 ?_
  refine va_sld hx hb hX hbl hbA hS (lw_in (k := 1) (by omega) hL) dL_1127 ?_
  refine law_call (mc1 := 0) (ms1 := 0) (ci := 11) (x := 0) (mj := mX11_lone) (vs := [.int _]) (S := []) (d := 0 + 40) hx hb hml hown hts hF hS hW hl dL_1128 rfl rfl cml_X11_lone wl_243 wl_244 wl_245 rfl (Nat.le_of_ble_eq_true rfl) (Nat.le_of_ble_eq_true rfl) (Nat.le_of_ble_eq_true rfl) (Nat.le_of_ble_eq_true rfl) (Nat.le_of_ble_eq_true rfl) (pb_X11_lone 0 [_] _ rfl hi hw) ?_
  rintro _ _ H locs ⟨⟨y, rfl, -⟩, I, rfl, hi, hw⟩ hW hS
  dsimp only [Option.map, Option.toList, List.cons_append, List.nil_append, gtr]
  refine lv_pop hx hb dL_1131 rfl ?_
  refine lv_aload_n hx hb dL_1132 rfl (lv_at hl 2 rfl) ?_
  refine lv_aload_n hx hb dL_1133 rfl (lv_at hl 0 rfl) ?_
  refine lv_iload_n hx hb dL_1134 rfl (lv_at hl 3 rfl) ?_
  refine lv_iconst (v := 1) hx hb dL_1135 (by decide) ?_
  refine lv_iadd hx hb dL_1136 ?_
  refine va_sld hx hb hX hbl hbA hS (lw_in (k := 1) (by omega) hL) dL_1137 ?_
  refine law_call (mc1 := 0) (ms1 := 0) (ci := 12) (x := 67) (mj := mX12_lone) (vs := [.int _]) (S := []) (d := 0 + 40) hx hb hml hown hts hF hS hW hl dL_1138 rfl rfl cml_X12_lone wl_247 wl_248 wl_249 rfl (Nat.le_of_ble_eq_true rfl) (Nat.le_of_ble_eq_true rfl) (Nat.le_of_ble_eq_true rfl) (Nat.le_of_ble_eq_true rfl) (Nat.le_of_ble_eq_true rfl) (pb_X12_lone 0 [_] _ rfl hi hw) ?_
  rintro _ _ H locs ⟨⟨y, rfl, -⟩, I, rfl, hi, hw⟩ hW hS
  dsimp only [Option.map, Option.toList, List.cons_append, List.nil_append, gtr]
  refine lv_pop hx hb dL_1141 rfl ?_
  refine lv_goto (tgt := 1745) hx hb dL_1142 (by decide) ?_
  exact kk I H locs hi hw hS hW
set_option maxRecDepth 100000 in
set_option maxHeartbeats 4000000 in
theorem law_31_liar {p : Program} {l : Launch} {e : Env} {s : State} {m : MethodId} {below : List Frame} {meth : Method} {c : Code} {bs L i : Nat} {xs : Nat → Int32} {D : va_G} {cy : Nat → ClassId} (hL : L ≤ 2560) (C0 : lw_At p s m meth c bs L xs) (hF : gFx s.heap.size D cy s) {I : gI} {H : Heap} {locs : List Loc} {ls : Array Slot} (hi : aInv bT I) (hw : WF I) (hiL : i + 5 ≤ L) (hS : va_S (gA s.heap.size) s.heap H locs) (hW : gWd s.heap.size D cy (SH0, RF0, I) H) (hl : lv_has ls 4 [(0, .ref bs), (1, .ref (s.heap.size + 0)), (2, .ref (s.heap.size + 67)), (3, .int (Int32.ofNat i))]) (kk : ∀ (I : gI) (H : Heap) (locs : List Loc), aInv bT I → WF I → va_S (gA s.heap.size) s.heap H locs → gWd s.heap.size D cy (SH0, RF0, I) H → W p l e room_1 s m #[Value.ref bs] below meth c H locs 88 3546 (lw_Z below #[Value.ref bs] s) (F0 m 1745 ls [])) : W p l e room_1 s m #[Value.ref bs] below meth c H locs 88 3546 (lw_Z below #[Value.ref bs] s) (F0 m 1145 ls []) := by
  obtain ⟨hx, hb, hr, hml, hown, hts, hX, hbl, hlocks, hgv⟩ := id C0
  have hbA : ¬ gA s.heap.size bs := Nat.not_le.mpr hbl
  refine lv_aload_n hx hb dL_1145 rfl (lv_at hl 1 rfl) ?_
  refine law_call (mc1 := 0) (ms1 := 0) (ci := 11) (x := 0) (mj := mX11_liar) (vs := []) (S := []) (d := 0 + 40) hx hb hml hown hts hF hS hW hl dL_1146 rfl rfl cml_X11_liar wl_251 wl_252 wl_253 rfl (Nat.le_of_ble_eq_true rfl) (Nat.le_of_ble_eq_true rfl) (Nat.le_of_ble_eq_true rfl) (Nat.le_of_ble_eq_true rfl) (Nat.le_of_ble_eq_true rfl) (pb_X11_liar 0 [] _ rfl hi hw) ?_
  rintro _ _ H locs ⟨⟨y, rfl, -⟩, I, rfl, hi, hw⟩ hW hS
  dsimp only [Option.map, Option.toList, List.cons_append, List.nil_append, gtr]
  refine lv_pop hx hb dL_1149 rfl ?_
  refine lv_aload_n hx hb dL_1150 rfl (lv_at hl 2 rfl) ?_
  refine law_call (mc1 := 0) (ms1 := 0) (ci := 12) (x := 67) (mj := mX12_liar) (vs := []) (S := []) (d := 0 + 40) hx hb hml hown hts hF hS hW hl dL_1151 rfl rfl cml_X12_liar wl_255 wl_256 wl_257 rfl (Nat.le_of_ble_eq_true rfl) (Nat.le_of_ble_eq_true rfl) (Nat.le_of_ble_eq_true rfl) (Nat.le_of_ble_eq_true rfl) (Nat.le_of_ble_eq_true rfl) (pb_X12_liar 0 [] _ rfl hi hw) ?_
  rintro _ _ H locs ⟨⟨y, rfl, -⟩, I, rfl, hi, hw⟩ hW hS
  dsimp only [Option.map, Option.toList, List.cons_append, List.nil_append, gtr]
  refine lv_pop hx hb dL_1154 rfl ?_
  refine lv_goto (tgt := 1745) hx hb dL_1155 (by decide) ?_
  exact kk I H locs hi hw hS hW
set_option maxRecDepth 100000 in
set_option maxHeartbeats 4000000 in
theorem law_32_seed {p : Program} {l : Launch} {e : Env} {s : State} {m : MethodId} {below : List Frame} {meth : Method} {c : Code} {bs L i : Nat} {xs : Nat → Int32} {D : va_G} {cy : Nat → ClassId} (hL : L ≤ 2560) (C0 : lw_At p s m meth c bs L xs) (hF : gFx s.heap.size D cy s) {I : gI} {H : Heap} {locs : List Loc} {ls : Array Slot} (hi : aInv bT I) (hw : WF I) (hiL : i + 5 ≤ L) (hS : va_S (gA s.heap.size) s.heap H locs) (hW : gWd s.heap.size D cy (SH0, RF0, I) H) (hl : lv_has ls 4 [(0, .ref bs), (1, .ref (s.heap.size + 0)), (2, .ref (s.heap.size + 67)), (3, .int (Int32.ofNat i))]) (kk : ∀ (I : gI) (H : Heap) (locs : List Loc), aInv bT I → WF I → va_S (gA s.heap.size) s.heap H locs → gWd s.heap.size D cy (SH0, RF0, I) H → W p l e room_1 s m #[Value.ref bs] below meth c H locs 88 3546 (lw_Z below #[Value.ref bs] s) (F0 m 1745 ls [])) : W p l e room_1 s m #[Value.ref bs] below meth c H locs 88 3546 (lw_Z below #[Value.ref bs] s) (F0 m 1158 ls []) := by
  obtain ⟨hx, hb, hr, hml, hown, hts, hX, hbl, hlocks, hgv⟩ := id C0
  have hbA : ¬ gA s.heap.size bs := Nat.not_le.mpr hbl
  refine lv_aload_n hx hb dL_1158 rfl (lv_at hl 1 rfl) ?_
  refine lv_aload_n hx hb dL_1159 rfl (lv_at hl 0 rfl) ?_
  refine lv_iload_n hx hb dL_1160 rfl (lv_at hl 3 rfl) ?_
  refine lv_iconst (v := 1) hx hb dL_1161 (by decide) ?_
  refine lv_iadd hx hb dL_1162 ?_
  refine va_sld hx hb hX hbl hbA hS (lw_in (k := 1) (by omega) hL) dL_1163 ?_
  refine law_call (mc1 := 0) (ms1 := 0) (ci := 11) (x := 0) (mj := mX11_seed) (vs := [.int _]) (S := []) (d := 0 + 40) hx hb hml hown hts hF hS hW hl dL_1164 rfl rfl cml_X11_seed wl_259 wl_260 wl_261 rfl (Nat.le_of_ble_eq_true rfl) (Nat.le_of_ble_eq_true rfl) (Nat.le_of_ble_eq_true rfl) (Nat.le_of_ble_eq_true rfl) (Nat.le_of_ble_eq_true rfl) (pr_seed 0 [_] _ rfl hi hw) ?_
  rintro _ _ H locs ⟨y, I, rfl, rfl, hG⟩ hW hS
  dsimp only [Option.map, Option.toList, List.cons_append, List.nil_append, gtr]
  refine lv_pop hx hb dL_1167 rfl ?_
  refine lv_aload_n hx hb dL_1168 rfl (lv_at hl 2 rfl) ?_
  refine lv_aload_n hx hb dL_1169 rfl (lv_at hl 0 rfl) ?_
  refine lv_iload_n hx hb dL_1170 rfl (lv_at hl 3 rfl) ?_
  refine lv_iconst (v := 1) hx hb dL_1171 (by decide) ?_
  refine lv_iadd hx hb dL_1172 ?_
  refine va_sld hx hb hX hbl hbA hS (lw_in (k := 1) (by omega) hL) dL_1173 ?_
  refine law_call (mc1 := 0) (ms1 := 0) (ci := 12) (x := 67) (mj := mX12_seed) (vs := [.int _]) (S := []) (d := 0 + 40) hx hb hml hown hts hF hS hW hl dL_1174 rfl rfl cml_X12_seed wl_263 wl_264 wl_265 rfl (Nat.le_of_ble_eq_true rfl) (Nat.le_of_ble_eq_true rfl) (Nat.le_of_ble_eq_true rfl) (Nat.le_of_ble_eq_true rfl) (Nat.le_of_ble_eq_true rfl) (hG) ?_
  rintro _ _ H locs ⟨y2, I, rfl, rfl, hy, hi, hw⟩ hW hS
  dsimp only [Option.map, Option.toList, List.cons_append, List.nil_append, gtr]
  refine lv_pop hx hb dL_1177 rfl ?_
  refine lv_goto (tgt := 1745) hx hb dL_1178 (by decide) ?_
  exact kk I H locs hi hw hS hW
set_option maxRecDepth 100000 in
set_option maxHeartbeats 4000000 in
theorem law_33_lot {p : Program} {l : Launch} {e : Env} {s : State} {m : MethodId} {below : List Frame} {meth : Method} {c : Code} {bs L i : Nat} {xs : Nat → Int32} {D : va_G} {cy : Nat → ClassId} (hL : L ≤ 2560) (C0 : lw_At p s m meth c bs L xs) (hF : gFx s.heap.size D cy s) {I : gI} {H : Heap} {locs : List Loc} {ls : Array Slot} (hi : aInv bT I) (hw : WF I) (hiL : i + 5 ≤ L) (hS : va_S (gA s.heap.size) s.heap H locs) (hW : gWd s.heap.size D cy (SH0, RF0, I) H) (hl : lv_has ls 4 [(0, .ref bs), (1, .ref (s.heap.size + 0)), (2, .ref (s.heap.size + 67)), (3, .int (Int32.ofNat i))]) (kk : ∀ (I : gI) (H : Heap) (locs : List Loc), aInv bT I → WF I → va_S (gA s.heap.size) s.heap H locs → gWd s.heap.size D cy (SH0, RF0, I) H → W p l e room_1 s m #[Value.ref bs] below meth c H locs 88 3546 (lw_Z below #[Value.ref bs] s) (F0 m 1745 ls [])) : W p l e room_1 s m #[Value.ref bs] below meth c H locs 88 3546 (lw_Z below #[Value.ref bs] s) (F0 m 1181 ls []) := by
  obtain ⟨hx, hb, hr, hml, hown, hts, hX, hbl, hlocks, hgv⟩ := id C0
  have hbA : ¬ gA s.heap.size bs := Nat.not_le.mpr hbl
  refine lv_aload_n hx hb dL_1181 rfl (lv_at hl 1 rfl) ?_
  refine law_call (mc1 := 0) (ms1 := 0) (ci := 11) (x := 0) (mj := mX11_lot) (vs := []) (S := []) (d := 0 + 40) hx hb hml hown hts hF hS hW hl dL_1182 rfl rfl cml_X11_lot wl_267 wl_268 wl_269 rfl (Nat.le_of_ble_eq_true rfl) (Nat.le_of_ble_eq_true rfl) (Nat.le_of_ble_eq_true rfl) (Nat.le_of_ble_eq_true rfl) (Nat.le_of_ble_eq_true rfl) (pr_lot 0 [] _ rfl hi hw) ?_
  rintro _ _ H locs ⟨y, I, rfl, rfl, hG⟩ hW hS
  dsimp only [Option.map, Option.toList, List.cons_append, List.nil_append, gtr]
  refine lv_pop hx hb dL_1185 rfl ?_
  refine lv_aload_n hx hb dL_1186 rfl (lv_at hl 2 rfl) ?_
  refine law_call (mc1 := 0) (ms1 := 0) (ci := 12) (x := 67) (mj := mX12_lot) (vs := []) (S := []) (d := 0 + 40) hx hb hml hown hts hF hS hW hl dL_1187 rfl rfl cml_X12_lot wl_271 wl_272 wl_273 rfl (Nat.le_of_ble_eq_true rfl) (Nat.le_of_ble_eq_true rfl) (Nat.le_of_ble_eq_true rfl) (Nat.le_of_ble_eq_true rfl) (Nat.le_of_ble_eq_true rfl) (hG) ?_
  rintro _ _ H locs ⟨y2, I, rfl, rfl, hy, hi, hw⟩ hW hS
  dsimp only [Option.map, Option.toList, List.cons_append, List.nil_append, gtr]
  refine lv_pop hx hb dL_1190 rfl ?_
  refine lv_goto (tgt := 1745) hx hb dL_1191 (by decide) ?_
  exact kk I H locs hi hw hS hW
set_option maxRecDepth 100000 in
set_option maxHeartbeats 4000000 in
theorem law_34_times {p : Program} {l : Launch} {e : Env} {s : State} {m : MethodId} {below : List Frame} {meth : Method} {c : Code} {bs L i : Nat} {xs : Nat → Int32} {D : va_G} {cy : Nat → ClassId} (hL : L ≤ 2560) (C0 : lw_At p s m meth c bs L xs) (hF : gFx s.heap.size D cy s) {I : gI} {H : Heap} {locs : List Loc} {ls : Array Slot} (hi : aInv bT I) (hw : WF I) (hiL : i + 5 ≤ L) (hS : va_S (gA s.heap.size) s.heap H locs) (hW : gWd s.heap.size D cy (SH0, RF0, I) H) (hl : lv_has ls 4 [(0, .ref bs), (1, .ref (s.heap.size + 0)), (2, .ref (s.heap.size + 67)), (3, .int (Int32.ofNat i))]) (kk : ∀ (I : gI) (H : Heap) (locs : List Loc), aInv bT I → WF I → va_S (gA s.heap.size) s.heap H locs → gWd s.heap.size D cy (SH0, RF0, I) H → W p l e room_1 s m #[Value.ref bs] below meth c H locs 88 3546 (lw_Z below #[Value.ref bs] s) (F0 m 1745 ls [])) : W p l e room_1 s m #[Value.ref bs] below meth c H locs 88 3546 (lw_Z below #[Value.ref bs] s) (F0 m 1194 ls []) := by
  obtain ⟨hx, hb, hr, hml, hown, hts, hX, hbl, hlocks, hgv⟩ := id C0
  have hbA : ¬ gA s.heap.size bs := Nat.not_le.mpr hbl
  refine lv_aload_n hx hb dL_1194 rfl (lv_at hl 1 rfl) ?_
  refine lv_aload_n hx hb dL_1195 rfl (lv_at hl 0 rfl) ?_
  refine lv_iload_n hx hb dL_1196 rfl (lv_at hl 3 rfl) ?_
  refine lv_iconst (v := 1) hx hb dL_1197 (by decide) ?_
  refine lv_iadd hx hb dL_1198 ?_
  refine va_sld hx hb hX hbl hbA hS (lw_in (k := 1) (by omega) hL) dL_1199 ?_
  refine lv_aload_n hx hb dL_1200 rfl (lv_at hl 0 rfl) ?_
  refine lv_iload_n hx hb dL_1201 rfl (lv_at hl 3 rfl) ?_
  refine lv_iconst (v := 2) hx hb dL_1202 (by decide) ?_
  refine lv_iadd hx hb dL_1203 ?_
  refine va_sld hx hb hX hbl hbA hS (lw_in (k := 2) (by omega) hL) dL_1204 ?_
  refine law_call (mc1 := 0) (ms1 := 0) (ci := 11) (x := 0) (mj := mX11_times) (vs := [.int _, .int _]) (S := []) (d := 0 + 40) hx hb hml hown hts hF hS hW hl dL_1205 rfl rfl cml_X11_times wl_275 wl_276 wl_277 rfl (Nat.le_of_ble_eq_true rfl) (Nat.le_of_ble_eq_true rfl) (Nat.le_of_ble_eq_true rfl) (Nat.le_of_ble_eq_true rfl) (Nat.le_of_ble_eq_true rfl) (pb_X11_times 0 [_, _] _ rfl hi hw) ?_
  rintro _ _ H locs ⟨⟨y, rfl, -⟩, I, rfl, hi, hw⟩ hW hS
  dsimp only [Option.map, Option.toList, List.cons_append, List.nil_append, gtr]
  refine lv_pop hx hb dL_1208 rfl ?_
  refine lv_aload_n hx hb dL_1209 rfl (lv_at hl 2 rfl) ?_
  refine lv_aload_n hx hb dL_1210 rfl (lv_at hl 0 rfl) ?_
  refine lv_iload_n hx hb dL_1211 rfl (lv_at hl 3 rfl) ?_
  refine lv_iconst (v := 1) hx hb dL_1212 (by decide) ?_
  refine lv_iadd hx hb dL_1213 ?_
  refine va_sld hx hb hX hbl hbA hS (lw_in (k := 1) (by omega) hL) dL_1214 ?_
  refine lv_aload_n hx hb dL_1215 rfl (lv_at hl 0 rfl) ?_
  refine lv_iload_n hx hb dL_1216 rfl (lv_at hl 3 rfl) ?_
  refine lv_iconst (v := 2) hx hb dL_1217 (by decide) ?_
  refine lv_iadd hx hb dL_1218 ?_
  refine va_sld hx hb hX hbl hbA hS (lw_in (k := 2) (by omega) hL) dL_1219 ?_
  refine law_call (mc1 := 0) (ms1 := 0) (ci := 12) (x := 67) (mj := mX12_times) (vs := [.int _, .int _]) (S := []) (d := 0 + 40) hx hb hml hown hts hF hS hW hl dL_1220 rfl rfl cml_X12_times wl_279 wl_280 wl_281 rfl (Nat.le_of_ble_eq_true rfl) (Nat.le_of_ble_eq_true rfl) (Nat.le_of_ble_eq_true rfl) (Nat.le_of_ble_eq_true rfl) (Nat.le_of_ble_eq_true rfl) (pb_X12_times 0 [_, _] _ rfl hi hw) ?_
  rintro _ _ H locs ⟨⟨y, rfl, -⟩, I, rfl, hi, hw⟩ hW hS
  dsimp only [Option.map, Option.toList, List.cons_append, List.nil_append, gtr]
  refine lv_pop hx hb dL_1223 rfl ?_
  refine lv_goto (tgt := 1745) hx hb dL_1224 (by decide) ?_
  exact kk I H locs hi hw hS hW
set_option maxRecDepth 100000 in
set_option maxHeartbeats 4000000 in
theorem law_35_prove {p : Program} {l : Launch} {e : Env} {s : State} {m : MethodId} {below : List Frame} {meth : Method} {c : Code} {bs L i : Nat} {xs : Nat → Int32} {D : va_G} {cy : Nat → ClassId} (hL : L ≤ 2560) (C0 : lw_At p s m meth c bs L xs) (hF : gFx s.heap.size D cy s) {I : gI} {H : Heap} {locs : List Loc} {ls : Array Slot} (hi : aInv bT I) (hw : WF I) (hiL : i + 5 ≤ L) (hS : va_S (gA s.heap.size) s.heap H locs) (hW : gWd s.heap.size D cy (SH0, RF0, I) H) (hl : lv_has ls 4 [(0, .ref bs), (1, .ref (s.heap.size + 0)), (2, .ref (s.heap.size + 67)), (3, .int (Int32.ofNat i))]) (kk : ∀ (I : gI) (H : Heap) (locs : List Loc), aInv bT I → WF I → va_S (gA s.heap.size) s.heap H locs → gWd s.heap.size D cy (SH0, RF0, I) H → W p l e room_1 s m #[Value.ref bs] below meth c H locs 88 3546 (lw_Z below #[Value.ref bs] s) (F0 m 1745 ls [])) : W p l e room_1 s m #[Value.ref bs] below meth c H locs 88 3546 (lw_Z below #[Value.ref bs] s) (F0 m 1227 ls []) := by
  obtain ⟨hx, hb, hr, hml, hown, hts, hX, hbl, hlocks, hgv⟩ := id C0
  have hbA : ¬ gA s.heap.size bs := Nat.not_le.mpr hbl
  refine lv_aload_n hx hb dL_1227 rfl (lv_at hl 1 rfl) ?_
  refine lv_aload_n hx hb dL_1228 rfl (lv_at hl 0 rfl) ?_
  refine lv_iload_n hx hb dL_1229 rfl (lv_at hl 3 rfl) ?_
  refine lv_iconst (v := 1) hx hb dL_1230 (by decide) ?_
  refine lv_iadd hx hb dL_1231 ?_
  refine va_sld hx hb hX hbl hbA hS (lw_in (k := 1) (by omega) hL) dL_1232 ?_
  refine law_call (mc1 := 0) (ms1 := 0) (ci := 11) (x := 0) (mj := mX11_prove) (vs := [.int _]) (S := []) (d := 0 + 40) hx hb hml hown hts hF hS hW hl dL_1233 rfl rfl cml_X11_prove wl_283 wl_284 wl_285 rfl (Nat.le_of_ble_eq_true rfl) (Nat.le_of_ble_eq_true rfl) (Nat.le_of_ble_eq_true rfl) (Nat.le_of_ble_eq_true rfl) (Nat.le_of_ble_eq_true rfl) (pr_prove 0 [_] _ rfl hi hw) ?_
  rintro _ _ H locs ⟨y, I, rfl, rfl, hG⟩ hW hS
  dsimp only [Option.map, Option.toList, List.cons_append, List.nil_append, gtr]
  refine lv_aload_n hx hb dL_1236 rfl (lv_at hl 2 rfl) ?_
  refine lv_aload_n hx hb dL_1237 rfl (lv_at hl 0 rfl) ?_
  refine lv_iload_n hx hb dL_1238 rfl (lv_at hl 3 rfl) ?_
  refine lv_iconst (v := 1) hx hb dL_1239 (by decide) ?_
  refine lv_iadd hx hb dL_1240 ?_
  refine va_sld hx hb hX hbl hbA hS (lw_in (k := 1) (by omega) hL) dL_1241 ?_
  refine law_call (mc1 := 0) (ms1 := 0) (ci := 12) (x := 67) (mj := mX12_prove) (vs := [.int _]) (S := [.int _]) (d := 0 + 40) hx hb hml hown hts hF hS hW hl dL_1242 rfl rfl cml_X12_prove wl_287 wl_288 wl_289 rfl (Nat.le_of_ble_eq_true rfl) (Nat.le_of_ble_eq_true rfl) (Nat.le_of_ble_eq_true rfl) (Nat.le_of_ble_eq_true rfl) (Nat.le_of_ble_eq_true rfl) (hG) ?_
  rintro _ _ H locs ⟨y2, I, rfl, rfl, hy, hi, hw⟩ hW hS
  have hy := hy rfl
  subst hy
  dsimp only [Option.map, Option.toList, List.cons_append, List.nil_append, gtr]
  refine lv_icmp_eq (tgt := 1745) hx hb dL_1245 (by decide) (fun _ => ?_) (fun z => absurd rfl z)
  exact kk I H locs hi hw hS hW
set_option maxRecDepth 100000 in
set_option maxHeartbeats 4000000 in
theorem law_36_row {p : Program} {l : Launch} {e : Env} {s : State} {m : MethodId} {below : List Frame} {meth : Method} {c : Code} {bs L i : Nat} {xs : Nat → Int32} {D : va_G} {cy : Nat → ClassId} (hL : L ≤ 2560) (C0 : lw_At p s m meth c bs L xs) (hF : gFx s.heap.size D cy s) {I : gI} {H : Heap} {locs : List Loc} {ls : Array Slot} (hi : aInv bT I) (hw : WF I) (hiL : i + 5 ≤ L) (hS : va_S (gA s.heap.size) s.heap H locs) (hW : gWd s.heap.size D cy (SH0, RF0, I) H) (hl : lv_has ls 4 [(0, .ref bs), (1, .ref (s.heap.size + 0)), (2, .ref (s.heap.size + 67)), (3, .int (Int32.ofNat i))]) (kk : ∀ (I : gI) (H : Heap) (locs : List Loc), aInv bT I → WF I → va_S (gA s.heap.size) s.heap H locs → gWd s.heap.size D cy (SH0, RF0, I) H → W p l e room_1 s m #[Value.ref bs] below meth c H locs 88 3546 (lw_Z below #[Value.ref bs] s) (F0 m 1745 ls [])) : W p l e room_1 s m #[Value.ref bs] below meth c H locs 88 3546 (lw_Z below #[Value.ref bs] s) (F0 m 1250 ls []) := by
  obtain ⟨hx, hb, hr, hml, hown, hts, hX, hbl, hlocks, hgv⟩ := id C0
  have hbA : ¬ gA s.heap.size bs := Nat.not_le.mpr hbl
  refine lv_aload_n hx hb dL_1250 rfl (lv_at hl 1 rfl) ?_
  refine lv_aload_n hx hb dL_1251 rfl (lv_at hl 0 rfl) ?_
  refine lv_iload_n hx hb dL_1252 rfl (lv_at hl 3 rfl) ?_
  refine lv_iconst (v := 1) hx hb dL_1253 (by decide) ?_
  refine lv_iadd hx hb dL_1254 ?_
  refine va_sld hx hb hX hbl hbA hS (lw_in (k := 1) (by omega) hL) dL_1255 ?_
  refine lv_aload_n hx hb dL_1256 rfl (lv_at hl 0 rfl) ?_
  refine lv_iload_n hx hb dL_1257 rfl (lv_at hl 3 rfl) ?_
  refine lv_iconst (v := 2) hx hb dL_1258 (by decide) ?_
  refine lv_iadd hx hb dL_1259 ?_
  refine va_sld hx hb hX hbl hbA hS (lw_in (k := 2) (by omega) hL) dL_1260 ?_
  refine law_call (mc1 := 0) (ms1 := 0) (ci := 11) (x := 0) (mj := mX11_row) (vs := [.int _, .int _]) (S := []) (d := 0 + 40) hx hb hml hown hts hF hS hW hl dL_1261 rfl rfl cml_X11_row wl_291 wl_292 wl_293 rfl (Nat.le_of_ble_eq_true rfl) (Nat.le_of_ble_eq_true rfl) (Nat.le_of_ble_eq_true rfl) (Nat.le_of_ble_eq_true rfl) (Nat.le_of_ble_eq_true rfl) (pb_X11_row 0 [_, _] _ rfl hi hw) ?_
  rintro _ _ H locs ⟨⟨y, rfl, -⟩, I, rfl, hi, hw⟩ hW hS
  dsimp only [Option.map, Option.toList, List.cons_append, List.nil_append, gtr]
  refine lv_pop hx hb dL_1264 rfl ?_
  refine lv_aload_n hx hb dL_1265 rfl (lv_at hl 2 rfl) ?_
  refine lv_aload_n hx hb dL_1266 rfl (lv_at hl 0 rfl) ?_
  refine lv_iload_n hx hb dL_1267 rfl (lv_at hl 3 rfl) ?_
  refine lv_iconst (v := 1) hx hb dL_1268 (by decide) ?_
  refine lv_iadd hx hb dL_1269 ?_
  refine va_sld hx hb hX hbl hbA hS (lw_in (k := 1) (by omega) hL) dL_1270 ?_
  refine lv_aload_n hx hb dL_1271 rfl (lv_at hl 0 rfl) ?_
  refine lv_iload_n hx hb dL_1272 rfl (lv_at hl 3 rfl) ?_
  refine lv_iconst (v := 2) hx hb dL_1273 (by decide) ?_
  refine lv_iadd hx hb dL_1274 ?_
  refine va_sld hx hb hX hbl hbA hS (lw_in (k := 2) (by omega) hL) dL_1275 ?_
  refine law_call (mc1 := 0) (ms1 := 0) (ci := 12) (x := 67) (mj := mX12_row) (vs := [.int _, .int _]) (S := []) (d := 0 + 40) hx hb hml hown hts hF hS hW hl dL_1276 rfl rfl cml_X12_row wl_295 wl_296 wl_297 rfl (Nat.le_of_ble_eq_true rfl) (Nat.le_of_ble_eq_true rfl) (Nat.le_of_ble_eq_true rfl) (Nat.le_of_ble_eq_true rfl) (Nat.le_of_ble_eq_true rfl) (pb_X12_row 0 [_, _] _ rfl hi hw) ?_
  rintro _ _ H locs ⟨⟨y, rfl, -⟩, I, rfl, hi, hw⟩ hW hS
  dsimp only [Option.map, Option.toList, List.cons_append, List.nil_append, gtr]
  refine lv_pop hx hb dL_1279 rfl ?_
  refine lv_goto (tgt := 1745) hx hb dL_1280 (by decide) ?_
  exact kk I H locs hi hw hS hW
set_option maxRecDepth 100000 in
set_option maxHeartbeats 4000000 in
theorem law_37_alterRow {p : Program} {l : Launch} {e : Env} {s : State} {m : MethodId} {below : List Frame} {meth : Method} {c : Code} {bs L i : Nat} {xs : Nat → Int32} {D : va_G} {cy : Nat → ClassId} (hL : L ≤ 2560) (C0 : lw_At p s m meth c bs L xs) (hF : gFx s.heap.size D cy s) {I : gI} {H : Heap} {locs : List Loc} {ls : Array Slot} (hi : aInv bT I) (hw : WF I) (hiL : i + 5 ≤ L) (hS : va_S (gA s.heap.size) s.heap H locs) (hW : gWd s.heap.size D cy (SH0, RF0, I) H) (hl : lv_has ls 4 [(0, .ref bs), (1, .ref (s.heap.size + 0)), (2, .ref (s.heap.size + 67)), (3, .int (Int32.ofNat i))]) (kk : ∀ (I : gI) (H : Heap) (locs : List Loc), aInv bT I → WF I → va_S (gA s.heap.size) s.heap H locs → gWd s.heap.size D cy (SH0, RF0, I) H → W p l e room_1 s m #[Value.ref bs] below meth c H locs 88 3546 (lw_Z below #[Value.ref bs] s) (F0 m 1745 ls [])) : W p l e room_1 s m #[Value.ref bs] below meth c H locs 88 3546 (lw_Z below #[Value.ref bs] s) (F0 m 1283 ls []) := by
  obtain ⟨hx, hb, hr, hml, hown, hts, hX, hbl, hlocks, hgv⟩ := id C0
  have hbA : ¬ gA s.heap.size bs := Nat.not_le.mpr hbl
  refine lv_aload_n hx hb dL_1283 rfl (lv_at hl 1 rfl) ?_
  refine lv_aload_n hx hb dL_1284 rfl (lv_at hl 0 rfl) ?_
  refine lv_iload_n hx hb dL_1285 rfl (lv_at hl 3 rfl) ?_
  refine lv_iconst (v := 1) hx hb dL_1286 (by decide) ?_
  refine lv_iadd hx hb dL_1287 ?_
  refine va_sld hx hb hX hbl hbA hS (lw_in (k := 1) (by omega) hL) dL_1288 ?_
  refine lv_aload_n hx hb dL_1289 rfl (lv_at hl 0 rfl) ?_
  refine lv_iload_n hx hb dL_1290 rfl (lv_at hl 3 rfl) ?_
  refine lv_iconst (v := 2) hx hb dL_1291 (by decide) ?_
  refine lv_iadd hx hb dL_1292 ?_
  refine va_sld hx hb hX hbl hbA hS (lw_in (k := 2) (by omega) hL) dL_1293 ?_
  refine lv_aload_n hx hb dL_1294 rfl (lv_at hl 0 rfl) ?_
  refine lv_iload_n hx hb dL_1295 rfl (lv_at hl 3 rfl) ?_
  refine lv_iconst (v := 3) hx hb dL_1296 (by decide) ?_
  refine lv_iadd hx hb dL_1297 ?_
  refine va_sld hx hb hX hbl hbA hS (lw_in (k := 3) (by omega) hL) dL_1298 ?_
  refine law_call (mc1 := 0) (ms1 := 0) (ci := 11) (x := 0) (mj := mX11_alterRow) (vs := [.int _, .int _, .int _]) (S := []) (d := 0 + 40) hx hb hml hown hts hF hS hW hl dL_1299 rfl rfl cml_X11_alterRow wl_299 wl_300 wl_301 rfl (Nat.le_of_ble_eq_true rfl) (Nat.le_of_ble_eq_true rfl) (Nat.le_of_ble_eq_true rfl) (Nat.le_of_ble_eq_true rfl) (Nat.le_of_ble_eq_true rfl) (pb_X11_alterRow 0 [_, _, _] _ rfl hi hw) ?_
  rintro _ _ H locs ⟨⟨y, rfl, -⟩, I, rfl, hi, hw⟩ hW hS
  dsimp only [Option.map, Option.toList, List.cons_append, List.nil_append, gtr]
  refine lv_pop hx hb dL_1302 rfl ?_
  refine lv_aload_n hx hb dL_1303 rfl (lv_at hl 2 rfl) ?_
  refine lv_aload_n hx hb dL_1304 rfl (lv_at hl 0 rfl) ?_
  refine lv_iload_n hx hb dL_1305 rfl (lv_at hl 3 rfl) ?_
  refine lv_iconst (v := 1) hx hb dL_1306 (by decide) ?_
  refine lv_iadd hx hb dL_1307 ?_
  refine va_sld hx hb hX hbl hbA hS (lw_in (k := 1) (by omega) hL) dL_1308 ?_
  refine lv_aload_n hx hb dL_1309 rfl (lv_at hl 0 rfl) ?_
  refine lv_iload_n hx hb dL_1310 rfl (lv_at hl 3 rfl) ?_
  refine lv_iconst (v := 2) hx hb dL_1311 (by decide) ?_
  refine lv_iadd hx hb dL_1312 ?_
  refine va_sld hx hb hX hbl hbA hS (lw_in (k := 2) (by omega) hL) dL_1313 ?_
  refine lv_aload_n hx hb dL_1314 rfl (lv_at hl 0 rfl) ?_
  refine lv_iload_n hx hb dL_1315 rfl (lv_at hl 3 rfl) ?_
  refine lv_iconst (v := 3) hx hb dL_1316 (by decide) ?_
  refine lv_iadd hx hb dL_1317 ?_
  refine va_sld hx hb hX hbl hbA hS (lw_in (k := 3) (by omega) hL) dL_1318 ?_
  refine law_call (mc1 := 0) (ms1 := 0) (ci := 12) (x := 67) (mj := mX12_alterRow) (vs := [.int _, .int _, .int _]) (S := []) (d := 0 + 40) hx hb hml hown hts hF hS hW hl dL_1319 rfl rfl cml_X12_alterRow wl_303 wl_304 wl_305 rfl (Nat.le_of_ble_eq_true rfl) (Nat.le_of_ble_eq_true rfl) (Nat.le_of_ble_eq_true rfl) (Nat.le_of_ble_eq_true rfl) (Nat.le_of_ble_eq_true rfl) (pb_X12_alterRow 0 [_, _, _] _ rfl hi hw) ?_
  rintro _ _ H locs ⟨⟨y, rfl, -⟩, I, rfl, hi, hw⟩ hW hS
  dsimp only [Option.map, Option.toList, List.cons_append, List.nil_append, gtr]
  refine lv_pop hx hb dL_1322 rfl ?_
  refine lv_goto (tgt := 1745) hx hb dL_1323 (by decide) ?_
  exact kk I H locs hi hw hS hW
set_option maxRecDepth 100000 in
set_option maxHeartbeats 4000000 in
theorem law_38_judge {p : Program} {l : Launch} {e : Env} {s : State} {m : MethodId} {below : List Frame} {meth : Method} {c : Code} {bs L i : Nat} {xs : Nat → Int32} {D : va_G} {cy : Nat → ClassId} (hL : L ≤ 2560) (C0 : lw_At p s m meth c bs L xs) (hF : gFx s.heap.size D cy s) {I : gI} {H : Heap} {locs : List Loc} {ls : Array Slot} (hi : aInv bT I) (hw : WF I) (hiL : i + 5 ≤ L) (hS : va_S (gA s.heap.size) s.heap H locs) (hW : gWd s.heap.size D cy (SH0, RF0, I) H) (hl : lv_has ls 4 [(0, .ref bs), (1, .ref (s.heap.size + 0)), (2, .ref (s.heap.size + 67)), (3, .int (Int32.ofNat i))]) (kk : ∀ (I : gI) (H : Heap) (locs : List Loc), aInv bT I → WF I → va_S (gA s.heap.size) s.heap H locs → gWd s.heap.size D cy (SH0, RF0, I) H → W p l e room_1 s m #[Value.ref bs] below meth c H locs 88 3546 (lw_Z below #[Value.ref bs] s) (F0 m 1745 ls [])) : W p l e room_1 s m #[Value.ref bs] below meth c H locs 88 3546 (lw_Z below #[Value.ref bs] s) (F0 m 1326 ls []) := by
  obtain ⟨hx, hb, hr, hml, hown, hts, hX, hbl, hlocks, hgv⟩ := id C0
  have hbA : ¬ gA s.heap.size bs := Nat.not_le.mpr hbl
  refine lv_aload_n hx hb dL_1326 rfl (lv_at hl 1 rfl) ?_
  refine law_call (mc1 := 0) (ms1 := 0) (ci := 11) (x := 0) (mj := mX11_judge) (vs := []) (S := []) (d := 0 + 40) hx hb hml hown hts hF hS hW hl dL_1327 rfl rfl cml_X11_judge wl_307 wl_308 wl_309 rfl (Nat.le_of_ble_eq_true rfl) (Nat.le_of_ble_eq_true rfl) (Nat.le_of_ble_eq_true rfl) (Nat.le_of_ble_eq_true rfl) (Nat.le_of_ble_eq_true rfl) (pb_X11_judge 0 [] _ rfl hi hw) ?_
  rintro _ _ H locs ⟨⟨y, rfl, -⟩, I, rfl, hi, hw⟩ hW hS
  dsimp only [Option.map, Option.toList, List.cons_append, List.nil_append, gtr]
  refine lv_pop hx hb dL_1330 rfl ?_
  refine lv_aload_n hx hb dL_1331 rfl (lv_at hl 2 rfl) ?_
  refine law_call (mc1 := 0) (ms1 := 0) (ci := 12) (x := 67) (mj := mX12_judge) (vs := []) (S := []) (d := 0 + 40) hx hb hml hown hts hF hS hW hl dL_1332 rfl rfl cml_X12_judge wl_311 wl_312 wl_313 rfl (Nat.le_of_ble_eq_true rfl) (Nat.le_of_ble_eq_true rfl) (Nat.le_of_ble_eq_true rfl) (Nat.le_of_ble_eq_true rfl) (Nat.le_of_ble_eq_true rfl) (pb_X12_judge 0 [] _ rfl hi hw) ?_
  rintro _ _ H locs ⟨⟨y, rfl, -⟩, I, rfl, hi, hw⟩ hW hS
  dsimp only [Option.map, Option.toList, List.cons_append, List.nil_append, gtr]
  refine lv_pop hx hb dL_1335 rfl ?_
  refine lv_goto (tgt := 1745) hx hb dL_1336 (by decide) ?_
  exact kk I H locs hi hw hS hW
set_option maxRecDepth 100000 in
set_option maxHeartbeats 4000000 in
theorem law_39_sheet {p : Program} {l : Launch} {e : Env} {s : State} {m : MethodId} {below : List Frame} {meth : Method} {c : Code} {bs L i : Nat} {xs : Nat → Int32} {D : va_G} {cy : Nat → ClassId} (hL : L ≤ 2560) (C0 : lw_At p s m meth c bs L xs) (hF : gFx s.heap.size D cy s) {I : gI} {H : Heap} {locs : List Loc} {ls : Array Slot} (hi : aInv bT I) (hw : WF I) (hiL : i + 5 ≤ L) (hS : va_S (gA s.heap.size) s.heap H locs) (hW : gWd s.heap.size D cy (SH0, RF0, I) H) (hl : lv_has ls 4 [(0, .ref bs), (1, .ref (s.heap.size + 0)), (2, .ref (s.heap.size + 67)), (3, .int (Int32.ofNat i))]) (kk : ∀ (I : gI) (H : Heap) (locs : List Loc), aInv bT I → WF I → va_S (gA s.heap.size) s.heap H locs → gWd s.heap.size D cy (SH0, RF0, I) H → W p l e room_1 s m #[Value.ref bs] below meth c H locs 88 3546 (lw_Z below #[Value.ref bs] s) (F0 m 1745 ls [])) : W p l e room_1 s m #[Value.ref bs] below meth c H locs 88 3546 (lw_Z below #[Value.ref bs] s) (F0 m 1339 ls []) := by
  obtain ⟨hx, hb, hr, hml, hown, hts, hX, hbl, hlocks, hgv⟩ := id C0
  have hbA : ¬ gA s.heap.size bs := Nat.not_le.mpr hbl
  refine lv_aload_n hx hb dL_1339 rfl (lv_at hl 1 rfl) ?_
  refine lv_aload_n hx hb dL_1340 rfl (lv_at hl 0 rfl) ?_
  refine lv_iload_n hx hb dL_1341 rfl (lv_at hl 3 rfl) ?_
  refine lv_iconst (v := 1) hx hb dL_1342 (by decide) ?_
  refine lv_iadd hx hb dL_1343 ?_
  refine va_sld hx hb hX hbl hbA hS (lw_in (k := 1) (by omega) hL) dL_1344 ?_
  refine lv_aload_n hx hb dL_1345 rfl (lv_at hl 0 rfl) ?_
  refine lv_iload_n hx hb dL_1346 rfl (lv_at hl 3 rfl) ?_
  refine lv_iconst (v := 2) hx hb dL_1347 (by decide) ?_
  refine lv_iadd hx hb dL_1348 ?_
  refine va_sld hx hb hX hbl hbA hS (lw_in (k := 2) (by omega) hL) dL_1349 ?_
  refine lv_aload_n hx hb dL_1350 rfl (lv_at hl 0 rfl) ?_
  refine lv_iload_n hx hb dL_1351 rfl (lv_at hl 3 rfl) ?_
  refine lv_iconst (v := 3) hx hb dL_1352 (by decide) ?_
  refine lv_iadd hx hb dL_1353 ?_
  refine va_sld hx hb hX hbl hbA hS (lw_in (k := 3) (by omega) hL) dL_1354 ?_
  refine law_call (mc1 := 0) (ms1 := 0) (ci := 11) (x := 0) (mj := mX11_sheet) (vs := [.int _, .int _, .int _]) (S := []) (d := 0 + 40) hx hb hml hown hts hF hS hW hl dL_1355 rfl rfl cml_X11_sheet wl_315 wl_316 wl_317 rfl (Nat.le_of_ble_eq_true rfl) (Nat.le_of_ble_eq_true rfl) (Nat.le_of_ble_eq_true rfl) (Nat.le_of_ble_eq_true rfl) (Nat.le_of_ble_eq_true rfl) (pr_sheet 0 [_, _, _] _ rfl hi hw) ?_
  rintro _ _ H locs ⟨y, I, rfl, rfl, hG⟩ hW hS
  dsimp only [Option.map, Option.toList, List.cons_append, List.nil_append, gtr]
  refine lv_pop hx hb dL_1358 rfl ?_
  refine lv_aload_n hx hb dL_1359 rfl (lv_at hl 2 rfl) ?_
  refine lv_aload_n hx hb dL_1360 rfl (lv_at hl 0 rfl) ?_
  refine lv_iload_n hx hb dL_1361 rfl (lv_at hl 3 rfl) ?_
  refine lv_iconst (v := 1) hx hb dL_1362 (by decide) ?_
  refine lv_iadd hx hb dL_1363 ?_
  refine va_sld hx hb hX hbl hbA hS (lw_in (k := 1) (by omega) hL) dL_1364 ?_
  refine lv_aload_n hx hb dL_1365 rfl (lv_at hl 0 rfl) ?_
  refine lv_iload_n hx hb dL_1366 rfl (lv_at hl 3 rfl) ?_
  refine lv_iconst (v := 2) hx hb dL_1367 (by decide) ?_
  refine lv_iadd hx hb dL_1368 ?_
  refine va_sld hx hb hX hbl hbA hS (lw_in (k := 2) (by omega) hL) dL_1369 ?_
  refine lv_aload_n hx hb dL_1370 rfl (lv_at hl 0 rfl) ?_
  refine lv_iload_n hx hb dL_1371 rfl (lv_at hl 3 rfl) ?_
  refine lv_iconst (v := 3) hx hb dL_1372 (by decide) ?_
  refine lv_iadd hx hb dL_1373 ?_
  refine va_sld hx hb hX hbl hbA hS (lw_in (k := 3) (by omega) hL) dL_1374 ?_
  refine law_call (mc1 := 0) (ms1 := 0) (ci := 12) (x := 67) (mj := mX12_sheet) (vs := [.int _, .int _, .int _]) (S := []) (d := 0 + 40) hx hb hml hown hts hF hS hW hl dL_1375 rfl rfl cml_X12_sheet wl_319 wl_320 wl_321 rfl (Nat.le_of_ble_eq_true rfl) (Nat.le_of_ble_eq_true rfl) (Nat.le_of_ble_eq_true rfl) (Nat.le_of_ble_eq_true rfl) (Nat.le_of_ble_eq_true rfl) (hG) ?_
  rintro _ _ H locs ⟨y2, I, rfl, rfl, hy, hi, hw⟩ hW hS
  dsimp only [Option.map, Option.toList, List.cons_append, List.nil_append, gtr]
  refine lv_pop hx hb dL_1378 rfl ?_
  refine lv_goto (tgt := 1745) hx hb dL_1379 (by decide) ?_
  exact kk I H locs hi hw hS hW
set_option maxRecDepth 100000 in
set_option maxHeartbeats 4000000 in
theorem law_40_write {p : Program} {l : Launch} {e : Env} {s : State} {m : MethodId} {below : List Frame} {meth : Method} {c : Code} {bs L i : Nat} {xs : Nat → Int32} {D : va_G} {cy : Nat → ClassId} (hL : L ≤ 2560) (C0 : lw_At p s m meth c bs L xs) (hF : gFx s.heap.size D cy s) {I : gI} {H : Heap} {locs : List Loc} {ls : Array Slot} (hi : aInv bT I) (hw : WF I) (hiL : i + 5 ≤ L) (hS : va_S (gA s.heap.size) s.heap H locs) (hW : gWd s.heap.size D cy (SH0, RF0, I) H) (hl : lv_has ls 4 [(0, .ref bs), (1, .ref (s.heap.size + 0)), (2, .ref (s.heap.size + 67)), (3, .int (Int32.ofNat i))]) (kk : ∀ (I : gI) (H : Heap) (locs : List Loc), aInv bT I → WF I → va_S (gA s.heap.size) s.heap H locs → gWd s.heap.size D cy (SH0, RF0, I) H → W p l e room_1 s m #[Value.ref bs] below meth c H locs 88 3546 (lw_Z below #[Value.ref bs] s) (F0 m 1745 ls [])) : W p l e room_1 s m #[Value.ref bs] below meth c H locs 88 3546 (lw_Z below #[Value.ref bs] s) (F0 m 1382 ls []) := by
  obtain ⟨hx, hb, hr, hml, hown, hts, hX, hbl, hlocks, hgv⟩ := id C0
  have hbA : ¬ gA s.heap.size bs := Nat.not_le.mpr hbl
  refine lv_aload_n hx hb dL_1382 rfl (lv_at hl 1 rfl) ?_
  refine lv_aload_n hx hb dL_1383 rfl (lv_at hl 0 rfl) ?_
  refine lv_iload_n hx hb dL_1384 rfl (lv_at hl 3 rfl) ?_
  refine lv_iconst (v := 1) hx hb dL_1385 (by decide) ?_
  refine lv_iadd hx hb dL_1386 ?_
  refine va_sld hx hb hX hbl hbA hS (lw_in (k := 1) (by omega) hL) dL_1387 ?_
  refine lv_aload_n hx hb dL_1388 rfl (lv_at hl 0 rfl) ?_
  refine lv_iload_n hx hb dL_1389 rfl (lv_at hl 3 rfl) ?_
  refine lv_iconst (v := 2) hx hb dL_1390 (by decide) ?_
  refine lv_iadd hx hb dL_1391 ?_
  refine va_sld hx hb hX hbl hbA hS (lw_in (k := 2) (by omega) hL) dL_1392 ?_
  refine lv_aload_n hx hb dL_1393 rfl (lv_at hl 0 rfl) ?_
  refine lv_iload_n hx hb dL_1394 rfl (lv_at hl 3 rfl) ?_
  refine lv_iconst (v := 3) hx hb dL_1395 (by decide) ?_
  refine lv_iadd hx hb dL_1396 ?_
  refine va_sld hx hb hX hbl hbA hS (lw_in (k := 3) (by omega) hL) dL_1397 ?_
  refine law_call (mc1 := 0) (ms1 := 0) (ci := 11) (x := 0) (mj := mX11_write) (vs := [.int _, .int _, .int _]) (S := []) (d := 0 + 40) hx hb hml hown hts hF hS hW hl dL_1398 rfl rfl cml_X11_write wl_323 wl_324 wl_325 rfl (Nat.le_of_ble_eq_true rfl) (Nat.le_of_ble_eq_true rfl) (Nat.le_of_ble_eq_true rfl) (Nat.le_of_ble_eq_true rfl) (Nat.le_of_ble_eq_true rfl) (pr_write 0 [_, _, _] _ rfl hi hw) ?_
  rintro _ _ H locs ⟨y, I, rfl, rfl, hG⟩ hW hS
  dsimp only [Option.map, Option.toList, List.cons_append, List.nil_append, gtr]
  refine lv_pop hx hb dL_1401 rfl ?_
  refine lv_aload_n hx hb dL_1402 rfl (lv_at hl 2 rfl) ?_
  refine lv_aload_n hx hb dL_1403 rfl (lv_at hl 0 rfl) ?_
  refine lv_iload_n hx hb dL_1404 rfl (lv_at hl 3 rfl) ?_
  refine lv_iconst (v := 1) hx hb dL_1405 (by decide) ?_
  refine lv_iadd hx hb dL_1406 ?_
  refine va_sld hx hb hX hbl hbA hS (lw_in (k := 1) (by omega) hL) dL_1407 ?_
  refine lv_aload_n hx hb dL_1408 rfl (lv_at hl 0 rfl) ?_
  refine lv_iload_n hx hb dL_1409 rfl (lv_at hl 3 rfl) ?_
  refine lv_iconst (v := 2) hx hb dL_1410 (by decide) ?_
  refine lv_iadd hx hb dL_1411 ?_
  refine va_sld hx hb hX hbl hbA hS (lw_in (k := 2) (by omega) hL) dL_1412 ?_
  refine lv_aload_n hx hb dL_1413 rfl (lv_at hl 0 rfl) ?_
  refine lv_iload_n hx hb dL_1414 rfl (lv_at hl 3 rfl) ?_
  refine lv_iconst (v := 3) hx hb dL_1415 (by decide) ?_
  refine lv_iadd hx hb dL_1416 ?_
  refine va_sld hx hb hX hbl hbA hS (lw_in (k := 3) (by omega) hL) dL_1417 ?_
  refine law_call (mc1 := 0) (ms1 := 0) (ci := 12) (x := 67) (mj := mX12_write) (vs := [.int _, .int _, .int _]) (S := []) (d := 0 + 40) hx hb hml hown hts hF hS hW hl dL_1418 rfl rfl cml_X12_write wl_327 wl_328 wl_329 rfl (Nat.le_of_ble_eq_true rfl) (Nat.le_of_ble_eq_true rfl) (Nat.le_of_ble_eq_true rfl) (Nat.le_of_ble_eq_true rfl) (Nat.le_of_ble_eq_true rfl) (hG) ?_
  rintro _ _ H locs ⟨y2, I, rfl, rfl, hy, hi, hw⟩ hW hS
  dsimp only [Option.map, Option.toList, List.cons_append, List.nil_append, gtr]
  refine lv_pop hx hb dL_1421 rfl ?_
  refine lv_goto (tgt := 1745) hx hb dL_1422 (by decide) ?_
  exact kk I H locs hi hw hS hW
set_option maxRecDepth 100000 in
set_option maxHeartbeats 4000000 in
theorem law_41_item {p : Program} {l : Launch} {e : Env} {s : State} {m : MethodId} {below : List Frame} {meth : Method} {c : Code} {bs L i : Nat} {xs : Nat → Int32} {D : va_G} {cy : Nat → ClassId} (hL : L ≤ 2560) (C0 : lw_At p s m meth c bs L xs) (hF : gFx s.heap.size D cy s) {I : gI} {H : Heap} {locs : List Loc} {ls : Array Slot} (hi : aInv bT I) (hw : WF I) (hiL : i + 5 ≤ L) (hS : va_S (gA s.heap.size) s.heap H locs) (hW : gWd s.heap.size D cy (SH0, RF0, I) H) (hl : lv_has ls 4 [(0, .ref bs), (1, .ref (s.heap.size + 0)), (2, .ref (s.heap.size + 67)), (3, .int (Int32.ofNat i))]) (kk : ∀ (I : gI) (H : Heap) (locs : List Loc), aInv bT I → WF I → va_S (gA s.heap.size) s.heap H locs → gWd s.heap.size D cy (SH0, RF0, I) H → W p l e room_1 s m #[Value.ref bs] below meth c H locs 88 3546 (lw_Z below #[Value.ref bs] s) (F0 m 1745 ls [])) : W p l e room_1 s m #[Value.ref bs] below meth c H locs 88 3546 (lw_Z below #[Value.ref bs] s) (F0 m 1425 ls []) := by
  obtain ⟨hx, hb, hr, hml, hown, hts, hX, hbl, hlocks, hgv⟩ := id C0
  have hbA : ¬ gA s.heap.size bs := Nat.not_le.mpr hbl
  refine lv_aload_n hx hb dL_1425 rfl (lv_at hl 1 rfl) ?_
  refine lv_aload_n hx hb dL_1426 rfl (lv_at hl 0 rfl) ?_
  refine lv_iload_n hx hb dL_1427 rfl (lv_at hl 3 rfl) ?_
  refine lv_iconst (v := 1) hx hb dL_1428 (by decide) ?_
  refine lv_iadd hx hb dL_1429 ?_
  refine va_sld hx hb hX hbl hbA hS (lw_in (k := 1) (by omega) hL) dL_1430 ?_
  refine lv_aload_n hx hb dL_1431 rfl (lv_at hl 0 rfl) ?_
  refine lv_iload_n hx hb dL_1432 rfl (lv_at hl 3 rfl) ?_
  refine lv_iconst (v := 2) hx hb dL_1433 (by decide) ?_
  refine lv_iadd hx hb dL_1434 ?_
  refine va_sld hx hb hX hbl hbA hS (lw_in (k := 2) (by omega) hL) dL_1435 ?_
  refine lv_aload_n hx hb dL_1436 rfl (lv_at hl 0 rfl) ?_
  refine lv_iload_n hx hb dL_1437 rfl (lv_at hl 3 rfl) ?_
  refine lv_iconst (v := 3) hx hb dL_1438 (by decide) ?_
  refine lv_iadd hx hb dL_1439 ?_
  refine va_sld hx hb hX hbl hbA hS (lw_in (k := 3) (by omega) hL) dL_1440 ?_
  refine law_call (mc1 := 0) (ms1 := 0) (ci := 11) (x := 0) (mj := mX11_item) (vs := [.int _, .int _, .int _]) (S := []) (d := 0 + 40) hx hb hml hown hts hF hS hW hl dL_1441 rfl rfl cml_X11_item wl_331 wl_332 wl_333 rfl (Nat.le_of_ble_eq_true rfl) (Nat.le_of_ble_eq_true rfl) (Nat.le_of_ble_eq_true rfl) (Nat.le_of_ble_eq_true rfl) (Nat.le_of_ble_eq_true rfl) (pb_X11_item 0 [_, _, _] _ rfl hi hw) ?_
  rintro _ _ H locs ⟨⟨y, rfl, -⟩, I, rfl, hi, hw⟩ hW hS
  dsimp only [Option.map, Option.toList, List.cons_append, List.nil_append, gtr]
  refine lv_pop hx hb dL_1444 rfl ?_
  refine lv_aload_n hx hb dL_1445 rfl (lv_at hl 2 rfl) ?_
  refine lv_aload_n hx hb dL_1446 rfl (lv_at hl 0 rfl) ?_
  refine lv_iload_n hx hb dL_1447 rfl (lv_at hl 3 rfl) ?_
  refine lv_iconst (v := 1) hx hb dL_1448 (by decide) ?_
  refine lv_iadd hx hb dL_1449 ?_
  refine va_sld hx hb hX hbl hbA hS (lw_in (k := 1) (by omega) hL) dL_1450 ?_
  refine lv_aload_n hx hb dL_1451 rfl (lv_at hl 0 rfl) ?_
  refine lv_iload_n hx hb dL_1452 rfl (lv_at hl 3 rfl) ?_
  refine lv_iconst (v := 2) hx hb dL_1453 (by decide) ?_
  refine lv_iadd hx hb dL_1454 ?_
  refine va_sld hx hb hX hbl hbA hS (lw_in (k := 2) (by omega) hL) dL_1455 ?_
  refine lv_aload_n hx hb dL_1456 rfl (lv_at hl 0 rfl) ?_
  refine lv_iload_n hx hb dL_1457 rfl (lv_at hl 3 rfl) ?_
  refine lv_iconst (v := 3) hx hb dL_1458 (by decide) ?_
  refine lv_iadd hx hb dL_1459 ?_
  refine va_sld hx hb hX hbl hbA hS (lw_in (k := 3) (by omega) hL) dL_1460 ?_
  refine law_call (mc1 := 0) (ms1 := 0) (ci := 12) (x := 67) (mj := mX12_item) (vs := [.int _, .int _, .int _]) (S := []) (d := 0 + 40) hx hb hml hown hts hF hS hW hl dL_1461 rfl rfl cml_X12_item wl_335 wl_336 wl_337 rfl (Nat.le_of_ble_eq_true rfl) (Nat.le_of_ble_eq_true rfl) (Nat.le_of_ble_eq_true rfl) (Nat.le_of_ble_eq_true rfl) (Nat.le_of_ble_eq_true rfl) (pb_X12_item 0 [_, _, _] _ rfl hi hw) ?_
  rintro _ _ H locs ⟨⟨y, rfl, -⟩, I, rfl, hi, hw⟩ hW hS
  dsimp only [Option.map, Option.toList, List.cons_append, List.nil_append, gtr]
  refine lv_pop hx hb dL_1464 rfl ?_
  refine lv_goto (tgt := 1745) hx hb dL_1465 (by decide) ?_
  exact kk I H locs hi hw hS hW
set_option maxRecDepth 100000 in
set_option maxHeartbeats 4000000 in
theorem law_42_goAll {p : Program} {l : Launch} {e : Env} {s : State} {m : MethodId} {below : List Frame} {meth : Method} {c : Code} {bs L i : Nat} {xs : Nat → Int32} {D : va_G} {cy : Nat → ClassId} (hL : L ≤ 2560) (C0 : lw_At p s m meth c bs L xs) (hF : gFx s.heap.size D cy s) {I : gI} {H : Heap} {locs : List Loc} {ls : Array Slot} (hi : aInv bT I) (hw : WF I) (hiL : i + 5 ≤ L) (hS : va_S (gA s.heap.size) s.heap H locs) (hW : gWd s.heap.size D cy (SH0, RF0, I) H) (hl : lv_has ls 4 [(0, .ref bs), (1, .ref (s.heap.size + 0)), (2, .ref (s.heap.size + 67)), (3, .int (Int32.ofNat i))]) (kk : ∀ (I : gI) (H : Heap) (locs : List Loc), aInv bT I → WF I → va_S (gA s.heap.size) s.heap H locs → gWd s.heap.size D cy (SH0, RF0, I) H → W p l e room_1 s m #[Value.ref bs] below meth c H locs 88 3546 (lw_Z below #[Value.ref bs] s) (F0 m 1745 ls [])) : W p l e room_1 s m #[Value.ref bs] below meth c H locs 88 3546 (lw_Z below #[Value.ref bs] s) (F0 m 1468 ls []) := by
  obtain ⟨hx, hb, hr, hml, hown, hts, hX, hbl, hlocks, hgv⟩ := id C0
  have hbA : ¬ gA s.heap.size bs := Nat.not_le.mpr hbl
  refine lv_aload_n hx hb dL_1468 rfl (lv_at hl 1 rfl) ?_
  refine lv_aload_n hx hb dL_1469 rfl (lv_at hl 0 rfl) ?_
  refine lv_iload_n hx hb dL_1470 rfl (lv_at hl 3 rfl) ?_
  refine lv_iconst (v := 1) hx hb dL_1471 (by decide) ?_
  refine lv_iadd hx hb dL_1472 ?_
  refine va_sld hx hb hX hbl hbA hS (lw_in (k := 1) (by omega) hL) dL_1473 ?_
  refine lv_aload_n hx hb dL_1474 rfl (lv_at hl 0 rfl) ?_
  refine lv_iload_n hx hb dL_1475 rfl (lv_at hl 3 rfl) ?_
  refine lv_iconst (v := 2) hx hb dL_1476 (by decide) ?_
  refine lv_iadd hx hb dL_1477 ?_
  refine va_sld hx hb hX hbl hbA hS (lw_in (k := 2) (by omega) hL) dL_1478 ?_
  refine lv_aload_n hx hb dL_1479 rfl (lv_at hl 0 rfl) ?_
  refine lv_iload_n hx hb dL_1480 rfl (lv_at hl 3 rfl) ?_
  refine lv_iconst (v := 3) hx hb dL_1481 (by decide) ?_
  refine lv_iadd hx hb dL_1482 ?_
  refine va_sld hx hb hX hbl hbA hS (lw_in (k := 3) (by omega) hL) dL_1483 ?_
  refine law_call (mc1 := 0) (ms1 := 0) (ci := 11) (x := 0) (mj := mX11_goAll) (vs := [.int _, .int _, .int _]) (S := []) (d := 0 + 40) hx hb hml hown hts hF hS hW hl dL_1484 rfl rfl cml_X11_goAll wl_339 wl_340 wl_341 rfl (Nat.le_of_ble_eq_true rfl) (Nat.le_of_ble_eq_true rfl) (Nat.le_of_ble_eq_true rfl) (Nat.le_of_ble_eq_true rfl) (Nat.le_of_ble_eq_true rfl) (pr_goAll 0 [_, _, _] _ rfl hi hw) ?_
  rintro _ _ H locs ⟨y, I, rfl, rfl, hG⟩ hW hS
  dsimp only [Option.map, Option.toList, List.cons_append, List.nil_append, gtr]
  refine lv_pop hx hb dL_1487 rfl ?_
  refine lv_aload_n hx hb dL_1488 rfl (lv_at hl 2 rfl) ?_
  refine lv_aload_n hx hb dL_1489 rfl (lv_at hl 0 rfl) ?_
  refine lv_iload_n hx hb dL_1490 rfl (lv_at hl 3 rfl) ?_
  refine lv_iconst (v := 1) hx hb dL_1491 (by decide) ?_
  refine lv_iadd hx hb dL_1492 ?_
  refine va_sld hx hb hX hbl hbA hS (lw_in (k := 1) (by omega) hL) dL_1493 ?_
  refine lv_aload_n hx hb dL_1494 rfl (lv_at hl 0 rfl) ?_
  refine lv_iload_n hx hb dL_1495 rfl (lv_at hl 3 rfl) ?_
  refine lv_iconst (v := 2) hx hb dL_1496 (by decide) ?_
  refine lv_iadd hx hb dL_1497 ?_
  refine va_sld hx hb hX hbl hbA hS (lw_in (k := 2) (by omega) hL) dL_1498 ?_
  refine lv_aload_n hx hb dL_1499 rfl (lv_at hl 0 rfl) ?_
  refine lv_iload_n hx hb dL_1500 rfl (lv_at hl 3 rfl) ?_
  refine lv_iconst (v := 3) hx hb dL_1501 (by decide) ?_
  refine lv_iadd hx hb dL_1502 ?_
  refine va_sld hx hb hX hbl hbA hS (lw_in (k := 3) (by omega) hL) dL_1503 ?_
  refine law_call (mc1 := 0) (ms1 := 0) (ci := 12) (x := 67) (mj := mX12_goAll) (vs := [.int _, .int _, .int _]) (S := []) (d := 0 + 40) hx hb hml hown hts hF hS hW hl dL_1504 rfl rfl cml_X12_goAll wl_343 wl_344 wl_345 rfl (Nat.le_of_ble_eq_true rfl) (Nat.le_of_ble_eq_true rfl) (Nat.le_of_ble_eq_true rfl) (Nat.le_of_ble_eq_true rfl) (Nat.le_of_ble_eq_true rfl) (hG) ?_
  rintro _ _ H locs ⟨y2, I, rfl, rfl, hy, hi, hw⟩ hW hS
  dsimp only [Option.map, Option.toList, List.cons_append, List.nil_append, gtr]
  refine lv_pop hx hb dL_1507 rfl ?_
  refine lv_goto (tgt := 1745) hx hb dL_1508 (by decide) ?_
  exact kk I H locs hi hw hS hW
set_option maxRecDepth 100000 in
set_option maxHeartbeats 4000000 in
theorem law_43_wouldBe {p : Program} {l : Launch} {e : Env} {s : State} {m : MethodId} {below : List Frame} {meth : Method} {c : Code} {bs L i : Nat} {xs : Nat → Int32} {D : va_G} {cy : Nat → ClassId} (hL : L ≤ 2560) (C0 : lw_At p s m meth c bs L xs) (hF : gFx s.heap.size D cy s) {I : gI} {H : Heap} {locs : List Loc} {ls : Array Slot} (hi : aInv bT I) (hw : WF I) (hiL : i + 5 ≤ L) (hS : va_S (gA s.heap.size) s.heap H locs) (hW : gWd s.heap.size D cy (SH0, RF0, I) H) (hl : lv_has ls 4 [(0, .ref bs), (1, .ref (s.heap.size + 0)), (2, .ref (s.heap.size + 67)), (3, .int (Int32.ofNat i))]) (kk : ∀ (I : gI) (H : Heap) (locs : List Loc), aInv bT I → WF I → va_S (gA s.heap.size) s.heap H locs → gWd s.heap.size D cy (SH0, RF0, I) H → W p l e room_1 s m #[Value.ref bs] below meth c H locs 88 3546 (lw_Z below #[Value.ref bs] s) (F0 m 1745 ls [])) : W p l e room_1 s m #[Value.ref bs] below meth c H locs 88 3546 (lw_Z below #[Value.ref bs] s) (F0 m 1511 ls []) := by
  obtain ⟨hx, hb, hr, hml, hown, hts, hX, hbl, hlocks, hgv⟩ := id C0
  have hbA : ¬ gA s.heap.size bs := Nat.not_le.mpr hbl
  refine lv_aload_n hx hb dL_1511 rfl (lv_at hl 1 rfl) ?_
  refine lv_aload_n hx hb dL_1512 rfl (lv_at hl 0 rfl) ?_
  refine lv_iload_n hx hb dL_1513 rfl (lv_at hl 3 rfl) ?_
  refine lv_iconst (v := 1) hx hb dL_1514 (by decide) ?_
  refine lv_iadd hx hb dL_1515 ?_
  refine va_sld hx hb hX hbl hbA hS (lw_in (k := 1) (by omega) hL) dL_1516 ?_
  refine lv_aload_n hx hb dL_1517 rfl (lv_at hl 0 rfl) ?_
  refine lv_iload_n hx hb dL_1518 rfl (lv_at hl 3 rfl) ?_
  refine lv_iconst (v := 2) hx hb dL_1519 (by decide) ?_
  refine lv_iadd hx hb dL_1520 ?_
  refine va_sld hx hb hX hbl hbA hS (lw_in (k := 2) (by omega) hL) dL_1521 ?_
  refine lv_aload_n hx hb dL_1522 rfl (lv_at hl 0 rfl) ?_
  refine lv_iload_n hx hb dL_1523 rfl (lv_at hl 3 rfl) ?_
  refine lv_iconst (v := 3) hx hb dL_1524 (by decide) ?_
  refine lv_iadd hx hb dL_1525 ?_
  refine va_sld hx hb hX hbl hbA hS (lw_in (k := 3) (by omega) hL) dL_1526 ?_
  refine law_call (mc1 := 0) (ms1 := 0) (ci := 11) (x := 0) (mj := mX11_wouldBe) (vs := [.int _, .int _, .int _]) (S := []) (d := 0 + 40) hx hb hml hown hts hF hS hW hl dL_1527 rfl rfl cml_X11_wouldBe wl_347 wl_348 wl_349 rfl (Nat.le_of_ble_eq_true rfl) (Nat.le_of_ble_eq_true rfl) (Nat.le_of_ble_eq_true rfl) (Nat.le_of_ble_eq_true rfl) (Nat.le_of_ble_eq_true rfl) (pb_X11_wouldBe 0 [_, _, _] _ rfl hi hw) ?_
  rintro _ _ H locs ⟨⟨y, rfl, -⟩, I, rfl, hi, hw⟩ hW hS
  dsimp only [Option.map, Option.toList, List.cons_append, List.nil_append, gtr]
  refine lv_pop hx hb dL_1530 rfl ?_
  refine lv_aload_n hx hb dL_1531 rfl (lv_at hl 2 rfl) ?_
  refine lv_aload_n hx hb dL_1532 rfl (lv_at hl 0 rfl) ?_
  refine lv_iload_n hx hb dL_1533 rfl (lv_at hl 3 rfl) ?_
  refine lv_iconst (v := 1) hx hb dL_1534 (by decide) ?_
  refine lv_iadd hx hb dL_1535 ?_
  refine va_sld hx hb hX hbl hbA hS (lw_in (k := 1) (by omega) hL) dL_1536 ?_
  refine lv_aload_n hx hb dL_1537 rfl (lv_at hl 0 rfl) ?_
  refine lv_iload_n hx hb dL_1538 rfl (lv_at hl 3 rfl) ?_
  refine lv_iconst (v := 2) hx hb dL_1539 (by decide) ?_
  refine lv_iadd hx hb dL_1540 ?_
  refine va_sld hx hb hX hbl hbA hS (lw_in (k := 2) (by omega) hL) dL_1541 ?_
  refine lv_aload_n hx hb dL_1542 rfl (lv_at hl 0 rfl) ?_
  refine lv_iload_n hx hb dL_1543 rfl (lv_at hl 3 rfl) ?_
  refine lv_iconst (v := 3) hx hb dL_1544 (by decide) ?_
  refine lv_iadd hx hb dL_1545 ?_
  refine va_sld hx hb hX hbl hbA hS (lw_in (k := 3) (by omega) hL) dL_1546 ?_
  refine law_call (mc1 := 0) (ms1 := 0) (ci := 12) (x := 67) (mj := mX12_wouldBe) (vs := [.int _, .int _, .int _]) (S := []) (d := 0 + 40) hx hb hml hown hts hF hS hW hl dL_1547 rfl rfl cml_X12_wouldBe wl_351 wl_352 wl_353 rfl (Nat.le_of_ble_eq_true rfl) (Nat.le_of_ble_eq_true rfl) (Nat.le_of_ble_eq_true rfl) (Nat.le_of_ble_eq_true rfl) (Nat.le_of_ble_eq_true rfl) (pb_X12_wouldBe 0 [_, _, _] _ rfl hi hw) ?_
  rintro _ _ H locs ⟨⟨y, rfl, -⟩, I, rfl, hi, hw⟩ hW hS
  dsimp only [Option.map, Option.toList, List.cons_append, List.nil_append, gtr]
  refine lv_pop hx hb dL_1550 rfl ?_
  refine lv_goto (tgt := 1745) hx hb dL_1551 (by decide) ?_
  exact kk I H locs hi hw hS hW
set_option maxRecDepth 100000 in
set_option maxHeartbeats 4000000 in
theorem law_44_shelf {p : Program} {l : Launch} {e : Env} {s : State} {m : MethodId} {below : List Frame} {meth : Method} {c : Code} {bs L i : Nat} {xs : Nat → Int32} {D : va_G} {cy : Nat → ClassId} (hL : L ≤ 2560) (C0 : lw_At p s m meth c bs L xs) (hF : gFx s.heap.size D cy s) {I : gI} {H : Heap} {locs : List Loc} {ls : Array Slot} (hi : aInv bT I) (hw : WF I) (hiL : i + 5 ≤ L) (hS : va_S (gA s.heap.size) s.heap H locs) (hW : gWd s.heap.size D cy (SH0, RF0, I) H) (hl : lv_has ls 4 [(0, .ref bs), (1, .ref (s.heap.size + 0)), (2, .ref (s.heap.size + 67)), (3, .int (Int32.ofNat i))]) (kk : ∀ (I : gI) (H : Heap) (locs : List Loc), aInv bT I → WF I → va_S (gA s.heap.size) s.heap H locs → gWd s.heap.size D cy (SH0, RF0, I) H → W p l e room_1 s m #[Value.ref bs] below meth c H locs 88 3546 (lw_Z below #[Value.ref bs] s) (F0 m 1745 ls [])) : W p l e room_1 s m #[Value.ref bs] below meth c H locs 88 3546 (lw_Z below #[Value.ref bs] s) (F0 m 1554 ls []) := by
  obtain ⟨hx, hb, hr, hml, hown, hts, hX, hbl, hlocks, hgv⟩ := id C0
  have hbA : ¬ gA s.heap.size bs := Nat.not_le.mpr hbl
  refine lv_aload_n hx hb dL_1554 rfl (lv_at hl 1 rfl) ?_
  refine lv_aload_n hx hb dL_1555 rfl (lv_at hl 0 rfl) ?_
  refine lv_iload_n hx hb dL_1556 rfl (lv_at hl 3 rfl) ?_
  refine lv_iconst (v := 1) hx hb dL_1557 (by decide) ?_
  refine lv_iadd hx hb dL_1558 ?_
  refine va_sld hx hb hX hbl hbA hS (lw_in (k := 1) (by omega) hL) dL_1559 ?_
  refine lv_aload_n hx hb dL_1560 rfl (lv_at hl 0 rfl) ?_
  refine lv_iload_n hx hb dL_1561 rfl (lv_at hl 3 rfl) ?_
  refine lv_iconst (v := 2) hx hb dL_1562 (by decide) ?_
  refine lv_iadd hx hb dL_1563 ?_
  refine va_sld hx hb hX hbl hbA hS (lw_in (k := 2) (by omega) hL) dL_1564 ?_
  refine lv_aload_n hx hb dL_1565 rfl (lv_at hl 0 rfl) ?_
  refine lv_iload_n hx hb dL_1566 rfl (lv_at hl 3 rfl) ?_
  refine lv_iconst (v := 3) hx hb dL_1567 (by decide) ?_
  refine lv_iadd hx hb dL_1568 ?_
  refine va_sld hx hb hX hbl hbA hS (lw_in (k := 3) (by omega) hL) dL_1569 ?_
  refine law_call (mc1 := 0) (ms1 := 0) (ci := 11) (x := 0) (mj := mX11_shelf) (vs := [.int _, .int _, .int _]) (S := []) (d := 0 + 40) hx hb hml hown hts hF hS hW hl dL_1570 rfl rfl cml_X11_shelf wl_355 wl_356 wl_357 rfl (Nat.le_of_ble_eq_true rfl) (Nat.le_of_ble_eq_true rfl) (Nat.le_of_ble_eq_true rfl) (Nat.le_of_ble_eq_true rfl) (Nat.le_of_ble_eq_true rfl) (pb_X11_shelf 0 [_, _, _] _ rfl hi hw) ?_
  rintro _ _ H locs ⟨⟨y, rfl, -⟩, I, rfl, hi, hw⟩ hW hS
  dsimp only [Option.map, Option.toList, List.cons_append, List.nil_append, gtr]
  refine lv_pop hx hb dL_1573 rfl ?_
  refine lv_aload_n hx hb dL_1574 rfl (lv_at hl 2 rfl) ?_
  refine lv_aload_n hx hb dL_1575 rfl (lv_at hl 0 rfl) ?_
  refine lv_iload_n hx hb dL_1576 rfl (lv_at hl 3 rfl) ?_
  refine lv_iconst (v := 1) hx hb dL_1577 (by decide) ?_
  refine lv_iadd hx hb dL_1578 ?_
  refine va_sld hx hb hX hbl hbA hS (lw_in (k := 1) (by omega) hL) dL_1579 ?_
  refine lv_aload_n hx hb dL_1580 rfl (lv_at hl 0 rfl) ?_
  refine lv_iload_n hx hb dL_1581 rfl (lv_at hl 3 rfl) ?_
  refine lv_iconst (v := 2) hx hb dL_1582 (by decide) ?_
  refine lv_iadd hx hb dL_1583 ?_
  refine va_sld hx hb hX hbl hbA hS (lw_in (k := 2) (by omega) hL) dL_1584 ?_
  refine lv_aload_n hx hb dL_1585 rfl (lv_at hl 0 rfl) ?_
  refine lv_iload_n hx hb dL_1586 rfl (lv_at hl 3 rfl) ?_
  refine lv_iconst (v := 3) hx hb dL_1587 (by decide) ?_
  refine lv_iadd hx hb dL_1588 ?_
  refine va_sld hx hb hX hbl hbA hS (lw_in (k := 3) (by omega) hL) dL_1589 ?_
  refine law_call (mc1 := 0) (ms1 := 0) (ci := 12) (x := 67) (mj := mX12_shelf) (vs := [.int _, .int _, .int _]) (S := []) (d := 0 + 40) hx hb hml hown hts hF hS hW hl dL_1590 rfl rfl cml_X12_shelf wl_359 wl_360 wl_361 rfl (Nat.le_of_ble_eq_true rfl) (Nat.le_of_ble_eq_true rfl) (Nat.le_of_ble_eq_true rfl) (Nat.le_of_ble_eq_true rfl) (Nat.le_of_ble_eq_true rfl) (pb_X12_shelf 0 [_, _, _] _ rfl hi hw) ?_
  rintro _ _ H locs ⟨⟨y, rfl, -⟩, I, rfl, hi, hw⟩ hW hS
  dsimp only [Option.map, Option.toList, List.cons_append, List.nil_append, gtr]
  refine lv_pop hx hb dL_1593 rfl ?_
  refine lv_goto (tgt := 1745) hx hb dL_1594 (by decide) ?_
  exact kk I H locs hi hw hS hW
set_option maxRecDepth 100000 in
set_option maxHeartbeats 4000000 in
theorem law_45_taken {p : Program} {l : Launch} {e : Env} {s : State} {m : MethodId} {below : List Frame} {meth : Method} {c : Code} {bs L i : Nat} {xs : Nat → Int32} {D : va_G} {cy : Nat → ClassId} (hL : L ≤ 2560) (C0 : lw_At p s m meth c bs L xs) (hF : gFx s.heap.size D cy s) {I : gI} {H : Heap} {locs : List Loc} {ls : Array Slot} (hi : aInv bT I) (hw : WF I) (hiL : i + 5 ≤ L) (hS : va_S (gA s.heap.size) s.heap H locs) (hW : gWd s.heap.size D cy (SH0, RF0, I) H) (hl : lv_has ls 4 [(0, .ref bs), (1, .ref (s.heap.size + 0)), (2, .ref (s.heap.size + 67)), (3, .int (Int32.ofNat i))]) (kk : ∀ (I : gI) (H : Heap) (locs : List Loc), aInv bT I → WF I → va_S (gA s.heap.size) s.heap H locs → gWd s.heap.size D cy (SH0, RF0, I) H → W p l e room_1 s m #[Value.ref bs] below meth c H locs 88 3546 (lw_Z below #[Value.ref bs] s) (F0 m 1745 ls [])) : W p l e room_1 s m #[Value.ref bs] below meth c H locs 88 3546 (lw_Z below #[Value.ref bs] s) (F0 m 1597 ls []) := by
  obtain ⟨hx, hb, hr, hml, hown, hts, hX, hbl, hlocks, hgv⟩ := id C0
  have hbA : ¬ gA s.heap.size bs := Nat.not_le.mpr hbl
  refine lv_aload_n hx hb dL_1597 rfl (lv_at hl 1 rfl) ?_
  refine lv_aload_n hx hb dL_1598 rfl (lv_at hl 0 rfl) ?_
  refine lv_iload_n hx hb dL_1599 rfl (lv_at hl 3 rfl) ?_
  refine lv_iconst (v := 1) hx hb dL_1600 (by decide) ?_
  refine lv_iadd hx hb dL_1601 ?_
  refine va_sld hx hb hX hbl hbA hS (lw_in (k := 1) (by omega) hL) dL_1602 ?_
  refine lv_aload_n hx hb dL_1603 rfl (lv_at hl 0 rfl) ?_
  refine lv_iload_n hx hb dL_1604 rfl (lv_at hl 3 rfl) ?_
  refine lv_iconst (v := 2) hx hb dL_1605 (by decide) ?_
  refine lv_iadd hx hb dL_1606 ?_
  refine va_sld hx hb hX hbl hbA hS (lw_in (k := 2) (by omega) hL) dL_1607 ?_
  refine law_call (mc1 := 0) (ms1 := 0) (ci := 11) (x := 0) (mj := mX11_taken) (vs := [.int _, .int _]) (S := []) (d := 0 + 40) hx hb hml hown hts hF hS hW hl dL_1608 rfl rfl cml_X11_taken wl_363 wl_364 wl_365 rfl (Nat.le_of_ble_eq_true rfl) (Nat.le_of_ble_eq_true rfl) (Nat.le_of_ble_eq_true rfl) (Nat.le_of_ble_eq_true rfl) (Nat.le_of_ble_eq_true rfl) (pb_X11_taken 0 [_, _] _ rfl hi hw) ?_
  rintro _ _ H locs ⟨⟨y, rfl, -⟩, I, rfl, hi, hw⟩ hW hS
  dsimp only [Option.map, Option.toList, List.cons_append, List.nil_append, gtr]
  refine lv_pop hx hb dL_1611 rfl ?_
  refine lv_aload_n hx hb dL_1612 rfl (lv_at hl 2 rfl) ?_
  refine lv_aload_n hx hb dL_1613 rfl (lv_at hl 0 rfl) ?_
  refine lv_iload_n hx hb dL_1614 rfl (lv_at hl 3 rfl) ?_
  refine lv_iconst (v := 1) hx hb dL_1615 (by decide) ?_
  refine lv_iadd hx hb dL_1616 ?_
  refine va_sld hx hb hX hbl hbA hS (lw_in (k := 1) (by omega) hL) dL_1617 ?_
  refine lv_aload_n hx hb dL_1618 rfl (lv_at hl 0 rfl) ?_
  refine lv_iload_n hx hb dL_1619 rfl (lv_at hl 3 rfl) ?_
  refine lv_iconst (v := 2) hx hb dL_1620 (by decide) ?_
  refine lv_iadd hx hb dL_1621 ?_
  refine va_sld hx hb hX hbl hbA hS (lw_in (k := 2) (by omega) hL) dL_1622 ?_
  refine law_call (mc1 := 0) (ms1 := 0) (ci := 12) (x := 67) (mj := mX12_taken) (vs := [.int _, .int _]) (S := []) (d := 0 + 40) hx hb hml hown hts hF hS hW hl dL_1623 rfl rfl cml_X12_taken wl_367 wl_368 wl_369 rfl (Nat.le_of_ble_eq_true rfl) (Nat.le_of_ble_eq_true rfl) (Nat.le_of_ble_eq_true rfl) (Nat.le_of_ble_eq_true rfl) (Nat.le_of_ble_eq_true rfl) (pb_X12_taken 0 [_, _] _ rfl hi hw) ?_
  rintro _ _ H locs ⟨⟨y, rfl, -⟩, I, rfl, hi, hw⟩ hW hS
  dsimp only [Option.map, Option.toList, List.cons_append, List.nil_append, gtr]
  refine lv_pop hx hb dL_1626 rfl ?_
  refine lv_goto (tgt := 1745) hx hb dL_1627 (by decide) ?_
  exact kk I H locs hi hw hS hW
set_option maxRecDepth 100000 in
set_option maxHeartbeats 4000000 in
theorem law_46_act {p : Program} {l : Launch} {e : Env} {s : State} {m : MethodId} {below : List Frame} {meth : Method} {c : Code} {bs L i : Nat} {xs : Nat → Int32} {D : va_G} {cy : Nat → ClassId} (hL : L ≤ 2560) (C0 : lw_At p s m meth c bs L xs) (hF : gFx s.heap.size D cy s) {I : gI} {H : Heap} {locs : List Loc} {ls : Array Slot} (hi : aInv bT I) (hw : WF I) (hiL : i + 5 ≤ L) (hS : va_S (gA s.heap.size) s.heap H locs) (hW : gWd s.heap.size D cy (SH0, RF0, I) H) (hl : lv_has ls 4 [(0, .ref bs), (1, .ref (s.heap.size + 0)), (2, .ref (s.heap.size + 67)), (3, .int (Int32.ofNat i))]) (kk : ∀ (I : gI) (H : Heap) (locs : List Loc), aInv bT I → WF I → va_S (gA s.heap.size) s.heap H locs → gWd s.heap.size D cy (SH0, RF0, I) H → W p l e room_1 s m #[Value.ref bs] below meth c H locs 88 3546 (lw_Z below #[Value.ref bs] s) (F0 m 1745 ls [])) : W p l e room_1 s m #[Value.ref bs] below meth c H locs 88 3546 (lw_Z below #[Value.ref bs] s) (F0 m 1630 ls []) := by
  obtain ⟨hx, hb, hr, hml, hown, hts, hX, hbl, hlocks, hgv⟩ := id C0
  have hbA : ¬ gA s.heap.size bs := Nat.not_le.mpr hbl
  refine lv_aload_n hx hb dL_1630 rfl (lv_at hl 1 rfl) ?_
  refine lv_aload_n hx hb dL_1631 rfl (lv_at hl 0 rfl) ?_
  refine lv_iload_n hx hb dL_1632 rfl (lv_at hl 3 rfl) ?_
  refine lv_iconst (v := 1) hx hb dL_1633 (by decide) ?_
  refine lv_iadd hx hb dL_1634 ?_
  refine va_sld hx hb hX hbl hbA hS (lw_in (k := 1) (by omega) hL) dL_1635 ?_
  refine lv_aload_n hx hb dL_1636 rfl (lv_at hl 0 rfl) ?_
  refine lv_iload_n hx hb dL_1637 rfl (lv_at hl 3 rfl) ?_
  refine lv_iconst (v := 2) hx hb dL_1638 (by decide) ?_
  refine lv_iadd hx hb dL_1639 ?_
  refine va_sld hx hb hX hbl hbA hS (lw_in (k := 2) (by omega) hL) dL_1640 ?_
  refine lv_aload_n hx hb dL_1641 rfl (lv_at hl 0 rfl) ?_
  refine lv_iload_n hx hb dL_1642 rfl (lv_at hl 3 rfl) ?_
  refine lv_iconst (v := 3) hx hb dL_1643 (by decide) ?_
  refine lv_iadd hx hb dL_1644 ?_
  refine va_sld hx hb hX hbl hbA hS (lw_in (k := 3) (by omega) hL) dL_1645 ?_
  refine law_call (mc1 := 0) (ms1 := 0) (ci := 11) (x := 0) (mj := mX11_act) (vs := [.int _, .int _, .int _]) (S := []) (d := 0 + 40) hx hb hml hown hts hF hS hW hl dL_1646 rfl rfl cml_X11_act wl_371 wl_372 wl_373 rfl (Nat.le_of_ble_eq_true rfl) (Nat.le_of_ble_eq_true rfl) (Nat.le_of_ble_eq_true rfl) (Nat.le_of_ble_eq_true rfl) (Nat.le_of_ble_eq_true rfl) (pb_X11_act 0 [_, _, _] _ rfl hi hw) ?_
  rintro _ _ H locs ⟨⟨y, rfl, -⟩, I, rfl, hi, hw⟩ hW hS
  dsimp only [Option.map, Option.toList, List.cons_append, List.nil_append, gtr]
  refine lv_pop hx hb dL_1649 rfl ?_
  refine lv_aload_n hx hb dL_1650 rfl (lv_at hl 2 rfl) ?_
  refine lv_aload_n hx hb dL_1651 rfl (lv_at hl 0 rfl) ?_
  refine lv_iload_n hx hb dL_1652 rfl (lv_at hl 3 rfl) ?_
  refine lv_iconst (v := 1) hx hb dL_1653 (by decide) ?_
  refine lv_iadd hx hb dL_1654 ?_
  refine va_sld hx hb hX hbl hbA hS (lw_in (k := 1) (by omega) hL) dL_1655 ?_
  refine lv_aload_n hx hb dL_1656 rfl (lv_at hl 0 rfl) ?_
  refine lv_iload_n hx hb dL_1657 rfl (lv_at hl 3 rfl) ?_
  refine lv_iconst (v := 2) hx hb dL_1658 (by decide) ?_
  refine lv_iadd hx hb dL_1659 ?_
  refine va_sld hx hb hX hbl hbA hS (lw_in (k := 2) (by omega) hL) dL_1660 ?_
  refine lv_aload_n hx hb dL_1661 rfl (lv_at hl 0 rfl) ?_
  refine lv_iload_n hx hb dL_1662 rfl (lv_at hl 3 rfl) ?_
  refine lv_iconst (v := 3) hx hb dL_1663 (by decide) ?_
  refine lv_iadd hx hb dL_1664 ?_
  refine va_sld hx hb hX hbl hbA hS (lw_in (k := 3) (by omega) hL) dL_1665 ?_
  refine law_call (mc1 := 0) (ms1 := 0) (ci := 12) (x := 67) (mj := mX12_act) (vs := [.int _, .int _, .int _]) (S := []) (d := 0 + 40) hx hb hml hown hts hF hS hW hl dL_1666 rfl rfl cml_X12_act wl_375 wl_376 wl_377 rfl (Nat.le_of_ble_eq_true rfl) (Nat.le_of_ble_eq_true rfl) (Nat.le_of_ble_eq_true rfl) (Nat.le_of_ble_eq_true rfl) (Nat.le_of_ble_eq_true rfl) (pb_X12_act 0 [_, _, _] _ rfl hi hw) ?_
  rintro _ _ H locs ⟨⟨y, rfl, -⟩, I, rfl, hi, hw⟩ hW hS
  dsimp only [Option.map, Option.toList, List.cons_append, List.nil_append, gtr]
  refine lv_pop hx hb dL_1669 rfl ?_
  refine lv_goto (tgt := 1745) hx hb dL_1670 (by decide) ?_
  exact kk I H locs hi hw hS hW
set_option maxRecDepth 100000 in
set_option maxHeartbeats 4000000 in
theorem law_47_trace {p : Program} {l : Launch} {e : Env} {s : State} {m : MethodId} {below : List Frame} {meth : Method} {c : Code} {bs L i : Nat} {xs : Nat → Int32} {D : va_G} {cy : Nat → ClassId} (hL : L ≤ 2560) (C0 : lw_At p s m meth c bs L xs) (hF : gFx s.heap.size D cy s) {I : gI} {H : Heap} {locs : List Loc} {ls : Array Slot} (hi : aInv bT I) (hw : WF I) (hiL : i + 5 ≤ L) (hS : va_S (gA s.heap.size) s.heap H locs) (hW : gWd s.heap.size D cy (SH0, RF0, I) H) (hl : lv_has ls 4 [(0, .ref bs), (1, .ref (s.heap.size + 0)), (2, .ref (s.heap.size + 67)), (3, .int (Int32.ofNat i))]) (kk : ∀ (I : gI) (H : Heap) (locs : List Loc), aInv bT I → WF I → va_S (gA s.heap.size) s.heap H locs → gWd s.heap.size D cy (SH0, RF0, I) H → W p l e room_1 s m #[Value.ref bs] below meth c H locs 88 3546 (lw_Z below #[Value.ref bs] s) (F0 m 1745 ls [])) : W p l e room_1 s m #[Value.ref bs] below meth c H locs 88 3546 (lw_Z below #[Value.ref bs] s) (F0 m 1673 ls []) := by
  obtain ⟨hx, hb, hr, hml, hown, hts, hX, hbl, hlocks, hgv⟩ := id C0
  have hbA : ¬ gA s.heap.size bs := Nat.not_le.mpr hbl
  refine lv_aload_n hx hb dL_1673 rfl (lv_at hl 1 rfl) ?_
  refine lv_aload_n hx hb dL_1674 rfl (lv_at hl 0 rfl) ?_
  refine lv_iload_n hx hb dL_1675 rfl (lv_at hl 3 rfl) ?_
  refine lv_iconst (v := 1) hx hb dL_1676 (by decide) ?_
  refine lv_iadd hx hb dL_1677 ?_
  refine va_sld hx hb hX hbl hbA hS (lw_in (k := 1) (by omega) hL) dL_1678 ?_
  refine law_call (mc1 := 0) (ms1 := 0) (ci := 11) (x := 0) (mj := mX11_trace) (vs := [.int _]) (S := []) (d := 0 + 40) hx hb hml hown hts hF hS hW hl dL_1679 rfl rfl cml_X11_trace wl_379 wl_380 wl_381 rfl (Nat.le_of_ble_eq_true rfl) (Nat.le_of_ble_eq_true rfl) (Nat.le_of_ble_eq_true rfl) (Nat.le_of_ble_eq_true rfl) (Nat.le_of_ble_eq_true rfl) (pb_X11_trace 0 [_] _ rfl hi hw) ?_
  rintro _ _ H locs ⟨⟨y, rfl, -⟩, I, rfl, hi, hw⟩ hW hS
  dsimp only [Option.map, Option.toList, List.cons_append, List.nil_append, gtr]
  refine lv_pop hx hb dL_1682 rfl ?_
  refine lv_aload_n hx hb dL_1683 rfl (lv_at hl 2 rfl) ?_
  refine lv_aload_n hx hb dL_1684 rfl (lv_at hl 0 rfl) ?_
  refine lv_iload_n hx hb dL_1685 rfl (lv_at hl 3 rfl) ?_
  refine lv_iconst (v := 1) hx hb dL_1686 (by decide) ?_
  refine lv_iadd hx hb dL_1687 ?_
  refine va_sld hx hb hX hbl hbA hS (lw_in (k := 1) (by omega) hL) dL_1688 ?_
  refine law_call (mc1 := 0) (ms1 := 0) (ci := 12) (x := 67) (mj := mX12_trace) (vs := [.int _]) (S := []) (d := 0 + 40) hx hb hml hown hts hF hS hW hl dL_1689 rfl rfl cml_X12_trace wl_383 wl_384 wl_385 rfl (Nat.le_of_ble_eq_true rfl) (Nat.le_of_ble_eq_true rfl) (Nat.le_of_ble_eq_true rfl) (Nat.le_of_ble_eq_true rfl) (Nat.le_of_ble_eq_true rfl) (pb_X12_trace 0 [_] _ rfl hi hw) ?_
  rintro _ _ H locs ⟨⟨y, rfl, -⟩, I, rfl, hi, hw⟩ hW hS
  dsimp only [Option.map, Option.toList, List.cons_append, List.nil_append, gtr]
  refine lv_pop hx hb dL_1692 rfl ?_
  refine lv_goto (tgt := 1745) hx hb dL_1693 (by decide) ?_
  exact kk I H locs hi hw hS hW
set_option maxRecDepth 100000 in
set_option maxHeartbeats 4000000 in
theorem law_48_many {p : Program} {l : Launch} {e : Env} {s : State} {m : MethodId} {below : List Frame} {meth : Method} {c : Code} {bs L i : Nat} {xs : Nat → Int32} {D : va_G} {cy : Nat → ClassId} (hL : L ≤ 2560) (C0 : lw_At p s m meth c bs L xs) (hF : gFx s.heap.size D cy s) {I : gI} {H : Heap} {locs : List Loc} {ls : Array Slot} (hi : aInv bT I) (hw : WF I) (hiL : i + 5 ≤ L) (hS : va_S (gA s.heap.size) s.heap H locs) (hW : gWd s.heap.size D cy (SH0, RF0, I) H) (hl : lv_has ls 4 [(0, .ref bs), (1, .ref (s.heap.size + 0)), (2, .ref (s.heap.size + 67)), (3, .int (Int32.ofNat i))]) (kk : ∀ (I : gI) (H : Heap) (locs : List Loc), aInv bT I → WF I → va_S (gA s.heap.size) s.heap H locs → gWd s.heap.size D cy (SH0, RF0, I) H → W p l e room_1 s m #[Value.ref bs] below meth c H locs 88 3546 (lw_Z below #[Value.ref bs] s) (F0 m 1745 ls [])) : W p l e room_1 s m #[Value.ref bs] below meth c H locs 88 3546 (lw_Z below #[Value.ref bs] s) (F0 m 1696 ls []) := by
  obtain ⟨hx, hb, hr, hml, hown, hts, hX, hbl, hlocks, hgv⟩ := id C0
  have hbA : ¬ gA s.heap.size bs := Nat.not_le.mpr hbl
  refine lv_aload_n hx hb dL_1696 rfl (lv_at hl 1 rfl) ?_
  refine lv_aload_n hx hb dL_1697 rfl (lv_at hl 0 rfl) ?_
  refine lv_iload_n hx hb dL_1698 rfl (lv_at hl 3 rfl) ?_
  refine lv_iconst (v := 1) hx hb dL_1699 (by decide) ?_
  refine lv_iadd hx hb dL_1700 ?_
  refine va_sld hx hb hX hbl hbA hS (lw_in (k := 1) (by omega) hL) dL_1701 ?_
  refine law_call (mc1 := 0) (ms1 := 0) (ci := 11) (x := 0) (mj := mX11_many) (vs := [.int _]) (S := []) (d := 0 + 40) hx hb hml hown hts hF hS hW hl dL_1702 rfl rfl cml_X11_many wl_387 wl_388 wl_389 rfl (Nat.le_of_ble_eq_true rfl) (Nat.le_of_ble_eq_true rfl) (Nat.le_of_ble_eq_true rfl) (Nat.le_of_ble_eq_true rfl) (Nat.le_of_ble_eq_true rfl) (pb_X11_many 0 [_] _ rfl hi hw) ?_
  rintro _ _ H locs ⟨⟨y, rfl, -⟩, I, rfl, hi, hw⟩ hW hS
  dsimp only [Option.map, Option.toList, List.cons_append, List.nil_append, gtr]
  refine lv_pop hx hb dL_1705 rfl ?_
  refine lv_aload_n hx hb dL_1706 rfl (lv_at hl 2 rfl) ?_
  refine lv_aload_n hx hb dL_1707 rfl (lv_at hl 0 rfl) ?_
  refine lv_iload_n hx hb dL_1708 rfl (lv_at hl 3 rfl) ?_
  refine lv_iconst (v := 1) hx hb dL_1709 (by decide) ?_
  refine lv_iadd hx hb dL_1710 ?_
  refine va_sld hx hb hX hbl hbA hS (lw_in (k := 1) (by omega) hL) dL_1711 ?_
  refine law_call (mc1 := 0) (ms1 := 0) (ci := 12) (x := 67) (mj := mX12_many) (vs := [.int _]) (S := []) (d := 0 + 40) hx hb hml hown hts hF hS hW hl dL_1712 rfl rfl cml_X12_many wl_391 wl_392 wl_393 rfl (Nat.le_of_ble_eq_true rfl) (Nat.le_of_ble_eq_true rfl) (Nat.le_of_ble_eq_true rfl) (Nat.le_of_ble_eq_true rfl) (Nat.le_of_ble_eq_true rfl) (pb_X12_many 0 [_] _ rfl hi hw) ?_
  rintro _ _ H locs ⟨⟨y, rfl, -⟩, I, rfl, hi, hw⟩ hW hS
  dsimp only [Option.map, Option.toList, List.cons_append, List.nil_append, gtr]
  refine lv_pop hx hb dL_1715 rfl ?_
  refine lv_goto (tgt := 1745) hx hb dL_1716 (by decide) ?_
  exact kk I H locs hi hw hS hW
set_option maxRecDepth 100000 in
set_option maxHeartbeats 4000000 in
theorem law_49_keep {p : Program} {l : Launch} {e : Env} {s : State} {m : MethodId} {below : List Frame} {meth : Method} {c : Code} {bs L i : Nat} {xs : Nat → Int32} {D : va_G} {cy : Nat → ClassId} (hL : L ≤ 2560) (C0 : lw_At p s m meth c bs L xs) (hF : gFx s.heap.size D cy s) {I : gI} {H : Heap} {locs : List Loc} {ls : Array Slot} (hi : aInv bT I) (hw : WF I) (hiL : i + 5 ≤ L) (hS : va_S (gA s.heap.size) s.heap H locs) (hW : gWd s.heap.size D cy (SH0, RF0, I) H) (hl : lv_has ls 4 [(0, .ref bs), (1, .ref (s.heap.size + 0)), (2, .ref (s.heap.size + 67)), (3, .int (Int32.ofNat i))]) (kk : ∀ (I : gI) (H : Heap) (locs : List Loc), aInv bT I → WF I → va_S (gA s.heap.size) s.heap H locs → gWd s.heap.size D cy (SH0, RF0, I) H → W p l e room_1 s m #[Value.ref bs] below meth c H locs 88 3546 (lw_Z below #[Value.ref bs] s) (F0 m 1745 ls [])) : W p l e room_1 s m #[Value.ref bs] below meth c H locs 88 3546 (lw_Z below #[Value.ref bs] s) (F0 m 1719 ls []) := by
  obtain ⟨hx, hb, hr, hml, hown, hts, hX, hbl, hlocks, hgv⟩ := id C0
  have hbA : ¬ gA s.heap.size bs := Nat.not_le.mpr hbl
  refine lv_aload_n hx hb dL_1719 rfl (lv_at hl 1 rfl) ?_
  refine law_call (mc1 := 0) (ms1 := 0) (ci := 11) (x := 0) (mj := mX11_keep) (vs := []) (S := []) (d := 0 + 40) hx hb hml hown hts hF hS hW hl dL_1720 rfl rfl cml_X11_keep wl_395 wl_396 wl_397 rfl (Nat.le_of_ble_eq_true rfl) (Nat.le_of_ble_eq_true rfl) (Nat.le_of_ble_eq_true rfl) (Nat.le_of_ble_eq_true rfl) (Nat.le_of_ble_eq_true rfl) (pr_keep 0 [] _ rfl hi hw) ?_
  rintro _ _ H locs ⟨y, I, rfl, rfl, hG⟩ hW hS
  dsimp only [Option.map, Option.toList, List.cons_append, List.nil_append, gtr]
  refine lv_pop hx hb dL_1723 rfl ?_
  refine lv_aload_n hx hb dL_1724 rfl (lv_at hl 2 rfl) ?_
  refine law_call (mc1 := 0) (ms1 := 0) (ci := 12) (x := 67) (mj := mX12_keep) (vs := []) (S := []) (d := 0 + 40) hx hb hml hown hts hF hS hW hl dL_1725 rfl rfl cml_X12_keep wl_399 wl_400 wl_401 rfl (Nat.le_of_ble_eq_true rfl) (Nat.le_of_ble_eq_true rfl) (Nat.le_of_ble_eq_true rfl) (Nat.le_of_ble_eq_true rfl) (Nat.le_of_ble_eq_true rfl) (hG) ?_
  rintro _ _ H locs ⟨y2, I, rfl, rfl, hy, hi, hw⟩ hW hS
  dsimp only [Option.map, Option.toList, List.cons_append, List.nil_append, gtr]
  refine lv_pop hx hb dL_1728 rfl ?_
  refine lv_goto (tgt := 1745) hx hb dL_1729 (by decide) ?_
  exact kk I H locs hi hw hS hW
set_option maxRecDepth 100000 in
set_option maxHeartbeats 4000000 in
theorem law_50_again {p : Program} {l : Launch} {e : Env} {s : State} {m : MethodId} {below : List Frame} {meth : Method} {c : Code} {bs L i : Nat} {xs : Nat → Int32} {D : va_G} {cy : Nat → ClassId} (hL : L ≤ 2560) (C0 : lw_At p s m meth c bs L xs) (hF : gFx s.heap.size D cy s) {I : gI} {H : Heap} {locs : List Loc} {ls : Array Slot} (hi : aInv bT I) (hw : WF I) (hiL : i + 5 ≤ L) (hS : va_S (gA s.heap.size) s.heap H locs) (hW : gWd s.heap.size D cy (SH0, RF0, I) H) (hl : lv_has ls 4 [(0, .ref bs), (1, .ref (s.heap.size + 0)), (2, .ref (s.heap.size + 67)), (3, .int (Int32.ofNat i))]) (kk : ∀ (I : gI) (H : Heap) (locs : List Loc), aInv bT I → WF I → va_S (gA s.heap.size) s.heap H locs → gWd s.heap.size D cy (SH0, RF0, I) H → W p l e room_1 s m #[Value.ref bs] below meth c H locs 88 3546 (lw_Z below #[Value.ref bs] s) (F0 m 1745 ls [])) : W p l e room_1 s m #[Value.ref bs] below meth c H locs 88 3546 (lw_Z below #[Value.ref bs] s) (F0 m 1732 ls []) := by
  obtain ⟨hx, hb, hr, hml, hown, hts, hX, hbl, hlocks, hgv⟩ := id C0
  have hbA : ¬ gA s.heap.size bs := Nat.not_le.mpr hbl
  refine lv_aload_n hx hb dL_1732 rfl (lv_at hl 1 rfl) ?_
  refine law_call (mc1 := 0) (ms1 := 0) (ci := 11) (x := 0) (mj := mX11_again) (vs := []) (S := []) (d := 0 + 40) hx hb hml hown hts hF hS hW hl dL_1733 rfl rfl cml_X11_again wl_403 wl_404 wl_405 rfl (Nat.le_of_ble_eq_true rfl) (Nat.le_of_ble_eq_true rfl) (Nat.le_of_ble_eq_true rfl) (Nat.le_of_ble_eq_true rfl) (Nat.le_of_ble_eq_true rfl) (pr_again 0 [] _ rfl hi hw) ?_
  rintro _ _ H locs ⟨y, I, rfl, rfl, hG⟩ hW hS
  dsimp only [Option.map, Option.toList, List.cons_append, List.nil_append, gtr]
  refine lv_pop hx hb dL_1736 rfl ?_
  refine lv_aload_n hx hb dL_1737 rfl (lv_at hl 2 rfl) ?_
  refine law_call (mc1 := 0) (ms1 := 0) (ci := 12) (x := 67) (mj := mX12_again) (vs := []) (S := []) (d := 0 + 40) hx hb hml hown hts hF hS hW hl dL_1738 rfl rfl cml_X12_again wl_407 wl_408 wl_409 rfl (Nat.le_of_ble_eq_true rfl) (Nat.le_of_ble_eq_true rfl) (Nat.le_of_ble_eq_true rfl) (Nat.le_of_ble_eq_true rfl) (Nat.le_of_ble_eq_true rfl) (hG) ?_
  rintro _ _ H locs ⟨y2, I, rfl, rfl, hy, hi, hw⟩ hW hS
  dsimp only [Option.map, Option.toList, List.cons_append, List.nil_append, gtr]
  refine lv_pop hx hb dL_1741 rfl ?_
  refine lv_goto (tgt := 1745) hx hb dL_1742 (by decide) ?_
  exact kk I H locs hi hw hS hW
