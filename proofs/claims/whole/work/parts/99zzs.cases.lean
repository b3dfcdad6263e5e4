/-! ===== printed: the law: its cases ===== -/
theorem zq_case0 {p : Program} {e : Env} {s : State} {m : MethodId} {below : List Frame} {meth : Method} {c : Code} {E : zm_E} {sb L i : Nat} {xs : Nat → Int32} {ls : Array Slot} {M : zm_M} {H : Heap} {locs : List Loc} (C : zq_C p s m c E sb L xs) (hl : lv_has ls 4 [(3, .int (nI i)), (2, .ref (E.2.2.1 0)), (1, .ref (E.2.2.1 15)), (0, .ref sb)]) (hi : i + 6 ≤ L) (hL : L ≤ 3072) (hG : zGG M) (hP : va_P E.2.1 zy_cl (zm_ws E.2.2.1 E.2.2.2.1 M) H) (hS : va_S E.2.2.2.2 s.heap H locs) (nx : zq_nx p e s m sb below meth c E ls) : W p E.1 e room_1 s m #[Value.ref sb] below meth c H locs 600000 7302250 (lw_Z below #[Value.ref sb] s) (F0 m 232 ls []) := by
  obtain ⟨hx, hb, hml, hown, hts, hK, hE, hSF, hX, hbl, hbA⟩ := id C
  refine lv_aload_n hx hb dL_law_232 rfl (lv_at hl 2 rfl) ?_
  refine zq_arg (j := 1) C hl (by omega) hL hS rfl dL_law_233 dL_law_234 dL_law_235 dL_law_236 dL_law_237 ?_
  refine zq_arg (j := 2) C hl (by omega) hL hS rfl dL_law_238 dL_law_239 dL_law_240 dL_law_241 dL_law_242 ?_
  refine zq_callV (a := 15) (ci := 11) (as := [.int (xs (i + 1)), .int (xs (i + 2))]) (rest := []) hx hb hml hown hts hK hSF zq_c11_officer rfl zq_ob15 zq_l11_officer zq_i11_officer zq_s11_officer rfl hl.1 (Nat.le_of_ble_eq_true rfl) ⟨Nat.le_of_ble_eq_true rfl, Nat.le_of_ble_eq_true rfl⟩ ⟨Nat.le_refl _, Nat.le_refl _⟩ dL_law_243 (zL_officer hE _ _ M hG) hP hS (fun r M H locs hq hP hS => ?_)
  obtain ⟨v, rfl, hq⟩ := hq
  refine lv_aload_n hx hb dL_law_246 rfl (lv_at hl 1 rfl) ?_
  refine zq_arg (j := 1) C hl (by omega) hL hS rfl dL_law_247 dL_law_248 dL_law_249 dL_law_250 dL_law_251 ?_
  refine zq_arg (j := 2) C hl (by omega) hL hS rfl dL_law_252 dL_law_253 dL_law_254 dL_law_255 dL_law_256 ?_
  refine zq_callV (a := 0) (ci := 12) (as := [.int (xs (i + 1)), .int (xs (i + 2))]) (rest := [.int v]) hx hb hml hown hts hK hSF zq_c12_officer rfl zq_ob0 zq_l12_officer zq_i12_officer zq_s12_officer rfl hl.1 (Nat.le_of_ble_eq_true rfl) ⟨Nat.le_of_ble_eq_true rfl, Nat.le_of_ble_eq_true rfl⟩ ⟨Nat.le_refl _, Nat.le_refl _⟩ dL_law_257 (hq) hP hS (fun r M H locs hq hP hS => ?_)
  obtain ⟨rfl, hG⟩ := hq
  exact lv_icmp_eq (tgt := 1525) hx hb dL_law_260 (by decide) (fun _ => nx M H locs hG hP hS) (fun h => absurd rfl h)
theorem zq_case1 {p : Program} {e : Env} {s : State} {m : MethodId} {below : List Frame} {meth : Method} {c : Code} {E : zm_E} {sb L i : Nat} {xs : Nat → Int32} {ls : Array Slot} {M : zm_M} {H : Heap} {locs : List Loc} (C : zq_C p s m c E sb L xs) (hl : lv_has ls 4 [(3, .int (nI i)), (2, .ref (E.2.2.1 0)), (1, .ref (E.2.2.1 15)), (0, .ref sb)]) (hi : i + 6 ≤ L) (hL : L ≤ 3072) (hG : zGG M) (hP : va_P E.2.1 zy_cl (zm_ws E.2.2.1 E.2.2.2.1 M) H) (hS : va_S E.2.2.2.2 s.heap H locs) (nx : zq_nx p e s m sb below meth c E ls) : W p E.1 e room_1 s m #[Value.ref sb] below meth c H locs 600000 7302250 (lw_Z below #[Value.ref sb] s) (F0 m 265 ls []) := by
  obtain ⟨hx, hb, hml, hown, hts, hK, hE, hSF, hX, hbl, hbA⟩ := id C
  refine lv_aload_n hx hb dL_law_265 rfl (lv_at hl 2 rfl) ?_
  refine zq_arg (j := 1) C hl (by omega) hL hS rfl dL_law_266 dL_law_267 dL_law_268 dL_law_269 dL_law_270 ?_
  refine zq_arg (j := 2) C hl (by omega) hL hS rfl dL_law_271 dL_law_272 dL_law_273 dL_law_274 dL_law_275 ?_
  refine zq_callV (a := 15) (ci := 11) (as := [.int (xs (i + 1)), .int (xs (i + 2))]) (rest := []) hx hb hml hown hts hK hSF zq_c11_cousin rfl zq_ob15 zq_l11_cousin zq_i11_cousin zq_s11_cousin rfl hl.1 (Nat.le_of_ble_eq_true rfl) ⟨Nat.le_of_ble_eq_true rfl, Nat.le_of_ble_eq_true rfl⟩ ⟨Nat.le_refl _, Nat.le_refl _⟩ dL_law_276 (zL_cousin hE _ _ M hG) hP hS (fun r M H locs hq hP hS => ?_)
  obtain ⟨v, rfl, hq⟩ := hq
  refine lv_aload_n hx hb dL_law_279 rfl (lv_at hl 1 rfl) ?_
  refine zq_arg (j := 1) C hl (by omega) hL hS rfl dL_law_280 dL_law_281 dL_law_282 dL_law_283 dL_law_284 ?_
  refine zq_arg (j := 2) C hl (by omega) hL hS rfl dL_law_285 dL_law_286 dL_law_287 dL_law_288 dL_law_289 ?_
  refine zq_callV (a := 0) (ci := 12) (as := [.int (xs (i + 1)), .int (xs (i + 2))]) (rest := [.int v]) hx hb hml hown hts hK hSF zq_c12_cousin rfl zq_ob0 zq_l12_cousin zq_i12_cousin zq_s12_cousin rfl hl.1 (Nat.le_of_ble_eq_true rfl) ⟨Nat.le_of_ble_eq_true rfl, Nat.le_of_ble_eq_true rfl⟩ ⟨Nat.le_refl _, Nat.le_refl _⟩ dL_law_290 (hq) hP hS (fun r M H locs hq hP hS => ?_)
  obtain ⟨rfl, hG⟩ := hq
  exact lv_icmp_eq (tgt := 1525) hx hb dL_law_293 (by decide) (fun _ => nx M H locs hG hP hS) (fun h => absurd rfl h)
theorem zq_case2 {p : Program} {e : Env} {s : State} {m : MethodId} {below : List Frame} {meth : Method} {c : Code} {E : zm_E} {sb L i : Nat} {xs : Nat → Int32} {ls : Array Slot} {M : zm_M} {H : Heap} {locs : List Loc} (C : zq_C p s m c E sb L xs) (hl : lv_has ls 4 [(3, .int (nI i)), (2, .ref (E.2.2.1 0)), (1, .ref (E.2.2.1 15)), (0, .ref sb)]) (hi : i + 6 ≤ L) (hL : L ≤ 3072) (hG : zGG M) (hP : va_P E.2.1 zy_cl (zm_ws E.2.2.1 E.2.2.2.1 M) H) (hS : va_S E.2.2.2.2 s.heap H locs) (nx : zq_nx p e s m sb below meth c E ls) : W p E.1 e room_1 s m #[Value.ref sb] below meth c H locs 600000 7302250 (lw_Z below #[Value.ref sb] s) (F0 m 298 ls []) := by
  obtain ⟨hx, hb, hml, hown, hts, hK, hE, hSF, hX, hbl, hbA⟩ := id C
  refine lv_aload_n hx hb dL_law_298 rfl (lv_at hl 2 rfl) ?_
  refine zq_arg (j := 1) C hl (by omega) hL hS rfl dL_law_299 dL_law_300 dL_law_301 dL_law_302 dL_law_303 ?_
  refine zq_arg (j := 2) C hl (by omega) hL hS rfl dL_law_304 dL_law_305 dL_law_306 dL_law_307 dL_law_308 ?_
  refine zq_arg (j := 3) C hl (by omega) hL hS rfl dL_law_309 dL_law_310 dL_law_311 dL_law_312 dL_law_313 ?_
  refine zq_arg (j := 4) C hl (by omega) hL hS rfl dL_law_314 dL_law_315 dL_law_316 dL_law_317 dL_law_318 ?_
  refine zq_arg (j := 5) C hl (by omega) hL hS rfl dL_law_319 dL_law_320 dL_law_321 dL_law_322 dL_law_323 ?_
  refine zq_callV (a := 15) (ci := 11) (as := [.int (xs (i + 1)), .int (xs (i + 2)), .int (xs (i + 3)), .int (xs (i + 4)), .int (xs (i + 5))]) (rest := []) hx hb hml hown hts hK hSF zq_c11_feed rfl zq_ob15 zq_l11_feed zq_i11_feed zq_s11_feed rfl hl.1 (Nat.le_of_ble_eq_true rfl) ⟨Nat.le_of_ble_eq_true rfl, Nat.le_of_ble_eq_true rfl⟩ ⟨Nat.le_refl _, Nat.le_refl _⟩ dL_law_324 (zL_feed hE _ _ _ _ _ M hG) hP hS (fun r M H locs hq hP hS => ?_)
  obtain ⟨v, rfl, hq⟩ := hq
  refine lv_aload_n hx hb dL_law_327 rfl (lv_at hl 1 rfl) ?_
  refine zq_arg (j := 1) C hl (by omega) hL hS rfl dL_law_328 dL_law_329 dL_law_330 dL_law_331 dL_law_332 ?_
  refine zq_arg (j := 2) C hl (by omega) hL hS rfl dL_law_333 dL_law_334 dL_law_335 dL_law_336 dL_law_337 ?_
  refine zq_arg (j := 3) C hl (by omega) hL hS rfl dL_law_338 dL_law_339 dL_law_340 dL_law_341 dL_law_342 ?_
  refine zq_arg (j := 4) C hl (by omega) hL hS rfl dL_law_343 dL_law_344 dL_law_345 dL_law_346 dL_law_347 ?_
  refine zq_arg (j := 5) C hl (by omega) hL hS rfl dL_law_348 dL_law_349 dL_law_350 dL_law_351 dL_law_352 ?_
  refine zq_callV (a := 0) (ci := 12) (as := [.int (xs (i + 1)), .int (xs (i + 2)), .int (xs (i + 3)), .int (xs (i + 4)), .int (xs (i + 5))]) (rest := [.int v]) hx hb hml hown hts hK hSF zq_c12_feed rfl zq_ob0 zq_l12_feed zq_i12_feed zq_s12_feed rfl hl.1 (Nat.le_of_ble_eq_true rfl) ⟨Nat.le_of_ble_eq_true rfl, Nat.le_of_ble_eq_true rfl⟩ ⟨Nat.le_refl _, Nat.le_refl _⟩ dL_law_353 (hq) hP hS (fun r M H locs hq hP hS => ?_)
  obtain ⟨rfl, hG⟩ := hq
  exact lv_icmp_eq (tgt := 1525) hx hb dL_law_356 (by decide) (fun _ => nx M H locs hG hP hS) (fun h => absurd rfl h)
theorem zq_case3 {p : Program} {e : Env} {s : State} {m : MethodId} {below : List Frame} {meth : Method} {c : Code} {E : zm_E} {sb L i : Nat} {xs : Nat → Int32} {ls : Array Slot} {M : zm_M} {H : Heap} {locs : List Loc} (C : zq_C p s m c E sb L xs) (hl : lv_has ls 4 [(3, .int (nI i)), (2, .ref (E.2.2.1 0)), (1, .ref (E.2.2.1 15)), (0, .ref sb)]) (hi : i + 6 ≤ L) (hL : L ≤ 3072) (hG : zGG M) (hP : va_P E.2.1 zy_cl (zm_ws E.2.2.1 E.2.2.2.1 M) H) (hS : va_S E.2.2.2.2 s.heap H locs) (nx : zq_nx p e s m sb below meth c E ls) : W p E.1 e room_1 s m #[Value.ref sb] below meth c H locs 600000 7302250 (lw_Z below #[Value.ref sb] s) (F0 m 361 ls []) := by
  obtain ⟨hx, hb, hml, hown, hts, hK, hE, hSF, hX, hbl, hbA⟩ := id C
  refine lv_aload_n hx hb dL_law_361 rfl (lv_at hl 2 rfl) ?_
  refine zq_arg (j := 1) C hl (by omega) hL hS rfl dL_law_362 dL_law_363 dL_law_364 dL_law_365 dL_law_366 ?_
  refine zq_callV (a := 15) (ci := 11) (as := [.int (xs (i + 1))]) (rest := []) hx hb hml hown hts hK hSF zq_c11_end rfl zq_ob15 zq_l11_end zq_i11_end zq_s11_end rfl hl.1 (Nat.le_of_ble_eq_true rfl) ⟨Nat.le_of_ble_eq_true rfl, Nat.le_of_ble_eq_true rfl⟩ ⟨Nat.le_refl _, Nat.le_refl _⟩ dL_law_367 (zL_end hE _ M hG) hP hS (fun r M H locs hq hP hS => ?_)
  obtain ⟨v, rfl, hq⟩ := hq
  refine lv_aload_n hx hb dL_law_370 rfl (lv_at hl 1 rfl) ?_
  refine zq_arg (j := 1) C hl (by omega) hL hS rfl dL_law_371 dL_law_372 dL_law_373 dL_law_374 dL_law_375 ?_
  refine zq_callV (a := 0) (ci := 12) (as := [.int (xs (i + 1))]) (rest := [.int v]) hx hb hml hown hts hK hSF zq_c12_end rfl zq_ob0 zq_l12_end zq_i12_end zq_s12_end rfl hl.1 (Nat.le_of_ble_eq_true rfl) ⟨Nat.le_of_ble_eq_true rfl, Nat.le_of_ble_eq_true rfl⟩ ⟨Nat.le_refl _, Nat.le_refl _⟩ dL_law_376 (hq) hP hS (fun r M H locs hq hP hS => ?_)
  obtain ⟨rfl, hG⟩ := hq
  exact lv_icmp_eq (tgt := 1525) hx hb dL_law_379 (by decide) (fun _ => nx M H locs hG hP hS) (fun h => absurd rfl h)
theorem zq_case4 {p : Program} {e : Env} {s : State} {m : MethodId} {below : List Frame} {meth : Method} {c : Code} {E : zm_E} {sb L i : Nat} {xs : Nat → Int32} {ls : Array Slot} {M : zm_M} {H : Heap} {locs : List Loc} (C : zq_C p s m c E sb L xs) (hl : lv_has ls 4 [(3, .int (nI i)), (2, .ref (E.2.2.1 0)), (1, .ref (E.2.2.1 15)), (0, .ref sb)]) (hi : i + 6 ≤ L) (hL : L ≤ 3072) (hG : zGG M) (hP : va_P E.2.1 zy_cl (zm_ws E.2.2.1 E.2.2.2.1 M) H) (hS : va_S E.2.2.2.2 s.heap H locs) (nx : zq_nx p e s m sb below meth c E ls) : W p E.1 e room_1 s m #[Value.ref sb] below meth c H locs 600000 7302250 (lw_Z below #[Value.ref sb] s) (F0 m 384 ls []) := by
  obtain ⟨hx, hb, hml, hown, hts, hK, hE, hSF, hX, hbl, hbA⟩ := id C
  refine lv_aload_n hx hb dL_law_384 rfl (lv_at hl 2 rfl) ?_
  refine zq_callV (a := 15) (ci := 11) (as := []) (rest := []) hx hb hml hown hts hK hSF zq_c11_text rfl zq_ob15 zq_l11_text zq_i11_text zq_s11_text rfl hl.1 (Nat.le_of_ble_eq_true rfl) ⟨Nat.le_of_ble_eq_true rfl, Nat.le_of_ble_eq_true rfl⟩ ⟨Nat.le_refl _, Nat.le_refl _⟩ dL_law_385 (zL_text hE (zk_W_ok E) M hG) hP hS (fun r M H locs hq hP hS => ?_)
  obtain ⟨v, rfl, hq⟩ := hq
  refine lv_aload_n hx hb dL_law_388 rfl (lv_at hl 1 rfl) ?_
  refine zq_callV (a := 0) (ci := 12) (as := []) (rest := [.int v]) hx hb hml hown hts hK hSF zq_c12_text rfl zq_ob0 zq_l12_text zq_i12_text zq_s12_text rfl hl.1 (Nat.le_of_ble_eq_true rfl) ⟨Nat.le_of_ble_eq_true rfl, Nat.le_of_ble_eq_true rfl⟩ ⟨Nat.le_refl _, Nat.le_refl _⟩ dL_law_389 (hq) hP hS (fun r M H locs hq hP hS => ?_)
  obtain ⟨rfl, hG⟩ := hq
  exact lv_icmp_eq (tgt := 1525) hx hb dL_law_392 (by decide) (fun _ => nx M H locs hG hP hS) (fun h => absurd rfl h)
theorem zq_case5 {p : Program} {e : Env} {s : State} {m : MethodId} {below : List Frame} {meth : Method} {c : Code} {E : zm_E} {sb L i : Nat} {xs : Nat → Int32} {ls : Array Slot} {M : zm_M} {H : Heap} {locs : List Loc} (C : zq_C p s m c E sb L xs) (hl : lv_has ls 4 [(3, .int (nI i)), (2, .ref (E.2.2.1 0)), (1, .ref (E.2.2.1 15)), (0, .ref sb)]) (hi : i + 6 ≤ L) (hL : L ≤ 3072) (hG : zGG M) (hP : va_P E.2.1 zy_cl (zm_ws E.2.2.1 E.2.2.2.1 M) H) (hS : va_S E.2.2.2.2 s.heap H locs) (nx : zq_nx p e s m sb below meth c E ls) : W p E.1 e room_1 s m #[Value.ref sb] below meth c H locs 600000 7302250 (lw_Z below #[Value.ref sb] s) (F0 m 397 ls []) := by
  obtain ⟨hx, hb, hml, hown, hts, hK, hE, hSF, hX, hbl, hbA⟩ := id C
  refine lv_aload_n hx hb dL_law_397 rfl (lv_at hl 2 rfl) ?_
  refine zq_arg (j := 1) C hl (by omega) hL hS rfl dL_law_398 dL_law_399 dL_law_400 dL_law_401 dL_law_402 ?_
  refine zq_callV (a := 15) (ci := 11) (as := [.int (xs (i + 1))]) (rest := []) hx hb hml hown hts hK hSF zq_c11_fault rfl zq_ob15 zq_l11_fault zq_i11_fault zq_s11_fault rfl hl.1 (Nat.le_of_ble_eq_true rfl) ⟨Nat.le_of_ble_eq_true rfl, Nat.le_of_ble_eq_true rfl⟩ ⟨Nat.le_refl _, Nat.le_refl _⟩ dL_law_403 (zL_fault hE _ M hG) hP hS (fun r M H locs hq hP hS => ?_)
  obtain ⟨v, rfl, hq⟩ := hq
  refine lv_aload_n hx hb dL_law_406 rfl (lv_at hl 1 rfl) ?_
  refine zq_arg (j := 1) C hl (by omega) hL hS rfl dL_law_407 dL_law_408 dL_law_409 dL_law_410 dL_law_411 ?_
  refine zq_callV (a := 0) (ci := 12) (as := [.int (xs (i + 1))]) (rest := [.int v]) hx hb hml hown hts hK hSF zq_c12_fault rfl zq_ob0 zq_l12_fault zq_i12_fault zq_s12_fault rfl hl.1 (Nat.le_of_ble_eq_true rfl) ⟨Nat.le_of_ble_eq_true rfl, Nat.le_of_ble_eq_true rfl⟩ ⟨Nat.le_refl _, Nat.le_refl _⟩ dL_law_412 (hq) hP hS (fun r M H locs hq hP hS => ?_)
  obtain ⟨rfl, hG⟩ := hq
  exact lv_icmp_eq (tgt := 1525) hx hb dL_law_415 (by decide) (fun _ => nx M H locs hG hP hS) (fun h => absurd rfl h)
theorem zq_case6 {p : Program} {e : Env} {s : State} {m : MethodId} {below : List Frame} {meth : Method} {c : Code} {E : zm_E} {sb L i : Nat} {xs : Nat → Int32} {ls : Array Slot} {M : zm_M} {H : Heap} {locs : List Loc} (C : zq_C p s m c E sb L xs) (hl : lv_has ls 4 [(3, .int (nI i)), (2, .ref (E.2.2.1 0)), (1, .ref (E.2.2.1 15)), (0, .ref sb)]) (hi : i + 6 ≤ L) (hL : L ≤ 3072) (hG : zGG M) (hP : va_P E.2.1 zy_cl (zm_ws E.2.2.1 E.2.2.2.1 M) H) (hS : va_S E.2.2.2.2 s.heap H locs) (nx : zq_nx p e s m sb below meth c E ls) : W p E.1 e room_1 s m #[Value.ref sb] below meth c H locs 600000 7302250 (lw_Z below #[Value.ref sb] s) (F0 m 420 ls []) := by
  obtain ⟨hx, hb, hml, hown, hts, hK, hE, hSF, hX, hbl, hbA⟩ := id C
  refine lv_aload_n hx hb dL_law_420 rfl (lv_at hl 2 rfl) ?_
  refine zq_arg (j := 1) C hl (by omega) hL hS rfl dL_law_421 dL_law_422 dL_law_423 dL_law_424 dL_law_425 ?_
  refine zq_callV (a := 15) (ci := 11) (as := [.int (xs (i + 1))]) (rest := []) hx hb hml hown hts hK hSF zq_c11_by rfl zq_ob15 zq_l11_by zq_i11_by zq_s11_by rfl hl.1 (Nat.le_of_ble_eq_true rfl) ⟨Nat.le_of_ble_eq_true rfl, Nat.le_of_ble_eq_true rfl⟩ ⟨Nat.le_refl _, Nat.le_refl _⟩ dL_law_426 (zL_by hE _ M hG) hP hS (fun r M H locs hq hP hS => ?_)
  obtain ⟨v, rfl, hq⟩ := hq
  refine lv_aload_n hx hb dL_law_429 rfl (lv_at hl 1 rfl) ?_
  refine zq_arg (j := 1) C hl (by omega) hL hS rfl dL_law_430 dL_law_431 dL_law_432 dL_law_433 dL_law_434 ?_
  refine zq_callV (a := 0) (ci := 12) (as := [.int (xs (i + 1))]) (rest := [.int v]) hx hb hml hown hts hK hSF zq_c12_by rfl zq_ob0 zq_l12_by zq_i12_by zq_s12_by rfl hl.1 (Nat.le_of_ble_eq_true rfl) ⟨Nat.le_of_ble_eq_true rfl, Nat.le_of_ble_eq_true rfl⟩ ⟨Nat.le_refl _, Nat.le_refl _⟩ dL_law_435 (hq) hP hS (fun r M H locs hq hP hS => ?_)
  obtain ⟨rfl, hG⟩ := hq
  exact lv_icmp_eq (tgt := 1525) hx hb dL_law_438 (by decide) (fun _ => nx M H locs hG hP hS) (fun h => absurd rfl h)
theorem zq_case7 {p : Program} {e : Env} {s : State} {m : MethodId} {below : List Frame} {meth : Method} {c : Code} {E : zm_E} {sb L i : Nat} {xs : Nat → Int32} {ls : Array Slot} {M : zm_M} {H : Heap} {locs : List Loc} (C : zq_C p s m c E sb L xs) (hl : lv_has ls 4 [(3, .int (nI i)), (2, .ref (E.2.2.1 0)), (1, .ref (E.2.2.1 15)), (0, .ref sb)]) (hi : i + 6 ≤ L) (hL : L ≤ 3072) (hG : zGG M) (hP : va_P E.2.1 zy_cl (zm_ws E.2.2.1 E.2.2.2.1 M) H) (hS : va_S E.2.2.2.2 s.heap H locs) (nx : zq_nx p e s m sb below meth c E ls) : W p E.1 e room_1 s m #[Value.ref sb] below meth c H locs 600000 7302250 (lw_Z below #[Value.ref sb] s) (F0 m 443 ls []) := by
  obtain ⟨hx, hb, hml, hown, hts, hK, hE, hSF, hX, hbl, hbA⟩ := id C
  refine lv_aload_n hx hb dL_law_443 rfl (lv_at hl 2 rfl) ?_
  refine zq_arg (j := 1) C hl (by omega) hL hS rfl dL_law_444 dL_law_445 dL_law_446 dL_law_447 dL_law_448 ?_
  refine zq_arg (j := 2) C hl (by omega) hL hS rfl dL_law_449 dL_law_450 dL_law_451 dL_law_452 dL_law_453 ?_
  refine zq_arg (j := 3) C hl (by omega) hL hS rfl dL_law_454 dL_law_455 dL_law_456 dL_law_457 dL_law_458 ?_
  refine zq_callV (a := 15) (ci := 11) (as := [.int (xs (i + 1)), .int (xs (i + 2)), .int (xs (i + 3))]) (rest := []) hx hb hml hown hts hK hSF zq_c11_wrong rfl zq_ob15 zq_l11_wrong zq_i11_wrong zq_s11_wrong rfl hl.1 (Nat.le_of_ble_eq_true rfl) ⟨Nat.le_of_ble_eq_true rfl, Nat.le_of_ble_eq_true rfl⟩ ⟨Nat.le_refl _, Nat.le_refl _⟩ dL_law_459 (zL_wrong hE _ _ _ M hG) hP hS (fun r M H locs hq hP hS => ?_)
  obtain ⟨v, rfl, hq⟩ := hq
  refine lv_aload_n hx hb dL_law_462 rfl (lv_at hl 1 rfl) ?_
  refine zq_arg (j := 1) C hl (by omega) hL hS rfl dL_law_463 dL_law_464 dL_law_465 dL_law_466 dL_law_467 ?_
  refine zq_arg (j := 2) C hl (by omega) hL hS rfl dL_law_468 dL_law_469 dL_law_470 dL_law_471 dL_law_472 ?_
  refine zq_arg (j := 3) C hl (by omega) hL hS rfl dL_law_473 dL_law_474 dL_law_475 dL_law_476 dL_law_477 ?_
  refine zq_callV (a := 0) (ci := 12) (as := [.int (xs (i + 1)), .int (xs (i + 2)), .int (xs (i + 3))]) (rest := [.int v]) hx hb hml hown hts hK hSF zq_c12_wrong rfl zq_ob0 zq_l12_wrong zq_i12_wrong zq_s12_wrong rfl hl.1 (Nat.le_of_ble_eq_true rfl) ⟨Nat.le_of_ble_eq_true rfl, Nat.le_of_ble_eq_true rfl⟩ ⟨Nat.le_refl _, Nat.le_refl _⟩ dL_law_478 (hq) hP hS (fun r M H locs hq hP hS => ?_)
  obtain ⟨rfl, hG⟩ := hq
  exact lv_icmp_eq (tgt := 1525) hx hb dL_law_481 (by decide) (fun _ => nx M H locs hG hP hS) (fun h => absurd rfl h)
theorem zq_case8 {p : Program} {e : Env} {s : State} {m : MethodId} {below : List Frame} {meth : Method} {c : Code} {E : zm_E} {sb L i : Nat} {xs : Nat → Int32} {ls : Array Slot} {M : zm_M} {H : Heap} {locs : List Loc} (C : zq_C p s m c E sb L xs) (hl : lv_has ls 4 [(3, .int (nI i)), (2, .ref (E.2.2.1 0)), (1, .ref (E.2.2.1 15)), (0, .ref sb)]) (hi : i + 6 ≤ L) (hL : L ≤ 3072) (hG : zGG M) (hP : va_P E.2.1 zy_cl (zm_ws E.2.2.1 E.2.2.2.1 M) H) (hS : va_S E.2.2.2.2 s.heap H locs) (nx : zq_nx p e s m sb below meth c E ls) : W p E.1 e room_1 s m #[Value.ref sb] below meth c H locs 600000 7302250 (lw_Z below #[Value.ref sb] s) (F0 m 486 ls []) := by
  obtain ⟨hx, hb, hml, hown, hts, hK, hE, hSF, hX, hbl, hbA⟩ := id C
  refine lv_aload_n hx hb dL_law_486 rfl (lv_at hl 2 rfl) ?_
  refine zq_arg (j := 1) C hl (by omega) hL hS rfl dL_law_487 dL_law_488 dL_law_489 dL_law_490 dL_law_491 ?_
  refine zq_arg (j := 2) C hl (by omega) hL hS rfl dL_law_492 dL_law_493 dL_law_494 dL_law_495 dL_law_496 ?_
  refine zq_callV (a := 15) (ci := 11) (as := [.int (xs (i + 1)), .int (xs (i + 2))]) (rest := []) hx hb hml hown hts hK hSF zq_c11_away rfl zq_ob15 zq_l11_away zq_i11_away zq_s11_away rfl hl.1 (Nat.le_of_ble_eq_true rfl) ⟨Nat.le_of_ble_eq_true rfl, Nat.le_of_ble_eq_true rfl⟩ ⟨Nat.le_refl _, Nat.le_refl _⟩ dL_law_497 (zL_away hE _ _ M hG) hP hS (fun r M H locs hq hP hS => ?_)
  obtain ⟨v, rfl, hq⟩ := hq
  refine lv_aload_n hx hb dL_law_500 rfl (lv_at hl 1 rfl) ?_
  refine zq_arg (j := 1) C hl (by omega) hL hS rfl dL_law_501 dL_law_502 dL_law_503 dL_law_504 dL_law_505 ?_
  refine zq_arg (j := 2) C hl (by omega) hL hS rfl dL_law_506 dL_law_507 dL_law_508 dL_law_509 dL_law_510 ?_
  refine zq_callV (a := 0) (ci := 12) (as := [.int (xs (i + 1)), .int (xs (i + 2))]) (rest := [.int v]) hx hb hml hown hts hK hSF zq_c12_away rfl zq_ob0 zq_l12_away zq_i12_away zq_s12_away rfl hl.1 (Nat.le_of_ble_eq_true rfl) ⟨Nat.le_of_ble_eq_true rfl, Nat.le_of_ble_eq_true rfl⟩ ⟨Nat.le_refl _, Nat.le_refl _⟩ dL_law_511 (hq) hP hS (fun r M H locs hq hP hS => ?_)
  obtain ⟨rfl, hG⟩ := hq
  exact lv_icmp_eq (tgt := 1525) hx hb dL_law_514 (by decide) (fun _ => nx M H locs hG hP hS) (fun h => absurd rfl h)
theorem zq_case9 {p : Program} {e : Env} {s : State} {m : MethodId} {below : List Frame} {meth : Method} {c : Code} {E : zm_E} {sb L i : Nat} {xs : Nat → Int32} {ls : Array Slot} {M : zm_M} {H : Heap} {locs : List Loc} (C : zq_C p s m c E sb L xs) (hl : lv_has ls 4 [(3, .int (nI i)), (2, .ref (E.2.2.1 0)), (1, .ref (E.2.2.1 15)), (0, .ref sb)]) (hi : i + 6 ≤ L) (hL : L ≤ 3072) (hG : zGG M) (hP : va_P E.2.1 zy_cl (zm_ws E.2.2.1 E.2.2.2.1 M) H) (hS : va_S E.2.2.2.2 s.heap H locs) (nx : zq_nx p e s m sb below meth c E ls) : W p E.1 e room_1 s m #[Value.ref sb] below meth c H locs 600000 7302250 (lw_Z below #[Value.ref sb] s) (F0 m 519 ls []) := by
  obtain ⟨hx, hb, hml, hown, hts, hK, hE, hSF, hX, hbl, hbA⟩ := id C
  refine lv_aload_n hx hb dL_law_519 rfl (lv_at hl 2 rfl) ?_
  refine zq_arg (j := 1) C hl (by omega) hL hS rfl dL_law_520 dL_law_521 dL_law_522 dL_law_523 dL_law_524 ?_
  refine zq_arg (j := 2) C hl (by omega) hL hS rfl dL_law_525 dL_law_526 dL_law_527 dL_law_528 dL_law_529 ?_
  refine zq_callV (a := 15) (ci := 11) (as := [.int (xs (i + 1)), .int (xs (i + 2))]) (rest := []) hx hb hml hown hts hK hSF zq_c11_sideways rfl zq_ob15 zq_l11_sideways zq_i11_sideways zq_s11_sideways rfl hl.1 (Nat.le_of_ble_eq_true rfl) ⟨Nat.le_of_ble_eq_true rfl, Nat.le_of_ble_eq_true rfl⟩ ⟨Nat.le_refl _, Nat.le_refl _⟩ dL_law_530 (zL_sideways hE _ _ M hG) hP hS (fun r M H locs hq hP hS => ?_)
  obtain ⟨v, rfl, hq⟩ := hq
  refine lv_aload_n hx hb dL_law_533 rfl (lv_at hl 1 rfl) ?_
  refine zq_arg (j := 1) C hl (by omega) hL hS rfl dL_law_534 dL_law_535 dL_law_536 dL_law_537 dL_law_538 ?_
  refine zq_arg (j := 2) C hl (by omega) hL hS rfl dL_law_539 dL_law_540 dL_law_541 dL_law_542 dL_law_543 ?_
  refine zq_callV (a := 0) (ci := 12) (as := [.int (xs (i + 1)), .int (xs (i + 2))]) (rest := [.int v]) hx hb hml hown hts hK hSF zq_c12_sideways rfl zq_ob0 zq_l12_sideways zq_i12_sideways zq_s12_sideways rfl hl.1 (Nat.le_of_ble_eq_true rfl) ⟨Nat.le_of_ble_eq_true rfl, Nat.le_of_ble_eq_true rfl⟩ ⟨Nat.le_refl _, Nat.le_refl _⟩ dL_law_544 (hq) hP hS (fun r M H locs hq hP hS => ?_)
  obtain ⟨rfl, hG⟩ := hq
  exact lv_icmp_eq (tgt := 1525) hx hb dL_law_547 (by decide) (fun _ => nx M H locs hG hP hS) (fun h => absurd rfl h)
theorem zq_case10 {p : Program} {e : Env} {s : State} {m : MethodId} {below : List Frame} {meth : Method} {c : Code} {E : zm_E} {sb L i : Nat} {xs : Nat → Int32} {ls : Array Slot} {M : zm_M} {H : Heap} {locs : List Loc} (C : zq_C p s m c E sb L xs) (hl : lv_has ls 4 [(3, .int (nI i)), (2, .ref (E.2.2.1 0)), (1, .ref (E.2.2.1 15)), (0, .ref sb)]) (hi : i + 6 ≤ L) (hL : L ≤ 3072) (hG : zGG M) (hP : va_P E.2.1 zy_cl (zm_ws E.2.2.1 E.2.2.2.1 M) H) (hS : va_S E.2.2.2.2 s.heap H locs) (nx : zq_nx p e s m sb below meth c E ls) : W p E.1 e room_1 s m #[Value.ref sb] below meth c H locs 600000 7302250 (lw_Z below #[Value.ref sb] s) (F0 m 552 ls []) := by
  obtain ⟨hx, hb, hml, hown, hts, hK, hE, hSF, hX, hbl, hbA⟩ := id C
  refine lv_aload_n hx hb dL_law_552 rfl (lv_at hl 2 rfl) ?_
  refine zq_arg (j := 1) C hl (by omega) hL hS rfl dL_law_553 dL_law_554 dL_law_555 dL_law_556 dL_law_557 ?_
  refine zq_callV (a := 15) (ci := 11) (as := [.int (xs (i + 1))]) (rest := []) hx hb hml hown hts hK hSF zq_c11_day rfl zq_ob15 zq_l11_day zq_i11_day zq_s11_day rfl hl.1 (Nat.le_of_ble_eq_true rfl) ⟨Nat.le_of_ble_eq_true rfl, Nat.le_of_ble_eq_true rfl⟩ ⟨Nat.le_refl _, Nat.le_refl _⟩ dL_law_558 (zL_day hE _ M hG) hP hS (fun r M H locs hq hP hS => ?_)
  obtain ⟨v, rfl, hq⟩ := hq
  refine lv_aload_n hx hb dL_law_561 rfl (lv_at hl 1 rfl) ?_
  refine zq_arg (j := 1) C hl (by omega) hL hS rfl dL_law_562 dL_law_563 dL_law_564 dL_law_565 dL_law_566 ?_
  refine zq_callV (a := 0) (ci := 12) (as := [.int (xs (i + 1))]) (rest := [.int v]) hx hb hml hown hts hK hSF zq_c12_day rfl zq_ob0 zq_l12_day zq_i12_day zq_s12_day rfl hl.1 (Nat.le_of_ble_eq_true rfl) ⟨Nat.le_of_ble_eq_true rfl, Nat.le_of_ble_eq_true rfl⟩ ⟨Nat.le_refl _, Nat.le_refl _⟩ dL_law_567 (hq) hP hS (fun r M H locs hq hP hS => ?_)
  obtain ⟨rfl, hG⟩ := hq
  exact lv_icmp_eq (tgt := 1525) hx hb dL_law_570 (by decide) (fun _ => nx M H locs hG hP hS) (fun h => absurd rfl h)
theorem zq_case11 {p : Program} {e : Env} {s : State} {m : MethodId} {below : List Frame} {meth : Method} {c : Code} {E : zm_E} {sb L i : Nat} {xs : Nat → Int32} {ls : Array Slot} {M : zm_M} {H : Heap} {locs : List Loc} (C : zq_C p s m c E sb L xs) (hl : lv_has ls 4 [(3, .int (nI i)), (2, .ref (E.2.2.1 0)), (1, .ref (E.2.2.1 15)), (0, .ref sb)]) (hi : i + 6 ≤ L) (hL : L ≤ 3072) (hG : zGG M) (hP : va_P E.2.1 zy_cl (zm_ws E.2.2.1 E.2.2.2.1 M) H) (hS : va_S E.2.2.2.2 s.heap H locs) (nx : zq_nx p e s m sb below meth c E ls) : W p E.1 e room_1 s m #[Value.ref sb] below meth c H locs 600000 7302250 (lw_Z below #[Value.ref sb] s) (F0 m 575 ls []) := by
  obtain ⟨hx, hb, hml, hown, hts, hK, hE, hSF, hX, hbl, hbA⟩ := id C
  refine lv_aload_n hx hb dL_law_575 rfl (lv_at hl 2 rfl) ?_
  refine zq_arg (j := 1) C hl (by omega) hL hS rfl dL_law_576 dL_law_577 dL_law_578 dL_law_579 dL_law_580 ?_
  refine zq_callV (a := 15) (ci := 11) (as := [.int (xs (i + 1))]) (rest := []) hx hb hml hown hts hK hSF zq_c11_played rfl zq_ob15 zq_l11_played zq_i11_played zq_s11_played rfl hl.1 (Nat.le_of_ble_eq_true rfl) ⟨Nat.le_of_ble_eq_true rfl, Nat.le_of_ble_eq_true rfl⟩ ⟨Nat.le_refl _, Nat.le_refl _⟩ dL_law_581 (zL_played hE _ M hG) hP hS (fun r M H locs hq hP hS => ?_)
  obtain ⟨v, rfl, hq⟩ := hq
  refine lv_aload_n hx hb dL_law_584 rfl (lv_at hl 1 rfl) ?_
  refine zq_arg (j := 1) C hl (by omega) hL hS rfl dL_law_585 dL_law_586 dL_law_587 dL_law_588 dL_law_589 ?_
  refine zq_callV (a := 0) (ci := 12) (as := [.int (xs (i + 1))]) (rest := [.int v]) hx hb hml hown hts hK hSF zq_c12_played rfl zq_ob0 zq_l12_played zq_i12_played zq_s12_played rfl hl.1 (Nat.le_of_ble_eq_true rfl) ⟨Nat.le_of_ble_eq_true rfl, Nat.le_of_ble_eq_true rfl⟩ ⟨Nat.le_refl _, Nat.le_refl _⟩ dL_law_590 (hq) hP hS (fun r M H locs hq hP hS => ?_)
  obtain ⟨rfl, hG⟩ := hq
  exact lv_icmp_eq (tgt := 1525) hx hb dL_law_593 (by decide) (fun _ => nx M H locs hG hP hS) (fun h => absurd rfl h)
theorem zq_case12 {p : Program} {e : Env} {s : State} {m : MethodId} {below : List Frame} {meth : Method} {c : Code} {E : zm_E} {sb L i : Nat} {xs : Nat → Int32} {ls : Array Slot} {M : zm_M} {H : Heap} {locs : List Loc} (C : zq_C p s m c E sb L xs) (hl : lv_has ls 4 [(3, .int (nI i)), (2, .ref (E.2.2.1 0)), (1, .ref (E.2.2.1 15)), (0, .ref sb)]) (hi : i + 6 ≤ L) (hL : L ≤ 3072) (hG : zGG M) (hP : va_P E.2.1 zy_cl (zm_ws E.2.2.1 E.2.2.2.1 M) H) (hS : va_S E.2.2.2.2 s.heap H locs) (nx : zq_nx p e s m sb below meth c E ls) : W p E.1 e room_1 s m #[Value.ref sb] below meth c H locs 600000 7302250 (lw_Z below #[Value.ref sb] s) (F0 m 598 ls []) := by
  obtain ⟨hx, hb, hml, hown, hts, hK, hE, hSF, hX, hbl, hbA⟩ := id C
  refine lv_aload_n hx hb dL_law_598 rfl (lv_at hl 2 rfl) ?_
  refine zq_arg (j := 1) C hl (by omega) hL hS rfl dL_law_599 dL_law_600 dL_law_601 dL_law_602 dL_law_603 ?_
  refine zq_arg (j := 2) C hl (by omega) hL hS rfl dL_law_604 dL_law_605 dL_law_606 dL_law_607 dL_law_608 ?_
  refine zq_callV (a := 15) (ci := 11) (as := [.int (xs (i + 1)), .int (xs (i + 2))]) (rest := []) hx hb hml hown hts hK hSF zq_c11_years rfl zq_ob15 zq_l11_years zq_i11_years zq_s11_years rfl hl.1 (Nat.le_of_ble_eq_true rfl) ⟨Nat.le_of_ble_eq_true rfl, Nat.le_of_ble_eq_true rfl⟩ ⟨Nat.le_refl _, Nat.le_refl _⟩ dL_law_609 (zL_years hE _ _ M hG) hP hS (fun r M H locs hq hP hS => ?_)
  obtain ⟨v, rfl, hq⟩ := hq
  refine lv_aload_n hx hb dL_law_612 rfl (lv_at hl 1 rfl) ?_
  refine zq_arg (j := 1) C hl (by omega) hL hS rfl dL_law_613 dL_law_614 dL_law_615 dL_law_616 dL_law_617 ?_
  refine zq_arg (j := 2) C hl (by omega) hL hS rfl dL_law_618 dL_law_619 dL_law_620 dL_law_621 dL_law_622 ?_
  refine zq_callV (a := 0) (ci := 12) (as := [.int (xs (i + 1)), .int (xs (i + 2))]) (rest := [.int v]) hx hb hml hown hts hK hSF zq_c12_years rfl zq_ob0 zq_l12_years zq_i12_years zq_s12_years rfl hl.1 (Nat.le_of_ble_eq_true rfl) ⟨Nat.le_of_ble_eq_true rfl, Nat.le_of_ble_eq_true rfl⟩ ⟨Nat.le_refl _, Nat.le_refl _⟩ dL_law_623 (hq) hP hS (fun r M H locs hq hP hS => ?_)
  obtain ⟨rfl, hG⟩ := hq
  exact lv_icmp_eq (tgt := 1525) hx hb dL_law_626 (by decide) (fun _ => nx M H locs hG hP hS) (fun h => absurd rfl h)
theorem zq_case13 {p : Program} {e : Env} {s : State} {m : MethodId} {below : List Frame} {meth : Method} {c : Code} {E : zm_E} {sb L i : Nat} {xs : Nat → Int32} {ls : Array Slot} {M : zm_M} {H : Heap} {locs : List Loc} (C : zq_C p s m c E sb L xs) (hl : lv_has ls 4 [(3, .int (nI i)), (2, .ref (E.2.2.1 0)), (1, .ref (E.2.2.1 15)), (0, .ref sb)]) (hi : i + 6 ≤ L) (hL : L ≤ 3072) (hG : zGG M) (hP : va_P E.2.1 zy_cl (zm_ws E.2.2.1 E.2.2.2.1 M) H) (hS : va_S E.2.2.2.2 s.heap H locs) (nx : zq_nx p e s m sb below meth c E ls) : W p E.1 e room_1 s m #[Value.ref sb] below meth c H locs 600000 7302250 (lw_Z below #[Value.ref sb] s) (F0 m 631 ls []) := by
  obtain ⟨hx, hb, hml, hown, hts, hK, hE, hSF, hX, hbl, hbA⟩ := id C
  refine lv_aload_n hx hb dL_law_631 rfl (lv_at hl 2 rfl) ?_
  refine zq_callV (a := 15) (ci := 11) (as := []) (rest := []) hx hb hml hown hts hK hSF zq_c11_undo rfl zq_ob15 zq_l11_undo zq_i11_undo zq_s11_undo rfl hl.1 (Nat.le_of_ble_eq_true rfl) ⟨Nat.le_of_ble_eq_true rfl, Nat.le_of_ble_eq_true rfl⟩ ⟨Nat.le_refl _, Nat.le_refl _⟩ dL_law_632 (zL_undo hE M hG) hP hS (fun r M H locs hq hP hS => ?_)
  obtain ⟨v, rfl, hq⟩ := hq
  refine lv_aload_n hx hb dL_law_635 rfl (lv_at hl 1 rfl) ?_
  refine zq_callV (a := 0) (ci := 12) (as := []) (rest := [.int v]) hx hb hml hown hts hK hSF zq_c12_undo rfl zq_ob0 zq_l12_undo zq_i12_undo zq_s12_undo rfl hl.1 (Nat.le_of_ble_eq_true rfl) ⟨Nat.le_of_ble_eq_true rfl, Nat.le_of_ble_eq_true rfl⟩ ⟨Nat.le_refl _, Nat.le_refl _⟩ dL_law_636 (hq) hP hS (fun r M H locs hq hP hS => ?_)
  obtain ⟨rfl, hG⟩ := hq
  exact lv_icmp_eq (tgt := 1525) hx hb dL_law_639 (by decide) (fun _ => nx M H locs hG hP hS) (fun h => absurd rfl h)
theorem zq_case14 {p : Program} {e : Env} {s : State} {m : MethodId} {below : List Frame} {meth : Method} {c : Code} {E : zm_E} {sb L i : Nat} {xs : Nat → Int32} {ls : Array Slot} {M : zm_M} {H : Heap} {locs : List Loc} (C : zq_C p s m c E sb L xs) (hl : lv_has ls 4 [(3, .int (nI i)), (2, .ref (E.2.2.1 0)), (1, .ref (E.2.2.1 15)), (0, .ref sb)]) (hi : i + 6 ≤ L) (hL : L ≤ 3072) (hG : zGG M) (hP : va_P E.2.1 zy_cl (zm_ws E.2.2.1 E.2.2.2.1 M) H) (hS : va_S E.2.2.2.2 s.heap H locs) (nx : zq_nx p e s m sb below meth c E ls) : W p E.1 e room_1 s m #[Value.ref sb] below meth c H locs 600000 7302250 (lw_Z below #[Value.ref sb] s) (F0 m 644 ls []) := by
  obtain ⟨hx, hb, hml, hown, hts, hK, hE, hSF, hX, hbl, hbA⟩ := id C
  refine lv_aload_n hx hb dL_law_644 rfl (lv_at hl 2 rfl) ?_
  refine zq_arg (j := 1) C hl (by omega) hL hS rfl dL_law_645 dL_law_646 dL_law_647 dL_law_648 dL_law_649 ?_
  refine zq_arg (j := 2) C hl (by omega) hL hS rfl dL_law_650 dL_law_651 dL_law_652 dL_law_653 dL_law_654 ?_
  refine zq_callV (a := 15) (ci := 11) (as := [.int (xs (i + 1)), .int (xs (i + 2))]) (rest := []) hx hb hml hown hts hK hSF zq_c11_of rfl zq_ob15 zq_l11_of zq_i11_of zq_s11_of rfl hl.1 (Nat.le_of_ble_eq_true rfl) ⟨Nat.le_of_ble_eq_true rfl, Nat.le_of_ble_eq_true rfl⟩ ⟨Nat.le_refl _, Nat.le_refl _⟩ dL_law_655 (zL_of hE _ _ M hG) hP hS (fun r M H locs hq hP hS => ?_)
  obtain ⟨v, rfl, hq⟩ := hq
  refine lv_aload_n hx hb dL_law_658 rfl (lv_at hl 1 rfl) ?_
  refine zq_arg (j := 1) C hl (by omega) hL hS rfl dL_law_659 dL_law_660 dL_law_661 dL_law_662 dL_law_663 ?_
  refine zq_arg (j := 2) C hl (by omega) hL hS rfl dL_law_664 dL_law_665 dL_law_666 dL_law_667 dL_law_668 ?_
  refine zq_callV (a := 0) (ci := 12) (as := [.int (xs (i + 1)), .int (xs (i + 2))]) (rest := [.int v]) hx hb hml hown hts hK hSF zq_c12_of rfl zq_ob0 zq_l12_of zq_i12_of zq_s12_of rfl hl.1 (Nat.le_of_ble_eq_true rfl) ⟨Nat.le_of_ble_eq_true rfl, Nat.le_of_ble_eq_true rfl⟩ ⟨Nat.le_refl _, Nat.le_refl _⟩ dL_law_669 (hq) hP hS (fun r M H locs hq hP hS => ?_)
  obtain ⟨rfl, hG⟩ := hq
  exact lv_icmp_eq (tgt := 1525) hx hb dL_law_672 (by decide) (fun _ => nx M H locs hG hP hS) (fun h => absurd rfl h)
theorem zq_case15 {p : Program} {e : Env} {s : State} {m : MethodId} {below : List Frame} {meth : Method} {c : Code} {E : zm_E} {sb L i : Nat} {xs : Nat → Int32} {ls : Array Slot} {M : zm_M} {H : Heap} {locs : List Loc} (C : zq_C p s m c E sb L xs) (hl : lv_has ls 4 [(3, .int (nI i)), (2, .ref (E.2.2.1 0)), (1, .ref (E.2.2.1 15)), (0, .ref sb)]) (hi : i + 6 ≤ L) (hL : L ≤ 3072) (hG : zGG M) (hP : va_P E.2.1 zy_cl (zm_ws E.2.2.1 E.2.2.2.1 M) H) (hS : va_S E.2.2.2.2 s.heap H locs) (nx : zq_nx p e s m sb below meth c E ls) : W p E.1 e room_1 s m #[Value.ref sb] below meth c H locs 600000 7302250 (lw_Z below #[Value.ref sb] s) (F0 m 677 ls []) := by
  obtain ⟨hx, hb, hml, hown, hts, hK, hE, hSF, hX, hbl, hbA⟩ := id C
  refine lv_aload_n hx hb dL_law_677 rfl (lv_at hl 2 rfl) ?_
  refine zq_arg (j := 1) C hl (by omega) hL hS rfl dL_law_678 dL_law_679 dL_law_680 dL_law_681 dL_law_682 ?_
  refine zq_arg (j := 2) C hl (by omega) hL hS rfl dL_law_683 dL_law_684 dL_law_685 dL_law_686 dL_law_687 ?_
  refine zq_callV (a := 15) (ci := 11) (as := [.int (xs (i + 1)), .int (xs (i + 2))]) (rest := []) hx hb hml hown hts hK hSF zq_c11_ofApology rfl zq_ob15 zq_l11_ofApology zq_i11_ofApology zq_s11_ofApology rfl hl.1 (Nat.le_of_ble_eq_true rfl) ⟨Nat.le_of_ble_eq_true rfl, Nat.le_of_ble_eq_true rfl⟩ ⟨Nat.le_refl _, Nat.le_refl _⟩ dL_law_688 (zL_ofApology hE _ _ M hG) hP hS (fun r M H locs hq hP hS => ?_)
  obtain ⟨v, rfl, hq⟩ := hq
  refine lv_aload_n hx hb dL_law_691 rfl (lv_at hl 1 rfl) ?_
  refine zq_arg (j := 1) C hl (by omega) hL hS rfl dL_law_692 dL_law_693 dL_law_694 dL_law_695 dL_law_696 ?_
  refine zq_arg (j := 2) C hl (by omega) hL hS rfl dL_law_697 dL_law_698 dL_law_699 dL_law_700 dL_law_701 ?_
  refine zq_callV (a := 0) (ci := 12) (as := [.int (xs (i + 1)), .int (xs (i + 2))]) (rest := [.int v]) hx hb hml hown hts hK hSF zq_c12_ofApology rfl zq_ob0 zq_l12_ofApology zq_i12_ofApology zq_s12_ofApology rfl hl.1 (Nat.le_of_ble_eq_true rfl) ⟨Nat.le_of_ble_eq_true rfl, Nat.le_of_ble_eq_true rfl⟩ ⟨Nat.le_refl _, Nat.le_refl _⟩ dL_law_702 (hq) hP hS (fun r M H locs hq hP hS => ?_)
  obtain ⟨rfl, hG⟩ := hq
  exact lv_icmp_eq (tgt := 1525) hx hb dL_law_705 (by decide) (fun _ => nx M H locs hG hP hS) (fun h => absurd rfl h)
theorem zq_case16 {p : Program} {e : Env} {s : State} {m : MethodId} {below : List Frame} {meth : Method} {c : Code} {E : zm_E} {sb L i : Nat} {xs : Nat → Int32} {ls : Array Slot} {M : zm_M} {H : Heap} {locs : List Loc} (C : zq_C p s m c E sb L xs) (hl : lv_has ls 4 [(3, .int (nI i)), (2, .ref (E.2.2.1 0)), (1, .ref (E.2.2.1 15)), (0, .ref sb)]) (hi : i + 6 ≤ L) (hL : L ≤ 3072) (hG : zGG M) (hP : va_P E.2.1 zy_cl (zm_ws E.2.2.1 E.2.2.2.1 M) H) (hS : va_S E.2.2.2.2 s.heap H locs) (nx : zq_nx p e s m sb below meth c E ls) : W p E.1 e room_1 s m #[Value.ref sb] below meth c H locs 600000 7302250 (lw_Z below #[Value.ref sb] s) (F0 m 710 ls []) := by
  obtain ⟨hx, hb, hml, hown, hts, hK, hE, hSF, hX, hbl, hbA⟩ := id C
  refine lv_aload_n hx hb dL_law_710 rfl (lv_at hl 2 rfl) ?_
  refine zq_arg (j := 1) C hl (by omega) hL hS rfl dL_law_711 dL_law_712 dL_law_713 dL_law_714 dL_law_715 ?_
  refine zq_callV (a := 15) (ci := 11) (as := [.int (xs (i + 1))]) (rest := []) hx hb hml hown hts hK hSF zq_c11_is rfl zq_ob15 zq_l11_is zq_i11_is zq_s11_is rfl hl.1 (Nat.le_of_ble_eq_true rfl) ⟨Nat.le_of_ble_eq_true rfl, Nat.le_of_ble_eq_true rfl⟩ ⟨Nat.le_refl _, Nat.le_refl _⟩ dL_law_716 (zL_is hE _ M hG) hP hS (fun r M H locs hq hP hS => ?_)
  obtain ⟨v, rfl, hq⟩ := hq
  refine lv_aload_n hx hb dL_law_719 rfl (lv_at hl 1 rfl) ?_
  refine zq_arg (j := 1) C hl (by omega) hL hS rfl dL_law_720 dL_law_721 dL_law_722 dL_law_723 dL_law_724 ?_
  refine zq_callV (a := 0) (ci := 12) (as := [.int (xs (i + 1))]) (rest := [.int v]) hx hb hml hown hts hK hSF zq_c12_is rfl zq_ob0 zq_l12_is zq_i12_is zq_s12_is rfl hl.1 (Nat.le_of_ble_eq_true rfl) ⟨Nat.le_of_ble_eq_true rfl, Nat.le_of_ble_eq_true rfl⟩ ⟨Nat.le_refl _, Nat.le_refl _⟩ dL_law_725 (hq) hP hS (fun r M H locs hq hP hS => ?_)
  obtain ⟨rfl, hG⟩ := hq
  exact lv_icmp_eq (tgt := 1525) hx hb dL_law_728 (by decide) (fun _ => nx M H locs hG hP hS) (fun h => absurd rfl h)
theorem zq_case17 {p : Program} {e : Env} {s : State} {m : MethodId} {below : List Frame} {meth : Method} {c : Code} {E : zm_E} {sb L i : Nat} {xs : Nat → Int32} {ls : Array Slot} {M : zm_M} {H : Heap} {locs : List Loc} (C : zq_C p s m c E sb L xs) (hl : lv_has ls 4 [(3, .int (nI i)), (2, .ref (E.2.2.1 0)), (1, .ref (E.2.2.1 15)), (0, .ref sb)]) (hi : i + 6 ≤ L) (hL : L ≤ 3072) (hG : zGG M) (hP : va_P E.2.1 zy_cl (zm_ws E.2.2.1 E.2.2.2.1 M) H) (hS : va_S E.2.2.2.2 s.heap H locs) (nx : zq_nx p e s m sb below meth c E ls) : W p E.1 e room_1 s m #[Value.ref sb] below meth c H locs 600000 7302250 (lw_Z below #[Value.ref sb] s) (F0 m 733 ls []) := by
  obtain ⟨hx, hb, hml, hown, hts, hK, hE, hSF, hX, hbl, hbA⟩ := id C
  refine lv_aload_n hx hb dL_law_733 rfl (lv_at hl 2 rfl) ?_
  refine zq_arg (j := 1) C hl (by omega) hL hS rfl dL_law_734 dL_law_735 dL_law_736 dL_law_737 dL_law_738 ?_
  refine zq_arg (j := 2) C hl (by omega) hL hS rfl dL_law_739 dL_law_740 dL_law_741 dL_law_742 dL_law_743 ?_
  refine zq_callV (a := 15) (ci := 11) (as := [.int (xs (i + 1)), .int (xs (i + 2))]) (rest := []) hx hb hml hown hts hK hSF zq_c11_book rfl zq_ob15 zq_l11_book zq_i11_book zq_s11_book rfl hl.1 (Nat.le_of_ble_eq_true rfl) ⟨Nat.le_of_ble_eq_true rfl, Nat.le_of_ble_eq_true rfl⟩ ⟨Nat.le_refl _, Nat.le_refl _⟩ dL_law_744 (zL_book hE _ _ M hG) hP hS (fun r M H locs hq hP hS => ?_)
  obtain ⟨v, rfl, hq⟩ := hq
  refine lv_aload_n hx hb dL_law_747 rfl (lv_at hl 1 rfl) ?_
  refine zq_arg (j := 1) C hl (by omega) hL hS rfl dL_law_748 dL_law_749 dL_law_750 dL_law_751 dL_law_752 ?_
  refine zq_arg (j := 2) C hl (by omega) hL hS rfl dL_law_753 dL_law_754 dL_law_755 dL_law_756 dL_law_757 ?_
  refine zq_callV (a := 0) (ci := 12) (as := [.int (xs (i + 1)), .int (xs (i + 2))]) (rest := [.int v]) hx hb hml hown hts hK hSF zq_c12_book rfl zq_ob0 zq_l12_book zq_i12_book zq_s12_book rfl hl.1 (Nat.le_of_ble_eq_true rfl) ⟨Nat.le_of_ble_eq_true rfl, Nat.le_of_ble_eq_true rfl⟩ ⟨Nat.le_refl _, Nat.le_refl _⟩ dL_law_758 (hq) hP hS (fun r M H locs hq hP hS => ?_)
  obtain ⟨rfl, hG⟩ := hq
  exact lv_icmp_eq (tgt := 1525) hx hb dL_law_761 (by decide) (fun _ => nx M H locs hG hP hS) (fun h => absurd rfl h)
theorem zq_case18 {p : Program} {e : Env} {s : State} {m : MethodId} {below : List Frame} {meth : Method} {c : Code} {E : zm_E} {sb L i : Nat} {xs : Nat → Int32} {ls : Array Slot} {M : zm_M} {H : Heap} {locs : List Loc} (C : zq_C p s m c E sb L xs) (hl : lv_has ls 4 [(3, .int (nI i)), (2, .ref (E.2.2.1 0)), (1, .ref (E.2.2.1 15)), (0, .ref sb)]) (hi : i + 6 ≤ L) (hL : L ≤ 3072) (hG : zGG M) (hP : va_P E.2.1 zy_cl (zm_ws E.2.2.1 E.2.2.2.1 M) H) (hS : va_S E.2.2.2.2 s.heap H locs) (nx : zq_nx p e s m sb below meth c E ls) : W p E.1 e room_1 s m #[Value.ref sb] below meth c H locs 600000 7302250 (lw_Z below #[Value.ref sb] s) (F0 m 766 ls []) := by
  obtain ⟨hx, hb, hml, hown, hts, hK, hE, hSF, hX, hbl, hbA⟩ := id C
  refine lv_aload_n hx hb dL_law_766 rfl (lv_at hl 2 rfl) ?_
  refine zq_arg (j := 1) C hl (by omega) hL hS rfl dL_law_767 dL_law_768 dL_law_769 dL_law_770 dL_law_771 ?_
  refine zq_arg (j := 2) C hl (by omega) hL hS rfl dL_law_772 dL_law_773 dL_law_774 dL_law_775 dL_law_776 ?_
  refine zq_arg (j := 3) C hl (by omega) hL hS rfl dL_law_777 dL_law_778 dL_law_779 dL_law_780 dL_law_781 ?_
  refine zq_callV (a := 15) (ci := 11) (as := [.int (xs (i + 1)), .int (xs (i + 2)), .int (xs (i + 3))]) (rest := []) hx hb hml hown hts hK hSF zq_c11_foretold rfl zq_ob15 zq_l11_foretold zq_i11_foretold zq_s11_foretold rfl hl.1 (Nat.le_of_ble_eq_true rfl) ⟨Nat.le_of_ble_eq_true rfl, Nat.le_of_ble_eq_true rfl⟩ ⟨Nat.le_refl _, Nat.le_refl _⟩ dL_law_782 (zL_foretold hE _ _ _ M hG) hP hS (fun r M H locs hq hP hS => ?_)
  obtain ⟨v, rfl, hq⟩ := hq
  refine lv_aload_n hx hb dL_law_785 rfl (lv_at hl 1 rfl) ?_
  refine zq_arg (j := 1) C hl (by omega) hL hS rfl dL_law_786 dL_law_787 dL_law_788 dL_law_789 dL_law_790 ?_
  refine zq_arg (j := 2) C hl (by omega) hL hS rfl dL_law_791 dL_law_792 dL_law_793 dL_law_794 dL_law_795 ?_
  refine zq_arg (j := 3) C hl (by omega) hL hS rfl dL_law_796 dL_law_797 dL_law_798 dL_law_799 dL_law_800 ?_
  refine zq_callV (a := 0) (ci := 12) (as := [.int (xs (i + 1)), .int (xs (i + 2)), .int (xs (i + 3))]) (rest := [.int v]) hx hb hml hown hts hK hSF zq_c12_foretold rfl zq_ob0 zq_l12_foretold zq_i12_foretold zq_s12_foretold rfl hl.1 (Nat.le_of_ble_eq_true rfl) ⟨Nat.le_of_ble_eq_true rfl, Nat.le_of_ble_eq_true rfl⟩ ⟨Nat.le_refl _, Nat.le_refl _⟩ dL_law_801 (hq) hP hS (fun r M H locs hq hP hS => ?_)
  obtain ⟨rfl, hG⟩ := hq
  exact lv_icmp_eq (tgt := 1525) hx hb dL_law_804 (by decide) (fun _ => nx M H locs hG hP hS) (fun h => absurd rfl h)
theorem zq_case19 {p : Program} {e : Env} {s : State} {m : MethodId} {below : List Frame} {meth : Method} {c : Code} {E : zm_E} {sb L i : Nat} {xs : Nat → Int32} {ls : Array Slot} {M : zm_M} {H : Heap} {locs : List Loc} (C : zq_C p s m c E sb L xs) (hl : lv_has ls 4 [(3, .int (nI i)), (2, .ref (E.2.2.1 0)), (1, .ref (E.2.2.1 15)), (0, .ref sb)]) (hi : i + 6 ≤ L) (hL : L ≤ 3072) (hG : zGG M) (hP : va_P E.2.1 zy_cl (zm_ws E.2.2.1 E.2.2.2.1 M) H) (hS : va_S E.2.2.2.2 s.heap H locs) (nx : zq_nx p e s m sb below meth c E ls) : W p E.1 e room_1 s m #[Value.ref sb] below meth c H locs 600000 7302250 (lw_Z below #[Value.ref sb] s) (F0 m 809 ls []) := by
  obtain ⟨hx, hb, hml, hown, hts, hK, hE, hSF, hX, hbl, hbA⟩ := id C
  refine lv_aload_n hx hb dL_law_809 rfl (lv_at hl 2 rfl) ?_
  refine zq_arg (j := 1) C hl (by omega) hL hS rfl dL_law_810 dL_law_811 dL_law_812 dL_law_813 dL_law_814 ?_
  refine zq_callV (a := 15) (ci := 11) (as := [.int (xs (i + 1))]) (rest := []) hx hb hml hown hts hK hSF zq_c11_pardoned rfl zq_ob15 zq_l11_pardoned zq_i11_pardoned zq_s11_pardoned rfl hl.1 (Nat.le_of_ble_eq_true rfl) ⟨Nat.le_of_ble_eq_true rfl, Nat.le_of_ble_eq_true rfl⟩ ⟨Nat.le_refl _, Nat.le_refl _⟩ dL_law_815 (zL_pardoned hE _ M hG) hP hS (fun r M H locs hq hP hS => ?_)
  obtain ⟨v, rfl, hq⟩ := hq
  refine lv_aload_n hx hb dL_law_818 rfl (lv_at hl 1 rfl) ?_
  refine zq_arg (j := 1) C hl (by omega) hL hS rfl dL_law_819 dL_law_820 dL_law_821 dL_law_822 dL_law_823 ?_
  refine zq_callV (a := 0) (ci := 12) (as := [.int (xs (i + 1))]) (rest := [.int v]) hx hb hml hown hts hK hSF zq_c12_pardoned rfl zq_ob0 zq_l12_pardoned zq_i12_pardoned zq_s12_pardoned rfl hl.1 (Nat.le_of_ble_eq_true rfl) ⟨Nat.le_of_ble_eq_true rfl, Nat.le_of_ble_eq_true rfl⟩ ⟨Nat.le_refl _, Nat.le_refl _⟩ dL_law_824 (hq) hP hS (fun r M H locs hq hP hS => ?_)
  obtain ⟨rfl, hG⟩ := hq
  exact lv_icmp_eq (tgt := 1525) hx hb dL_law_827 (by decide) (fun _ => nx M H locs hG hP hS) (fun h => absurd rfl h)
theorem zq_case20 {p : Program} {e : Env} {s : State} {m : MethodId} {below : List Frame} {meth : Method} {c : Code} {E : zm_E} {sb L i : Nat} {xs : Nat → Int32} {ls : Array Slot} {M : zm_M} {H : Heap} {locs : List Loc} (C : zq_C p s m c E sb L xs) (hl : lv_has ls 4 [(3, .int (nI i)), (2, .ref (E.2.2.1 0)), (1, .ref (E.2.2.1 15)), (0, .ref sb)]) (hi : i + 6 ≤ L) (hL : L ≤ 3072) (hG : zGG M) (hP : va_P E.2.1 zy_cl (zm_ws E.2.2.1 E.2.2.2.1 M) H) (hS : va_S E.2.2.2.2 s.heap H locs) (nx : zq_nx p e s m sb below meth c E ls) : W p E.1 e room_1 s m #[Value.ref sb] below meth c H locs 600000 7302250 (lw_Z below #[Value.ref sb] s) (F0 m 832 ls []) := by
  obtain ⟨hx, hb, hml, hown, hts, hK, hE, hSF, hX, hbl, hbA⟩ := id C
  refine lv_aload_n hx hb dL_law_832 rfl (lv_at hl 2 rfl) ?_
  refine zq_arg (j := 1) C hl (by omega) hL hS rfl dL_law_833 dL_law_834 dL_law_835 dL_law_836 dL_law_837 ?_
  refine zq_arg (j := 2) C hl (by omega) hL hS rfl dL_law_838 dL_law_839 dL_law_840 dL_law_841 dL_law_842 ?_
  refine zq_callV (a := 15) (ci := 11) (as := [.int (xs (i + 1)), .int (xs (i + 2))]) (rest := []) hx hb hml hown hts hK hSF zq_c11_meets rfl zq_ob15 zq_l11_meets zq_i11_meets zq_s11_meets rfl hl.1 (Nat.le_of_ble_eq_true rfl) ⟨Nat.le_of_ble_eq_true rfl, Nat.le_of_ble_eq_true rfl⟩ ⟨Nat.le_refl _, Nat.le_refl _⟩ dL_law_843 (zL_meets hE _ _ M hG) hP hS (fun r M H locs hq hP hS => ?_)
  obtain ⟨v, rfl, hq⟩ := hq
  refine lv_aload_n hx hb dL_law_846 rfl (lv_at hl 1 rfl) ?_
  refine zq_arg (j := 1) C hl (by omega) hL hS rfl dL_law_847 dL_law_848 dL_law_849 dL_law_850 dL_law_851 ?_
  refine zq_arg (j := 2) C hl (by omega) hL hS rfl dL_law_852 dL_law_853 dL_law_854 dL_law_855 dL_law_856 ?_
  refine zq_callV (a := 0) (ci := 12) (as := [.int (xs (i + 1)), .int (xs (i + 2))]) (rest := [.int v]) hx hb hml hown hts hK hSF zq_c12_meets rfl zq_ob0 zq_l12_meets zq_i12_meets zq_s12_meets rfl hl.1 (Nat.le_of_ble_eq_true rfl) ⟨Nat.le_of_ble_eq_true rfl, Nat.le_of_ble_eq_true rfl⟩ ⟨Nat.le_refl _, Nat.le_refl _⟩ dL_law_857 (hq) hP hS (fun r M H locs hq hP hS => ?_)
  obtain ⟨rfl, hG⟩ := hq
  exact lv_icmp_eq (tgt := 1525) hx hb dL_law_860 (by decide) (fun _ => nx M H locs hG hP hS) (fun h => absurd rfl h)
theorem zq_case21 {p : Program} {e : Env} {s : State} {m : MethodId} {below : List Frame} {meth : Method} {c : Code} {E : zm_E} {sb L i : Nat} {xs : Nat → Int32} {ls : Array Slot} {M : zm_M} {H : Heap} {locs : List Loc} (C : zq_C p s m c E sb L xs) (hl : lv_has ls 4 [(3, .int (nI i)), (2, .ref (E.2.2.1 0)), (1, .ref (E.2.2.1 15)), (0, .ref sb)]) (hi : i + 6 ≤ L) (hL : L ≤ 3072) (hG : zGG M) (hP : va_P E.2.1 zy_cl (zm_ws E.2.2.1 E.2.2.2.1 M) H) (hS : va_S E.2.2.2.2 s.heap H locs) (nx : zq_nx p e s m sb below meth c E ls) : W p E.1 e room_1 s m #[Value.ref sb] below meth c H locs 600000 7302250 (lw_Z below #[Value.ref sb] s) (F0 m 865 ls []) := by
  obtain ⟨hx, hb, hml, hown, hts, hK, hE, hSF, hX, hbl, hbA⟩ := id C
  refine lv_aload_n hx hb dL_law_865 rfl (lv_at hl 2 rfl) ?_
  refine zq_arg (j := 1) C hl (by omega) hL hS rfl dL_law_866 dL_law_867 dL_law_868 dL_law_869 dL_law_870 ?_
  refine zq_arg (j := 2) C hl (by omega) hL hS rfl dL_law_871 dL_law_872 dL_law_873 dL_law_874 dL_law_875 ?_
  refine zq_callV (a := 15) (ci := 11) (as := [.int (xs (i + 1)), .int (xs (i + 2))]) (rest := []) hx hb hml hown hts hK hSF zq_c11_steps rfl zq_ob15 zq_l11_steps zq_i11_steps zq_s11_steps rfl hl.1 (Nat.le_of_ble_eq_true rfl) ⟨Nat.le_of_ble_eq_true rfl, Nat.le_of_ble_eq_true rfl⟩ ⟨Nat.le_refl _, Nat.le_refl _⟩ dL_law_876 (zL_steps hE _ _ M hG) hP hS (fun r M H locs hq hP hS => ?_)
  obtain ⟨v, rfl, hq⟩ := hq
  refine lv_aload_n hx hb dL_law_879 rfl (lv_at hl 1 rfl) ?_
  refine zq_arg (j := 1) C hl (by omega) hL hS rfl dL_law_880 dL_law_881 dL_law_882 dL_law_883 dL_law_884 ?_
  refine zq_arg (j := 2) C hl (by omega) hL hS rfl dL_law_885 dL_law_886 dL_law_887 dL_law_888 dL_law_889 ?_
  refine zq_callV (a := 0) (ci := 12) (as := [.int (xs (i + 1)), .int (xs (i + 2))]) (rest := [.int v]) hx hb hml hown hts hK hSF zq_c12_steps rfl zq_ob0 zq_l12_steps zq_i12_steps zq_s12_steps rfl hl.1 (Nat.le_of_ble_eq_true rfl) ⟨Nat.le_of_ble_eq_true rfl, Nat.le_of_ble_eq_true rfl⟩ ⟨Nat.le_refl _, Nat.le_refl _⟩ dL_law_890 (hq) hP hS (fun r M H locs hq hP hS => ?_)
  obtain ⟨rfl, hG⟩ := hq
  exact lv_icmp_eq (tgt := 1525) hx hb dL_law_893 (by decide) (fun _ => nx M H locs hG hP hS) (fun h => absurd rfl h)
theorem zq_case22 {p : Program} {e : Env} {s : State} {m : MethodId} {below : List Frame} {meth : Method} {c : Code} {E : zm_E} {sb L i : Nat} {xs : Nat → Int32} {ls : Array Slot} {M : zm_M} {H : Heap} {locs : List Loc} (C : zq_C p s m c E sb L xs) (hl : lv_has ls 4 [(3, .int (nI i)), (2, .ref (E.2.2.1 0)), (1, .ref (E.2.2.1 15)), (0, .ref sb)]) (hi : i + 6 ≤ L) (hL : L ≤ 3072) (hG : zGG M) (hP : va_P E.2.1 zy_cl (zm_ws E.2.2.1 E.2.2.2.1 M) H) (hS : va_S E.2.2.2.2 s.heap H locs) (nx : zq_nx p e s m sb below meth c E ls) : W p E.1 e room_1 s m #[Value.ref sb] below meth c H locs 600000 7302250 (lw_Z below #[Value.ref sb] s) (F0 m 898 ls []) := by
  obtain ⟨hx, hb, hml, hown, hts, hK, hE, hSF, hX, hbl, hbA⟩ := id C
  refine lv_aload_n hx hb dL_law_898 rfl (lv_at hl 2 rfl) ?_
  refine zq_arg (j := 1) C hl (by omega) hL hS rfl dL_law_899 dL_law_900 dL_law_901 dL_law_902 dL_law_903 ?_
  refine zq_arg (j := 2) C hl (by omega) hL hS rfl dL_law_904 dL_law_905 dL_law_906 dL_law_907 dL_law_908 ?_
  refine zq_arg (j := 3) C hl (by omega) hL hS rfl dL_law_909 dL_law_910 dL_law_911 dL_law_912 dL_law_913 ?_
  refine zq_callV (a := 15) (ci := 11) (as := [.int (xs (i + 1)), .int (xs (i + 2)), .int (xs (i + 3))]) (rest := []) hx hb hml hown hts hK hSF zq_c11_route rfl zq_ob15 zq_l11_route zq_i11_route zq_s11_route rfl hl.1 (Nat.le_of_ble_eq_true rfl) ⟨Nat.le_of_ble_eq_true rfl, Nat.le_of_ble_eq_true rfl⟩ ⟨Nat.le_refl _, Nat.le_refl _⟩ dL_law_914 (zL_route hE _ _ _ M hG) hP hS (fun r M H locs hq hP hS => ?_)
  obtain ⟨v, rfl, hq⟩ := hq
  refine lv_aload_n hx hb dL_law_917 rfl (lv_at hl 1 rfl) ?_
  refine zq_arg (j := 1) C hl (by omega) hL hS rfl dL_law_918 dL_law_919 dL_law_920 dL_law_921 dL_law_922 ?_
  refine zq_arg (j := 2) C hl (by omega) hL hS rfl dL_law_923 dL_law_924 dL_law_925 dL_law_926 dL_law_927 ?_
  refine zq_arg (j := 3) C hl (by omega) hL hS rfl dL_law_928 dL_law_929 dL_law_930 dL_law_931 dL_law_932 ?_
  refine zq_callV (a := 0) (ci := 12) (as := [.int (xs (i + 1)), .int (xs (i + 2)), .int (xs (i + 3))]) (rest := [.int v]) hx hb hml hown hts hK hSF zq_c12_route rfl zq_ob0 zq_l12_route zq_i12_route zq_s12_route rfl hl.1 (Nat.le_of_ble_eq_true rfl) ⟨Nat.le_of_ble_eq_true rfl, Nat.le_of_ble_eq_true rfl⟩ ⟨Nat.le_refl _, Nat.le_refl _⟩ dL_law_933 (hq) hP hS (fun r M H locs hq hP hS => ?_)
  obtain ⟨rfl, hG⟩ := hq
  exact lv_icmp_eq (tgt := 1525) hx hb dL_law_936 (by decide) (fun _ => nx M H locs hG hP hS) (fun h => absurd rfl h)
theorem zq_case23 {p : Program} {e : Env} {s : State} {m : MethodId} {below : List Frame} {meth : Method} {c : Code} {E : zm_E} {sb L i : Nat} {xs : Nat → Int32} {ls : Array Slot} {M : zm_M} {H : Heap} {locs : List Loc} (C : zq_C p s m c E sb L xs) (hl : lv_has ls 4 [(3, .int (nI i)), (2, .ref (E.2.2.1 0)), (1, .ref (E.2.2.1 15)), (0, .ref sb)]) (hi : i + 6 ≤ L) (hL : L ≤ 3072) (hG : zGG M) (hP : va_P E.2.1 zy_cl (zm_ws E.2.2.1 E.2.2.2.1 M) H) (hS : va_S E.2.2.2.2 s.heap H locs) (nx : zq_nx p e s m sb below meth c E ls) : W p E.1 e room_1 s m #[Value.ref sb] below meth c H locs 600000 7302250 (lw_Z below #[Value.ref sb] s) (F0 m 941 ls []) := by
  obtain ⟨hx, hb, hml, hown, hts, hK, hE, hSF, hX, hbl, hbA⟩ := id C
  refine lv_aload_n hx hb dL_law_941 rfl (lv_at hl 2 rfl) ?_
  refine zq_arg (j := 1) C hl (by omega) hL hS rfl dL_law_942 dL_law_943 dL_law_944 dL_law_945 dL_law_946 ?_
  refine zq_callV (a := 15) (ci := 11) (as := [.int (xs (i + 1))]) (rest := []) hx hb hml hown hts hK hSF zq_c11_pile rfl zq_ob15 zq_l11_pile zq_i11_pile zq_s11_pile rfl hl.1 (Nat.le_of_ble_eq_true rfl) ⟨Nat.le_of_ble_eq_true rfl, Nat.le_of_ble_eq_true rfl⟩ ⟨Nat.le_refl _, Nat.le_refl _⟩ dL_law_947 (zL_pile hE _ M hG) hP hS (fun r M H locs hq hP hS => ?_)
  obtain ⟨v, rfl, hq⟩ := hq
  refine lv_aload_n hx hb dL_law_950 rfl (lv_at hl 1 rfl) ?_
  refine zq_arg (j := 1) C hl (by omega) hL hS rfl dL_law_951 dL_law_952 dL_law_953 dL_law_954 dL_law_955 ?_
  refine zq_callV (a := 0) (ci := 12) (as := [.int (xs (i + 1))]) (rest := [.int v]) hx hb hml hown hts hK hSF zq_c12_pile rfl zq_ob0 zq_l12_pile zq_i12_pile zq_s12_pile rfl hl.1 (Nat.le_of_ble_eq_true rfl) ⟨Nat.le_of_ble_eq_true rfl, Nat.le_of_ble_eq_true rfl⟩ ⟨Nat.le_refl _, Nat.le_refl _⟩ dL_law_956 (hq) hP hS (fun r M H locs hq hP hS => ?_)
  obtain ⟨rfl, hG⟩ := hq
  exact lv_icmp_eq (tgt := 1525) hx hb dL_law_959 (by decide) (fun _ => nx M H locs hG hP hS) (fun h => absurd rfl h)
theorem zq_case24 {p : Program} {e : Env} {s : State} {m : MethodId} {below : List Frame} {meth : Method} {c : Code} {E : zm_E} {sb L i : Nat} {xs : Nat → Int32} {ls : Array Slot} {M : zm_M} {H : Heap} {locs : List Loc} (C : zq_C p s m c E sb L xs) (hl : lv_has ls 4 [(3, .int (nI i)), (2, .ref (E.2.2.1 0)), (1, .ref (E.2.2.1 15)), (0, .ref sb)]) (hi : i + 6 ≤ L) (hL : L ≤ 3072) (hG : zGG M) (hP : va_P E.2.1 zy_cl (zm_ws E.2.2.1 E.2.2.2.1 M) H) (hS : va_S E.2.2.2.2 s.heap H locs) (nx : zq_nx p e s m sb below meth c E ls) : W p E.1 e room_1 s m #[Value.ref sb] below meth c H locs 600000 7302250 (lw_Z below #[Value.ref sb] s) (F0 m 964 ls []) := by
  obtain ⟨hx, hb, hml, hown, hts, hK, hE, hSF, hX, hbl, hbA⟩ := id C
  refine lv_aload_n hx hb dL_law_964 rfl (lv_at hl 2 rfl) ?_
  refine zq_arg (j := 1) C hl (by omega) hL hS rfl dL_law_965 dL_law_966 dL_law_967 dL_law_968 dL_law_969 ?_
  refine zq_arg (j := 2) C hl (by omega) hL hS rfl dL_law_970 dL_law_971 dL_law_972 dL_law_973 dL_law_974 ?_
  refine zq_callV (a := 15) (ci := 11) (as := [.int (xs (i + 1)), .int (xs (i + 2))]) (rest := []) hx hb hml hown hts hK hSF zq_c11_piles rfl zq_ob15 zq_l11_piles zq_i11_piles zq_s11_piles rfl hl.1 (Nat.le_of_ble_eq_true rfl) ⟨Nat.le_of_ble_eq_true rfl, Nat.le_of_ble_eq_true rfl⟩ ⟨Nat.le_refl _, Nat.le_refl _⟩ dL_law_975 (zL_piles hE _ _ M hG) hP hS (fun r M H locs hq hP hS => ?_)
  obtain ⟨v, rfl, hq⟩ := hq
  refine lv_aload_n hx hb dL_law_978 rfl (lv_at hl 1 rfl) ?_
  refine zq_arg (j := 1) C hl (by omega) hL hS rfl dL_law_979 dL_law_980 dL_law_981 dL_law_982 dL_law_983 ?_
  refine zq_arg (j := 2) C hl (by omega) hL hS rfl dL_law_984 dL_law_985 dL_law_986 dL_law_987 dL_law_988 ?_
  refine zq_callV (a := 0) (ci := 12) (as := [.int (xs (i + 1)), .int (xs (i + 2))]) (rest := [.int v]) hx hb hml hown hts hK hSF zq_c12_piles rfl zq_ob0 zq_l12_piles zq_i12_piles zq_s12_piles rfl hl.1 (Nat.le_of_ble_eq_true rfl) ⟨Nat.le_of_ble_eq_true rfl, Nat.le_of_ble_eq_true rfl⟩ ⟨Nat.le_refl _, Nat.le_refl _⟩ dL_law_989 (hq) hP hS (fun r M H locs hq hP hS => ?_)
  obtain ⟨rfl, hG⟩ := hq
  exact lv_icmp_eq (tgt := 1525) hx hb dL_law_992 (by decide) (fun _ => nx M H locs hG hP hS) (fun h => absurd rfl h)
theorem zq_case25 {p : Program} {e : Env} {s : State} {m : MethodId} {below : List Frame} {meth : Method} {c : Code} {E : zm_E} {sb L i : Nat} {xs : Nat → Int32} {ls : Array Slot} {M : zm_M} {H : Heap} {locs : List Loc} (C : zq_C p s m c E sb L xs) (hl : lv_has ls 4 [(3, .int (nI i)), (2, .ref (E.2.2.1 0)), (1, .ref (E.2.2.1 15)), (0, .ref sb)]) (hi : i + 6 ≤ L) (hL : L ≤ 3072) (hG : zGG M) (hP : va_P E.2.1 zy_cl (zm_ws E.2.2.1 E.2.2.2.1 M) H) (hS : va_S E.2.2.2.2 s.heap H locs) (nx : zq_nx p e s m sb below meth c E ls) : W p E.1 e room_1 s m #[Value.ref sb] below meth c H locs 600000 7302250 (lw_Z below #[Value.ref sb] s) (F0 m 997 ls []) := by
  obtain ⟨hx, hb, hml, hown, hts, hK, hE, hSF, hX, hbl, hbA⟩ := id C
  refine lv_aload_n hx hb dL_law_997 rfl (lv_at hl 2 rfl) ?_
  refine zq_arg (j := 1) C hl (by omega) hL hS rfl dL_law_998 dL_law_999 dL_law_1000 dL_law_1001 dL_law_1002 ?_
  refine zq_callV (a := 15) (ci := 11) (as := [.int (xs (i + 1))]) (rest := []) hx hb hml hown hts hK hSF zq_c11_ask rfl zq_ob15 zq_l11_ask zq_i11_ask zq_s11_ask rfl hl.1 (Nat.le_of_ble_eq_true rfl) ⟨Nat.le_of_ble_eq_true rfl, Nat.le_of_ble_eq_true rfl⟩ ⟨Nat.le_refl _, Nat.le_refl _⟩ dL_law_1003 (zL_ask hE _ M hG) hP hS (fun r M H locs hq hP hS => ?_)
  obtain ⟨v, rfl, hq⟩ := hq
  refine lv_aload_n hx hb dL_law_1006 rfl (lv_at hl 1 rfl) ?_
  refine zq_arg (j := 1) C hl (by omega) hL hS rfl dL_law_1007 dL_law_1008 dL_law_1009 dL_law_1010 dL_law_1011 ?_
  refine zq_callV (a := 0) (ci := 12) (as := [.int (xs (i + 1))]) (rest := [.int v]) hx hb hml hown hts hK hSF zq_c12_ask rfl zq_ob0 zq_l12_ask zq_i12_ask zq_s12_ask rfl hl.1 (Nat.le_of_ble_eq_true rfl) ⟨Nat.le_of_ble_eq_true rfl, Nat.le_of_ble_eq_true rfl⟩ ⟨Nat.le_refl _, Nat.le_refl _⟩ dL_law_1012 (hq) hP hS (fun r M H locs hq hP hS => ?_)
  obtain ⟨rfl, hG⟩ := hq
  exact lv_icmp_eq (tgt := 1525) hx hb dL_law_1015 (by decide) (fun _ => nx M H locs hG hP hS) (fun h => absurd rfl h)
theorem zq_case26 {p : Program} {e : Env} {s : State} {m : MethodId} {below : List Frame} {meth : Method} {c : Code} {E : zm_E} {sb L i : Nat} {xs : Nat → Int32} {ls : Array Slot} {M : zm_M} {H : Heap} {locs : List Loc} (C : zq_C p s m c E sb L xs) (hl : lv_has ls 4 [(3, .int (nI i)), (2, .ref (E.2.2.1 0)), (1, .ref (E.2.2.1 15)), (0, .ref sb)]) (hi : i + 6 ≤ L) (hL : L ≤ 3072) (hG : zGG M) (hP : va_P E.2.1 zy_cl (zm_ws E.2.2.1 E.2.2.2.1 M) H) (hS : va_S E.2.2.2.2 s.heap H locs) (nx : zq_nx p e s m sb below meth c E ls) : W p E.1 e room_1 s m #[Value.ref sb] below meth c H locs 600000 7302250 (lw_Z below #[Value.ref sb] s) (F0 m 1020 ls []) := by
  obtain ⟨hx, hb, hml, hown, hts, hK, hE, hSF, hX, hbl, hbA⟩ := id C
  refine lv_aload_n hx hb dL_law_1020 rfl (lv_at hl 2 rfl) ?_
  refine zq_callV (a := 15) (ci := 11) (as := []) (rest := []) hx hb hml hown hts hK hSF zq_c11_orders rfl zq_ob15 zq_l11_orders zq_i11_orders zq_s11_orders rfl hl.1 (Nat.le_of_ble_eq_true rfl) ⟨Nat.le_of_ble_eq_true rfl, Nat.le_of_ble_eq_true rfl⟩ ⟨Nat.le_refl _, Nat.le_refl _⟩ dL_law_1021 (zL_orders hE M hG) hP hS (fun r M H locs hq hP hS => ?_)
  obtain ⟨v, rfl, hq⟩ := hq
  refine lv_aload_n hx hb dL_law_1024 rfl (lv_at hl 1 rfl) ?_
  refine zq_callV (a := 0) (ci := 12) (as := []) (rest := [.long v]) hx hb hml hown hts hK hSF zq_c12_orders rfl zq_ob0 zq_l12_orders zq_i12_orders zq_s12_orders rfl hl.1 (Nat.le_of_ble_eq_true rfl) ⟨Nat.le_of_ble_eq_true rfl, Nat.le_of_ble_eq_true rfl⟩ ⟨Nat.le_refl _, Nat.le_refl _⟩ dL_law_1025 (hq) hP hS (fun r M H locs hq hP hS => ?_)
  obtain ⟨rfl, hG⟩ := hq
  refine zq_lcmp hx hb dL_law_1028 ?_
  exact lv_if_eq (tgt := 1525) hx hb dL_law_1029 (by decide) (fun _ => nx M H locs hG hP hS) (fun h => absurd rfl h)
theorem zq_case27 {p : Program} {e : Env} {s : State} {m : MethodId} {below : List Frame} {meth : Method} {c : Code} {E : zm_E} {sb L i : Nat} {xs : Nat → Int32} {ls : Array Slot} {M : zm_M} {H : Heap} {locs : List Loc} (C : zq_C p s m c E sb L xs) (hl : lv_has ls 4 [(3, .int (nI i)), (2, .ref (E.2.2.1 0)), (1, .ref (E.2.2.1 15)), (0, .ref sb)]) (hi : i + 6 ≤ L) (hL : L ≤ 3072) (hG : zGG M) (hP : va_P E.2.1 zy_cl (zm_ws E.2.2.1 E.2.2.2.1 M) H) (hS : va_S E.2.2.2.2 s.heap H locs) (nx : zq_nx p e s m sb below meth c E ls) : W p E.1 e room_1 s m #[Value.ref sb] below meth c H locs 600000 7302250 (lw_Z below #[Value.ref sb] s) (F0 m 1034 ls []) := by
  obtain ⟨hx, hb, hml, hown, hts, hK, hE, hSF, hX, hbl, hbA⟩ := id C
  refine lv_aload_n hx hb dL_law_1034 rfl (lv_at hl 2 rfl) ?_
  refine zq_arg (j := 1) C hl (by omega) hL hS rfl dL_law_1035 dL_law_1036 dL_law_1037 dL_law_1038 dL_law_1039 ?_
  refine zq_callV (a := 15) (ci := 11) (as := [.int (xs (i + 1))]) (rest := []) hx hb hml hown hts hK hSF zq_c11_first rfl zq_ob15 zq_l11_first zq_i11_first zq_s11_first rfl hl.1 (Nat.le_of_ble_eq_true rfl) ⟨Nat.le_of_ble_eq_true rfl, Nat.le_of_ble_eq_true rfl⟩ ⟨Nat.le_refl _, Nat.le_refl _⟩ dL_law_1040 (zL_first hE _ M hG) hP hS (fun r M H locs hq hP hS => ?_)
  obtain ⟨v, rfl, hq⟩ := hq
  refine lv_aload_n hx hb dL_law_1043 rfl (lv_at hl 1 rfl) ?_
  refine zq_arg (j := 1) C hl (by omega) hL hS rfl dL_law_1044 dL_law_1045 dL_law_1046 dL_law_1047 dL_law_1048 ?_
  refine zq_callV (a := 0) (ci := 12) (as := [.int (xs (i + 1))]) (rest := [.int v]) hx hb hml hown hts hK hSF zq_c12_first rfl zq_ob0 zq_l12_first zq_i12_first zq_s12_first rfl hl.1 (Nat.le_of_ble_eq_true rfl) ⟨Nat.le_of_ble_eq_true rfl, Nat.le_of_ble_eq_true rfl⟩ ⟨Nat.le_refl _, Nat.le_refl _⟩ dL_law_1049 (hq) hP hS (fun r M H locs hq hP hS => ?_)
  obtain ⟨rfl, hG⟩ := hq
  exact lv_icmp_eq (tgt := 1525) hx hb dL_law_1052 (by decide) (fun _ => nx M H locs hG hP hS) (fun h => absurd rfl h)
theorem zq_case28 {p : Program} {e : Env} {s : State} {m : MethodId} {below : List Frame} {meth : Method} {c : Code} {E : zm_E} {sb L i : Nat} {xs : Nat → Int32} {ls : Array Slot} {M : zm_M} {H : Heap} {locs : List Loc} (C : zq_C p s m c E sb L xs) (hl : lv_has ls 4 [(3, .int (nI i)), (2, .ref (E.2.2.1 0)), (1, .ref (E.2.2.1 15)), (0, .ref sb)]) (hi : i + 6 ≤ L) (hL : L ≤ 3072) (hG : zGG M) (hP : va_P E.2.1 zy_cl (zm_ws E.2.2.1 E.2.2.2.1 M) H) (hS : va_S E.2.2.2.2 s.heap H locs) (nx : zq_nx p e s m sb below meth c E ls) : W p E.1 e room_1 s m #[Value.ref sb] below meth c H locs 600000 7302250 (lw_Z below #[Value.ref sb] s) (F0 m 1057 ls []) := by
  obtain ⟨hx, hb, hml, hown, hts, hK, hE, hSF, hX, hbl, hbA⟩ := id C
  refine lv_aload_n hx hb dL_law_1057 rfl (lv_at hl 2 rfl) ?_
  refine zq_arg (j := 1) C hl (by omega) hL hS rfl dL_law_1058 dL_law_1059 dL_law_1060 dL_law_1061 dL_law_1062 ?_
  refine zq_arg (j := 2) C hl (by omega) hL hS rfl dL_law_1063 dL_law_1064 dL_law_1065 dL_law_1066 dL_law_1067 ?_
  refine zq_callV (a := 15) (ci := 11) (as := [.int (xs (i + 1)), .int (xs (i + 2))]) (rest := []) hx hb hml hown hts hK hSF zq_c11_weigh rfl zq_ob15 zq_l11_weigh zq_i11_weigh zq_s11_weigh rfl hl.1 (Nat.le_of_ble_eq_true rfl) ⟨Nat.le_of_ble_eq_true rfl, Nat.le_of_ble_eq_true rfl⟩ ⟨Nat.le_refl _, Nat.le_refl _⟩ dL_law_1068 (zL_weigh hE _ _ M hG) hP hS (fun r M H locs hq hP hS => ?_)
  obtain ⟨v, rfl, hq⟩ := hq
  refine lv_aload_n hx hb dL_law_1071 rfl (lv_at hl 1 rfl) ?_
  refine zq_arg (j := 1) C hl (by omega) hL hS rfl dL_law_1072 dL_law_1073 dL_law_1074 dL_law_1075 dL_law_1076 ?_
  refine zq_arg (j := 2) C hl (by omega) hL hS rfl dL_law_1077 dL_law_1078 dL_law_1079 dL_law_1080 dL_law_1081 ?_
  refine zq_callV (a := 0) (ci := 12) (as := [.int (xs (i + 1)), .int (xs (i + 2))]) (rest := [.int v]) hx hb hml hown hts hK hSF zq_c12_weigh rfl zq_ob0 zq_l12_weigh zq_i12_weigh zq_s12_weigh rfl hl.1 (Nat.le_of_ble_eq_true rfl) ⟨Nat.le_of_ble_eq_true rfl, Nat.le_of_ble_eq_true rfl⟩ ⟨Nat.le_refl _, Nat.le_refl _⟩ dL_law_1082 (hq) hP hS (fun r M H locs hq hP hS => ?_)
  obtain ⟨rfl, hG⟩ := hq
  exact lv_icmp_eq (tgt := 1525) hx hb dL_law_1085 (by decide) (fun _ => nx M H locs hG hP hS) (fun h => absurd rfl h)
theorem zq_case29 {p : Program} {e : Env} {s : State} {m : MethodId} {below : List Frame} {meth : Method} {c : Code} {E : zm_E} {sb L i : Nat} {xs : Nat → Int32} {ls : Array Slot} {M : zm_M} {H : Heap} {locs : List Loc} (C : zq_C p s m c E sb L xs) (hl : lv_has ls 4 [(3, .int (nI i)), (2, .ref (E.2.2.1 0)), (1, .ref (E.2.2.1 15)), (0, .ref sb)]) (hi : i + 6 ≤ L) (hL : L ≤ 3072) (hG : zGG M) (hP : va_P E.2.1 zy_cl (zm_ws E.2.2.1 E.2.2.2.1 M) H) (hS : va_S E.2.2.2.2 s.heap H locs) (nx : zq_nx p e s m sb below meth c E ls) : W p E.1 e room_1 s m #[Value.ref sb] below meth c H locs 600000 7302250 (lw_Z below #[Value.ref sb] s) (F0 m 1090 ls []) := by
  obtain ⟨hx, hb, hml, hown, hts, hK, hE, hSF, hX, hbl, hbA⟩ := id C
  refine lv_aload_n hx hb dL_law_1090 rfl (lv_at hl 2 rfl) ?_
  refine zq_argb (j := 1) C hl (by omega) hL hS rfl dL_law_1091 dL_law_1092 dL_law_1093 dL_law_1094 dL_law_1095 dL_law_1096 dL_law_1099 dL_law_1100 dL_law_1103 ?_
  refine zq_callV (a := 15) (ci := 11) (as := [.int (if xs (i + 1) = 0 then 0 else 1)]) (rest := []) hx hb hml hown hts hK hSF zq_c11_apart rfl zq_ob15 zq_l11_apart zq_i11_apart zq_s11_apart rfl hl.1 (Nat.le_of_ble_eq_true rfl) ⟨Nat.le_of_ble_eq_true rfl, Nat.le_of_ble_eq_true rfl⟩ ⟨Nat.le_refl _, Nat.le_refl _⟩ dL_law_1104 (zL_apart hE _ M hG) hP hS (fun r M H locs hq hP hS => ?_)
  obtain ⟨v, rfl, hq⟩ := hq
  refine lv_aload_n hx hb dL_law_1107 rfl (lv_at hl 1 rfl) ?_
  refine zq_argb (j := 1) C hl (by omega) hL hS rfl dL_law_1108 dL_law_1109 dL_law_1110 dL_law_1111 dL_law_1112 dL_law_1113 dL_law_1116 dL_law_1117 dL_law_1120 ?_
  refine zq_callV (a := 0) (ci := 12) (as := [.int (if xs (i + 1) = 0 then 0 else 1)]) (rest := [.int v]) hx hb hml hown hts hK hSF zq_c12_apart rfl zq_ob0 zq_l12_apart zq_i12_apart zq_s12_apart rfl hl.1 (Nat.le_of_ble_eq_true rfl) ⟨Nat.le_of_ble_eq_true rfl, Nat.le_of_ble_eq_true rfl⟩ ⟨Nat.le_refl _, Nat.le_refl _⟩ dL_law_1121 (hq) hP hS (fun r M H locs hq hP hS => ?_)
  obtain ⟨rfl, hG⟩ := hq
  exact lv_icmp_eq (tgt := 1525) hx hb dL_law_1124 (by decide) (fun _ => nx M H locs hG hP hS) (fun h => absurd rfl h)
theorem zq_case30 {p : Program} {e : Env} {s : State} {m : MethodId} {below : List Frame} {meth : Method} {c : Code} {E : zm_E} {sb L i : Nat} {xs : Nat → Int32} {ls : Array Slot} {M : zm_M} {H : Heap} {locs : List Loc} (C : zq_C p s m c E sb L xs) (hl : lv_has ls 4 [(3, .int (nI i)), (2, .ref (E.2.2.1 0)), (1, .ref (E.2.2.1 15)), (0, .ref sb)]) (hi : i + 6 ≤ L) (hL : L ≤ 3072) (hG : zGG M) (hP : va_P E.2.1 zy_cl (zm_ws E.2.2.1 E.2.2.2.1 M) H) (hS : va_S E.2.2.2.2 s.heap H locs) (nx : zq_nx p e s m sb below meth c E ls) : W p E.1 e room_1 s m #[Value.ref sb] below meth c H locs 600000 7302250 (lw_Z below #[Value.ref sb] s) (F0 m 1129 ls []) := by
  obtain ⟨hx, hb, hml, hown, hts, hK, hE, hSF, hX, hbl, hbA⟩ := id C
  refine lv_aload_n hx hb dL_law_1129 rfl (lv_at hl 2 rfl) ?_
  refine zq_callV (a := 15) (ci := 11) (as := []) (rest := []) hx hb hml hown hts hK hSF zq_c11_middle rfl zq_ob15 zq_l11_middle zq_i11_middle zq_s11_middle rfl hl.1 (Nat.le_of_ble_eq_true rfl) ⟨Nat.le_of_ble_eq_true rfl, Nat.le_of_ble_eq_true rfl⟩ ⟨Nat.le_refl _, Nat.le_refl _⟩ dL_law_1130 (zL_middle hE M hG) hP hS (fun r M H locs hq hP hS => ?_)
  obtain ⟨v, rfl, hq⟩ := hq
  refine lv_aload_n hx hb dL_law_1133 rfl (lv_at hl 1 rfl) ?_
  refine zq_callV (a := 0) (ci := 12) (as := []) (rest := [.int v]) hx hb hml hown hts hK hSF zq_c12_middle rfl zq_ob0 zq_l12_middle zq_i12_middle zq_s12_middle rfl hl.1 (Nat.le_of_ble_eq_true rfl) ⟨Nat.le_of_ble_eq_true rfl, Nat.le_of_ble_eq_true rfl⟩ ⟨Nat.le_refl _, Nat.le_refl _⟩ dL_law_1134 (hq) hP hS (fun r M H locs hq hP hS => ?_)
  obtain ⟨rfl, hG⟩ := hq
  exact lv_icmp_eq (tgt := 1525) hx hb dL_law_1137 (by decide) (fun _ => nx M H locs hG hP hS) (fun h => absurd rfl h)
theorem zq_case31 {p : Program} {e : Env} {s : State} {m : MethodId} {below : List Frame} {meth : Method} {c : Code} {E : zm_E} {sb L i : Nat} {xs : Nat → Int32} {ls : Array Slot} {M : zm_M} {H : Heap} {locs : List Loc} (C : zq_C p s m c E sb L xs) (hl : lv_has ls 4 [(3, .int (nI i)), (2, .ref (E.2.2.1 0)), (1, .ref (E.2.2.1 15)), (0, .ref sb)]) (hi : i + 6 ≤ L) (hL : L ≤ 3072) (hG : zGG M) (hP : va_P E.2.1 zy_cl (zm_ws E.2.2.1 E.2.2.2.1 M) H) (hS : va_S E.2.2.2.2 s.heap H locs) (nx : zq_nx p e s m sb below meth c E ls) : W p E.1 e room_1 s m #[Value.ref sb] below meth c H locs 600000 7302250 (lw_Z below #[Value.ref sb] s) (F0 m 1142 ls []) := by
  obtain ⟨hx, hb, hml, hown, hts, hK, hE, hSF, hX, hbl, hbA⟩ := id C
  refine lv_aload_n hx hb dL_law_1142 rfl (lv_at hl 2 rfl) ?_
  refine zq_argb (j := 1) C hl (by omega) hL hS rfl dL_law_1143 dL_law_1144 dL_law_1145 dL_law_1146 dL_law_1147 dL_law_1148 dL_law_1151 dL_law_1152 dL_law_1155 ?_
  refine zq_callV (a := 15) (ci := 11) (as := [.int (if xs (i + 1) = 0 then 0 else 1)]) (rest := []) hx hb hml hown hts hK hSF zq_c11_longest rfl zq_ob15 zq_l11_longest zq_i11_longest zq_s11_longest rfl hl.1 (Nat.le_of_ble_eq_true rfl) ⟨Nat.le_of_ble_eq_true rfl, Nat.le_of_ble_eq_true rfl⟩ ⟨Nat.le_refl _, Nat.le_refl _⟩ dL_law_1156 (zL_longest hE _ M hG) hP hS (fun r M H locs hq hP hS => ?_)
  obtain ⟨v, rfl, hq⟩ := hq
  refine lv_aload_n hx hb dL_law_1159 rfl (lv_at hl 1 rfl) ?_
  refine zq_argb (j := 1) C hl (by omega) hL hS rfl dL_law_1160 dL_law_1161 dL_law_1162 dL_law_1163 dL_law_1164 dL_law_1165 dL_law_1168 dL_law_1169 dL_law_1172 ?_
  refine zq_callV (a := 0) (ci := 12) (as := [.int (if xs (i + 1) = 0 then 0 else 1)]) (rest := [.int v]) hx hb hml hown hts hK hSF zq_c12_longest rfl zq_ob0 zq_l12_longest zq_i12_longest zq_s12_longest rfl hl.1 (Nat.le_of_ble_eq_true rfl) ⟨Nat.le_of_ble_eq_true rfl, Nat.le_of_ble_eq_true rfl⟩ ⟨Nat.le_refl _, Nat.le_refl _⟩ dL_law_1173 (hq) hP hS (fun r M H locs hq hP hS => ?_)
  obtain ⟨rfl, hG⟩ := hq
  exact lv_icmp_eq (tgt := 1525) hx hb dL_law_1176 (by decide) (fun _ => nx M H locs hG hP hS) (fun h => absurd rfl h)
theorem zq_case32 {p : Program} {e : Env} {s : State} {m : MethodId} {below : List Frame} {meth : Method} {c : Code} {E : zm_E} {sb L i : Nat} {xs : Nat → Int32} {ls : Array Slot} {M : zm_M} {H : Heap} {locs : List Loc} (C : zq_C p s m c E sb L xs) (hl : lv_has ls 4 [(3, .int (nI i)), (2, .ref (E.2.2.1 0)), (1, .ref (E.2.2.1 15)), (0, .ref sb)]) (hi : i + 6 ≤ L) (hL : L ≤ 3072) (hG : zGG M) (hP : va_P E.2.1 zy_cl (zm_ws E.2.2.1 E.2.2.2.1 M) H) (hS : va_S E.2.2.2.2 s.heap H locs) (nx : zq_nx p e s m sb below meth c E ls) : W p E.1 e room_1 s m #[Value.ref sb] below meth c H locs 600000 7302250 (lw_Z below #[Value.ref sb] s) (F0 m 1181 ls []) := by
  obtain ⟨hx, hb, hml, hown, hts, hK, hE, hSF, hX, hbl, hbA⟩ := id C
  refine lv_aload_n hx hb dL_law_1181 rfl (lv_at hl 2 rfl) ?_
  refine zq_arg (j := 1) C hl (by omega) hL hS rfl dL_law_1182 dL_law_1183 dL_law_1184 dL_law_1185 dL_law_1186 ?_
  refine zq_callV (a := 15) (ci := 11) (as := [.int (xs (i + 1))]) (rest := []) hx hb hml hown hts hK hSF zq_c11_parts rfl zq_ob15 zq_l11_parts zq_i11_parts zq_s11_parts rfl hl.1 (Nat.le_of_ble_eq_true rfl) ⟨Nat.le_of_ble_eq_true rfl, Nat.le_of_ble_eq_true rfl⟩ ⟨Nat.le_refl _, Nat.le_refl _⟩ dL_law_1187 (zL_parts hE _ M hG) hP hS (fun r M H locs hq hP hS => ?_)
  obtain ⟨v, rfl, hq⟩ := hq
  refine lv_aload_n hx hb dL_law_1190 rfl (lv_at hl 1 rfl) ?_
  refine zq_arg (j := 1) C hl (by omega) hL hS rfl dL_law_1191 dL_law_1192 dL_law_1193 dL_law_1194 dL_law_1195 ?_
  refine zq_callV (a := 0) (ci := 12) (as := [.int (xs (i + 1))]) (rest := [.int v]) hx hb hml hown hts hK hSF zq_c12_parts rfl zq_ob0 zq_l12_parts zq_i12_parts zq_s12_parts rfl hl.1 (Nat.le_of_ble_eq_true rfl) ⟨Nat.le_of_ble_eq_true rfl, Nat.le_of_ble_eq_true rfl⟩ ⟨Nat.le_refl _, Nat.le_refl _⟩ dL_law_1196 (hq) hP hS (fun r M H locs hq hP hS => ?_)
  obtain ⟨rfl, hG⟩ := hq
  exact lv_icmp_eq (tgt := 1525) hx hb dL_law_1199 (by decide) (fun _ => nx M H locs hG hP hS) (fun h => absurd rfl h)
theorem zq_case33 {p : Program} {e : Env} {s : State} {m : MethodId} {below : List Frame} {meth : Method} {c : Code} {E : zm_E} {sb L i : Nat} {xs : Nat → Int32} {ls : Array Slot} {M : zm_M} {H : Heap} {locs : List Loc} (C : zq_C p s m c E sb L xs) (hl : lv_has ls 4 [(3, .int (nI i)), (2, .ref (E.2.2.1 0)), (1, .ref (E.2.2.1 15)), (0, .ref sb)]) (hi : i + 6 ≤ L) (hL : L ≤ 3072) (hG : zGG M) (hP : va_P E.2.1 zy_cl (zm_ws E.2.2.1 E.2.2.2.1 M) H) (hS : va_S E.2.2.2.2 s.heap H locs) (nx : zq_nx p e s m sb below meth c E ls) : W p E.1 e room_1 s m #[Value.ref sb] below meth c H locs 600000 7302250 (lw_Z below #[Value.ref sb] s) (F0 m 1204 ls []) := by
  obtain ⟨hx, hb, hml, hown, hts, hK, hE, hSF, hX, hbl, hbA⟩ := id C
  refine lv_aload_n hx hb dL_law_1204 rfl (lv_at hl 2 rfl) ?_
  refine zq_callV (a := 15) (ci := 11) (as := []) (rest := []) hx hb hml hown hts hK hSF zq_c11_deputies rfl zq_ob15 zq_l11_deputies zq_i11_deputies zq_s11_deputies rfl hl.1 (Nat.le_of_ble_eq_true rfl) ⟨Nat.le_of_ble_eq_true rfl, Nat.le_of_ble_eq_true rfl⟩ ⟨Nat.le_refl _, Nat.le_refl _⟩ dL_law_1205 (zL_deputies hE M hG) hP hS (fun r M H locs hq hP hS => ?_)
  obtain ⟨v, rfl, hq⟩ := hq
  refine lv_aload_n hx hb dL_law_1208 rfl (lv_at hl 1 rfl) ?_
  refine zq_callV (a := 0) (ci := 12) (as := []) (rest := [.int v]) hx hb hml hown hts hK hSF zq_c12_deputies rfl zq_ob0 zq_l12_deputies zq_i12_deputies zq_s12_deputies rfl hl.1 (Nat.le_of_ble_eq_true rfl) ⟨Nat.le_of_ble_eq_true rfl, Nat.le_of_ble_eq_true rfl⟩ ⟨Nat.le_refl _, Nat.le_refl _⟩ dL_law_1209 (hq) hP hS (fun r M H locs hq hP hS => ?_)
  obtain ⟨rfl, hG⟩ := hq
  exact lv_icmp_eq (tgt := 1525) hx hb dL_law_1212 (by decide) (fun _ => nx M H locs hG hP hS) (fun h => absurd rfl h)
theorem zq_case34 {p : Program} {e : Env} {s : State} {m : MethodId} {below : List Frame} {meth : Method} {c : Code} {E : zm_E} {sb L i : Nat} {xs : Nat → Int32} {ls : Array Slot} {M : zm_M} {H : Heap} {locs : List Loc} (C : zq_C p s m c E sb L xs) (hl : lv_has ls 4 [(3, .int (nI i)), (2, .ref (E.2.2.1 0)), (1, .ref (E.2.2.1 15)), (0, .ref sb)]) (hi : i + 6 ≤ L) (hL : L ≤ 3072) (hG : zGG M) (hP : va_P E.2.1 zy_cl (zm_ws E.2.2.1 E.2.2.2.1 M) H) (hS : va_S E.2.2.2.2 s.heap H locs) (nx : zq_nx p e s m sb below meth c E ls) : W p E.1 e room_1 s m #[Value.ref sb] below meth c H locs 600000 7302250 (lw_Z below #[Value.ref sb] s) (F0 m 1217 ls []) := by
  obtain ⟨hx, hb, hml, hown, hts, hK, hE, hSF, hX, hbl, hbA⟩ := id C
  refine lv_aload_n hx hb dL_law_1217 rfl (lv_at hl 2 rfl) ?_
  refine zq_arg (j := 1) C hl (by omega) hL hS rfl dL_law_1218 dL_law_1219 dL_law_1220 dL_law_1221 dL_law_1222 ?_
  refine zq_argb (j := 2) C hl (by omega) hL hS rfl dL_law_1223 dL_law_1224 dL_law_1225 dL_law_1226 dL_law_1227 dL_law_1228 dL_law_1231 dL_law_1232 dL_law_1235 ?_
  refine zq_callV (a := 15) (ci := 11) (as := [.int (xs (i + 1)), .int (if xs (i + 2) = 0 then 0 else 1)]) (rest := []) hx hb hml hown hts hK hSF zq_c11_ranked rfl zq_ob15 zq_l11_ranked zq_i11_ranked zq_s11_ranked rfl hl.1 (Nat.le_of_ble_eq_true rfl) ⟨Nat.le_of_ble_eq_true rfl, Nat.le_of_ble_eq_true rfl⟩ ⟨Nat.le_refl _, Nat.le_refl _⟩ dL_law_1236 (zL_ranked hE _ _ M hG) hP hS (fun r M H locs hq hP hS => ?_)
  obtain ⟨v, rfl, hq⟩ := hq
  refine lv_aload_n hx hb dL_law_1239 rfl (lv_at hl 1 rfl) ?_
  refine zq_arg (j := 1) C hl (by omega) hL hS rfl dL_law_1240 dL_law_1241 dL_law_1242 dL_law_1243 dL_law_1244 ?_
  refine zq_argb (j := 2) C hl (by omega) hL hS rfl dL_law_1245 dL_law_1246 dL_law_1247 dL_law_1248 dL_law_1249 dL_law_1250 dL_law_1253 dL_law_1254 dL_law_1257 ?_
  refine zq_callV (a := 0) (ci := 12) (as := [.int (xs (i + 1)), .int (if xs (i + 2) = 0 then 0 else 1)]) (rest := [.int v]) hx hb hml hown hts hK hSF zq_c12_ranked rfl zq_ob0 zq_l12_ranked zq_i12_ranked zq_s12_ranked rfl hl.1 (Nat.le_of_ble_eq_true rfl) ⟨Nat.le_of_ble_eq_true rfl, Nat.le_of_ble_eq_true rfl⟩ ⟨Nat.le_refl _, Nat.le_refl _⟩ dL_law_1258 (hq) hP hS (fun r M H locs hq hP hS => ?_)
  obtain ⟨rfl, hG⟩ := hq
  exact lv_icmp_eq (tgt := 1525) hx hb dL_law_1261 (by decide) (fun _ => nx M H locs hG hP hS) (fun h => absurd rfl h)
theorem zq_case35 {p : Program} {e : Env} {s : State} {m : MethodId} {below : List Frame} {meth : Method} {c : Code} {E : zm_E} {sb L i : Nat} {xs : Nat → Int32} {ls : Array Slot} {M : zm_M} {H : Heap} {locs : List Loc} (C : zq_C p s m c E sb L xs) (hl : lv_has ls 4 [(3, .int (nI i)), (2, .ref (E.2.2.1 0)), (1, .ref (E.2.2.1 15)), (0, .ref sb)]) (hi : i + 6 ≤ L) (hL : L ≤ 3072) (hG : zGG M) (hP : va_P E.2.1 zy_cl (zm_ws E.2.2.1 E.2.2.2.1 M) H) (hS : va_S E.2.2.2.2 s.heap H locs) (nx : zq_nx p e s m sb below meth c E ls) : W p E.1 e room_1 s m #[Value.ref sb] below meth c H locs 600000 7302250 (lw_Z below #[Value.ref sb] s) (F0 m 1266 ls []) := by
  obtain ⟨hx, hb, hml, hown, hts, hK, hE, hSF, hX, hbl, hbA⟩ := id C
  refine lv_aload_n hx hb dL_law_1266 rfl (lv_at hl 2 rfl) ?_
  refine zq_arg (j := 1) C hl (by omega) hL hS rfl dL_law_1267 dL_law_1268 dL_law_1269 dL_law_1270 dL_law_1271 ?_
  refine zq_arg (j := 2) C hl (by omega) hL hS rfl dL_law_1272 dL_law_1273 dL_law_1274 dL_law_1275 dL_law_1276 ?_
  refine zq_arg (j := 3) C hl (by omega) hL hS rfl dL_law_1277 dL_law_1278 dL_law_1279 dL_law_1280 dL_law_1281 ?_
  refine zq_callV (a := 15) (ci := 11) (as := [.int (xs (i + 1)), .int (xs (i + 2)), .int (xs (i + 3))]) (rest := []) hx hb hml hown hts hK hSF zq_c11_owes rfl zq_ob15 zq_l11_owes zq_i11_owes zq_s11_owes rfl hl.1 (Nat.le_of_ble_eq_true rfl) ⟨Nat.le_of_ble_eq_true rfl, Nat.le_of_ble_eq_true rfl⟩ ⟨Nat.le_refl _, Nat.le_refl _⟩ dL_law_1282 (zL_owes hE _ _ _ M hG) hP hS (fun r M H locs hq hP hS => ?_)
  obtain ⟨v, rfl, hq⟩ := hq
  refine lv_aload_n hx hb dL_law_1285 rfl (lv_at hl 1 rfl) ?_
  refine zq_arg (j := 1) C hl (by omega) hL hS rfl dL_law_1286 dL_law_1287 dL_law_1288 dL_law_1289 dL_law_1290 ?_
  refine zq_arg (j := 2) C hl (by omega) hL hS rfl dL_law_1291 dL_law_1292 dL_law_1293 dL_law_1294 dL_law_1295 ?_
  refine zq_arg (j := 3) C hl (by omega) hL hS rfl dL_law_1296 dL_law_1297 dL_law_1298 dL_law_1299 dL_law_1300 ?_
  refine zq_callV (a := 0) (ci := 12) (as := [.int (xs (i + 1)), .int (xs (i + 2)), .int (xs (i + 3))]) (rest := [.int v]) hx hb hml hown hts hK hSF zq_c12_owes rfl zq_ob0 zq_l12_owes zq_i12_owes zq_s12_owes rfl hl.1 (Nat.le_of_ble_eq_true rfl) ⟨Nat.le_of_ble_eq_true rfl, Nat.le_of_ble_eq_true rfl⟩ ⟨Nat.le_refl _, Nat.le_refl _⟩ dL_law_1301 (hq) hP hS (fun r M H locs hq hP hS => ?_)
  obtain ⟨rfl, hG⟩ := hq
  exact lv_icmp_eq (tgt := 1525) hx hb dL_law_1304 (by decide) (fun _ => nx M H locs hG hP hS) (fun h => absurd rfl h)
theorem zq_case36 {p : Program} {e : Env} {s : State} {m : MethodId} {below : List Frame} {meth : Method} {c : Code} {E : zm_E} {sb L i : Nat} {xs : Nat → Int32} {ls : Array Slot} {M : zm_M} {H : Heap} {locs : List Loc} (C : zq_C p s m c E sb L xs) (hl : lv_has ls 4 [(3, .int (nI i)), (2, .ref (E.2.2.1 0)), (1, .ref (E.2.2.1 15)), (0, .ref sb)]) (hi : i + 6 ≤ L) (hL : L ≤ 3072) (hG : zGG M) (hP : va_P E.2.1 zy_cl (zm_ws E.2.2.1 E.2.2.2.1 M) H) (hS : va_S E.2.2.2.2 s.heap H locs) (nx : zq_nx p e s m sb below meth c E ls) : W p E.1 e room_1 s m #[Value.ref sb] below meth c H locs 600000 7302250 (lw_Z below #[Value.ref sb] s) (F0 m 1309 ls []) := by
  obtain ⟨hx, hb, hml, hown, hts, hK, hE, hSF, hX, hbl, hbA⟩ := id C
  refine lv_aload_n hx hb dL_law_1309 rfl (lv_at hl 2 rfl) ?_
  refine zq_arg (j := 1) C hl (by omega) hL hS rfl dL_law_1310 dL_law_1311 dL_law_1312 dL_law_1313 dL_law_1314 ?_
  refine zq_argb (j := 2) C hl (by omega) hL hS rfl dL_law_1315 dL_law_1316 dL_law_1317 dL_law_1318 dL_law_1319 dL_law_1320 dL_law_1323 dL_law_1324 dL_law_1327 ?_
  refine zq_callV (a := 15) (ci := 11) (as := [.int (xs (i + 1)), .int (if xs (i + 2) = 0 then 0 else 1)]) (rest := []) hx hb hml hown hts hK hSF zq_c11_play rfl zq_ob15 zq_l11_play zq_i11_play zq_s11_play rfl hl.1 (Nat.le_of_ble_eq_true rfl) ⟨Nat.le_of_ble_eq_true rfl, Nat.le_of_ble_eq_true rfl⟩ ⟨Nat.le_refl _, Nat.le_refl _⟩ dL_law_1328 (zL_play hE _ _ M hG) hP hS (fun r M H locs hq hP hS => ?_)
  obtain ⟨v, rfl, hq⟩ := hq
  refine lv_aload_n hx hb dL_law_1331 rfl (lv_at hl 1 rfl) ?_
  refine zq_arg (j := 1) C hl (by omega) hL hS rfl dL_law_1332 dL_law_1333 dL_law_1334 dL_law_1335 dL_law_1336 ?_
  refine zq_argb (j := 2) C hl (by omega) hL hS rfl dL_law_1337 dL_law_1338 dL_law_1339 dL_law_1340 dL_law_1341 dL_law_1342 dL_law_1345 dL_law_1346 dL_law_1349 ?_
  refine zq_callV (a := 0) (ci := 12) (as := [.int (xs (i + 1)), .int (if xs (i + 2) = 0 then 0 else 1)]) (rest := [.int v]) hx hb hml hown hts hK hSF zq_c12_play rfl zq_ob0 zq_l12_play zq_i12_play zq_s12_play rfl hl.1 (Nat.le_of_ble_eq_true rfl) ⟨Nat.le_of_ble_eq_true rfl, Nat.le_of_ble_eq_true rfl⟩ ⟨Nat.le_refl _, Nat.le_refl _⟩ dL_law_1350 (hq) hP hS (fun r M H locs hq hP hS => ?_)
  obtain ⟨rfl, hG⟩ := hq
  exact lv_icmp_eq (tgt := 1525) hx hb dL_law_1353 (by decide) (fun _ => nx M H locs hG hP hS) (fun h => absurd rfl h)
theorem zq_case37 {p : Program} {e : Env} {s : State} {m : MethodId} {below : List Frame} {meth : Method} {c : Code} {E : zm_E} {sb L i : Nat} {xs : Nat → Int32} {ls : Array Slot} {M : zm_M} {H : Heap} {locs : List Loc} (C : zq_C p s m c E sb L xs) (hl : lv_has ls 4 [(3, .int (nI i)), (2, .ref (E.2.2.1 0)), (1, .ref (E.2.2.1 15)), (0, .ref sb)]) (hi : i + 6 ≤ L) (hL : L ≤ 3072) (hG : zGG M) (hP : va_P E.2.1 zy_cl (zm_ws E.2.2.1 E.2.2.2.1 M) H) (hS : va_S E.2.2.2.2 s.heap H locs) (nx : zq_nx p e s m sb below meth c E ls) : W p E.1 e room_1 s m #[Value.ref sb] below meth c H locs 600000 7302250 (lw_Z below #[Value.ref sb] s) (F0 m 1358 ls []) := by
  obtain ⟨hx, hb, hml, hown, hts, hK, hE, hSF, hX, hbl, hbA⟩ := id C
  refine lv_aload_n hx hb dL_law_1358 rfl (lv_at hl 2 rfl) ?_
  refine zq_arg (j := 1) C hl (by omega) hL hS rfl dL_law_1359 dL_law_1360 dL_law_1361 dL_law_1362 dL_law_1363 ?_
  refine zq_arg (j := 2) C hl (by omega) hL hS rfl dL_law_1364 dL_law_1365 dL_law_1366 dL_law_1367 dL_law_1368 ?_
  refine zq_callV (a := 15) (ci := 11) (as := [.int (xs (i + 1)), .int (xs (i + 2))]) (rest := []) hx hb hml hown hts hK hSF zq_c11_added rfl zq_ob15 zq_l11_added zq_i11_added zq_s11_added rfl hl.1 (Nat.le_of_ble_eq_true rfl) ⟨Nat.le_of_ble_eq_true rfl, Nat.le_of_ble_eq_true rfl⟩ ⟨Nat.le_refl _, Nat.le_refl _⟩ dL_law_1369 (zL_added hE _ _ M hG) hP hS (fun r M H locs hq hP hS => ?_)
  obtain ⟨v, rfl, hq⟩ := hq
  refine lv_aload_n hx hb dL_law_1372 rfl (lv_at hl 1 rfl) ?_
  refine zq_arg (j := 1) C hl (by omega) hL hS rfl dL_law_1373 dL_law_1374 dL_law_1375 dL_law_1376 dL_law_1377 ?_
  refine zq_arg (j := 2) C hl (by omega) hL hS rfl dL_law_1378 dL_law_1379 dL_law_1380 dL_law_1381 dL_law_1382 ?_
  refine zq_callV (a := 0) (ci := 12) (as := [.int (xs (i + 1)), .int (xs (i + 2))]) (rest := [.int v]) hx hb hml hown hts hK hSF zq_c12_added rfl zq_ob0 zq_l12_added zq_i12_added zq_s12_added rfl hl.1 (Nat.le_of_ble_eq_true rfl) ⟨Nat.le_of_ble_eq_true rfl, Nat.le_of_ble_eq_true rfl⟩ ⟨Nat.le_refl _, Nat.le_refl _⟩ dL_law_1383 (hq) hP hS (fun r M H locs hq hP hS => ?_)
  obtain ⟨rfl, hG⟩ := hq
  exact lv_icmp_eq (tgt := 1525) hx hb dL_law_1386 (by decide) (fun _ => nx M H locs hG hP hS) (fun h => absurd rfl h)
theorem zq_case38 {p : Program} {e : Env} {s : State} {m : MethodId} {below : List Frame} {meth : Method} {c : Code} {E : zm_E} {sb L i : Nat} {xs : Nat → Int32} {ls : Array Slot} {M : zm_M} {H : Heap} {locs : List Loc} (C : zq_C p s m c E sb L xs) (hl : lv_has ls 4 [(3, .int (nI i)), (2, .ref (E.2.2.1 0)), (1, .ref (E.2.2.1 15)), (0, .ref sb)]) (hi : i + 6 ≤ L) (hL : L ≤ 3072) (hG : zGG M) (hP : va_P E.2.1 zy_cl (zm_ws E.2.2.1 E.2.2.2.1 M) H) (hS : va_S E.2.2.2.2 s.heap H locs) (nx : zq_nx p e s m sb below meth c E ls) : W p E.1 e room_1 s m #[Value.ref sb] below meth c H locs 600000 7302250 (lw_Z below #[Value.ref sb] s) (F0 m 1391 ls []) := by
  obtain ⟨hx, hb, hml, hown, hts, hK, hE, hSF, hX, hbl, hbA⟩ := id C
  refine lv_aload_n hx hb dL_law_1391 rfl (lv_at hl 2 rfl) ?_
  refine zq_callV (a := 15) (ci := 11) (as := []) (rest := []) hx hb hml hown hts hK hSF zq_c11_whose rfl zq_ob15 zq_l11_whose zq_i11_whose zq_s11_whose rfl hl.1 (Nat.le_of_ble_eq_true rfl) ⟨Nat.le_of_ble_eq_true rfl, Nat.le_of_ble_eq_true rfl⟩ ⟨Nat.le_refl _, Nat.le_refl _⟩ dL_law_1392 (zL_whose hE M hG) hP hS (fun r M H locs hq hP hS => ?_)
  obtain ⟨v, rfl, hq⟩ := hq
  refine lv_aload_n hx hb dL_law_1395 rfl (lv_at hl 1 rfl) ?_
  refine zq_callV (a := 0) (ci := 12) (as := []) (rest := [.int v]) hx hb hml hown hts hK hSF zq_c12_whose rfl zq_ob0 zq_l12_whose zq_i12_whose zq_s12_whose rfl hl.1 (Nat.le_of_ble_eq_true rfl) ⟨Nat.le_of_ble_eq_true rfl, Nat.le_of_ble_eq_true rfl⟩ ⟨Nat.le_refl _, Nat.le_refl _⟩ dL_law_1396 (hq) hP hS (fun r M H locs hq hP hS => ?_)
  obtain ⟨rfl, hG⟩ := hq
  exact lv_icmp_eq (tgt := 1525) hx hb dL_law_1399 (by decide) (fun _ => nx M H locs hG hP hS) (fun h => absurd rfl h)
theorem zq_case39 {p : Program} {e : Env} {s : State} {m : MethodId} {below : List Frame} {meth : Method} {c : Code} {E : zm_E} {sb L i : Nat} {xs : Nat → Int32} {ls : Array Slot} {M : zm_M} {H : Heap} {locs : List Loc} (C : zq_C p s m c E sb L xs) (hl : lv_has ls 4 [(3, .int (nI i)), (2, .ref (E.2.2.1 0)), (1, .ref (E.2.2.1 15)), (0, .ref sb)]) (hi : i + 6 ≤ L) (hL : L ≤ 3072) (hG : zGG M) (hP : va_P E.2.1 zy_cl (zm_ws E.2.2.1 E.2.2.2.1 M) H) (hS : va_S E.2.2.2.2 s.heap H locs) (nx : zq_nx p e s m sb below meth c E ls) : W p E.1 e room_1 s m #[Value.ref sb] below meth c H locs 600000 7302250 (lw_Z below #[Value.ref sb] s) (F0 m 1404 ls []) := by
  obtain ⟨hx, hb, hml, hown, hts, hK, hE, hSF, hX, hbl, hbA⟩ := id C
  refine lv_aload_n hx hb dL_law_1404 rfl (lv_at hl 2 rfl) ?_
  refine zq_callV (a := 15) (ci := 11) (as := []) (rest := []) hx hb hml hown hts hK hSF zq_c11_stuck rfl zq_ob15 zq_l11_stuck zq_i11_stuck zq_s11_stuck rfl hl.1 (Nat.le_of_ble_eq_true rfl) ⟨Nat.le_of_ble_eq_true rfl, Nat.le_of_ble_eq_true rfl⟩ ⟨Nat.le_refl _, Nat.le_refl _⟩ dL_law_1405 (zL_stuck hE M hG) hP hS (fun r M H locs hq hP hS => ?_)
  obtain ⟨v, rfl, hq⟩ := hq
  refine lv_aload_n hx hb dL_law_1408 rfl (lv_at hl 1 rfl) ?_
  refine zq_callV (a := 0) (ci := 12) (as := []) (rest := [.int v]) hx hb hml hown hts hK hSF zq_c12_stuck rfl zq_ob0 zq_l12_stuck zq_i12_stuck zq_s12_stuck rfl hl.1 (Nat.le_of_ble_eq_true rfl) ⟨Nat.le_of_ble_eq_true rfl, Nat.le_of_ble_eq_true rfl⟩ ⟨Nat.le_refl _, Nat.le_refl _⟩ dL_law_1409 (hq) hP hS (fun r M H locs hq hP hS => ?_)
  obtain ⟨rfl, hG⟩ := hq
  exact lv_icmp_eq (tgt := 1525) hx hb dL_law_1412 (by decide) (fun _ => nx M H locs hG hP hS) (fun h => absurd rfl h)
theorem zq_case40 {p : Program} {e : Env} {s : State} {m : MethodId} {below : List Frame} {meth : Method} {c : Code} {E : zm_E} {sb L i : Nat} {xs : Nat → Int32} {ls : Array Slot} {M : zm_M} {H : Heap} {locs : List Loc} (C : zq_C p s m c E sb L xs) (hl : lv_has ls 4 [(3, .int (nI i)), (2, .ref (E.2.2.1 0)), (1, .ref (E.2.2.1 15)), (0, .ref sb)]) (hi : i + 6 ≤ L) (hL : L ≤ 3072) (hG : zGG M) (hP : va_P E.2.1 zy_cl (zm_ws E.2.2.1 E.2.2.2.1 M) H) (hS : va_S E.2.2.2.2 s.heap H locs) (nx : zq_nx p e s m sb below meth c E ls) : W p E.1 e room_1 s m #[Value.ref sb] below meth c H locs 600000 7302250 (lw_Z below #[Value.ref sb] s) (F0 m 1417 ls []) := by
  obtain ⟨hx, hb, hml, hown, hts, hK, hE, hSF, hX, hbl, hbA⟩ := id C
  refine lv_aload_n hx hb dL_law_1417 rfl (lv_at hl 2 rfl) ?_
  refine zq_callV (a := 15) (ci := 11) (as := []) (rest := []) hx hb hml hown hts hK hSF zq_c11_eldest rfl zq_ob15 zq_l11_eldest zq_i11_eldest zq_s11_eldest rfl hl.1 (Nat.le_of_ble_eq_true rfl) ⟨Nat.le_of_ble_eq_true rfl, Nat.le_of_ble_eq_true rfl⟩ ⟨Nat.le_refl _, Nat.le_refl _⟩ dL_law_1418 (zL_eldest hE M hG) hP hS (fun r M H locs hq hP hS => ?_)
  obtain ⟨v, rfl, hq⟩ := hq
  refine lv_aload_n hx hb dL_law_1421 rfl (lv_at hl 1 rfl) ?_
  refine zq_callV (a := 0) (ci := 12) (as := []) (rest := [.int v]) hx hb hml hown hts hK hSF zq_c12_eldest rfl zq_ob0 zq_l12_eldest zq_i12_eldest zq_s12_eldest rfl hl.1 (Nat.le_of_ble_eq_true rfl) ⟨Nat.le_of_ble_eq_true rfl, Nat.le_of_ble_eq_true rfl⟩ ⟨Nat.le_refl _, Nat.le_refl _⟩ dL_law_1422 (hq) hP hS (fun r M H locs hq hP hS => ?_)
  obtain ⟨rfl, hG⟩ := hq
  exact lv_icmp_eq (tgt := 1525) hx hb dL_law_1425 (by decide) (fun _ => nx M H locs hG hP hS) (fun h => absurd rfl h)
theorem zq_case41 {p : Program} {e : Env} {s : State} {m : MethodId} {below : List Frame} {meth : Method} {c : Code} {E : zm_E} {sb L i : Nat} {xs : Nat → Int32} {ls : Array Slot} {M : zm_M} {H : Heap} {locs : List Loc} (C : zq_C p s m c E sb L xs) (hl : lv_has ls 4 [(3, .int (nI i)), (2, .ref (E.2.2.1 0)), (1, .ref (E.2.2.1 15)), (0, .ref sb)]) (hi : i + 6 ≤ L) (hL : L ≤ 3072) (hG : zGG M) (hP : va_P E.2.1 zy_cl (zm_ws E.2.2.1 E.2.2.2.1 M) H) (hS : va_S E.2.2.2.2 s.heap H locs) (nx : zq_nx p e s m sb below meth c E ls) : W p E.1 e room_1 s m #[Value.ref sb] below meth c H locs 600000 7302250 (lw_Z below #[Value.ref sb] s) (F0 m 1430 ls []) := by
  obtain ⟨hx, hb, hml, hown, hts, hK, hE, hSF, hX, hbl, hbA⟩ := id C
  refine lv_aload_n hx hb dL_law_1430 rfl (lv_at hl 2 rfl) ?_
  refine zq_arg (j := 1) C hl (by omega) hL hS rfl dL_law_1431 dL_law_1432 dL_law_1433 dL_law_1434 dL_law_1435 ?_
  refine zq_callV (a := 15) (ci := 11) (as := [.int (xs (i + 1))]) (rest := []) hx hb hml hown hts hK hSF zq_c11_sry rfl zq_ob15 zq_l11_sry zq_i11_sry zq_s11_sry rfl hl.1 (Nat.le_of_ble_eq_true rfl) ⟨Nat.le_of_ble_eq_true rfl, Nat.le_of_ble_eq_true rfl⟩ ⟨Nat.le_refl _, Nat.le_refl _⟩ dL_law_1436 (zL_sry hE _ M hG) hP hS (fun r M H locs hq hP hS => ?_)
  obtain ⟨v, rfl, hq⟩ := hq
  refine lv_aload_n hx hb dL_law_1439 rfl (lv_at hl 1 rfl) ?_
  refine zq_arg (j := 1) C hl (by omega) hL hS rfl dL_law_1440 dL_law_1441 dL_law_1442 dL_law_1443 dL_law_1444 ?_
  refine zq_callV (a := 0) (ci := 12) (as := [.int (xs (i + 1))]) (rest := [.int v]) hx hb hml hown hts hK hSF zq_c12_sry rfl zq_ob0 zq_l12_sry zq_i12_sry zq_s12_sry rfl hl.1 (Nat.le_of_ble_eq_true rfl) ⟨Nat.le_of_ble_eq_true rfl, Nat.le_of_ble_eq_true rfl⟩ ⟨Nat.le_refl _, Nat.le_refl _⟩ dL_law_1445 (hq) hP hS (fun r M H locs hq hP hS => ?_)
  obtain ⟨rfl, hG⟩ := hq
  exact lv_icmp_eq (tgt := 1525) hx hb dL_law_1448 (by decide) (fun _ => nx M H locs hG hP hS) (fun h => absurd rfl h)
theorem zq_case42 {p : Program} {e : Env} {s : State} {m : MethodId} {below : List Frame} {meth : Method} {c : Code} {E : zm_E} {sb L i : Nat} {xs : Nat → Int32} {ls : Array Slot} {M : zm_M} {H : Heap} {locs : List Loc} (C : zq_C p s m c E sb L xs) (hl : lv_has ls 4 [(3, .int (nI i)), (2, .ref (E.2.2.1 0)), (1, .ref (E.2.2.1 15)), (0, .ref sb)]) (hi : i + 6 ≤ L) (hL : L ≤ 3072) (hG : zGG M) (hP : va_P E.2.1 zy_cl (zm_ws E.2.2.1 E.2.2.2.1 M) H) (hS : va_S E.2.2.2.2 s.heap H locs) (nx : zq_nx p e s m sb below meth c E ls) : W p E.1 e room_1 s m #[Value.ref sb] below meth c H locs 600000 7302250 (lw_Z below #[Value.ref sb] s) (F0 m 1453 ls []) := by
  obtain ⟨hx, hb, hml, hown, hts, hK, hE, hSF, hX, hbl, hbA⟩ := id C
  refine lv_aload_n hx hb dL_law_1453 rfl (lv_at hl 2 rfl) ?_
  refine zq_arg (j := 1) C hl (by omega) hL hS rfl dL_law_1454 dL_law_1455 dL_law_1456 dL_law_1457 dL_law_1458 ?_
  refine zq_callV (a := 15) (ci := 11) (as := [.int (xs (i + 1))]) (rest := []) hx hb hml hown hts hK hSF zq_c11_befell rfl zq_ob15 zq_l11_befell zq_i11_befell zq_s11_befell rfl hl.1 (Nat.le_of_ble_eq_true rfl) ⟨Nat.le_of_ble_eq_true rfl, Nat.le_of_ble_eq_true rfl⟩ ⟨Nat.le_refl _, Nat.le_refl _⟩ dL_law_1459 (zL_befell hE _ M hG) hP hS (fun r M H locs hq hP hS => ?_)
  obtain ⟨v, rfl, hq⟩ := hq
  refine lv_aload_n hx hb dL_law_1462 rfl (lv_at hl 1 rfl) ?_
  refine zq_arg (j := 1) C hl (by omega) hL hS rfl dL_law_1463 dL_law_1464 dL_law_1465 dL_law_1466 dL_law_1467 ?_
  refine zq_callV (a := 0) (ci := 12) (as := [.int (xs (i + 1))]) (rest := [.int v]) hx hb hml hown hts hK hSF zq_c12_befell rfl zq_ob0 zq_l12_befell zq_i12_befell zq_s12_befell rfl hl.1 (Nat.le_of_ble_eq_true rfl) ⟨Nat.le_of_ble_eq_true rfl, Nat.le_of_ble_eq_true rfl⟩ ⟨Nat.le_refl _, Nat.le_refl _⟩ dL_law_1468 (hq) hP hS (fun r M H locs hq hP hS => ?_)
  obtain ⟨rfl, hG⟩ := hq
  exact lv_icmp_eq (tgt := 1525) hx hb dL_law_1471 (by decide) (fun _ => nx M H locs hG hP hS) (fun h => absurd rfl h)
theorem zq_case43 {p : Program} {e : Env} {s : State} {m : MethodId} {below : List Frame} {meth : Method} {c : Code} {E : zm_E} {sb L i : Nat} {xs : Nat → Int32} {ls : Array Slot} {M : zm_M} {H : Heap} {locs : List Loc} (C : zq_C p s m c E sb L xs) (hl : lv_has ls 4 [(3, .int (nI i)), (2, .ref (E.2.2.1 0)), (1, .ref (E.2.2.1 15)), (0, .ref sb)]) (hi : i + 6 ≤ L) (hL : L ≤ 3072) (hG : zGG M) (hP : va_P E.2.1 zy_cl (zm_ws E.2.2.1 E.2.2.2.1 M) H) (hS : va_S E.2.2.2.2 s.heap H locs) (nx : zq_nx p e s m sb below meth c E ls) : W p E.1 e room_1 s m #[Value.ref sb] below meth c H locs 600000 7302250 (lw_Z below #[Value.ref sb] s) (F0 m 1476 ls []) := by
  obtain ⟨hx, hb, hml, hown, hts, hK, hE, hSF, hX, hbl, hbA⟩ := id C
  refine lv_aload_n hx hb dL_law_1476 rfl (lv_at hl 2 rfl) ?_
  refine zq_callV (a := 15) (ci := 11) (as := []) (rest := []) hx hb hml hown hts hK hSF zq_c11_image rfl zq_ob15 zq_l11_image zq_i11_image zq_s11_image rfl hl.1 (Nat.le_of_ble_eq_true rfl) ⟨Nat.le_of_ble_eq_true rfl, Nat.le_of_ble_eq_true rfl⟩ ⟨Nat.le_refl _, Nat.le_refl _⟩ dL_law_1477 (zL_image hE M hG) hP hS (fun r M H locs hq hP hS => ?_)
  obtain ⟨v, rfl, hq⟩ := hq
  refine lv_aload_n hx hb dL_law_1480 rfl (lv_at hl 1 rfl) ?_
  refine zq_callV (a := 0) (ci := 12) (as := []) (rest := [.int v]) hx hb hml hown hts hK hSF zq_c12_image rfl zq_ob0 zq_l12_image zq_i12_image zq_s12_image rfl hl.1 (Nat.le_of_ble_eq_true rfl) ⟨Nat.le_of_ble_eq_true rfl, Nat.le_of_ble_eq_true rfl⟩ ⟨Nat.le_refl _, Nat.le_refl _⟩ dL_law_1481 (hq) hP hS (fun r M H locs hq hP hS => ?_)
  obtain ⟨rfl, hG⟩ := hq
  exact lv_icmp_eq (tgt := 1525) hx hb dL_law_1484 (by decide) (fun _ => nx M H locs hG hP hS) (fun h => absurd rfl h)
theorem zq_case44 {p : Program} {e : Env} {s : State} {m : MethodId} {below : List Frame} {meth : Method} {c : Code} {E : zm_E} {sb L i : Nat} {xs : Nat → Int32} {ls : Array Slot} {M : zm_M} {H : Heap} {locs : List Loc} (C : zq_C p s m c E sb L xs) (hl : lv_has ls 4 [(3, .int (nI i)), (2, .ref (E.2.2.1 0)), (1, .ref (E.2.2.1 15)), (0, .ref sb)]) (hi : i + 6 ≤ L) (hL : L ≤ 3072) (hG : zGG M) (hP : va_P E.2.1 zy_cl (zm_ws E.2.2.1 E.2.2.2.1 M) H) (hS : va_S E.2.2.2.2 s.heap H locs) (nx : zq_nx p e s m sb below meth c E ls) : W p E.1 e room_1 s m #[Value.ref sb] below meth c H locs 600000 7302250 (lw_Z below #[Value.ref sb] s) (F0 m 1489 ls []) := by
  obtain ⟨hx, hb, hml, hown, hts, hK, hE, hSF, hX, hbl, hbA⟩ := id C
  refine lv_aload_n hx hb dL_law_1489 rfl (lv_at hl 2 rfl) ?_
  refine zq_callV (a := 15) (ci := 11) (as := []) (rest := []) hx hb hml hown hts hK hSF zq_c11_back rfl zq_ob15 zq_l11_back zq_i11_back zq_s11_back rfl hl.1 (Nat.le_of_ble_eq_true rfl) ⟨Nat.le_of_ble_eq_true rfl, Nat.le_of_ble_eq_true rfl⟩ ⟨Nat.le_refl _, Nat.le_refl _⟩ dL_law_1490 (zL_back hE M hG) hP hS (fun r M H locs hq hP hS => ?_)
  obtain ⟨v, rfl, hq⟩ := hq
  refine lv_aload_n hx hb dL_law_1493 rfl (lv_at hl 1 rfl) ?_
  refine zq_callV (a := 0) (ci := 12) (as := []) (rest := [.int v]) hx hb hml hown hts hK hSF zq_c12_back rfl zq_ob0 zq_l12_back zq_i12_back zq_s12_back rfl hl.1 (Nat.le_of_ble_eq_true rfl) ⟨Nat.le_of_ble_eq_true rfl, Nat.le_of_ble_eq_true rfl⟩ ⟨Nat.le_refl _, Nat.le_refl _⟩ dL_law_1494 (hq) hP hS (fun r M H locs hq hP hS => ?_)
  obtain ⟨rfl, hG⟩ := hq
  exact lv_icmp_eq (tgt := 1525) hx hb dL_law_1497 (by decide) (fun _ => nx M H locs hG hP hS) (fun h => absurd rfl h)
theorem zq_case45 {p : Program} {e : Env} {s : State} {m : MethodId} {below : List Frame} {meth : Method} {c : Code} {E : zm_E} {sb L i : Nat} {xs : Nat → Int32} {ls : Array Slot} {M : zm_M} {H : Heap} {locs : List Loc} (C : zq_C p s m c E sb L xs) (hl : lv_has ls 4 [(3, .int (nI i)), (2, .ref (E.2.2.1 0)), (1, .ref (E.2.2.1 15)), (0, .ref sb)]) (hi : i + 6 ≤ L) (hL : L ≤ 3072) (hG : zGG M) (hP : va_P E.2.1 zy_cl (zm_ws E.2.2.1 E.2.2.2.1 M) H) (hS : va_S E.2.2.2.2 s.heap H locs) (nx : zq_nx p e s m sb below meth c E ls) : W p E.1 e room_1 s m #[Value.ref sb] below meth c H locs 600000 7302250 (lw_Z below #[Value.ref sb] s) (F0 m 1502 ls []) := by
  obtain ⟨hx, hb, hml, hown, hts, hK, hE, hSF, hX, hbl, hbA⟩ := id C
  refine lv_aload_n hx hb dL_law_1502 rfl (lv_at hl 2 rfl) ?_
  refine zq_arg (j := 1) C hl (by omega) hL hS rfl dL_law_1503 dL_law_1504 dL_law_1505 dL_law_1506 dL_law_1507 ?_
  refine zq_callV (a := 15) (ci := 11) (as := [.int (xs (i + 1))]) (rest := []) hx hb hml hown hts hK hSF zq_c11_about rfl zq_ob15 zq_l11_about zq_i11_about zq_s11_about rfl hl.1 (Nat.le_of_ble_eq_true rfl) ⟨Nat.le_of_ble_eq_true rfl, Nat.le_of_ble_eq_true rfl⟩ ⟨Nat.le_refl _, Nat.le_refl _⟩ dL_law_1508 (zL_about hE _ M hG) hP hS (fun r M H locs hq hP hS => ?_)
  obtain ⟨v, rfl, hq⟩ := hq
  refine lv_aload_n hx hb dL_law_1511 rfl (lv_at hl 1 rfl) ?_
  refine zq_arg (j := 1) C hl (by omega) hL hS rfl dL_law_1512 dL_law_1513 dL_law_1514 dL_law_1515 dL_law_1516 ?_
  refine zq_callV (a := 0) (ci := 12) (as := [.int (xs (i + 1))]) (rest := [.int v]) hx hb hml hown hts hK hSF zq_c12_about rfl zq_ob0 zq_l12_about zq_i12_about zq_s12_about rfl hl.1 (Nat.le_of_ble_eq_true rfl) ⟨Nat.le_of_ble_eq_true rfl, Nat.le_of_ble_eq_true rfl⟩ ⟨Nat.le_refl _, Nat.le_refl _⟩ dL_law_1517 (hq) hP hS (fun r M H locs hq hP hS => ?_)
  obtain ⟨rfl, hG⟩ := hq
  exact lv_icmp_eq (tgt := 1525) hx hb dL_law_1520 (by decide) (fun _ => nx M H locs hG hP hS) (fun h => absurd rfl h)
