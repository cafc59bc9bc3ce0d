/-! cases of the law: written by wip/p5/gen_law5.py -/
theorem la_case_0 (hPk : j_Pok WG vwCl la_RN jNW jP) {l : Launch} {p : Program} {e : Env} {s : State} {m : MethodId} {below : List Frame} {meth : Method} {c : Code} {bs L t : Nat} {xs : Nat → Int32} {D : va_G} {g : j_G} (C : la_C p s m meth c bs L xs D g) (ht : 6 * t + 6 ≤ L) (hL : L ≤ 3072) (nxt : la_B l p e s m below meth c bs D g (t + 1) 23) : la_B l p e s m below meth c bs D g t 248 := by
  intro h H locs ls hk hP hS hl
  have hx := C.1.1
  have hb := C.1.2.1
  have hc9 : 373 + t ≤ 601024 := by omega
  have ht9 : t < 512 := by omega
  have hs9 : 19204 + 6 * t ≤ 7293034 := by omega
  refine lv_aload_n hx hb dL_law_248 rfl (lv_at hl 3 rfl) ?_
  obtain ⟨f0, hf0⟩ := hk.h0
  refine la_vir hPk (st := [.ref 0]) (As := [.ref 0]) (rest := []) (N := (yX9_status, cX9_status, 1, (some .int), 0, false, 9)) C hl.1 dL_law_249 (j_Cchk_ok (own := R_law) (q := (19, 3, 112, [586, 587, 588])) (by decide +kernel)) rfl (j_spl3 hf0 rfl rfl rfl (Nat.zero_le _) (Nat.le_of_ble_eq_true rfl)) (la_q_status  ht9 hk) (fun r h' z => z.elim fun v y => y.2.1.1) hc9 hs9 hP hS ?_
  rintro r h1 H1 locs1 ⟨v, rfl, s1, q1⟩ hP1 hS1
  clear hP hS
  have hS := hS1
  show W p l e room_1 s m #[Value.ref bs] below meth c H1 locs1 (373 + t) (19204 + 6 * t) _ (F0 m 252 ls [.int v])
  refine lv_pop hx hb dL_law_252 rfl ?_
  refine lv_aload_n hx hb dL_law_253 rfl (lv_at hl 2 rfl) ?_
  obtain ⟨f9, hf9⟩ := la_h359 hk s1
  refine la_vir hPk (st := [.ref 359]) (As := [.ref 359]) (rest := []) (N := (yX10_status, cX10_status, 1, (some .int), 0, false, 10)) C hl.1 dL_law_254 (j_Cchk_ok (own := R_law) (q := (23, 3, 168, [1413, 1414, 1415])) (by decide +kernel)) rfl (j_spl3 hf9 rfl rfl rfl (Nat.zero_le _) (Nat.le_of_ble_eq_true rfl)) q1 (fun r h' z => z.elim fun v y => y.2.2.1.1) hc9 hs9 hP1 hS ?_
  rintro r h2 H2 locs2 ⟨w, rfl, ew, s2, hk2⟩ hP2 hS2
  show W p l e room_1 s m #[Value.ref bs] below meth c H2 locs2 (373 + t) (19204 + 6 * t) _ (F0 m 257 ls [.int w])
  refine lv_pop hx hb dL_law_257 rfl ?_
  refine lv_goto (tgt := 1891) hx hb dL_law_258 (by decide) ?_
  exact la_end C nxt (by omega) (by omega) hk2 hP2 hS2 hl
theorem la_case_1 (hPk : j_Pok WG vwCl la_RN jNW jP) {l : Launch} {p : Program} {e : Env} {s : State} {m : MethodId} {below : List Frame} {meth : Method} {c : Code} {bs L t : Nat} {xs : Nat → Int32} {D : va_G} {g : j_G} (C : la_C p s m meth c bs L xs D g) (ht : 6 * t + 6 ≤ L) (hL : L ≤ 3072) (nxt : la_B l p e s m below meth c bs D g (t + 1) 23) : la_B l p e s m below meth c bs D g t 261 := by
  intro h H locs ls hk hP hS hl
  have hx := C.1.1
  have hb := C.1.2.1
  have hc9 : 373 + t ≤ 601024 := by omega
  have ht9 : t < 512 := by omega
  have hs9 : 19204 + 6 * t ≤ 7293034 := by omega
  refine lv_aload_n hx hb dL_law_261 rfl (lv_at hl 3 rfl) ?_
  refine la_arg C ht hL (lv_at hl 4 rfl) (lv_at hl 0 rfl) hS dL_law_262 dL_law_263 dL_law_265 dL_law_266 dL_law_267 (k := 1) ⟨by decide, by decide⟩ ?_
  refine la_arg C ht hL (lv_at hl 4 rfl) (lv_at hl 0 rfl) hS dL_law_268 dL_law_269 dL_law_271 dL_law_272 dL_law_273 (k := 2) ⟨by decide, by decide⟩ ?_
  refine la_arg C ht hL (lv_at hl 4 rfl) (lv_at hl 0 rfl) hS dL_law_274 dL_law_275 dL_law_277 dL_law_278 dL_law_279 (k := 3) ⟨by decide, by decide⟩ ?_
  refine la_arg C ht hL (lv_at hl 4 rfl) (lv_at hl 0 rfl) hS dL_law_280 dL_law_281 dL_law_283 dL_law_284 dL_law_285 (k := 4) ⟨by decide, by decide⟩ ?_
  refine la_arg C ht hL (lv_at hl 4 rfl) (lv_at hl 0 rfl) hS dL_law_286 dL_law_287 dL_law_289 dL_law_290 dL_law_291 (k := 5) ⟨by decide, by decide⟩ ?_
  obtain ⟨f0, hf0⟩ := hk.h0
  refine la_vir hPk (st := [.int (xs (6 * t + 5)), .int (xs (6 * t + 4)), .int (xs (6 * t + 3)), .int (xs (6 * t + 2)), .int (xs (6 * t + 1)), .ref 0]) (As := [.ref 0, .int (xs (6 * t + 1)), .int (xs (6 * t + 2)), .int (xs (6 * t + 3)), .int (xs (6 * t + 4)), .int (xs (6 * t + 5))]) (rest := []) (N := (yX9_feed, cX9_feed, 6, (some .int), 5, false, 9)) C hl.1 dL_law_292 (j_Cchk_ok (own := R_law) (q := (24, 3, 113, [590, 591, 592])) (by decide +kernel)) rfl (j_spl3 hf0 rfl rfl rfl (Nat.zero_le _) (Nat.le_of_ble_eq_true rfl)) (la_q_feed (xs (6 * t + 1)) (xs (6 * t + 2)) (xs (6 * t + 3)) (xs (6 * t + 4)) (xs (6 * t + 5)) ht9 hk) (fun r h' z => z.elim fun v y => y.2.1.1) hc9 hs9 hP hS ?_
  rintro r h1 H1 locs1 ⟨v, rfl, s1, q1⟩ hP1 hS1
  clear hP hS
  have hS := hS1
  show W p l e room_1 s m #[Value.ref bs] below meth c H1 locs1 (373 + t) (19204 + 6 * t) _ (F0 m 295 ls [.int v])
  refine lv_pop hx hb dL_law_295 rfl ?_
  refine lv_aload_n hx hb dL_law_296 rfl (lv_at hl 2 rfl) ?_
  refine la_arg C ht hL (lv_at hl 4 rfl) (lv_at hl 0 rfl) hS dL_law_297 dL_law_298 dL_law_300 dL_law_301 dL_law_302 (k := 1) ⟨by decide, by decide⟩ ?_
  refine la_arg C ht hL (lv_at hl 4 rfl) (lv_at hl 0 rfl) hS dL_law_303 dL_law_304 dL_law_306 dL_law_307 dL_law_308 (k := 2) ⟨by decide, by decide⟩ ?_
  refine la_arg C ht hL (lv_at hl 4 rfl) (lv_at hl 0 rfl) hS dL_law_309 dL_law_310 dL_law_312 dL_law_313 dL_law_314 (k := 3) ⟨by decide, by decide⟩ ?_
  refine la_arg C ht hL (lv_at hl 4 rfl) (lv_at hl 0 rfl) hS dL_law_315 dL_law_316 dL_law_318 dL_law_319 dL_law_320 (k := 4) ⟨by decide, by decide⟩ ?_
  refine la_arg C ht hL (lv_at hl 4 rfl) (lv_at hl 0 rfl) hS dL_law_321 dL_law_322 dL_law_324 dL_law_325 dL_law_326 (k := 5) ⟨by decide, by decide⟩ ?_
  obtain ⟨f9, hf9⟩ := la_h359 hk s1
  refine la_vir hPk (st := [.int (xs (6 * t + 5)), .int (xs (6 * t + 4)), .int (xs (6 * t + 3)), .int (xs (6 * t + 2)), .int (xs (6 * t + 1)), .ref 359]) (As := [.ref 359, .int (xs (6 * t + 1)), .int (xs (6 * t + 2)), .int (xs (6 * t + 3)), .int (xs (6 * t + 4)), .int (xs (6 * t + 5))]) (rest := []) (N := (yX10_feed, cX10_feed, 6, (some .int), 5, false, 10)) C hl.1 dL_law_327 (j_Cchk_ok (own := R_law) (q := (28, 3, 181, [1417, 1418, 1419])) (by decide +kernel)) rfl (j_spl3 hf9 rfl rfl rfl (Nat.zero_le _) (Nat.le_of_ble_eq_true rfl)) q1 (fun r h' z => z.elim fun v y => y.2.2.1.1) hc9 hs9 hP1 hS ?_
  rintro r h2 H2 locs2 ⟨w, rfl, ew, s2, hk2⟩ hP2 hS2
  show W p l e room_1 s m #[Value.ref bs] below meth c H2 locs2 (373 + t) (19204 + 6 * t) _ (F0 m 330 ls [.int w])
  refine lv_pop hx hb dL_law_330 rfl ?_
  refine lv_goto (tgt := 1891) hx hb dL_law_331 (by decide) ?_
  exact la_end C nxt (by omega) (by omega) hk2 hP2 hS2 hl
theorem la_case_2 (hPk : j_Pok WG vwCl la_RN jNW jP) {l : Launch} {p : Program} {e : Env} {s : State} {m : MethodId} {below : List Frame} {meth : Method} {c : Code} {bs L t : Nat} {xs : Nat → Int32} {D : va_G} {g : j_G} (C : la_C p s m meth c bs L xs D g) (ht : 6 * t + 6 ≤ L) (hL : L ≤ 3072) (nxt : la_B l p e s m below meth c bs D g (t + 1) 23) : la_B l p e s m below meth c bs D g t 334 := by
  intro h H locs ls hk hP hS hl
  have hx := C.1.1
  have hb := C.1.2.1
  have hc9 : 373 + t ≤ 601024 := by omega
  have ht9 : t < 512 := by omega
  have hs9 : 19204 + 6 * t ≤ 7293034 := by omega
  refine lv_aload_n hx hb dL_law_334 rfl (lv_at hl 3 rfl) ?_
  refine la_arg C ht hL (lv_at hl 4 rfl) (lv_at hl 0 rfl) hS dL_law_335 dL_law_336 dL_law_338 dL_law_339 dL_law_340 (k := 1) ⟨by decide, by decide⟩ ?_
  obtain ⟨f0, hf0⟩ := hk.h0
  refine la_vir hPk (st := [.int (xs (6 * t + 1)), .ref 0]) (As := [.ref 0, .int (xs (6 * t + 1))]) (rest := []) (N := (yX9_load, cX9_load, 4, (some .int), 1, false, 9)) C hl.1 dL_law_341 (j_Cchk_ok (own := R_law) (q := (29, 3, 114, [603, 604, 605])) (by decide +kernel)) rfl (j_spl3 hf0 rfl rfl rfl (Nat.zero_le _) (Nat.le_of_ble_eq_true rfl)) (la_q_load (xs (6 * t + 1)) ht9 hk) (fun r h' z => z.elim fun v y => y.2.1.1) hc9 hs9 hP hS ?_
  rintro r h1 H1 locs1 ⟨v, rfl, s1, q1⟩ hP1 hS1
  clear hP hS
  have hS := hS1
  show W p l e room_1 s m #[Value.ref bs] below meth c H1 locs1 (373 + t) (19204 + 6 * t) _ (F0 m 344 ls [.int v])
  refine lv_pop hx hb dL_law_344 rfl ?_
  refine lv_aload_n hx hb dL_law_345 rfl (lv_at hl 2 rfl) ?_
  refine la_arg C ht hL (lv_at hl 4 rfl) (lv_at hl 0 rfl) hS dL_law_346 dL_law_347 dL_law_349 dL_law_350 dL_law_351 (k := 1) ⟨by decide, by decide⟩ ?_
  obtain ⟨f9, hf9⟩ := la_h359 hk s1
  refine la_vir hPk (st := [.int (xs (6 * t + 1)), .ref 359]) (As := [.ref 359, .int (xs (6 * t + 1))]) (rest := []) (N := (yX10_load, cX10_load, 4, (some .int), 1, false, 10)) C hl.1 dL_law_352 (j_Cchk_ok (own := R_law) (q := (32, 3, 200, [1425, 1426, 1427])) (by decide +kernel)) rfl (j_spl3 hf9 rfl rfl rfl (Nat.zero_le _) (Nat.le_of_ble_eq_true rfl)) q1 (fun r h' z => z.elim fun v y => y.2.2.1.1) hc9 hs9 hP1 hS ?_
  rintro r h2 H2 locs2 ⟨w, rfl, ew, s2, hk2⟩ hP2 hS2
  show W p l e room_1 s m #[Value.ref bs] below meth c H2 locs2 (373 + t) (19204 + 6 * t) _ (F0 m 355 ls [.int w])
  refine lv_pop hx hb dL_law_355 rfl ?_
  refine lv_goto (tgt := 1891) hx hb dL_law_356 (by decide) ?_
  exact la_end C nxt (by omega) (by omega) hk2 hP2 hS2 hl
theorem la_case_3 (hPk : j_Pok WG vwCl la_RN jNW jP) {l : Launch} {p : Program} {e : Env} {s : State} {m : MethodId} {below : List Frame} {meth : Method} {c : Code} {bs L t : Nat} {xs : Nat → Int32} {D : va_G} {g : j_G} (C : la_C p s m meth c bs L xs D g) (ht : 6 * t + 6 ≤ L) (hL : L ≤ 3072) (nxt : la_B l p e s m below meth c bs D g (t + 1) 23) : la_B l p e s m below meth c bs D g t 359 := by
  intro h H locs ls hk hP hS hl
  have hx := C.1.1
  have hb := C.1.2.1
  have hc9 : 373 + t ≤ 601024 := by omega
  have ht9 : t < 512 := by omega
  have hs9 : 19204 + 6 * t ≤ 7293034 := by omega
  refine lv_aload_n hx hb dL_law_359 rfl (lv_at hl 3 rfl) ?_
  refine la_arg C ht hL (lv_at hl 4 rfl) (lv_at hl 0 rfl) hS dL_law_360 dL_law_361 dL_law_363 dL_law_364 dL_law_365 (k := 1) ⟨by decide, by decide⟩ ?_
  obtain ⟨f0, hf0⟩ := hk.h0
  refine la_vir hPk (st := [.int (xs (6 * t + 1)), .ref 0]) (As := [.ref 0, .int (xs (6 * t + 1))]) (rest := []) (N := (yX9_fault, cX9_fault, 2, (some .int), 1, false, 9)) C hl.1 dL_law_366 (j_Cchk_ok (own := R_law) (q := (33, 3, 115, [733, 734, 735])) (by decide +kernel)) rfl (j_spl3 hf0 rfl rfl rfl (Nat.zero_le _) (Nat.le_of_ble_eq_true rfl)) (la_q_fault (xs (6 * t + 1)) ht9 hk) (fun r h' z => z.elim fun v y => y.2.1.1) hc9 hs9 hP hS ?_
  rintro r h1 H1 locs1 ⟨v, rfl, s1, q1⟩ hP1 hS1
  clear hP hS
  have hS := hS1
  show W p l e room_1 s m #[Value.ref bs] below meth c H1 locs1 (373 + t) (19204 + 6 * t) _ (F0 m 369 ls [.int v])
  refine lv_pop hx hb dL_law_369 rfl ?_
  refine lv_aload_n hx hb dL_law_370 rfl (lv_at hl 2 rfl) ?_
  refine la_arg C ht hL (lv_at hl 4 rfl) (lv_at hl 0 rfl) hS dL_law_371 dL_law_372 dL_law_374 dL_law_375 dL_law_376 (k := 1) ⟨by decide, by decide⟩ ?_
  obtain ⟨f9, hf9⟩ := la_h359 hk s1
  refine la_vir hPk (st := [.int (xs (6 * t + 1)), .ref 359]) (As := [.ref 359, .int (xs (6 * t + 1))]) (rest := []) (N := (yX10_fault, cX10_fault, 2, (some .int), 1, false, 10)) C hl.1 dL_law_377 (j_Cchk_ok (own := R_law) (q := (36, 3, 202, [1521, 1522, 1523])) (by decide +kernel)) rfl (j_spl3 hf9 rfl rfl rfl (Nat.zero_le _) (Nat.le_of_ble_eq_true rfl)) q1 (fun r h' z => z.elim fun v y => y.2.2.1.1) hc9 hs9 hP1 hS ?_
  rintro r h2 H2 locs2 ⟨w, rfl, ew, s2, hk2⟩ hP2 hS2
  show W p l e room_1 s m #[Value.ref bs] below meth c H2 locs2 (373 + t) (19204 + 6 * t) _ (F0 m 380 ls [.int w])
  refine lv_pop hx hb dL_law_380 rfl ?_
  refine lv_goto (tgt := 1891) hx hb dL_law_381 (by decide) ?_
  exact la_end C nxt (by omega) (by omega) hk2 hP2 hS2 hl
theorem la_case_4 (hPk : j_Pok WG vwCl la_RN jNW jP) {l : Launch} {p : Program} {e : Env} {s : State} {m : MethodId} {below : List Frame} {meth : Method} {c : Code} {bs L t : Nat} {xs : Nat → Int32} {D : va_G} {g : j_G} (C : la_C p s m meth c bs L xs D g) (ht : 6 * t + 6 ≤ L) (hL : L ≤ 3072) (nxt : la_B l p e s m below meth c bs D g (t + 1) 23) : la_B l p e s m below meth c bs D g t 384 := by
  intro h H locs ls hk hP hS hl
  have hx := C.1.1
  have hb := C.1.2.1
  have hc9 : 373 + t ≤ 601024 := by omega
  have ht9 : t < 512 := by omega
  have hs9 : 19204 + 6 * t ≤ 7293034 := by omega
  refine lv_aload_n hx hb dL_law_384 rfl (lv_at hl 3 rfl) ?_
  refine la_arg C ht hL (lv_at hl 4 rfl) (lv_at hl 0 rfl) hS dL_law_385 dL_law_386 dL_law_388 dL_law_389 dL_law_390 (k := 1) ⟨by decide, by decide⟩ ?_
  obtain ⟨f0, hf0⟩ := hk.h0
  refine la_vir hPk (st := [.int (xs (6 * t + 1)), .ref 0]) (As := [.ref 0, .int (xs (6 * t + 1))]) (rest := []) (N := (yX9_many, cX9_many, 2, (some .int), 1, false, 9)) C hl.1 dL_law_391 (j_Cchk_ok (own := R_law) (q := (37, 3, 116, [737, 738, 739])) (by decide +kernel)) rfl (j_spl3 hf0 rfl rfl rfl (Nat.zero_le _) (Nat.le_of_ble_eq_true rfl)) (la_q_many (xs (6 * t + 1)) ht9 hk) (fun r h' z => z.elim fun v y => y.2.1.1) hc9 hs9 hP hS ?_
  rintro r h1 H1 locs1 ⟨v, rfl, s1, q1⟩ hP1 hS1
  clear hP hS
  have hS := hS1
  show W p l e room_1 s m #[Value.ref bs] below meth c H1 locs1 (373 + t) (19204 + 6 * t) _ (F0 m 394 ls [.int v])
  refine lv_pop hx hb dL_law_394 rfl ?_
  refine lv_aload_n hx hb dL_law_395 rfl (lv_at hl 2 rfl) ?_
  refine la_arg C ht hL (lv_at hl 4 rfl) (lv_at hl 0 rfl) hS dL_law_396 dL_law_397 dL_law_399 dL_law_400 dL_law_401 (k := 1) ⟨by decide, by decide⟩ ?_
  obtain ⟨f9, hf9⟩ := la_h359 hk s1
  refine la_vir hPk (st := [.int (xs (6 * t + 1)), .ref 359]) (As := [.ref 359, .int (xs (6 * t + 1))]) (rest := []) (N := (yX10_many, cX10_many, 2, (some .int), 1, false, 10)) C hl.1 dL_law_402 (j_Cchk_ok (own := R_law) (q := (40, 3, 234, [1525, 1526, 1527])) (by decide +kernel)) rfl (j_spl3 hf9 rfl rfl rfl (Nat.zero_le _) (Nat.le_of_ble_eq_true rfl)) q1 (fun r h' z => z.elim fun v y => y.2.2.1.1) hc9 hs9 hP1 hS ?_
  rintro r h2 H2 locs2 ⟨w, rfl, ew, s2, hk2⟩ hP2 hS2
  show W p l e room_1 s m #[Value.ref bs] below meth c H2 locs2 (373 + t) (19204 + 6 * t) _ (F0 m 405 ls [.int w])
  refine lv_pop hx hb dL_law_405 rfl ?_
  refine lv_goto (tgt := 1891) hx hb dL_law_406 (by decide) ?_
  exact la_end C nxt (by omega) (by omega) hk2 hP2 hS2 hl
theorem la_case_5 (hPk : j_Pok WG vwCl la_RN jNW jP) {l : Launch} {p : Program} {e : Env} {s : State} {m : MethodId} {below : List Frame} {meth : Method} {c : Code} {bs L t : Nat} {xs : Nat → Int32} {D : va_G} {g : j_G} (C : la_C p s m meth c bs L xs D g) (ht : 6 * t + 6 ≤ L) (hL : L ≤ 3072) (nxt : la_B l p e s m below meth c bs D g (t + 1) 23) : la_B l p e s m below meth c bs D g t 409 := by
  intro h H locs ls hk hP hS hl
  have hx := C.1.1
  have hb := C.1.2.1
  have hc9 : 373 + t ≤ 601024 := by omega
  have ht9 : t < 512 := by omega
  have hs9 : 19204 + 6 * t ≤ 7293034 := by omega
  refine lv_aload_n hx hb dL_law_409 rfl (lv_at hl 3 rfl) ?_
  refine la_arg C ht hL (lv_at hl 4 rfl) (lv_at hl 0 rfl) hS dL_law_410 dL_law_411 dL_law_413 dL_law_414 dL_law_415 (k := 1) ⟨by decide, by decide⟩ ?_
  refine la_arg C ht hL (lv_at hl 4 rfl) (lv_at hl 0 rfl) hS dL_law_416 dL_law_417 dL_law_419 dL_law_420 dL_law_421 (k := 2) ⟨by decide, by decide⟩ ?_
  obtain ⟨f0, hf0⟩ := hk.h0
  refine la_vir hPk (st := [.int (xs (6 * t + 2)), .int (xs (6 * t + 1)), .ref 0]) (As := [.ref 0, .int (xs (6 * t + 1)), .int (xs (6 * t + 2))]) (rest := []) (N := (yX9_station, cX9_station, 3, (some .int), 2, false, 9)) C hl.1 dL_law_422 (j_Cchk_ok (own := R_law) (q := (41, 3, 117, [794, 795, 796])) (by decide +kernel)) rfl (j_spl3 hf0 rfl rfl rfl (Nat.zero_le _) (Nat.le_of_ble_eq_true rfl)) (la_q_station (xs (6 * t + 1)) (xs (6 * t + 2)) ht9 hk) (fun r h' z => z.elim fun v y => y.2.1.1) hc9 hs9 hP hS ?_
  rintro r h1 H1 locs1 ⟨v, rfl, s1, q1⟩ hP1 hS1
  clear hP hS
  have hS := hS1
  show W p l e room_1 s m #[Value.ref bs] below meth c H1 locs1 (373 + t) (19204 + 6 * t) _ (F0 m 425 ls [.int v])
  refine lv_pop hx hb dL_law_425 rfl ?_
  refine lv_aload_n hx hb dL_law_426 rfl (lv_at hl 2 rfl) ?_
  refine la_arg C ht hL (lv_at hl 4 rfl) (lv_at hl 0 rfl) hS dL_law_427 dL_law_428 dL_law_430 dL_law_431 dL_law_432 (k := 1) ⟨by decide, by decide⟩ ?_
  refine la_arg C ht hL (lv_at hl 4 rfl) (lv_at hl 0 rfl) hS dL_law_433 dL_law_434 dL_law_436 dL_law_437 dL_law_438 (k := 2) ⟨by decide, by decide⟩ ?_
  obtain ⟨f9, hf9⟩ := la_h359 hk s1
  refine la_vir hPk (st := [.int (xs (6 * t + 2)), .int (xs (6 * t + 1)), .ref 359]) (As := [.ref 359, .int (xs (6 * t + 1)), .int (xs (6 * t + 2))]) (rest := []) (N := (yX10_station, cX10_station, 5, (some .int), 2, false, 10)) C hl.1 dL_law_439 (j_Cchk_ok (own := R_law) (q := (45, 3, 236, [1614, 1615, 1616])) (by decide +kernel)) rfl (j_spl3 hf9 rfl rfl rfl (Nat.zero_le _) (Nat.le_of_ble_eq_true rfl)) q1 (fun r h' z => z.elim fun v y => y.2.2.1.1) hc9 hs9 hP1 hS ?_
  rintro r h2 H2 locs2 ⟨w, rfl, ew, s2, hk2⟩ hP2 hS2
  show W p l e room_1 s m #[Value.ref bs] below meth c H2 locs2 (373 + t) (19204 + 6 * t) _ (F0 m 442 ls [.int w])
  refine lv_pop hx hb dL_law_442 rfl ?_
  refine lv_goto (tgt := 1891) hx hb dL_law_443 (by decide) ?_
  exact la_end C nxt (by omega) (by omega) hk2 hP2 hS2 hl
theorem la_case_6 (hPk : j_Pok WG vwCl la_RN jNW jP) {l : Launch} {p : Program} {e : Env} {s : State} {m : MethodId} {below : List Frame} {meth : Method} {c : Code} {bs L t : Nat} {xs : Nat → Int32} {D : va_G} {g : j_G} (C : la_C p s m meth c bs L xs D g) (ht : 6 * t + 6 ≤ L) (hL : L ≤ 3072) (nxt : la_B l p e s m below meth c bs D g (t + 1) 23) : la_B l p e s m below meth c bs D g t 446 := by
  intro h H locs ls hk hP hS hl
  have hx := C.1.1
  have hb := C.1.2.1
  have hc9 : 373 + t ≤ 601024 := by omega
  have ht9 : t < 512 := by omega
  have hs9 : 19204 + 6 * t ≤ 7293034 := by omega
  refine lv_aload_n hx hb dL_law_446 rfl (lv_at hl 3 rfl) ?_
  refine la_arg C ht hL (lv_at hl 4 rfl) (lv_at hl 0 rfl) hS dL_law_447 dL_law_448 dL_law_450 dL_law_451 dL_law_452 (k := 1) ⟨by decide, by decide⟩ ?_
  refine la_arg C ht hL (lv_at hl 4 rfl) (lv_at hl 0 rfl) hS dL_law_453 dL_law_454 dL_law_456 dL_law_457 dL_law_458 (k := 2) ⟨by decide, by decide⟩ ?_
  refine la_arg C ht hL (lv_at hl 4 rfl) (lv_at hl 0 rfl) hS dL_law_459 dL_law_460 dL_law_462 dL_law_463 dL_law_464 (k := 3) ⟨by decide, by decide⟩ ?_
  obtain ⟨f0, hf0⟩ := hk.h0
  refine la_vir hPk (st := [.int (xs (6 * t + 3)), .int (xs (6 * t + 2)), .int (xs (6 * t + 1)), .ref 0]) (As := [.ref 0, .int (xs (6 * t + 1)), .int (xs (6 * t + 2)), .int (xs (6 * t + 3))]) (rest := []) (N := (yX9_track, cX9_track, 5, (some .int), 3, false, 9)) C hl.1 dL_law_465 (j_Cchk_ok (own := R_law) (q := (46, 3, 118, [822, 823, 824])) (by decide +kernel)) rfl (j_spl3 hf0 rfl rfl rfl (Nat.zero_le _) (Nat.le_of_ble_eq_true rfl)) (la_q_track (xs (6 * t + 1)) (xs (6 * t + 2)) (xs (6 * t + 3)) ht9 hk) (fun r h' z => z.elim fun v y => y.2.1.1) hc9 hs9 hP hS ?_
  rintro r h1 H1 locs1 ⟨v, rfl, s1, q1⟩ hP1 hS1
  clear hP hS
  have hS := hS1
  show W p l e room_1 s m #[Value.ref bs] below meth c H1 locs1 (373 + t) (19204 + 6 * t) _ (F0 m 468 ls [.int v])
  refine lv_pop hx hb dL_law_468 rfl ?_
  refine lv_aload_n hx hb dL_law_469 rfl (lv_at hl 2 rfl) ?_
  refine la_arg C ht hL (lv_at hl 4 rfl) (lv_at hl 0 rfl) hS dL_law_470 dL_law_471 dL_law_473 dL_law_474 dL_law_475 (k := 1) ⟨by decide, by decide⟩ ?_
  refine la_arg C ht hL (lv_at hl 4 rfl) (lv_at hl 0 rfl) hS dL_law_476 dL_law_477 dL_law_479 dL_law_480 dL_law_481 (k := 2) ⟨by decide, by decide⟩ ?_
  refine la_arg C ht hL (lv_at hl 4 rfl) (lv_at hl 0 rfl) hS dL_law_482 dL_law_483 dL_law_485 dL_law_486 dL_law_487 (k := 3) ⟨by decide, by decide⟩ ?_
  obtain ⟨f9, hf9⟩ := la_h359 hk s1
  refine la_vir hPk (st := [.int (xs (6 * t + 3)), .int (xs (6 * t + 2)), .int (xs (6 * t + 1)), .ref 359]) (As := [.ref 359, .int (xs (6 * t + 1)), .int (xs (6 * t + 2)), .int (xs (6 * t + 3))]) (rest := []) (N := (yX10_track, cX10_track, 5, (some .int), 3, false, 10)) C hl.1 dL_law_488 (j_Cchk_ok (own := R_law) (q := (50, 3, 237, [1626, 1627, 1628])) (by decide +kernel)) rfl (j_spl3 hf9 rfl rfl rfl (Nat.zero_le _) (Nat.le_of_ble_eq_true rfl)) q1 (fun r h' z => z.elim fun v y => y.2.2.1.1) hc9 hs9 hP1 hS ?_
  rintro r h2 H2 locs2 ⟨w, rfl, ew, s2, hk2⟩ hP2 hS2
  show W p l e room_1 s m #[Value.ref bs] below meth c H2 locs2 (373 + t) (19204 + 6 * t) _ (F0 m 491 ls [.int w])
  refine lv_pop hx hb dL_law_491 rfl ?_
  refine lv_goto (tgt := 1891) hx hb dL_law_492 (by decide) ?_
  exact la_end C nxt (by omega) (by omega) hk2 hP2 hS2 hl
theorem la_case_7 (hPk : j_Pok WG vwCl la_RN jNW jP) {l : Launch} {p : Program} {e : Env} {s : State} {m : MethodId} {below : List Frame} {meth : Method} {c : Code} {bs L t : Nat} {xs : Nat → Int32} {D : va_G} {g : j_G} (C : la_C p s m meth c bs L xs D g) (ht : 6 * t + 6 ≤ L) (hL : L ≤ 3072) (nxt : la_B l p e s m below meth c bs D g (t + 1) 23) : la_B l p e s m below meth c bs D g t 495 := by
  intro h H locs ls hk hP hS hl
  have hx := C.1.1
  have hb := C.1.2.1
  have hc9 : 373 + t ≤ 601024 := by omega
  have ht9 : t < 512 := by omega
  have hs9 : 19204 + 6 * t ≤ 7293034 := by omega
  refine lv_aload_n hx hb dL_law_495 rfl (lv_at hl 3 rfl) ?_
  refine la_arg C ht hL (lv_at hl 4 rfl) (lv_at hl 0 rfl) hS dL_law_496 dL_law_497 dL_law_499 dL_law_500 dL_law_501 (k := 1) ⟨by decide, by decide⟩ ?_
  refine la_arg C ht hL (lv_at hl 4 rfl) (lv_at hl 0 rfl) hS dL_law_502 dL_law_503 dL_law_505 dL_law_506 dL_law_507 (k := 2) ⟨by decide, by decide⟩ ?_
  obtain ⟨f0, hf0⟩ := hk.h0
  refine la_vir hPk (st := [.int (xs (6 * t + 2)), .int (xs (6 * t + 1)), .ref 0]) (As := [.ref 0, .int (xs (6 * t + 1)), .int (xs (6 * t + 2))]) (rest := []) (N := (yX9_train, cX9_train, 3, (some .int), 2, false, 9)) C hl.1 dL_law_508 (j_Cchk_ok (own := R_law) (q := (51, 3, 119, [838, 839, 840])) (by decide +kernel)) rfl (j_spl3 hf0 rfl rfl rfl (Nat.zero_le _) (Nat.le_of_ble_eq_true rfl)) (la_q_train (xs (6 * t + 1)) (xs (6 * t + 2)) ht9 hk) (fun r h' z => z.elim fun v y => y.2.1.1) hc9 hs9 hP hS ?_
  rintro r h1 H1 locs1 ⟨v, rfl, s1, q1⟩ hP1 hS1
  clear hP hS
  have hS := hS1
  show W p l e room_1 s m #[Value.ref bs] below meth c H1 locs1 (373 + t) (19204 + 6 * t) _ (F0 m 511 ls [.int v])
  refine lv_pop hx hb dL_law_511 rfl ?_
  refine lv_aload_n hx hb dL_law_512 rfl (lv_at hl 2 rfl) ?_
  refine la_arg C ht hL (lv_at hl 4 rfl) (lv_at hl 0 rfl) hS dL_law_513 dL_law_514 dL_law_516 dL_law_517 dL_law_518 (k := 1) ⟨by decide, by decide⟩ ?_
  refine la_arg C ht hL (lv_at hl 4 rfl) (lv_at hl 0 rfl) hS dL_law_519 dL_law_520 dL_law_522 dL_law_523 dL_law_524 (k := 2) ⟨by decide, by decide⟩ ?_
  obtain ⟨f9, hf9⟩ := la_h359 hk s1
  refine la_vir hPk (st := [.int (xs (6 * t + 2)), .int (xs (6 * t + 1)), .ref 359]) (As := [.ref 359, .int (xs (6 * t + 1)), .int (xs (6 * t + 2))]) (rest := []) (N := (yX10_train, cX10_train, 4, (some .int), 2, false, 10)) C hl.1 dL_law_525 (j_Cchk_ok (own := R_law) (q := (54, 3, 240, [1634, 1635, 1636])) (by decide +kernel)) rfl (j_spl3 hf9 rfl rfl rfl (Nat.zero_le _) (Nat.le_of_ble_eq_true rfl)) q1 (fun r h' z => z.elim fun v y => y.2.2.1.1) hc9 hs9 hP1 hS ?_
  rintro r h2 H2 locs2 ⟨w, rfl, ew, s2, hk2⟩ hP2 hS2
  show W p l e room_1 s m #[Value.ref bs] below meth c H2 locs2 (373 + t) (19204 + 6 * t) _ (F0 m 528 ls [.int w])
  refine lv_pop hx hb dL_law_528 rfl ?_
  refine lv_goto (tgt := 1891) hx hb dL_law_529 (by decide) ?_
  exact la_end C nxt (by omega) (by omega) hk2 hP2 hS2 hl
theorem la_case_8 (hPk : j_Pok WG vwCl la_RN jNW jP) {l : Launch} {p : Program} {e : Env} {s : State} {m : MethodId} {below : List Frame} {meth : Method} {c : Code} {bs L t : Nat} {xs : Nat → Int32} {D : va_G} {g : j_G} (C : la_C p s m meth c bs L xs D g) (ht : 6 * t + 6 ≤ L) (hL : L ≤ 3072) (nxt : la_B l p e s m below meth c bs D g (t + 1) 23) : la_B l p e s m below meth c bs D g t 532 := by
  intro h H locs ls hk hP hS hl
  have hx := C.1.1
  have hb := C.1.2.1
  have hc9 : 373 + t ≤ 601024 := by omega
  have ht9 : t < 512 := by omega
  have hs9 : 19204 + 6 * t ≤ 7293034 := by omega
  refine lv_aload_n hx hb dL_law_532 rfl (lv_at hl 3 rfl) ?_
  refine la_arg C ht hL (lv_at hl 4 rfl) (lv_at hl 0 rfl) hS dL_law_533 dL_law_534 dL_law_536 dL_law_537 dL_law_538 (k := 1) ⟨by decide, by decide⟩ ?_
  obtain ⟨f0, hf0⟩ := hk.h0
  refine la_vir hPk (st := [.int (xs (6 * t + 1)), .ref 0]) (As := [.ref 0, .int (xs (6 * t + 1))]) (rest := []) (N := (yX9_fits, cX9_fits, 4, (some .int), 1, false, 9)) C hl.1 dL_law_539 (j_Cchk_ok (own := R_law) (q := (55, 3, 120, [867, 868, 869])) (by decide +kernel)) rfl (j_spl3 hf0 rfl rfl rfl (Nat.zero_le _) (Nat.le_of_ble_eq_true rfl)) (la_q_fits (xs (6 * t + 1)) ht9 hk) (fun r h' z => z.elim fun v y => y.2.1.1) hc9 hs9 hP hS ?_
  rintro r h1 H1 locs1 ⟨v, rfl, s1, q1⟩ hP1 hS1
  clear hP hS
  have hS := hS1
  show W p l e room_1 s m #[Value.ref bs] below meth c H1 locs1 (373 + t) (19204 + 6 * t) _ (F0 m 542 ls [.int v])
  refine lv_pop hx hb dL_law_542 rfl ?_
  refine lv_aload_n hx hb dL_law_543 rfl (lv_at hl 2 rfl) ?_
  refine la_arg C ht hL (lv_at hl 4 rfl) (lv_at hl 0 rfl) hS dL_law_544 dL_law_545 dL_law_547 dL_law_548 dL_law_549 (k := 1) ⟨by decide, by decide⟩ ?_
  obtain ⟨f9, hf9⟩ := la_h359 hk s1
  refine la_vir hPk (st := [.int (xs (6 * t + 1)), .ref 359]) (As := [.ref 359, .int (xs (6 * t + 1))]) (rest := []) (N := (yX10_fits, cX10_fits, 4, (some .int), 1, false, 10)) C hl.1 dL_law_550 (j_Cchk_ok (own := R_law) (q := (58, 3, 242, [1654, 1655, 1656])) (by decide +kernel)) rfl (j_spl3 hf9 rfl rfl rfl (Nat.zero_le _) (Nat.le_of_ble_eq_true rfl)) q1 (fun r h' z => z.elim fun v y => y.2.2.1.1) hc9 hs9 hP1 hS ?_
  rintro r h2 H2 locs2 ⟨w, rfl, ew, s2, hk2⟩ hP2 hS2
  show W p l e room_1 s m #[Value.ref bs] below meth c H2 locs2 (373 + t) (19204 + 6 * t) _ (F0 m 553 ls [.int w])
  refine lv_pop hx hb dL_law_553 rfl ?_
  refine lv_goto (tgt := 1891) hx hb dL_law_554 (by decide) ?_
  exact la_end C nxt (by omega) (by omega) hk2 hP2 hS2 hl
theorem la_case_9 (hPk : j_Pok WG vwCl la_RN jNW jP) {l : Launch} {p : Program} {e : Env} {s : State} {m : MethodId} {below : List Frame} {meth : Method} {c : Code} {bs L t : Nat} {xs : Nat → Int32} {D : va_G} {g : j_G} (C : la_C p s m meth c bs L xs D g) (ht : 6 * t + 6 ≤ L) (hL : L ≤ 3072) (nxt : la_B l p e s m below meth c bs D g (t + 1) 23) : la_B l p e s m below meth c bs D g t 557 := by
  intro h H locs ls hk hP hS hl
  have hx := C.1.1
  have hb := C.1.2.1
  have hc9 : 373 + t ≤ 601024 := by omega
  have ht9 : t < 512 := by omega
  have hs9 : 19204 + 6 * t ≤ 7293034 := by omega
  refine lv_aload_n hx hb dL_law_557 rfl (lv_at hl 3 rfl) ?_
  refine la_arg C ht hL (lv_at hl 4 rfl) (lv_at hl 0 rfl) hS dL_law_558 dL_law_559 dL_law_561 dL_law_562 dL_law_563 (k := 1) ⟨by decide, by decide⟩ ?_
  obtain ⟨f0, hf0⟩ := hk.h0
  refine la_vir hPk (st := [.int (xs (6 * t + 1)), .ref 0]) (As := [.ref 0, .int (xs (6 * t + 1))]) (rest := []) (N := (yX9_why, cX9_why, 2, (some .int), 1, false, 9)) C hl.1 dL_law_564 (j_Cchk_ok (own := R_law) (q := (59, 3, 121, [871, 872, 873])) (by decide +kernel)) rfl (j_spl3 hf0 rfl rfl rfl (Nat.zero_le _) (Nat.le_of_ble_eq_true rfl)) (la_q_why (xs (6 * t + 1)) ht9 hk) (fun r h' z => z.elim fun v y => y.2.1.1) hc9 hs9 hP hS ?_
  rintro r h1 H1 locs1 ⟨v, rfl, s1, q1⟩ hP1 hS1
  clear hP hS
  have hS := hS1
  show W p l e room_1 s m #[Value.ref bs] below meth c H1 locs1 (373 + t) (19204 + 6 * t) _ (F0 m 567 ls [.int v])
  refine lv_pop hx hb dL_law_567 rfl ?_
  refine lv_aload_n hx hb dL_law_568 rfl (lv_at hl 2 rfl) ?_
  refine la_arg C ht hL (lv_at hl 4 rfl) (lv_at hl 0 rfl) hS dL_law_569 dL_law_570 dL_law_572 dL_law_573 dL_law_574 (k := 1) ⟨by decide, by decide⟩ ?_
  obtain ⟨f9, hf9⟩ := la_h359 hk s1
  refine la_vir hPk (st := [.int (xs (6 * t + 1)), .ref 359]) (As := [.ref 359, .int (xs (6 * t + 1))]) (rest := []) (N := (yX10_why, cX10_why, 4, (some .int), 1, false, 10)) C hl.1 dL_law_575 (j_Cchk_ok (own := R_law) (q := (62, 3, 243, [1662, 1663, 1664])) (by decide +kernel)) rfl (j_spl3 hf9 rfl rfl rfl (Nat.zero_le _) (Nat.le_of_ble_eq_true rfl)) q1 (fun r h' z => z.elim fun v y => y.2.2.1.1) hc9 hs9 hP1 hS ?_
  rintro r h2 H2 locs2 ⟨w, rfl, ew, s2, hk2⟩ hP2 hS2
  show W p l e room_1 s m #[Value.ref bs] below meth c H2 locs2 (373 + t) (19204 + 6 * t) _ (F0 m 578 ls [.int w])
  refine lv_pop hx hb dL_law_578 rfl ?_
  refine lv_goto (tgt := 1891) hx hb dL_law_579 (by decide) ?_
  exact la_end C nxt (by omega) (by omega) hk2 hP2 hS2 hl
theorem la_case_10 (hPk : j_Pok WG vwCl la_RN jNW jP) {l : Launch} {p : Program} {e : Env} {s : State} {m : MethodId} {below : List Frame} {meth : Method} {c : Code} {bs L t : Nat} {xs : Nat → Int32} {D : va_G} {g : j_G} (C : la_C p s m meth c bs L xs D g) (ht : 6 * t + 6 ≤ L) (hL : L ≤ 3072) (nxt : la_B l p e s m below meth c bs D g (t + 1) 23) : la_B l p e s m below meth c bs D g t 582 := by
  intro h H locs ls hk hP hS hl
  have hx := C.1.1
  have hb := C.1.2.1
  have hc9 : 373 + t ≤ 601024 := by omega
  have ht9 : t < 512 := by omega
  have hs9 : 19204 + 6 * t ≤ 7293034 := by omega
  refine lv_aload_n hx hb dL_law_582 rfl (lv_at hl 3 rfl) ?_
  refine la_arg C ht hL (lv_at hl 4 rfl) (lv_at hl 0 rfl) hS dL_law_583 dL_law_584 dL_law_586 dL_law_587 dL_law_588 (k := 1) ⟨by decide, by decide⟩ ?_
  obtain ⟨f0, hf0⟩ := hk.h0
  refine la_vir hPk (st := [.int (xs (6 * t + 1)), .ref 0]) (As := [.ref 0, .int (xs (6 * t + 1))]) (rest := []) (N := (yX9_through, cX9_through, 3, (some .int), 1, false, 9)) C hl.1 dL_law_589 (j_Cchk_ok (own := R_law) (q := (63, 3, 122, [879, 880, 881])) (by decide +kernel)) rfl (j_spl3 hf0 rfl rfl rfl (Nat.zero_le _) (Nat.le_of_ble_eq_true rfl)) (la_q_through (xs (6 * t + 1)) ht9 hk) (fun r h' z => z.elim fun v y => y.2.1.1) hc9 hs9 hP hS ?_
  rintro r h1 H1 locs1 ⟨v, rfl, s1, q1⟩ hP1 hS1
  clear hP hS
  have hS := hS1
  show W p l e room_1 s m #[Value.ref bs] below meth c H1 locs1 (373 + t) (19204 + 6 * t) _ (F0 m 592 ls [.int v])
  refine lv_pop hx hb dL_law_592 rfl ?_
  refine lv_aload_n hx hb dL_law_593 rfl (lv_at hl 2 rfl) ?_
  refine la_arg C ht hL (lv_at hl 4 rfl) (lv_at hl 0 rfl) hS dL_law_594 dL_law_595 dL_law_597 dL_law_598 dL_law_599 (k := 1) ⟨by decide, by decide⟩ ?_
  obtain ⟨f9, hf9⟩ := la_h359 hk s1
  refine la_vir hPk (st := [.int (xs (6 * t + 1)), .ref 359]) (As := [.ref 359, .int (xs (6 * t + 1))]) (rest := []) (N := (yX10_through, cX10_through, 2, (some .int), 1, false, 10)) C hl.1 dL_law_600 (j_Cchk_ok (own := R_law) (q := (66, 3, 248, [1698, 1699, 1700])) (by decide +kernel)) rfl (j_spl3 hf9 rfl rfl rfl (Nat.zero_le _) (Nat.le_of_ble_eq_true rfl)) q1 (fun r h' z => z.elim fun v y => y.2.2.1.1) hc9 hs9 hP1 hS ?_
  rintro r h2 H2 locs2 ⟨w, rfl, ew, s2, hk2⟩ hP2 hS2
  show W p l e room_1 s m #[Value.ref bs] below meth c H2 locs2 (373 + t) (19204 + 6 * t) _ (F0 m 603 ls [.int w])
  refine lv_pop hx hb dL_law_603 rfl ?_
  refine lv_goto (tgt := 1891) hx hb dL_law_604 (by decide) ?_
  exact la_end C nxt (by omega) (by omega) hk2 hP2 hS2 hl
theorem la_case_11 (hPk : j_Pok WG vwCl la_RN jNW jP) {l : Launch} {p : Program} {e : Env} {s : State} {m : MethodId} {below : List Frame} {meth : Method} {c : Code} {bs L t : Nat} {xs : Nat → Int32} {D : va_G} {g : j_G} (C : la_C p s m meth c bs L xs D g) (ht : 6 * t + 6 ≤ L) (hL : L ≤ 3072) (nxt : la_B l p e s m below meth c bs D g (t + 1) 23) : la_B l p e s m below meth c bs D g t 607 := by
  intro h H locs ls hk hP hS hl
  have hx := C.1.1
  have hb := C.1.2.1
  have hc9 : 373 + t ≤ 601024 := by omega
  have ht9 : t < 512 := by omega
  have hs9 : 19204 + 6 * t ≤ 7293034 := by omega
  refine lv_aload_n hx hb dL_law_607 rfl (lv_at hl 3 rfl) ?_
  obtain ⟨f0, hf0⟩ := hk.h0
  refine la_vir hPk (st := [.ref 0]) (As := [.ref 0]) (rest := []) (N := (yX9_risks, cX9_risks, 3, (some .int), 0, false, 9)) C hl.1 dL_law_608 (j_Cchk_ok (own := R_law) (q := (67, 3, 123, [883, 884, 885])) (by decide +kernel)) rfl (j_spl3 hf0 rfl rfl rfl (Nat.zero_le _) (Nat.le_of_ble_eq_true rfl)) (la_q_risks  ht9 hk) (fun r h' z => z.elim fun v y => y.2.1.1) hc9 hs9 hP hS ?_
  rintro r h1 H1 locs1 ⟨v, rfl, s1, q1⟩ hP1 hS1
  clear hP hS
  have hS := hS1
  show W p l e room_1 s m #[Value.ref bs] below meth c H1 locs1 (373 + t) (19204 + 6 * t) _ (F0 m 611 ls [.int v])
  refine lv_pop hx hb dL_law_611 rfl ?_
  refine lv_aload_n hx hb dL_law_612 rfl (lv_at hl 2 rfl) ?_
  obtain ⟨f9, hf9⟩ := la_h359 hk s1
  refine la_vir hPk (st := [.ref 359]) (As := [.ref 359]) (rest := []) (N := (yX10_risks, cX10_risks, 4, (some .int), 0, false, 10)) C hl.1 dL_law_613 (j_Cchk_ok (own := R_law) (q := (70, 3, 249, [1702, 1703, 1704])) (by decide +kernel)) rfl (j_spl3 hf9 rfl rfl rfl (Nat.zero_le _) (Nat.le_of_ble_eq_true rfl)) q1 (fun r h' z => z.elim fun v y => y.2.2.1.1) hc9 hs9 hP1 hS ?_
  rintro r h2 H2 locs2 ⟨w, rfl, ew, s2, hk2⟩ hP2 hS2
  show W p l e room_1 s m #[Value.ref bs] below meth c H2 locs2 (373 + t) (19204 + 6 * t) _ (F0 m 616 ls [.int w])
  refine lv_pop hx hb dL_law_616 rfl ?_
  refine lv_goto (tgt := 1891) hx hb dL_law_617 (by decide) ?_
  exact la_end C nxt (by omega) (by omega) hk2 hP2 hS2 hl
