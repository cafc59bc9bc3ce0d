/-! cases of the law: written by wip/p1/gen_law.py -/
theorem la_case_0 (hPk : j_Pok WG vwCl la_RN jNW jP) {l : Launch} {p : Program} {e : Env} {s : State} {m : MethodId} {below : List Frame} {meth : Method} {c : Code} {bs q3 : Nat} {xs : Nat → Int32} {D : va_G} {g : j_G} (C : la_C p s m meth c bs 6 xs D g) : la_B l p e s m below meth c bs q3 D g 248 := by
  intro H locs ls hP hS hl
  have hx := C.1.1
  have hb := C.1.2.1
  refine lv_aload_n hx hb dL_law_248 rfl (lv_at hl 3 rfl) ?_
  obtain ⟨a, hX, hM⟩ := jz_status 
  obtain ⟨f0, hf0⟩ := la_h0
  refine la_vir hPk (st := [.ref 0]) (As := [.ref 0]) (rest := []) (N := (yX9_status, cX9_status, 1, (some .int), 0, false, 9)) C hl.1 dL_law_249 (j_Cchk_ok (own := R_law) (q := (19, 3, 112, [586, 587, 588])) (by decide +kernel)) rfl (j_spl3 hf0 rfl rfl rfl (Nat.zero_le _) (Nat.le_of_ble_eq_true rfl)) hX (fun r h' z => z.2.1.trans jH_size.2.1.symm) (by decide) (by decide) hP hS ?_
  rintro r h1 H1 locs1 ⟨rfl, hl1, hh1⟩ hP1 hS1
  clear hP hS
  have hS := hS1
  show W p l e room_1 s m #[Value.ref bs] below meth c H1 locs1 373 19204 _ (F0 m 252 ls [.int a])
  refine lv_aload_n hx hb dL_law_252 rfl (lv_at hl 2 rfl) ?_
  have hm0 : h1[359]? = some (.inl (10, jm_fs)) := (hh1 359 (Nat.le_refl _)).trans la_h359
  refine la_vir hPk (st := [.ref 359, .int a]) (As := [.ref 359]) (rest := [.int a]) (N := (yX10_status, cX10_status, 1, (some .int), 0, false, 10)) C hl.1 dL_law_253 (j_Cchk_ok (own := R_law) (q := (23, 3, 169, [1417, 1418, 1419])) (by decide +kernel)) rfl (j_spl3 hm0 rfl rfl rfl (Nat.le_of_ble_eq_true rfl) (Nat.le_of_ble_eq_true rfl)) (hM h1 hl1 hh1) (fun r h' z => z.2.trans hl1.symm) (by decide) (by decide) hP1 hS ?_
  rintro r h2 H2 locs2 ⟨rfl, hl2⟩ hP2 hS2
  show W p l e room_1 s m #[Value.ref bs] below meth c H2 locs2 373 19204 _ (F0 m 256 ls [.int a, .int a])
  refine lv_icmp_eq (tgt := 1919) hx hb dL_law_256 (by decide) (fun _ => ?_) (fun z => absurd rfl z)
  exact la_end (q1 := 3) (q2 := 0) (q3 := 0) C hl rfl rfl hS2 (by decide) (by decide)
theorem la_case_1 (hPk : j_Pok WG vwCl la_RN jNW jP) {l : Launch} {p : Program} {e : Env} {s : State} {m : MethodId} {below : List Frame} {meth : Method} {c : Code} {bs q3 : Nat} {xs : Nat → Int32} {D : va_G} {g : j_G} (C : la_C p s m meth c bs 6 xs D g) : la_B l p e s m below meth c bs q3 D g 261 := by
  intro H locs ls hP hS hl
  have hx := C.1.1
  have hb := C.1.2.1
  refine lv_aload_n hx hb dL_law_261 rfl (lv_at hl 3 rfl) ?_
  refine la_arg C (lv_at hl 4 rfl) (lv_at hl 0 rfl) hS dL_law_262 dL_law_263 dL_law_265 dL_law_266 dL_law_267 (k := 1) ⟨by decide, by decide, by decide⟩ ?_
  refine la_arg C (lv_at hl 4 rfl) (lv_at hl 0 rfl) hS dL_law_268 dL_law_269 dL_law_271 dL_law_272 dL_law_273 (k := 2) ⟨by decide, by decide, by decide⟩ ?_
  refine la_arg C (lv_at hl 4 rfl) (lv_at hl 0 rfl) hS dL_law_274 dL_law_275 dL_law_277 dL_law_278 dL_law_279 (k := 3) ⟨by decide, by decide, by decide⟩ ?_
  refine la_arg C (lv_at hl 4 rfl) (lv_at hl 0 rfl) hS dL_law_280 dL_law_281 dL_law_283 dL_law_284 dL_law_285 (k := 4) ⟨by decide, by decide, by decide⟩ ?_
  refine la_arg C (lv_at hl 4 rfl) (lv_at hl 0 rfl) hS dL_law_286 dL_law_287 dL_law_289 dL_law_290 dL_law_291 (k := 5) ⟨by decide, by decide, by decide⟩ ?_
  obtain ⟨a, hX, hM⟩ := jz_feed (xs 1) (xs 2) (xs 3) (xs 4) (xs 5)
  obtain ⟨f0, hf0⟩ := la_h0
  refine la_vir hPk (st := [.int (xs 5), .int (xs 4), .int (xs 3), .int (xs 2), .int (xs 1), .ref 0]) (As := [.ref 0, .int (xs 1), .int (xs 2), .int (xs 3), .int (xs 4), .int (xs 5)]) (rest := []) (N := (yX9_feed, cX9_feed, 6, (some .int), 5, false, 9)) C hl.1 dL_law_292 (j_Cchk_ok (own := R_law) (q := (24, 3, 113, [590, 591, 592])) (by decide +kernel)) rfl (j_spl3 hf0 rfl rfl rfl (Nat.zero_le _) (Nat.le_of_ble_eq_true rfl)) hX (fun r h' z => z.2.1.trans jH_size.2.1.symm) (by decide) (by decide) hP hS ?_
  rintro r h1 H1 locs1 ⟨rfl, hl1, hh1⟩ hP1 hS1
  clear hP hS
  have hS := hS1
  show W p l e room_1 s m #[Value.ref bs] below meth c H1 locs1 373 19204 _ (F0 m 295 ls [.int a])
  refine lv_aload_n hx hb dL_law_295 rfl (lv_at hl 2 rfl) ?_
  refine la_arg C (lv_at hl 4 rfl) (lv_at hl 0 rfl) hS dL_law_296 dL_law_297 dL_law_299 dL_law_300 dL_law_301 (k := 1) ⟨by decide, by decide, by decide⟩ ?_
  refine la_arg C (lv_at hl 4 rfl) (lv_at hl 0 rfl) hS dL_law_302 dL_law_303 dL_law_305 dL_law_306 dL_law_307 (k := 2) ⟨by decide, by decide, by decide⟩ ?_
  refine la_arg C (lv_at hl 4 rfl) (lv_at hl 0 rfl) hS dL_law_308 dL_law_309 dL_law_311 dL_law_312 dL_law_313 (k := 3) ⟨by decide, by decide, by decide⟩ ?_
  refine la_arg C (lv_at hl 4 rfl) (lv_at hl 0 rfl) hS dL_law_314 dL_law_315 dL_law_317 dL_law_318 dL_law_319 (k := 4) ⟨by decide, by decide, by decide⟩ ?_
  refine la_arg C (lv_at hl 4 rfl) (lv_at hl 0 rfl) hS dL_law_320 dL_law_321 dL_law_323 dL_law_324 dL_law_325 (k := 5) ⟨by decide, by decide, by decide⟩ ?_
  have hm0 : h1[359]? = some (.inl (10, jm_fs)) := (hh1 359 (Nat.le_refl _)).trans la_h359
  refine la_vir hPk (st := [.int (xs 5), .int (xs 4), .int (xs 3), .int (xs 2), .int (xs 1), .ref 359, .int a]) (As := [.ref 359, .int (xs 1), .int (xs 2), .int (xs 3), .int (xs 4), .int (xs 5)]) (rest := [.int a]) (N := (yX10_feed, cX10_feed, 6, (some .int), 5, false, 10)) C hl.1 dL_law_326 (j_Cchk_ok (own := R_law) (q := (28, 3, 182, [1421, 1422, 1423])) (by decide +kernel)) rfl (j_spl3 hm0 rfl rfl rfl (Nat.le_of_ble_eq_true rfl) (Nat.le_of_ble_eq_true rfl)) (hM h1 hl1 hh1) (fun r h' z => z.2.trans hl1.symm) (by decide) (by decide) hP1 hS ?_
  rintro r h2 H2 locs2 ⟨rfl, hl2⟩ hP2 hS2
  show W p l e room_1 s m #[Value.ref bs] below meth c H2 locs2 373 19204 _ (F0 m 329 ls [.int a, .int a])
  refine lv_icmp_eq (tgt := 1919) hx hb dL_law_329 (by decide) (fun _ => ?_) (fun z => absurd rfl z)
  exact la_end (q1 := 3) (q2 := 0) (q3 := 0) C hl rfl rfl hS2 (by decide) (by decide)
theorem la_case_2 (hPk : j_Pok WG vwCl la_RN jNW jP) {l : Launch} {p : Program} {e : Env} {s : State} {m : MethodId} {below : List Frame} {meth : Method} {c : Code} {bs q3 : Nat} {xs : Nat → Int32} {D : va_G} {g : j_G} (C : la_C p s m meth c bs 6 xs D g) : la_B l p e s m below meth c bs q3 D g 334 := by
  intro H locs ls hP hS hl
  have hx := C.1.1
  have hb := C.1.2.1
  refine lv_aload_n hx hb dL_law_334 rfl (lv_at hl 3 rfl) ?_
  refine la_arg C (lv_at hl 4 rfl) (lv_at hl 0 rfl) hS dL_law_335 dL_law_336 dL_law_338 dL_law_339 dL_law_340 (k := 1) ⟨by decide, by decide, by decide⟩ ?_
  obtain ⟨a, hX, hM⟩ := jz_load (xs 1)
  obtain ⟨f0, hf0⟩ := la_h0
  refine la_vir hPk (st := [.int (xs 1), .ref 0]) (As := [.ref 0, .int (xs 1)]) (rest := []) (N := (yX9_load, cX9_load, 4, (some .int), 1, false, 9)) C hl.1 dL_law_341 (j_Cchk_ok (own := R_law) (q := (29, 3, 114, [603, 604, 605])) (by decide +kernel)) rfl (j_spl3 hf0 rfl rfl rfl (Nat.zero_le _) (Nat.le_of_ble_eq_true rfl)) hX (fun r h' z => z.2.1.trans jH_size.2.1.symm) (by decide) (by decide) hP hS ?_
  rintro r h1 H1 locs1 ⟨rfl, hl1, hh1⟩ hP1 hS1
  clear hP hS
  have hS := hS1
  show W p l e room_1 s m #[Value.ref bs] below meth c H1 locs1 373 19204 _ (F0 m 344 ls [.int a])
  refine lv_aload_n hx hb dL_law_344 rfl (lv_at hl 2 rfl) ?_
  refine la_arg C (lv_at hl 4 rfl) (lv_at hl 0 rfl) hS dL_law_345 dL_law_346 dL_law_348 dL_law_349 dL_law_350 (k := 1) ⟨by decide, by decide, by decide⟩ ?_
  have hm0 : h1[359]? = some (.inl (10, jm_fs)) := (hh1 359 (Nat.le_refl _)).trans la_h359
  refine la_vir hPk (st := [.int (xs 1), .ref 359, .int a]) (As := [.ref 359, .int (xs 1)]) (rest := [.int a]) (N := (yX10_load, cX10_load, 4, (some .int), 1, false, 10)) C hl.1 dL_law_351 (j_Cchk_ok (own := R_law) (q := (32, 3, 201, [1429, 1430, 1431])) (by decide +kernel)) rfl (j_spl3 hm0 rfl rfl rfl (Nat.le_of_ble_eq_true rfl) (Nat.le_of_ble_eq_true rfl)) (hM h1 hl1 hh1) (fun r h' z => z.2.trans hl1.symm) (by decide) (by decide) hP1 hS ?_
  rintro r h2 H2 locs2 ⟨rfl, hl2⟩ hP2 hS2
  show W p l e room_1 s m #[Value.ref bs] below meth c H2 locs2 373 19204 _ (F0 m 354 ls [.int a, .int a])
  refine lv_icmp_eq (tgt := 1919) hx hb dL_law_354 (by decide) (fun _ => ?_) (fun z => absurd rfl z)
  exact la_end (q1 := 3) (q2 := 0) (q3 := 0) C hl rfl rfl hS2 (by decide) (by decide)
theorem la_case_3 (hPk : j_Pok WG vwCl la_RN jNW jP) {l : Launch} {p : Program} {e : Env} {s : State} {m : MethodId} {below : List Frame} {meth : Method} {c : Code} {bs q3 : Nat} {xs : Nat → Int32} {D : va_G} {g : j_G} (C : la_C p s m meth c bs 6 xs D g) : la_B l p e s m below meth c bs q3 D g 359 := by
  intro H locs ls hP hS hl
  have hx := C.1.1
  have hb := C.1.2.1
  refine lv_aload_n hx hb dL_law_359 rfl (lv_at hl 3 rfl) ?_
  refine la_arg C (lv_at hl 4 rfl) (lv_at hl 0 rfl) hS dL_law_360 dL_law_361 dL_law_363 dL_law_364 dL_law_365 (k := 1) ⟨by decide, by decide, by decide⟩ ?_
  obtain ⟨a, hX, hM⟩ := jz_fault (xs 1)
  obtain ⟨f0, hf0⟩ := la_h0
  refine la_vir hPk (st := [.int (xs 1), .ref 0]) (As := [.ref 0, .int (xs 1)]) (rest := []) (N := (yX9_fault, cX9_fault, 2, (some .int), 1, false, 9)) C hl.1 dL_law_366 (j_Cchk_ok (own := R_law) (q := (33, 3, 115, [733, 734, 735])) (by decide +kernel)) rfl (j_spl3 hf0 rfl rfl rfl (Nat.zero_le _) (Nat.le_of_ble_eq_true rfl)) hX (fun r h' z => z.2.1.trans jH_size.2.1.symm) (by decide) (by decide) hP hS ?_
  rintro r h1 H1 locs1 ⟨rfl, hl1, hh1⟩ hP1 hS1
  clear hP hS
  have hS := hS1
  show W p l e room_1 s m #[Value.ref bs] below meth c H1 locs1 373 19204 _ (F0 m 369 ls [.int a])
  refine lv_aload_n hx hb dL_law_369 rfl (lv_at hl 2 rfl) ?_
  refine la_arg C (lv_at hl 4 rfl) (lv_at hl 0 rfl) hS dL_law_370 dL_law_371 dL_law_373 dL_law_374 dL_law_375 (k := 1) ⟨by decide, by decide, by decide⟩ ?_
  have hm0 : h1[359]? = some (.inl (10, jm_fs)) := (hh1 359 (Nat.le_refl _)).trans la_h359
  refine la_vir hPk (st := [.int (xs 1), .ref 359, .int a]) (As := [.ref 359, .int (xs 1)]) (rest := [.int a]) (N := (yX10_fault, cX10_fault, 2, (some .int), 1, false, 10)) C hl.1 dL_law_376 (j_Cchk_ok (own := R_law) (q := (36, 3, 203, [1525, 1526, 1527])) (by decide +kernel)) rfl (j_spl3 hm0 rfl rfl rfl (Nat.le_of_ble_eq_true rfl) (Nat.le_of_ble_eq_true rfl)) (hM h1 hl1 hh1) (fun r h' z => z.2.trans hl1.symm) (by decide) (by decide) hP1 hS ?_
  rintro r h2 H2 locs2 ⟨rfl, hl2⟩ hP2 hS2
  show W p l e room_1 s m #[Value.ref bs] below meth c H2 locs2 373 19204 _ (F0 m 379 ls [.int a, .int a])
  refine lv_icmp_eq (tgt := 1919) hx hb dL_law_379 (by decide) (fun _ => ?_) (fun z => absurd rfl z)
  exact la_end (q1 := 3) (q2 := 0) (q3 := 0) C hl rfl rfl hS2 (by decide) (by decide)
theorem la_case_4 (hPk : j_Pok WG vwCl la_RN jNW jP) {l : Launch} {p : Program} {e : Env} {s : State} {m : MethodId} {below : List Frame} {meth : Method} {c : Code} {bs q3 : Nat} {xs : Nat → Int32} {D : va_G} {g : j_G} (C : la_C p s m meth c bs 6 xs D g) : la_B l p e s m below meth c bs q3 D g 384 := by
  intro H locs ls hP hS hl
  have hx := C.1.1
  have hb := C.1.2.1
  refine lv_aload_n hx hb dL_law_384 rfl (lv_at hl 3 rfl) ?_
  refine la_arg C (lv_at hl 4 rfl) (lv_at hl 0 rfl) hS dL_law_385 dL_law_386 dL_law_388 dL_law_389 dL_law_390 (k := 1) ⟨by decide, by decide, by decide⟩ ?_
  obtain ⟨a, hX, hM⟩ := jz_many (xs 1)
  obtain ⟨f0, hf0⟩ := la_h0
  refine la_vir hPk (st := [.int (xs 1), .ref 0]) (As := [.ref 0, .int (xs 1)]) (rest := []) (N := (yX9_many, cX9_many, 2, (some .int), 1, false, 9)) C hl.1 dL_law_391 (j_Cchk_ok (own := R_law) (q := (37, 3, 116, [737, 738, 739])) (by decide +kernel)) rfl (j_spl3 hf0 rfl rfl rfl (Nat.zero_le _) (Nat.le_of_ble_eq_true rfl)) hX (fun r h' z => z.2.1.trans jH_size.2.1.symm) (by decide) (by decide) hP hS ?_
  rintro r h1 H1 locs1 ⟨rfl, hl1, hh1⟩ hP1 hS1
  clear hP hS
  have hS := hS1
  show W p l e room_1 s m #[Value.ref bs] below meth c H1 locs1 373 19204 _ (F0 m 394 ls [.int a])
  refine lv_aload_n hx hb dL_law_394 rfl (lv_at hl 2 rfl) ?_
  refine la_arg C (lv_at hl 4 rfl) (lv_at hl 0 rfl) hS dL_law_395 dL_law_396 dL_law_398 dL_law_399 dL_law_400 (k := 1) ⟨by decide, by decide, by decide⟩ ?_
  have hm0 : h1[359]? = some (.inl (10, jm_fs)) := (hh1 359 (Nat.le_refl _)).trans la_h359
  refine la_vir hPk (st := [.int (xs 1), .ref 359, .int a]) (As := [.ref 359, .int (xs 1)]) (rest := [.int a]) (N := (yX10_many, cX10_many, 2, (some .int), 1, false, 10)) C hl.1 dL_law_401 (j_Cchk_ok (own := R_law) (q := (40, 3, 235, [1529, 1530, 1531])) (by decide +kernel)) rfl (j_spl3 hm0 rfl rfl rfl (Nat.le_of_ble_eq_true rfl) (Nat.le_of_ble_eq_true rfl)) (hM h1 hl1 hh1) (fun r h' z => z.2.trans hl1.symm) (by decide) (by decide) hP1 hS ?_
  rintro r h2 H2 locs2 ⟨rfl, hl2⟩ hP2 hS2
  show W p l e room_1 s m #[Value.ref bs] below meth c H2 locs2 373 19204 _ (F0 m 404 ls [.int a, .int a])
  refine lv_icmp_eq (tgt := 1919) hx hb dL_law_404 (by decide) (fun _ => ?_) (fun z => absurd rfl z)
  exact la_end (q1 := 3) (q2 := 0) (q3 := 0) C hl rfl rfl hS2 (by decide) (by decide)
theorem la_case_5 (hPk : j_Pok WG vwCl la_RN jNW jP) {l : Launch} {p : Program} {e : Env} {s : State} {m : MethodId} {below : List Frame} {meth : Method} {c : Code} {bs q3 : Nat} {xs : Nat → Int32} {D : va_G} {g : j_G} (C : la_C p s m meth c bs 6 xs D g) : la_B l p e s m below meth c bs q3 D g 409 := by
  intro H locs ls hP hS hl
  have hx := C.1.1
  have hb := C.1.2.1
  refine lv_aload_n hx hb dL_law_409 rfl (lv_at hl 3 rfl) ?_
  refine la_arg C (lv_at hl 4 rfl) (lv_at hl 0 rfl) hS dL_law_410 dL_law_411 dL_law_413 dL_law_414 dL_law_415 (k := 1) ⟨by decide, by decide, by decide⟩ ?_
  refine la_arg C (lv_at hl 4 rfl) (lv_at hl 0 rfl) hS dL_law_416 dL_law_417 dL_law_419 dL_law_420 dL_law_421 (k := 2) ⟨by decide, by decide, by decide⟩ ?_
  obtain ⟨a, hX, hM⟩ := jz_station (xs 1) (xs 2)
  obtain ⟨f0, hf0⟩ := la_h0
  refine la_vir hPk (st := [.int (xs 2), .int (xs 1), .ref 0]) (As := [.ref 0, .int (xs 1), .int (xs 2)]) (rest := []) (N := (yX9_station, cX9_station, 3, (some .int), 2, false, 9)) C hl.1 dL_law_422 (j_Cchk_ok (own := R_law) (q := (41, 3, 117, [794, 795, 796])) (by decide +kernel)) rfl (j_spl3 hf0 rfl rfl rfl (Nat.zero_le _) (Nat.le_of_ble_eq_true rfl)) hX (fun r h' z => z.2.1.trans jH_size.2.1.symm) (by decide) (by decide) hP hS ?_
  rintro r h1 H1 locs1 ⟨rfl, hl1, hh1⟩ hP1 hS1
  clear hP hS
  have hS := hS1
  show W p l e room_1 s m #[Value.ref bs] below meth c H1 locs1 373 19204 _ (F0 m 425 ls [.int a])
  refine lv_aload_n hx hb dL_law_425 rfl (lv_at hl 2 rfl) ?_
  refine la_arg C (lv_at hl 4 rfl) (lv_at hl 0 rfl) hS dL_law_426 dL_law_427 dL_law_429 dL_law_430 dL_law_431 (k := 1) ⟨by decide, by decide, by decide⟩ ?_
  refine la_arg C (lv_at hl 4 rfl) (lv_at hl 0 rfl) hS dL_law_432 dL_law_433 dL_law_435 dL_law_436 dL_law_437 (k := 2) ⟨by decide, by decide, by decide⟩ ?_
  have hm0 : h1[359]? = some (.inl (10, jm_fs)) := (hh1 359 (Nat.le_refl _)).trans la_h359
  refine la_vir hPk (st := [.int (xs 2), .int (xs 1), .ref 359, .int a]) (As := [.ref 359, .int (xs 1), .int (xs 2)]) (rest := [.int a]) (N := (yX10_station, cX10_station, 5, (some .int), 2, false, 10)) C hl.1 dL_law_438 (j_Cchk_ok (own := R_law) (q := (45, 3, 237, [1618, 1619, 1620])) (by decide +kernel)) rfl (j_spl3 hm0 rfl rfl rfl (Nat.le_of_ble_eq_true rfl) (Nat.le_of_ble_eq_true rfl)) (hM h1 hl1 hh1) (fun r h' z => z.2.trans hl1.symm) (by decide) (by decide) hP1 hS ?_
  rintro r h2 H2 locs2 ⟨rfl, hl2⟩ hP2 hS2
  show W p l e room_1 s m #[Value.ref bs] below meth c H2 locs2 373 19204 _ (F0 m 441 ls [.int a, .int a])
  refine lv_icmp_eq (tgt := 1919) hx hb dL_law_441 (by decide) (fun _ => ?_) (fun z => absurd rfl z)
  exact la_end (q1 := 3) (q2 := 0) (q3 := 0) C hl rfl rfl hS2 (by decide) (by decide)
theorem la_case_6 (hPk : j_Pok WG vwCl la_RN jNW jP) {l : Launch} {p : Program} {e : Env} {s : State} {m : MethodId} {below : List Frame} {meth : Method} {c : Code} {bs q3 : Nat} {xs : Nat → Int32} {D : va_G} {g : j_G} (C : la_C p s m meth c bs 6 xs D g) : la_B l p e s m below meth c bs q3 D g 446 := by
  intro H locs ls hP hS hl
  have hx := C.1.1
  have hb := C.1.2.1
  refine lv_aload_n hx hb dL_law_446 rfl (lv_at hl 3 rfl) ?_
  refine la_arg C (lv_at hl 4 rfl) (lv_at hl 0 rfl) hS dL_law_447 dL_law_448 dL_law_450 dL_law_451 dL_law_452 (k := 1) ⟨by decide, by decide, by decide⟩ ?_
  refine la_arg C (lv_at hl 4 rfl) (lv_at hl 0 rfl) hS dL_law_453 dL_law_454 dL_law_456 dL_law_457 dL_law_458 (k := 2) ⟨by decide, by decide, by decide⟩ ?_
  refine la_arg C (lv_at hl 4 rfl) (lv_at hl 0 rfl) hS dL_law_459 dL_law_460 dL_law_462 dL_law_463 dL_law_464 (k := 3) ⟨by decide, by decide, by decide⟩ ?_
  obtain ⟨a, hX, hM⟩ := jz_track (xs 1) (xs 2) (xs 3)
  obtain ⟨f0, hf0⟩ := la_h0
  refine la_vir hPk (st := [.int (xs 3), .int (xs 2), .int (xs 1), .ref 0]) (As := [.ref 0, .int (xs 1), .int (xs 2), .int (xs 3)]) (rest := []) (N := (yX9_track, cX9_track, 5, (some .int), 3, false, 9)) C hl.1 dL_law_465 (j_Cchk_ok (own := R_law) (q := (46, 3, 118, [822, 823, 824])) (by decide +kernel)) rfl (j_spl3 hf0 rfl rfl rfl (Nat.zero_le _) (Nat.le_of_ble_eq_true rfl)) hX (fun r h' z => z.2.1.trans jH_size.2.1.symm) (by decide) (by decide) hP hS ?_
  rintro r h1 H1 locs1 ⟨rfl, hl1, hh1⟩ hP1 hS1
  clear hP hS
  have hS := hS1
  show W p l e room_1 s m #[Value.ref bs] below meth c H1 locs1 373 19204 _ (F0 m 468 ls [.int a])
  refine lv_aload_n hx hb dL_law_468 rfl (lv_at hl 2 rfl) ?_
  refine la_arg C (lv_at hl 4 rfl) (lv_at hl 0 rfl) hS dL_law_469 dL_law_470 dL_law_472 dL_law_473 dL_law_474 (k := 1) ⟨by decide, by decide, by decide⟩ ?_
  refine la_arg C (lv_at hl 4 rfl) (lv_at hl 0 rfl) hS dL_law_475 dL_law_476 dL_law_478 dL_law_479 dL_law_480 (k := 2) ⟨by decide, by decide, by decide⟩ ?_
  refine la_arg C (lv_at hl 4 rfl) (lv_at hl 0 rfl) hS dL_law_481 dL_law_482 dL_law_484 dL_law_485 dL_law_486 (k := 3) ⟨by decide, by decide, by decide⟩ ?_
  have hm0 : h1[359]? = some (.inl (10, jm_fs)) := (hh1 359 (Nat.le_refl _)).trans la_h359
  refine la_vir hPk (st := [.int (xs 3), .int (xs 2), .int (xs 1), .ref 359, .int a]) (As := [.ref 359, .int (xs 1), .int (xs 2), .int (xs 3)]) (rest := [.int a]) (N := (yX10_track, cX10_track, 5, (some .int), 3, false, 10)) C hl.1 dL_law_487 (j_Cchk_ok (own := R_law) (q := (50, 3, 238, [1630, 1631, 1632])) (by decide +kernel)) rfl (j_spl3 hm0 rfl rfl rfl (Nat.le_of_ble_eq_true rfl) (Nat.le_of_ble_eq_true rfl)) (hM h1 hl1 hh1) (fun r h' z => z.2.trans hl1.symm) (by decide) (by decide) hP1 hS ?_
  rintro r h2 H2 locs2 ⟨rfl, hl2⟩ hP2 hS2
  show W p l e room_1 s m #[Value.ref bs] below meth c H2 locs2 373 19204 _ (F0 m 490 ls [.int a, .int a])
  refine lv_icmp_eq (tgt := 1919) hx hb dL_law_490 (by decide) (fun _ => ?_) (fun z => absurd rfl z)
  exact la_end (q1 := 3) (q2 := 0) (q3 := 0) C hl rfl rfl hS2 (by decide) (by decide)
theorem la_case_7 (hPk : j_Pok WG vwCl la_RN jNW jP) {l : Launch} {p : Program} {e : Env} {s : State} {m : MethodId} {below : List Frame} {meth : Method} {c : Code} {bs q3 : Nat} {xs : Nat → Int32} {D : va_G} {g : j_G} (C : la_C p s m meth c bs 6 xs D g) : la_B l p e s m below meth c bs q3 D g 495 := by
  intro H locs ls hP hS hl
  have hx := C.1.1
  have hb := C.1.2.1
  refine lv_aload_n hx hb dL_law_495 rfl (lv_at hl 3 rfl) ?_
  refine la_arg C (lv_at hl 4 rfl) (lv_at hl 0 rfl) hS dL_law_496 dL_law_497 dL_law_499 dL_law_500 dL_law_501 (k := 1) ⟨by decide, by decide, by decide⟩ ?_
  refine la_arg C (lv_at hl 4 rfl) (lv_at hl 0 rfl) hS dL_law_502 dL_law_503 dL_law_505 dL_law_506 dL_law_507 (k := 2) ⟨by decide, by decide, by decide⟩ ?_
  obtain ⟨a, hX, hM⟩ := jz_train (xs 1) (xs 2)
  obtain ⟨f0, hf0⟩ := la_h0
  refine la_vir hPk (st := [.int (xs 2), .int (xs 1), .ref 0]) (As := [.ref 0, .int (xs 1), .int (xs 2)]) (rest := []) (N := (yX9_train, cX9_train, 3, (some .int), 2, false, 9)) C hl.1 dL_law_508 (j_Cchk_ok (own := R_law) (q := (51, 3, 119, [838, 839, 840])) (by decide +kernel)) rfl (j_spl3 hf0 rfl rfl rfl (Nat.zero_le _) (Nat.le_of_ble_eq_true rfl)) hX (fun r h' z => z.2.1.trans jH_size.2.1.symm) (by decide) (by decide) hP hS ?_
  rintro r h1 H1 locs1 ⟨rfl, hl1, hh1⟩ hP1 hS1
  clear hP hS
  have hS := hS1
  show W p l e room_1 s m #[Value.ref bs] below meth c H1 locs1 373 19204 _ (F0 m 511 ls [.int a])
  refine lv_aload_n hx hb dL_law_511 rfl (lv_at hl 2 rfl) ?_
  refine la_arg C (lv_at hl 4 rfl) (lv_at hl 0 rfl) hS dL_law_512 dL_law_513 dL_law_515 dL_law_516 dL_law_517 (k := 1) ⟨by decide, by decide, by decide⟩ ?_
  refine la_arg C (lv_at hl 4 rfl) (lv_at hl 0 rfl) hS dL_law_518 dL_law_519 dL_law_521 dL_law_522 dL_law_523 (k := 2) ⟨by decide, by decide, by decide⟩ ?_
  have hm0 : h1[359]? = some (.inl (10, jm_fs)) := (hh1 359 (Nat.le_refl _)).trans la_h359
  refine la_vir hPk (st := [.int (xs 2), .int (xs 1), .ref 359, .int a]) (As := [.ref 359, .int (xs 1), .int (xs 2)]) (rest := [.int a]) (N := (yX10_train, cX10_train, 4, (some .int), 2, false, 10)) C hl.1 dL_law_524 (j_Cchk_ok (own := R_law) (q := (54, 3, 241, [1638, 1639, 1640])) (by decide +kernel)) rfl (j_spl3 hm0 rfl rfl rfl (Nat.le_of_ble_eq_true rfl) (Nat.le_of_ble_eq_true rfl)) (hM h1 hl1 hh1) (fun r h' z => z.2.trans hl1.symm) (by decide) (by decide) hP1 hS ?_
  rintro r h2 H2 locs2 ⟨rfl, hl2⟩ hP2 hS2
  show W p l e room_1 s m #[Value.ref bs] below meth c H2 locs2 373 19204 _ (F0 m 527 ls [.int a, .int a])
  refine lv_icmp_eq (tgt := 1919) hx hb dL_law_527 (by decide) (fun _ => ?_) (fun z => absurd rfl z)
  exact la_end (q1 := 3) (q2 := 0) (q3 := 0) C hl rfl rfl hS2 (by decide) (by decide)
theorem la_case_8 (hPk : j_Pok WG vwCl la_RN jNW jP) {l : Launch} {p : Program} {e : Env} {s : State} {m : MethodId} {below : List Frame} {meth : Method} {c : Code} {bs q3 : Nat} {xs : Nat → Int32} {D : va_G} {g : j_G} (C : la_C p s m meth c bs 6 xs D g) : la_B l p e s m below meth c bs q3 D g 532 := by
  intro H locs ls hP hS hl
  have hx := C.1.1
  have hb := C.1.2.1
  refine lv_aload_n hx hb dL_law_532 rfl (lv_at hl 3 rfl) ?_
  refine la_arg C (lv_at hl 4 rfl) (lv_at hl 0 rfl) hS dL_law_533 dL_law_534 dL_law_536 dL_law_537 dL_law_538 (k := 1) ⟨by decide, by decide, by decide⟩ ?_
  obtain ⟨a, hX, hM⟩ := jz_fits (xs 1)
  obtain ⟨f0, hf0⟩ := la_h0
  refine la_vir hPk (st := [.int (xs 1), .ref 0]) (As := [.ref 0, .int (xs 1)]) (rest := []) (N := (yX9_fits, cX9_fits, 4, (some .int), 1, false, 9)) C hl.1 dL_law_539 (j_Cchk_ok (own := R_law) (q := (55, 3, 120, [867, 868, 869])) (by decide +kernel)) rfl (j_spl3 hf0 rfl rfl rfl (Nat.zero_le _) (Nat.le_of_ble_eq_true rfl)) hX (fun r h' z => z.2.1.trans jH_size.2.1.symm) (by decide) (by decide) hP hS ?_
  rintro r h1 H1 locs1 ⟨rfl, hl1, hh1⟩ hP1 hS1
  clear hP hS
  have hS := hS1
  show W p l e room_1 s m #[Value.ref bs] below meth c H1 locs1 373 19204 _ (F0 m 542 ls [.int a])
  refine lv_aload_n hx hb dL_law_542 rfl (lv_at hl 2 rfl) ?_
  refine la_arg C (lv_at hl 4 rfl) (lv_at hl 0 rfl) hS dL_law_543 dL_law_544 dL_law_546 dL_law_547 dL_law_548 (k := 1) ⟨by decide, by decide, by decide⟩ ?_
  have hm0 : h1[359]? = some (.inl (10, jm_fs)) := (hh1 359 (Nat.le_refl _)).trans la_h359
  refine la_vir hPk (st := [.int (xs 1), .ref 359, .int a]) (As := [.ref 359, .int (xs 1)]) (rest := [.int a]) (N := (yX10_fits, cX10_fits, 4, (some .int), 1, false, 10)) C hl.1 dL_law_549 (j_Cchk_ok (own := R_law) (q := (58, 3, 243, [1658, 1659, 1660])) (by decide +kernel)) rfl (j_spl3 hm0 rfl rfl rfl (Nat.le_of_ble_eq_true rfl) (Nat.le_of_ble_eq_true rfl)) (hM h1 hl1 hh1) (fun r h' z => z.2.trans hl1.symm) (by decide) (by decide) hP1 hS ?_
  rintro r h2 H2 locs2 ⟨rfl, hl2⟩ hP2 hS2
  show W p l e room_1 s m #[Value.ref bs] below meth c H2 locs2 373 19204 _ (F0 m 552 ls [.int a, .int a])
  refine lv_icmp_eq (tgt := 1919) hx hb dL_law_552 (by decide) (fun _ => ?_) (fun z => absurd rfl z)
  exact la_end (q1 := 3) (q2 := 0) (q3 := 0) C hl rfl rfl hS2 (by decide) (by decide)
theorem la_case_9 (hPk : j_Pok WG vwCl la_RN jNW jP) {l : Launch} {p : Program} {e : Env} {s : State} {m : MethodId} {below : List Frame} {meth : Method} {c : Code} {bs q3 : Nat} {xs : Nat → Int32} {D : va_G} {g : j_G} (C : la_C p s m meth c bs 6 xs D g) : la_B l p e s m below meth c bs q3 D g 557 := by
  intro H locs ls hP hS hl
  have hx := C.1.1
  have hb := C.1.2.1
  refine lv_aload_n hx hb dL_law_557 rfl (lv_at hl 3 rfl) ?_
  refine la_arg C (lv_at hl 4 rfl) (lv_at hl 0 rfl) hS dL_law_558 dL_law_559 dL_law_561 dL_law_562 dL_law_563 (k := 1) ⟨by decide, by decide, by decide⟩ ?_
  obtain ⟨a, hX, hM⟩ := jz_why (xs 1)
  obtain ⟨f0, hf0⟩ := la_h0
  refine la_vir hPk (st := [.int (xs 1), .ref 0]) (As := [.ref 0, .int (xs 1)]) (rest := []) (N := (yX9_why, cX9_why, 2, (some .int), 1, false, 9)) C hl.1 dL_law_564 (j_Cchk_ok (own := R_law) (q := (59, 3, 121, [871, 872, 873])) (by decide +kernel)) rfl (j_spl3 hf0 rfl rfl rfl (Nat.zero_le _) (Nat.le_of_ble_eq_true rfl)) hX (fun r h' z => z.2.1.trans jH_size.2.1.symm) (by decide) (by decide) hP hS ?_
  rintro r h1 H1 locs1 ⟨rfl, hl1, hh1⟩ hP1 hS1
  clear hP hS
  have hS := hS1
  show W p l e room_1 s m #[Value.ref bs] below meth c H1 locs1 373 19204 _ (F0 m 567 ls [.int a])
  refine lv_aload_n hx hb dL_law_567 rfl (lv_at hl 2 rfl) ?_
  refine la_arg C (lv_at hl 4 rfl) (lv_at hl 0 rfl) hS dL_law_568 dL_law_569 dL_law_571 dL_law_572 dL_law_573 (k := 1) ⟨by decide, by decide, by decide⟩ ?_
  have hm0 : h1[359]? = some (.inl (10, jm_fs)) := (hh1 359 (Nat.le_refl _)).trans la_h359
  refine la_vir hPk (st := [.int (xs 1), .ref 359, .int a]) (As := [.ref 359, .int (xs 1)]) (rest := [.int a]) (N := (yX10_why, cX10_why, 4, (some .int), 1, false, 10)) C hl.1 dL_law_574 (j_Cchk_ok (own := R_law) (q := (62, 3, 244, [1666, 1667, 1668])) (by decide +kernel)) rfl (j_spl3 hm0 rfl rfl rfl (Nat.le_of_ble_eq_true rfl) (Nat.le_of_ble_eq_true rfl)) (hM h1 hl1 hh1) (fun r h' z => z.2.trans hl1.symm) (by decide) (by decide) hP1 hS ?_
  rintro r h2 H2 locs2 ⟨rfl, hl2⟩ hP2 hS2
  show W p l e room_1 s m #[Value.ref bs] below meth c H2 locs2 373 19204 _ (F0 m 577 ls [.int a, .int a])
  refine lv_icmp_eq (tgt := 1919) hx hb dL_law_577 (by decide) (fun _ => ?_) (fun z => absurd rfl z)
  exact la_end (q1 := 3) (q2 := 0) (q3 := 0) C hl rfl rfl hS2 (by decide) (by decide)
theorem la_case_10 (hPk : j_Pok WG vwCl la_RN jNW jP) {l : Launch} {p : Program} {e : Env} {s : State} {m : MethodId} {below : List Frame} {meth : Method} {c : Code} {bs q3 : Nat} {xs : Nat → Int32} {D : va_G} {g : j_G} (C : la_C p s m meth c bs 6 xs D g) : la_B l p e s m below meth c bs q3 D g 582 := by
  intro H locs ls hP hS hl
  have hx := C.1.1
  have hb := C.1.2.1
  refine lv_aload_n hx hb dL_law_582 rfl (lv_at hl 3 rfl) ?_
  refine la_arg C (lv_at hl 4 rfl) (lv_at hl 0 rfl) hS dL_law_583 dL_law_584 dL_law_586 dL_law_587 dL_law_588 (k := 1) ⟨by decide, by decide, by decide⟩ ?_
  obtain ⟨a, hX, hM⟩ := jz_through (xs 1)
  obtain ⟨f0, hf0⟩ := la_h0
  refine la_vir hPk (st := [.int (xs 1), .ref 0]) (As := [.ref 0, .int (xs 1)]) (rest := []) (N := (yX9_through, cX9_through, 3, (some .int), 1, false, 9)) C hl.1 dL_law_589 (j_Cchk_ok (own := R_law) (q := (63, 3, 122, [879, 880, 881])) (by decide +kernel)) rfl (j_spl3 hf0 rfl rfl rfl (Nat.zero_le _) (Nat.le_of_ble_eq_true rfl)) hX (fun r h' z => z.2.1.trans jH_size.2.1.symm) (by decide) (by decide) hP hS ?_
  rintro r h1 H1 locs1 ⟨rfl, hl1, hh1⟩ hP1 hS1
  clear hP hS
  have hS := hS1
  show W p l e room_1 s m #[Value.ref bs] below meth c H1 locs1 373 19204 _ (F0 m 592 ls [.int a])
  refine lv_aload_n hx hb dL_law_592 rfl (lv_at hl 2 rfl) ?_
  refine la_arg C (lv_at hl 4 rfl) (lv_at hl 0 rfl) hS dL_law_593 dL_law_594 dL_law_596 dL_law_597 dL_law_598 (k := 1) ⟨by decide, by decide, by decide⟩ ?_
  have hm0 : h1[359]? = some (.inl (10, jm_fs)) := (hh1 359 (Nat.le_refl _)).trans la_h359
  refine la_vir hPk (st := [.int (xs 1), .ref 359, .int a]) (As := [.ref 359, .int (xs 1)]) (rest := [.int a]) (N := (yX10_through, cX10_through, 2, (some .int), 1, false, 10)) C hl.1 dL_law_599 (j_Cchk_ok (own := R_law) (q := (66, 3, 249, [1702, 1703, 1704])) (by decide +kernel)) rfl (j_spl3 hm0 rfl rfl rfl (Nat.le_of_ble_eq_true rfl) (Nat.le_of_ble_eq_true rfl)) (hM h1 hl1 hh1) (fun r h' z => z.2.trans hl1.symm) (by decide) (by decide) hP1 hS ?_
  rintro r h2 H2 locs2 ⟨rfl, hl2⟩ hP2 hS2
  show W p l e room_1 s m #[Value.ref bs] below meth c H2 locs2 373 19204 _ (F0 m 602 ls [.int a, .int a])
  refine lv_icmp_eq (tgt := 1919) hx hb dL_law_602 (by decide) (fun _ => ?_) (fun z => absurd rfl z)
  exact la_end (q1 := 3) (q2 := 0) (q3 := 0) C hl rfl rfl hS2 (by decide) (by decide)
theorem la_case_11 (hPk : j_Pok WG vwCl la_RN jNW jP) {l : Launch} {p : Program} {e : Env} {s : State} {m : MethodId} {below : List Frame} {meth : Method} {c : Code} {bs q3 : Nat} {xs : Nat → Int32} {D : va_G} {g : j_G} (C : la_C p s m meth c bs 6 xs D g) : la_B l p e s m below meth c bs q3 D g 607 := by
  intro H locs ls hP hS hl
  have hx := C.1.1
  have hb := C.1.2.1
  refine lv_aload_n hx hb dL_law_607 rfl (lv_at hl 3 rfl) ?_
  obtain ⟨a, hX, hM⟩ := jz_risks 
  obtain ⟨f0, hf0⟩ := la_h0
  refine la_vir hPk (st := [.ref 0]) (As := [.ref 0]) (rest := []) (N := (yX9_risks, cX9_risks, 3, (some .int), 0, false, 9)) C hl.1 dL_law_608 (j_Cchk_ok (own := R_law) (q := (67, 3, 123, [883, 884, 885])) (by decide +kernel)) rfl (j_spl3 hf0 rfl rfl rfl (Nat.zero_le _) (Nat.le_of_ble_eq_true rfl)) hX (fun r h' z => z.2.1.trans jH_size.2.1.symm) (by decide) (by decide) hP hS ?_
  rintro r h1 H1 locs1 ⟨rfl, hl1, hh1⟩ hP1 hS1
  clear hP hS
  have hS := hS1
  show W p l e room_1 s m #[Value.ref bs] below meth c H1 locs1 373 19204 _ (F0 m 611 ls [.int a])
  refine lv_aload_n hx hb dL_law_611 rfl (lv_at hl 2 rfl) ?_
  have hm0 : h1[359]? = some (.inl (10, jm_fs)) := (hh1 359 (Nat.le_refl _)).trans la_h359
  refine la_vir hPk (st := [.ref 359, .int a]) (As := [.ref 359]) (rest := [.int a]) (N := (yX10_risks, cX10_risks, 4, (some .int), 0, false, 10)) C hl.1 dL_law_612 (j_Cchk_ok (own := R_law) (q := (70, 3, 250, [1706, 1707, 1708])) (by decide +kernel)) rfl (j_spl3 hm0 rfl rfl rfl (Nat.le_of_ble_eq_true rfl) (Nat.le_of_ble_eq_true rfl)) (hM h1 hl1 hh1) (fun r h' z => z.2.trans hl1.symm) (by decide) (by decide) hP1 hS ?_
  rintro r h2 H2 locs2 ⟨rfl, hl2⟩ hP2 hS2
  show W p l e room_1 s m #[Value.ref bs] below meth c H2 locs2 373 19204 _ (F0 m 615 ls [.int a, .int a])
  refine lv_icmp_eq (tgt := 1919) hx hb dL_law_615 (by decide) (fun _ => ?_) (fun z => absurd rfl z)
  exact la_end (q1 := 3) (q2 := 0) (q3 := 0) C hl rfl rfl hS2 (by decide) (by decide)
