/-! the law's instructions: written by wip/p5/gen_law5.py -/
def la_dck (q : Nat × Instr × Nat) : Bool := match decode code q.1 with
  | .ok r => decide (r = q.2)
  | _ => false
theorem la_dk {t : List (Nat × Instr × Nat)} (h : t.all la_dck = true) {i pc len : Nat} {ins : Instr} (hi : t[i]? = some (pc, ins, len)) : decode code pc = .ok (ins, len) := by
  have h1 := List.all_eq_true.mp h _ (List.mem_of_getElem? hi)
  unfold la_dck at h1
  split at h1
  · rename_i r hr
    rw [hr, of_decide_eq_true h1]
  · cases h1
def la_t0 : List (Nat × Instr × Nat) := [(0, .new 8, 3), (3, .dup, 1), (4, .invokespecial 15, 3), (7, .astore_n 1, 1), (8, .new 16, 3), (11, .dup, 1), (12, .invokespecial 18, 3), (15, .astore_n 2, 1), (16, .iconst 1, 1), (17, .newarray .long, 2), (19, .astore_n 3, 1), (20, .iconst 0, 1), (21, .istore 4, 2), (23, .iload 4, 2), (25, .aload_n 0, 1), (26, .arraylength, 1), (27, .bipush 6, 2), (29, .isub, 1), (30, .if_icmp .gt 1867, 3), (33, .aload_n 0, 1), (34, .iload 4, 2), (36, .iaload, 1), (37, .bipush 63, 2), (39, .iand, 1), (40, .tableswitch 1851 0 47 #[208, 221, 294, 319, 344, 369, 406, 455, 492, 517, 542, 567, 580, 605, 642, 667, 680, 705, 770, 835, 872, 897, 934, 971, 996, 1033, 1058, 1123, 1176, 1201, 1226, 1263, 1288, 1341, 1378, 1419, 1456, 1469, 1522, 1559, 1624, 1649, 1686, 1723, 1772, 1797, 1810, 1823], 208), (248, .aload_n 1, 1), (249, .invokevirtual 19, 3), (252, .pop, 1), (253, .aload_n 2, 1), (254, .invokevirtual 23, 3), (257, .pop, 1), (258, .goto 1633, 3), (261, .aload_n 1, 1), (262, .aload_n 0, 1), (263, .iload 4, 2), (265, .iconst 1, 1), (266, .iadd, 1), (267, .iaload, 1), (268, .aload_n 0, 1), (269, .iload 4, 2), (271, .iconst 2, 1), (272, .iadd, 1), (273, .iaload, 1), (274, .aload_n 0, 1), (275, .iload 4, 2), (277, .iconst 3, 1), (278, .iadd, 1), (279, .iaload, 1), (280, .aload_n 0, 1), (281, .iload 4, 2), (283, .iconst 4, 1), (284, .iadd, 1), (285, .iaload, 1), (286, .aload_n 0, 1), (287, .iload 4, 2), (289, .iconst 5, 1), (290, .iadd, 1), (291, .iaload, 1), (292, .invokevirtual 24, 3), (295, .pop, 1)]
set_option maxRecDepth 1000000 in
theorem la_t0_ok : la_t0.all la_dck = true := by decide +kernel
theorem dL_law_0 : decode code 0 = .ok (.new 8, 3) := la_dk la_t0_ok (i := 0) rfl
theorem dL_law_3 : decode code 3 = .ok (.dup, 1) := la_dk la_t0_ok (i := 1) rfl
theorem dL_law_4 : decode code 4 = .ok (.invokespecial 15, 3) := la_dk la_t0_ok (i := 2) rfl
theorem dL_law_7 : decode code 7 = .ok (.astore_n 1, 1) := la_dk la_t0_ok (i := 3) rfl
theorem dL_law_8 : decode code 8 = .ok (.new 16, 3) := la_dk la_t0_ok (i := 4) rfl
theorem dL_law_11 : decode code 11 = .ok (.dup, 1) := la_dk la_t0_ok (i := 5) rfl
theorem dL_law_12 : decode code 12 = .ok (.invokespecial 18, 3) := la_dk la_t0_ok (i := 6) rfl
theorem dL_law_15 : decode code 15 = .ok (.astore_n 2, 1) := la_dk la_t0_ok (i := 7) rfl
theorem dL_law_16 : decode code 16 = .ok (.iconst 1, 1) := la_dk la_t0_ok (i := 8) rfl
theorem dL_law_17 : decode code 17 = .ok (.newarray .long, 2) := la_dk la_t0_ok (i := 9) rfl
theorem dL_law_19 : decode code 19 = .ok (.astore_n 3, 1) := la_dk la_t0_ok (i := 10) rfl
theorem dL_law_20 : decode code 20 = .ok (.iconst 0, 1) := la_dk la_t0_ok (i := 11) rfl
theorem dL_law_21 : decode code 21 = .ok (.istore 4, 2) := la_dk la_t0_ok (i := 12) rfl
theorem dL_law_23 : decode code 23 = .ok (.iload 4, 2) := la_dk la_t0_ok (i := 13) rfl
theorem dL_law_25 : decode code 25 = .ok (.aload_n 0, 1) := la_dk la_t0_ok (i := 14) rfl
theorem dL_law_26 : decode code 26 = .ok (.arraylength, 1) := la_dk la_t0_ok (i := 15) rfl
theorem dL_law_27 : decode code 27 = .ok (.bipush 6, 2) := la_dk la_t0_ok (i := 16) rfl
theorem dL_law_29 : decode code 29 = .ok (.isub, 1) := la_dk la_t0_ok (i := 17) rfl
theorem dL_law_30 : decode code 30 = .ok (.if_icmp .gt 1867, 3) := la_dk la_t0_ok (i := 18) rfl
theorem dL_law_33 : decode code 33 = .ok (.aload_n 0, 1) := la_dk la_t0_ok (i := 19) rfl
theorem dL_law_34 : decode code 34 = .ok (.iload 4, 2) := la_dk la_t0_ok (i := 20) rfl
theorem dL_law_36 : decode code 36 = .ok (.iaload, 1) := la_dk la_t0_ok (i := 21) rfl
theorem dL_law_37 : decode code 37 = .ok (.bipush 63, 2) := la_dk la_t0_ok (i := 22) rfl
theorem dL_law_39 : decode code 39 = .ok (.iand, 1) := la_dk la_t0_ok (i := 23) rfl
theorem dL_law_40 : decode code 40 = .ok (.tableswitch 1851 0 47 #[208, 221, 294, 319, 344, 369, 406, 455, 492, 517, 542, 567, 580, 605, 642, 667, 680, 705, 770, 835, 872, 897, 934, 971, 996, 1033, 1058, 1123, 1176, 1201, 1226, 1263, 1288, 1341, 1378, 1419, 1456, 1469, 1522, 1559, 1624, 1649, 1686, 1723, 1772, 1797, 1810, 1823], 208) := la_dk la_t0_ok (i := 24) rfl
theorem dL_law_248 : decode code 248 = .ok (.aload_n 1, 1) := la_dk la_t0_ok (i := 25) rfl
theorem dL_law_249 : decode code 249 = .ok (.invokevirtual 19, 3) := la_dk la_t0_ok (i := 26) rfl
theorem dL_law_252 : decode code 252 = .ok (.pop, 1) := la_dk la_t0_ok (i := 27) rfl
theorem dL_law_253 : decode code 253 = .ok (.aload_n 2, 1) := la_dk la_t0_ok (i := 28) rfl
theorem dL_law_254 : decode code 254 = .ok (.invokevirtual 23, 3) := la_dk la_t0_ok (i := 29) rfl
theorem dL_law_257 : decode code 257 = .ok (.pop, 1) := la_dk la_t0_ok (i := 30) rfl
theorem dL_law_258 : decode code 258 = .ok (.goto 1633, 3) := la_dk la_t0_ok (i := 31) rfl
theorem dL_law_261 : decode code 261 = .ok (.aload_n 1, 1) := la_dk la_t0_ok (i := 32) rfl
theorem dL_law_262 : decode code 262 = .ok (.aload_n 0, 1) := la_dk la_t0_ok (i := 33) rfl
theorem dL_law_263 : decode code 263 = .ok (.iload 4, 2) := la_dk la_t0_ok (i := 34) rfl
theorem dL_law_265 : decode code 265 = .ok (.iconst 1, 1) := la_dk la_t0_ok (i := 35) rfl
theorem dL_law_266 : decode code 266 = .ok (.iadd, 1) := la_dk la_t0_ok (i := 36) rfl
theorem dL_law_267 : decode code 267 = .ok (.iaload, 1) := la_dk la_t0_ok (i := 37) rfl
theorem dL_law_268 : decode code 268 = .ok (.aload_n 0, 1) := la_dk la_t0_ok (i := 38) rfl
theorem dL_law_269 : decode code 269 = .ok (.iload 4, 2) := la_dk la_t0_ok (i := 39) rfl
theorem dL_law_271 : decode code 271 = .ok (.iconst 2, 1) := la_dk la_t0_ok (i := 40) rfl
theorem dL_law_272 : decode code 272 = .ok (.iadd, 1) := la_dk la_t0_ok (i := 41) rfl
theorem dL_law_273 : decode code 273 = .ok (.iaload, 1) := la_dk la_t0_ok (i := 42) rfl
theorem dL_law_274 : decode code 274 = .ok (.aload_n 0, 1) := la_dk la_t0_ok (i := 43) rfl
theorem dL_law_275 : decode code 275 = .ok (.iload 4, 2) := la_dk la_t0_ok (i := 44) rfl
theorem dL_law_277 : decode code 277 = .ok (.iconst 3, 1) := la_dk la_t0_ok (i := 45) rfl
theorem dL_law_278 : decode code 278 = .ok (.iadd, 1) := la_dk la_t0_ok (i := 46) rfl
theorem dL_law_279 : decode code 279 = .ok (.iaload, 1) := la_dk la_t0_ok (i := 47) rfl
theorem dL_law_280 : decode code 280 = .ok (.aload_n 0, 1) := la_dk la_t0_ok (i := 48) rfl
theorem dL_law_281 : decode code 281 = .ok (.iload 4, 2) := la_dk la_t0_ok (i := 49) rfl
theorem dL_law_283 : decode code 283 = .ok (.iconst 4, 1) := la_dk la_t0_ok (i := 50) rfl
theorem dL_law_284 : decode code 284 = .ok (.iadd, 1) := la_dk la_t0_ok (i := 51) rfl
theorem dL_law_285 : decode code 285 = .ok (.iaload, 1) := la_dk la_t0_ok (i := 52) rfl
theorem dL_law_286 : decode code 286 = .ok (.aload_n 0, 1) := la_dk la_t0_ok (i := 53) rfl
theorem dL_law_287 : decode code 287 = .ok (.iload 4, 2) := la_dk la_t0_ok (i := 54) rfl
theorem dL_law_289 : decode code 289 = .ok (.iconst 5, 1) := la_dk la_t0_ok (i := 55) rfl
theorem dL_law_290 : decode code 290 = .ok (.iadd, 1) := la_dk la_t0_ok (i := 56) rfl
theorem dL_law_291 : decode code 291 = .ok (.iaload, 1) := la_dk la_t0_ok (i := 57) rfl
theorem dL_law_292 : decode code 292 = .ok (.invokevirtual 24, 3) := la_dk la_t0_ok (i := 58) rfl
theorem dL_law_295 : decode code 295 = .ok (.pop, 1) := la_dk la_t0_ok (i := 59) rfl
def la_t1 : List (Nat × Instr × Nat) := [(296, .aload_n 2, 1), (297, .aload_n 0, 1), (298, .iload 4, 2), (300, .iconst 1, 1), (301, .iadd, 1), (302, .iaload, 1), (303, .aload_n 0, 1), (304, .iload 4, 2), (306, .iconst 2, 1), (307, .iadd, 1), (308, .iaload, 1), (309, .aload_n 0, 1), (310, .iload 4, 2), (312, .iconst 3, 1), (313, .iadd, 1), (314, .iaload, 1), (315, .aload_n 0, 1), (316, .iload 4, 2), (318, .iconst 4, 1), (319, .iadd, 1), (320, .iaload, 1), (321, .aload_n 0, 1), (322, .iload 4, 2), (324, .iconst 5, 1), (325, .iadd, 1), (326, .iaload, 1), (327, .invokevirtual 28, 3), (330, .pop, 1), (331, .goto 1560, 3), (334, .aload_n 1, 1), (335, .aload_n 0, 1), (336, .iload 4, 2), (338, .iconst 1, 1), (339, .iadd, 1), (340, .iaload, 1), (341, .invokevirtual 29, 3), (344, .pop, 1), (345, .aload_n 2, 1), (346, .aload_n 0, 1), (347, .iload 4, 2), (349, .iconst 1, 1), (350, .iadd, 1), (351, .iaload, 1), (352, .invokevirtual 32, 3), (355, .pop, 1), (356, .goto 1535, 3), (359, .aload_n 1, 1), (360, .aload_n 0, 1), (361, .iload 4, 2), (363, .iconst 1, 1), (364, .iadd, 1), (365, .iaload, 1), (366, .invokevirtual 33, 3), (369, .pop, 1), (370, .aload_n 2, 1), (371, .aload_n 0, 1), (372, .iload 4, 2), (374, .iconst 1, 1), (375, .iadd, 1), (376, .iaload, 1)]
set_option maxRecDepth 1000000 in
theorem la_t1_ok : la_t1.all la_dck = true := by decide +kernel
theorem dL_law_296 : decode code 296 = .ok (.aload_n 2, 1) := la_dk la_t1_ok (i := 0) rfl
theorem dL_law_297 : decode code 297 = .ok (.aload_n 0, 1) := la_dk la_t1_ok (i := 1) rfl
theorem dL_law_298 : decode code 298 = .ok (.iload 4, 2) := la_dk la_t1_ok (i := 2) rfl
theorem dL_law_300 : decode code 300 = .ok (.iconst 1, 1) := la_dk la_t1_ok (i := 3) rfl
theorem dL_law_301 : decode code 301 = .ok (.iadd, 1) := la_dk la_t1_ok (i := 4) rfl
theorem dL_law_302 : decode code 302 = .ok (.iaload, 1) := la_dk la_t1_ok (i := 5) rfl
theorem dL_law_303 : decode code 303 = .ok (.aload_n 0, 1) := la_dk la_t1_ok (i := 6) rfl
theorem dL_law_304 : decode code 304 = .ok (.iload 4, 2) := la_dk la_t1_ok (i := 7) rfl
theorem dL_law_306 : decode code 306 = .ok (.iconst 2, 1) := la_dk la_t1_ok (i := 8) rfl
theorem dL_law_307 : decode code 307 = .ok (.iadd, 1) := la_dk la_t1_ok (i := 9) rfl
theorem dL_law_308 : decode code 308 = .ok (.iaload, 1) := la_dk la_t1_ok (i := 10) rfl
theorem dL_law_309 : decode code 309 = .ok (.aload_n 0, 1) := la_dk la_t1_ok (i := 11) rfl
theorem dL_law_310 : decode code 310 = .ok (.iload 4, 2) := la_dk la_t1_ok (i := 12) rfl
theorem dL_law_312 : decode code 312 = .ok (.iconst 3, 1) := la_dk la_t1_ok (i := 13) rfl
theorem dL_law_313 : decode code 313 = .ok (.iadd, 1) := la_dk la_t1_ok (i := 14) rfl
theorem dL_law_314 : decode code 314 = .ok (.iaload, 1) := la_dk la_t1_ok (i := 15) rfl
theorem dL_law_315 : decode code 315 = .ok (.aload_n 0, 1) := la_dk la_t1_ok (i := 16) rfl
theorem dL_law_316 : decode code 316 = .ok (.iload 4, 2) := la_dk la_t1_ok (i := 17) rfl
theorem dL_law_318 : decode code 318 = .ok (.iconst 4, 1) := la_dk la_t1_ok (i := 18) rfl
theorem dL_law_319 : decode code 319 = .ok (.iadd, 1) := la_dk la_t1_ok (i := 19) rfl
theorem dL_law_320 : decode code 320 = .ok (.iaload, 1) := la_dk la_t1_ok (i := 20) rfl
theorem dL_law_321 : decode code 321 = .ok (.aload_n 0, 1) := la_dk la_t1_ok (i := 21) rfl
theorem dL_law_322 : decode code 322 = .ok (.iload 4, 2) := la_dk la_t1_ok (i := 22) rfl
theorem dL_law_324 : decode code 324 = .ok (.iconst 5, 1) := la_dk la_t1_ok (i := 23) rfl
theorem dL_law_325 : decode code 325 = .ok (.iadd, 1) := la_dk la_t1_ok (i := 24) rfl
theorem dL_law_326 : decode code 326 = .ok (.iaload, 1) := la_dk la_t1_ok (i := 25) rfl
theorem dL_law_327 : decode code 327 = .ok (.invokevirtual 28, 3) := la_dk la_t1_ok (i := 26) rfl
theorem dL_law_330 : decode code 330 = .ok (.pop, 1) := la_dk la_t1_ok (i := 27) rfl
theorem dL_law_331 : decode code 331 = .ok (.goto 1560, 3) := la_dk la_t1_ok (i := 28) rfl
theorem dL_law_334 : decode code 334 = .ok (.aload_n 1, 1) := la_dk la_t1_ok (i := 29) rfl
theorem dL_law_335 : decode code 335 = .ok (.aload_n 0, 1) := la_dk la_t1_ok (i := 30) rfl
theorem dL_law_336 : decode code 336 = .ok (.iload 4, 2) := la_dk la_t1_ok (i := 31) rfl
theorem dL_law_338 : decode code 338 = .ok (.iconst 1, 1) := la_dk la_t1_ok (i := 32) rfl
theorem dL_law_339 : decode code 339 = .ok (.iadd, 1) := la_dk la_t1_ok (i := 33) rfl
theorem dL_law_340 : decode code 340 = .ok (.iaload, 1) := la_dk la_t1_ok (i := 34) rfl
theorem dL_law_341 : decode code 341 = .ok (.invokevirtual 29, 3) := la_dk la_t1_ok (i := 35) rfl
theorem dL_law_344 : decode code 344 = .ok (.pop, 1) := la_dk la_t1_ok (i := 36) rfl
theorem dL_law_345 : decode code 345 = .ok (.aload_n 2, 1) := la_dk la_t1_ok (i := 37) rfl
theorem dL_law_346 : decode code 346 = .ok (.aload_n 0, 1) := la_dk la_t1_ok (i := 38) rfl
theorem dL_law_347 : decode code 347 = .ok (.iload 4, 2) := la_dk la_t1_ok (i := 39) rfl
theorem dL_law_349 : decode code 349 = .ok (.iconst 1, 1) := la_dk la_t1_ok (i := 40) rfl
theorem dL_law_350 : decode code 350 = .ok (.iadd, 1) := la_dk la_t1_ok (i := 41) rfl
theorem dL_law_351 : decode code 351 = .ok (.iaload, 1) := la_dk la_t1_ok (i := 42) rfl
theorem dL_law_352 : decode code 352 = .ok (.invokevirtual 32, 3) := la_dk la_t1_ok (i := 43) rfl
theorem dL_law_355 : decode code 355 = .ok (.pop, 1) := la_dk la_t1_ok (i := 44) rfl
theorem dL_law_356 : decode code 356 = .ok (.goto 1535, 3) := la_dk la_t1_ok (i := 45) rfl
theorem dL_law_359 : decode code 359 = .ok (.aload_n 1, 1) := la_dk la_t1_ok (i := 46) rfl
theorem dL_law_360 : decode code 360 = .ok (.aload_n 0, 1) := la_dk la_t1_ok (i := 47) rfl
theorem dL_law_361 : decode code 361 = .ok (.iload 4, 2) := la_dk la_t1_ok (i := 48) rfl
theorem dL_law_363 : decode code 363 = .ok (.iconst 1, 1) := la_dk la_t1_ok (i := 49) rfl
theorem dL_law_364 : decode code 364 = .ok (.iadd, 1) := la_dk la_t1_ok (i := 50) rfl
theorem dL_law_365 : decode code 365 = .ok (.iaload, 1) := la_dk la_t1_ok (i := 51) rfl
theorem dL_law_366 : decode code 366 = .ok (.invokevirtual 33, 3) := la_dk la_t1_ok (i := 52) rfl
theorem dL_law_369 : decode code 369 = .ok (.pop, 1) := la_dk la_t1_ok (i := 53) rfl
theorem dL_law_370 : decode code 370 = .ok (.aload_n 2, 1) := la_dk la_t1_ok (i := 54) rfl
theorem dL_law_371 : decode code 371 = .ok (.aload_n 0, 1) := la_dk la_t1_ok (i := 55) rfl
theorem dL_law_372 : decode code 372 = .ok (.iload 4, 2) := la_dk la_t1_ok (i := 56) rfl
theorem dL_law_374 : decode code 374 = .ok (.iconst 1, 1) := la_dk la_t1_ok (i := 57) rfl
theorem dL_law_375 : decode code 375 = .ok (.iadd, 1) := la_dk la_t1_ok (i := 58) rfl
theorem dL_law_376 : decode code 376 = .ok (.iaload, 1) := la_dk la_t1_ok (i := 59) rfl
def la_t2 : List (Nat × Instr × Nat) := [(377, .invokevirtual 36, 3), (380, .pop, 1), (381, .goto 1510, 3), (384, .aload_n 1, 1), (385, .aload_n 0, 1), (386, .iload 4, 2), (388, .iconst 1, 1), (389, .iadd, 1), (390, .iaload, 1), (391, .invokevirtual 37, 3), (394, .pop, 1), (395, .aload_n 2, 1), (396, .aload_n 0, 1), (397, .iload 4, 2), (399, .iconst 1, 1), (400, .iadd, 1), (401, .iaload, 1), (402, .invokevirtual 40, 3), (405, .pop, 1), (406, .goto 1485, 3), (409, .aload_n 1, 1), (410, .aload_n 0, 1), (411, .iload 4, 2), (413, .iconst 1, 1), (414, .iadd, 1), (415, .iaload, 1), (416, .aload_n 0, 1), (417, .iload 4, 2), (419, .iconst 2, 1), (420, .iadd, 1), (421, .iaload, 1), (422, .invokevirtual 41, 3), (425, .pop, 1), (426, .aload_n 2, 1), (427, .aload_n 0, 1), (428, .iload 4, 2), (430, .iconst 1, 1), (431, .iadd, 1), (432, .iaload, 1), (433, .aload_n 0, 1), (434, .iload 4, 2), (436, .iconst 2, 1), (437, .iadd, 1), (438, .iaload, 1), (439, .invokevirtual 45, 3), (442, .pop, 1), (443, .goto 1448, 3), (446, .aload_n 1, 1), (447, .aload_n 0, 1), (448, .iload 4, 2), (450, .iconst 1, 1), (451, .iadd, 1), (452, .iaload, 1), (453, .aload_n 0, 1), (454, .iload 4, 2), (456, .iconst 2, 1), (457, .iadd, 1), (458, .iaload, 1), (459, .aload_n 0, 1), (460, .iload 4, 2)]
set_option maxRecDepth 1000000 in
theorem la_t2_ok : la_t2.all la_dck = true := by decide +kernel
theorem dL_law_377 : decode code 377 = .ok (.invokevirtual 36, 3) := la_dk la_t2_ok (i := 0) rfl
theorem dL_law_380 : decode code 380 = .ok (.pop, 1) := la_dk la_t2_ok (i := 1) rfl
theorem dL_law_381 : decode code 381 = .ok (.goto 1510, 3) := la_dk la_t2_ok (i := 2) rfl
theorem dL_law_384 : decode code 384 = .ok (.aload_n 1, 1) := la_dk la_t2_ok (i := 3) rfl
theorem dL_law_385 : decode code 385 = .ok (.aload_n 0, 1) := la_dk la_t2_ok (i := 4) rfl
theorem dL_law_386 : decode code 386 = .ok (.iload 4, 2) := la_dk la_t2_ok (i := 5) rfl
theorem dL_law_388 : decode code 388 = .ok (.iconst 1, 1) := la_dk la_t2_ok (i := 6) rfl
theorem dL_law_389 : decode code 389 = .ok (.iadd, 1) := la_dk la_t2_ok (i := 7) rfl
theorem dL_law_390 : decode code 390 = .ok (.iaload, 1) := la_dk la_t2_ok (i := 8) rfl
theorem dL_law_391 : decode code 391 = .ok (.invokevirtual 37, 3) := la_dk la_t2_ok (i := 9) rfl
theorem dL_law_394 : decode code 394 = .ok (.pop, 1) := la_dk la_t2_ok (i := 10) rfl
theorem dL_law_395 : decode code 395 = .ok (.aload_n 2, 1) := la_dk la_t2_ok (i := 11) rfl
theorem dL_law_396 : decode code 396 = .ok (.aload_n 0, 1) := la_dk la_t2_ok (i := 12) rfl
theorem dL_law_397 : decode code 397 = .ok (.iload 4, 2) := la_dk la_t2_ok (i := 13) rfl
theorem dL_law_399 : decode code 399 = .ok (.iconst 1, 1) := la_dk la_t2_ok (i := 14) rfl
theorem dL_law_400 : decode code 400 = .ok (.iadd, 1) := la_dk la_t2_ok (i := 15) rfl
theorem dL_law_401 : decode code 401 = .ok (.iaload, 1) := la_dk la_t2_ok (i := 16) rfl
theorem dL_law_402 : decode code 402 = .ok (.invokevirtual 40, 3) := la_dk la_t2_ok (i := 17) rfl
theorem dL_law_405 : decode code 405 = .ok (.pop, 1) := la_dk la_t2_ok (i := 18) rfl
theorem dL_law_406 : decode code 406 = .ok (.goto 1485, 3) := la_dk la_t2_ok (i := 19) rfl
theorem dL_law_409 : decode code 409 = .ok (.aload_n 1, 1) := la_dk la_t2_ok (i := 20) rfl
theorem dL_law_410 : decode code 410 = .ok (.aload_n 0, 1) := la_dk la_t2_ok (i := 21) rfl
theorem dL_law_411 : decode code 411 = .ok (.iload 4, 2) := la_dk la_t2_ok (i := 22) rfl
theorem dL_law_413 : decode code 413 = .ok (.iconst 1, 1) := la_dk la_t2_ok (i := 23) rfl
theorem dL_law_414 : decode code 414 = .ok (.iadd, 1) := la_dk la_t2_ok (i := 24) rfl
theorem dL_law_415 : decode code 415 = .ok (.iaload, 1) := la_dk la_t2_ok (i := 25) rfl
theorem dL_law_416 : decode code 416 = .ok (.aload_n 0, 1) := la_dk la_t2_ok (i := 26) rfl
theorem dL_law_417 : decode code 417 = .ok (.iload 4, 2) := la_dk la_t2_ok (i := 27) rfl
theorem dL_law_419 : decode code 419 = .ok (.iconst 2, 1) := la_dk la_t2_ok (i := 28) rfl
theorem dL_law_420 : decode code 420 = .ok (.iadd, 1) := la_dk la_t2_ok (i := 29) rfl
theorem dL_law_421 : decode code 421 = .ok (.iaload, 1) := la_dk la_t2_ok (i := 30) rfl
theorem dL_law_422 : decode code 422 = .ok (.invokevirtual 41, 3) := la_dk la_t2_ok (i := 31) rfl
theorem dL_law_425 : decode code 425 = .ok (.pop, 1) := la_dk la_t2_ok (i := 32) rfl
theorem dL_law_426 : decode code 426 = .ok (.aload_n 2, 1) := la_dk la_t2_ok (i := 33) rfl
theorem dL_law_427 : decode code 427 = .ok (.aload_n 0, 1) := la_dk la_t2_ok (i := 34) rfl
theorem dL_law_428 : decode code 428 = .ok (.iload 4, 2) := la_dk la_t2_ok (i := 35) rfl
theorem dL_law_430 : decode code 430 = .ok (.iconst 1, 1) := la_dk la_t2_ok (i := 36) rfl
theorem dL_law_431 : decode code 431 = .ok (.iadd, 1) := la_dk la_t2_ok (i := 37) rfl
theorem dL_law_432 : decode code 432 = .ok (.iaload, 1) := la_dk la_t2_ok (i := 38) rfl
theorem dL_law_433 : decode code 433 = .ok (.aload_n 0, 1) := la_dk la_t2_ok (i := 39) rfl
theorem dL_law_434 : decode code 434 = .ok (.iload 4, 2) := la_dk la_t2_ok (i := 40) rfl
theorem dL_law_436 : decode code 436 = .ok (.iconst 2, 1) := la_dk la_t2_ok (i := 41) rfl
theorem dL_law_437 : decode code 437 = .ok (.iadd, 1) := la_dk la_t2_ok (i := 42) rfl
theorem dL_law_438 : decode code 438 = .ok (.iaload, 1) := la_dk la_t2_ok (i := 43) rfl
theorem dL_law_439 : decode code 439 = .ok (.invokevirtual 45, 3) := la_dk la_t2_ok (i := 44) rfl
theorem dL_law_442 : decode code 442 = .ok (.pop, 1) := la_dk la_t2_ok (i := 45) rfl
theorem dL_law_443 : decode code 443 = .ok (.goto 1448, 3) := la_dk la_t2_ok (i := 46) rfl
theorem dL_law_446 : decode code 446 = .ok (.aload_n 1, 1) := la_dk la_t2_ok (i := 47) rfl
theorem dL_law_447 : decode code 447 = .ok (.aload_n 0, 1) := la_dk la_t2_ok (i := 48) rfl
theorem dL_law_448 : decode code 448 = .ok (.iload 4, 2) := la_dk la_t2_ok (i := 49) rfl
theorem dL_law_450 : decode code 450 = .ok (.iconst 1, 1) := la_dk la_t2_ok (i := 50) rfl
theorem dL_law_451 : decode code 451 = .ok (.iadd, 1) := la_dk la_t2_ok (i := 51) rfl
theorem dL_law_452 : decode code 452 = .ok (.iaload, 1) := la_dk la_t2_ok (i := 52) rfl
theorem dL_law_453 : decode code 453 = .ok (.aload_n 0, 1) := la_dk la_t2_ok (i := 53) rfl
theorem dL_law_454 : decode code 454 = .ok (.iload 4, 2) := la_dk la_t2_ok (i := 54) rfl
theorem dL_law_456 : decode code 456 = .ok (.iconst 2, 1) := la_dk la_t2_ok (i := 55) rfl
theorem dL_law_457 : decode code 457 = .ok (.iadd, 1) := la_dk la_t2_ok (i := 56) rfl
theorem dL_law_458 : decode code 458 = .ok (.iaload, 1) := la_dk la_t2_ok (i := 57) rfl
theorem dL_law_459 : decode code 459 = .ok (.aload_n 0, 1) := la_dk la_t2_ok (i := 58) rfl
theorem dL_law_460 : decode code 460 = .ok (.iload 4, 2) := la_dk la_t2_ok (i := 59) rfl
def la_t3 : List (Nat × Instr × Nat) := [(462, .iconst 3, 1), (463, .iadd, 1), (464, .iaload, 1), (465, .invokevirtual 46, 3), (468, .pop, 1), (469, .aload_n 2, 1), (470, .aload_n 0, 1), (471, .iload 4, 2), (473, .iconst 1, 1), (474, .iadd, 1), (475, .iaload, 1), (476, .aload_n 0, 1), (477, .iload 4, 2), (479, .iconst 2, 1), (480, .iadd, 1), (481, .iaload, 1), (482, .aload_n 0, 1), (483, .iload 4, 2), (485, .iconst 3, 1), (486, .iadd, 1), (487, .iaload, 1), (488, .invokevirtual 50, 3), (491, .pop, 1), (492, .goto 1399, 3), (495, .aload_n 1, 1), (496, .aload_n 0, 1), (497, .iload 4, 2), (499, .iconst 1, 1), (500, .iadd, 1), (501, .iaload, 1), (502, .aload_n 0, 1), (503, .iload 4, 2), (505, .iconst 2, 1), (506, .iadd, 1), (507, .iaload, 1), (508, .invokevirtual 51, 3), (511, .pop, 1), (512, .aload_n 2, 1), (513, .aload_n 0, 1), (514, .iload 4, 2), (516, .iconst 1, 1), (517, .iadd, 1), (518, .iaload, 1), (519, .aload_n 0, 1), (520, .iload 4, 2), (522, .iconst 2, 1), (523, .iadd, 1), (524, .iaload, 1), (525, .invokevirtual 54, 3), (528, .pop, 1), (529, .goto 1362, 3), (532, .aload_n 1, 1), (533, .aload_n 0, 1), (534, .iload 4, 2), (536, .iconst 1, 1), (537, .iadd, 1), (538, .iaload, 1), (539, .invokevirtual 55, 3), (542, .pop, 1), (543, .aload_n 2, 1)]
set_option maxRecDepth 1000000 in
theorem la_t3_ok : la_t3.all la_dck = true := by decide +kernel
theorem dL_law_462 : decode code 462 = .ok (.iconst 3, 1) := la_dk la_t3_ok (i := 0) rfl
theorem dL_law_463 : decode code 463 = .ok (.iadd, 1) := la_dk la_t3_ok (i := 1) rfl
theorem dL_law_464 : decode code 464 = .ok (.iaload, 1) := la_dk la_t3_ok (i := 2) rfl
theorem dL_law_465 : decode code 465 = .ok (.invokevirtual 46, 3) := la_dk la_t3_ok (i := 3) rfl
theorem dL_law_468 : decode code 468 = .ok (.pop, 1) := la_dk la_t3_ok (i := 4) rfl
theorem dL_law_469 : decode code 469 = .ok (.aload_n 2, 1) := la_dk la_t3_ok (i := 5) rfl
theorem dL_law_470 : decode code 470 = .ok (.aload_n 0, 1) := la_dk la_t3_ok (i := 6) rfl
theorem dL_law_471 : decode code 471 = .ok (.iload 4, 2) := la_dk la_t3_ok (i := 7) rfl
theorem dL_law_473 : decode code 473 = .ok (.iconst 1, 1) := la_dk la_t3_ok (i := 8) rfl
theorem dL_law_474 : decode code 474 = .ok (.iadd, 1) := la_dk la_t3_ok (i := 9) rfl
theorem dL_law_475 : decode code 475 = .ok (.iaload, 1) := la_dk la_t3_ok (i := 10) rfl
theorem dL_law_476 : decode code 476 = .ok (.aload_n 0, 1) := la_dk la_t3_ok (i := 11) rfl
theorem dL_law_477 : decode code 477 = .ok (.iload 4, 2) := la_dk la_t3_ok (i := 12) rfl
theorem dL_law_479 : decode code 479 = .ok (.iconst 2, 1) := la_dk la_t3_ok (i := 13) rfl
theorem dL_law_480 : decode code 480 = .ok (.iadd, 1) := la_dk la_t3_ok (i := 14) rfl
theorem dL_law_481 : decode code 481 = .ok (.iaload, 1) := la_dk la_t3_ok (i := 15) rfl
theorem dL_law_482 : decode code 482 = .ok (.aload_n 0, 1) := la_dk la_t3_ok (i := 16) rfl
theorem dL_law_483 : decode code 483 = .ok (.iload 4, 2) := la_dk la_t3_ok (i := 17) rfl
theorem dL_law_485 : decode code 485 = .ok (.iconst 3, 1) := la_dk la_t3_ok (i := 18) rfl
theorem dL_law_486 : decode code 486 = .ok (.iadd, 1) := la_dk la_t3_ok (i := 19) rfl
theorem dL_law_487 : decode code 487 = .ok (.iaload, 1) := la_dk la_t3_ok (i := 20) rfl
theorem dL_law_488 : decode code 488 = .ok (.invokevirtual 50, 3) := la_dk la_t3_ok (i := 21) rfl
theorem dL_law_491 : decode code 491 = .ok (.pop, 1) := la_dk la_t3_ok (i := 22) rfl
theorem dL_law_492 : decode code 492 = .ok (.goto 1399, 3) := la_dk la_t3_ok (i := 23) rfl
theorem dL_law_495 : decode code 495 = .ok (.aload_n 1, 1) := la_dk la_t3_ok (i := 24) rfl
theorem dL_law_496 : decode code 496 = .ok (.aload_n 0, 1) := la_dk la_t3_ok (i := 25) rfl
theorem dL_law_497 : decode code 497 = .ok (.iload 4, 2) := la_dk la_t3_ok (i := 26) rfl
theorem dL_law_499 : decode code 499 = .ok (.iconst 1, 1) := la_dk la_t3_ok (i := 27) rfl
theorem dL_law_500 : decode code 500 = .ok (.iadd, 1) := la_dk la_t3_ok (i := 28) rfl
theorem dL_law_501 : decode code 501 = .ok (.iaload, 1) := la_dk la_t3_ok (i := 29) rfl
theorem dL_law_502 : decode code 502 = .ok (.aload_n 0, 1) := la_dk la_t3_ok (i := 30) rfl
theorem dL_law_503 : decode code 503 = .ok (.iload 4, 2) := la_dk la_t3_ok (i := 31) rfl
theorem dL_law_505 : decode code 505 = .ok (.iconst 2, 1) := la_dk la_t3_ok (i := 32) rfl
theorem dL_law_506 : decode code 506 = .ok (.iadd, 1) := la_dk la_t3_ok (i := 33) rfl
theorem dL_law_507 : decode code 507 = .ok (.iaload, 1) := la_dk la_t3_ok (i := 34) rfl
theorem dL_law_508 : decode code 508 = .ok (.invokevirtual 51, 3) := la_dk la_t3_ok (i := 35) rfl
theorem dL_law_511 : decode code 511 = .ok (.pop, 1) := la_dk la_t3_ok (i := 36) rfl
theorem dL_law_512 : decode code 512 = .ok (.aload_n 2, 1) := la_dk la_t3_ok (i := 37) rfl
theorem dL_law_513 : decode code 513 = .ok (.aload_n 0, 1) := la_dk la_t3_ok (i := 38) rfl
theorem dL_law_514 : decode code 514 = .ok (.iload 4, 2) := la_dk la_t3_ok (i := 39) rfl
theorem dL_law_516 : decode code 516 = .ok (.iconst 1, 1) := la_dk la_t3_ok (i := 40) rfl
theorem dL_law_517 : decode code 517 = .ok (.iadd, 1) := la_dk la_t3_ok (i := 41) rfl
theorem dL_law_518 : decode code 518 = .ok (.iaload, 1) := la_dk la_t3_ok (i := 42) rfl
theorem dL_law_519 : decode code 519 = .ok (.aload_n 0, 1) := la_dk la_t3_ok (i := 43) rfl
theorem dL_law_520 : decode code 520 = .ok (.iload 4, 2) := la_dk la_t3_ok (i := 44) rfl
theorem dL_law_522 : decode code 522 = .ok (.iconst 2, 1) := la_dk la_t3_ok (i := 45) rfl
theorem dL_law_523 : decode code 523 = .ok (.iadd, 1) := la_dk la_t3_ok (i := 46) rfl
theorem dL_law_524 : decode code 524 = .ok (.iaload, 1) := la_dk la_t3_ok (i := 47) rfl
theorem dL_law_525 : decode code 525 = .ok (.invokevirtual 54, 3) := la_dk la_t3_ok (i := 48) rfl
theorem dL_law_528 : decode code 528 = .ok (.pop, 1) := la_dk la_t3_ok (i := 49) rfl
theorem dL_law_529 : decode code 529 = .ok (.goto 1362, 3) := la_dk la_t3_ok (i := 50) rfl
theorem dL_law_532 : decode code 532 = .ok (.aload_n 1, 1) := la_dk la_t3_ok (i := 51) rfl
theorem dL_law_533 : decode code 533 = .ok (.aload_n 0, 1) := la_dk la_t3_ok (i := 52) rfl
theorem dL_law_534 : decode code 534 = .ok (.iload 4, 2) := la_dk la_t3_ok (i := 53) rfl
theorem dL_law_536 : decode code 536 = .ok (.iconst 1, 1) := la_dk la_t3_ok (i := 54) rfl
theorem dL_law_537 : decode code 537 = .ok (.iadd, 1) := la_dk la_t3_ok (i := 55) rfl
theorem dL_law_538 : decode code 538 = .ok (.iaload, 1) := la_dk la_t3_ok (i := 56) rfl
theorem dL_law_539 : decode code 539 = .ok (.invokevirtual 55, 3) := la_dk la_t3_ok (i := 57) rfl
theorem dL_law_542 : decode code 542 = .ok (.pop, 1) := la_dk la_t3_ok (i := 58) rfl
theorem dL_law_543 : decode code 543 = .ok (.aload_n 2, 1) := la_dk la_t3_ok (i := 59) rfl
def la_t4 : List (Nat × Instr × Nat) := [(544, .aload_n 0, 1), (545, .iload 4, 2), (547, .iconst 1, 1), (548, .iadd, 1), (549, .iaload, 1), (550, .invokevirtual 58, 3), (553, .pop, 1), (554, .goto 1337, 3), (557, .aload_n 1, 1), (558, .aload_n 0, 1), (559, .iload 4, 2), (561, .iconst 1, 1), (562, .iadd, 1), (563, .iaload, 1), (564, .invokevirtual 59, 3), (567, .pop, 1), (568, .aload_n 2, 1), (569, .aload_n 0, 1), (570, .iload 4, 2), (572, .iconst 1, 1), (573, .iadd, 1), (574, .iaload, 1), (575, .invokevirtual 62, 3), (578, .pop, 1), (579, .goto 1312, 3), (582, .aload_n 1, 1), (583, .aload_n 0, 1), (584, .iload 4, 2), (586, .iconst 1, 1), (587, .iadd, 1), (588, .iaload, 1), (589, .invokevirtual 63, 3), (592, .pop, 1), (593, .aload_n 2, 1), (594, .aload_n 0, 1), (595, .iload 4, 2), (597, .iconst 1, 1), (598, .iadd, 1), (599, .iaload, 1), (600, .invokevirtual 66, 3), (603, .pop, 1), (604, .goto 1287, 3), (607, .aload_n 1, 1), (608, .invokevirtual 67, 3), (611, .pop, 1), (612, .aload_n 2, 1), (613, .invokevirtual 70, 3), (616, .pop, 1), (617, .goto 1274, 3), (620, .aload_n 1, 1), (621, .aload_n 0, 1), (622, .iload 4, 2), (624, .iconst 1, 1), (625, .iadd, 1), (626, .iaload, 1), (627, .invokevirtual 71, 3), (630, .pop, 1), (631, .aload_n 2, 1), (632, .aload_n 0, 1), (633, .iload 4, 2)]
set_option maxRecDepth 1000000 in
theorem la_t4_ok : la_t4.all la_dck = true := by decide +kernel
theorem dL_law_544 : decode code 544 = .ok (.aload_n 0, 1) := la_dk la_t4_ok (i := 0) rfl
theorem dL_law_545 : decode code 545 = .ok (.iload 4, 2) := la_dk la_t4_ok (i := 1) rfl
theorem dL_law_547 : decode code 547 = .ok (.iconst 1, 1) := la_dk la_t4_ok (i := 2) rfl
theorem dL_law_548 : decode code 548 = .ok (.iadd, 1) := la_dk la_t4_ok (i := 3) rfl
theorem dL_law_549 : decode code 549 = .ok (.iaload, 1) := la_dk la_t4_ok (i := 4) rfl
theorem dL_law_550 : decode code 550 = .ok (.invokevirtual 58, 3) := la_dk la_t4_ok (i := 5) rfl
theorem dL_law_553 : decode code 553 = .ok (.pop, 1) := la_dk la_t4_ok (i := 6) rfl
theorem dL_law_554 : decode code 554 = .ok (.goto 1337, 3) := la_dk la_t4_ok (i := 7) rfl
theorem dL_law_557 : decode code 557 = .ok (.aload_n 1, 1) := la_dk la_t4_ok (i := 8) rfl
theorem dL_law_558 : decode code 558 = .ok (.aload_n 0, 1) := la_dk la_t4_ok (i := 9) rfl
theorem dL_law_559 : decode code 559 = .ok (.iload 4, 2) := la_dk la_t4_ok (i := 10) rfl
theorem dL_law_561 : decode code 561 = .ok (.iconst 1, 1) := la_dk la_t4_ok (i := 11) rfl
theorem dL_law_562 : decode code 562 = .ok (.iadd, 1) := la_dk la_t4_ok (i := 12) rfl
theorem dL_law_563 : decode code 563 = .ok (.iaload, 1) := la_dk la_t4_ok (i := 13) rfl
theorem dL_law_564 : decode code 564 = .ok (.invokevirtual 59, 3) := la_dk la_t4_ok (i := 14) rfl
theorem dL_law_567 : decode code 567 = .ok (.pop, 1) := la_dk la_t4_ok (i := 15) rfl
theorem dL_law_568 : decode code 568 = .ok (.aload_n 2, 1) := la_dk la_t4_ok (i := 16) rfl
theorem dL_law_569 : decode code 569 = .ok (.aload_n 0, 1) := la_dk la_t4_ok (i := 17) rfl
theorem dL_law_570 : decode code 570 = .ok (.iload 4, 2) := la_dk la_t4_ok (i := 18) rfl
theorem dL_law_572 : decode code 572 = .ok (.iconst 1, 1) := la_dk la_t4_ok (i := 19) rfl
theorem dL_law_573 : decode code 573 = .ok (.iadd, 1) := la_dk la_t4_ok (i := 20) rfl
theorem dL_law_574 : decode code 574 = .ok (.iaload, 1) := la_dk la_t4_ok (i := 21) rfl
theorem dL_law_575 : decode code 575 = .ok (.invokevirtual 62, 3) := la_dk la_t4_ok (i := 22) rfl
theorem dL_law_578 : decode code 578 = .ok (.pop, 1) := la_dk la_t4_ok (i := 23) rfl
theorem dL_law_579 : decode code 579 = .ok (.goto 1312, 3) := la_dk la_t4_ok (i := 24) rfl
theorem dL_law_582 : decode code 582 = .ok (.aload_n 1, 1) := la_dk la_t4_ok (i := 25) rfl
theorem dL_law_583 : decode code 583 = .ok (.aload_n 0, 1) := la_dk la_t4_ok (i := 26) rfl
theorem dL_law_584 : decode code 584 = .ok (.iload 4, 2) := la_dk la_t4_ok (i := 27) rfl
theorem dL_law_586 : decode code 586 = .ok (.iconst 1, 1) := la_dk la_t4_ok (i := 28) rfl
theorem dL_law_587 : decode code 587 = .ok (.iadd, 1) := la_dk la_t4_ok (i := 29) rfl
theorem dL_law_588 : decode code 588 = .ok (.iaload, 1) := la_dk la_t4_ok (i := 30) rfl
theorem dL_law_589 : decode code 589 = .ok (.invokevirtual 63, 3) := la_dk la_t4_ok (i := 31) rfl
theorem dL_law_592 : decode code 592 = .ok (.pop, 1) := la_dk la_t4_ok (i := 32) rfl
theorem dL_law_593 : decode code 593 = .ok (.aload_n 2, 1) := la_dk la_t4_ok (i := 33) rfl
theorem dL_law_594 : decode code 594 = .ok (.aload_n 0, 1) := la_dk la_t4_ok (i := 34) rfl
theorem dL_law_595 : decode code 595 = .ok (.iload 4, 2) := la_dk la_t4_ok (i := 35) rfl
theorem dL_law_597 : decode code 597 = .ok (.iconst 1, 1) := la_dk la_t4_ok (i := 36) rfl
theorem dL_law_598 : decode code 598 = .ok (.iadd, 1) := la_dk la_t4_ok (i := 37) rfl
theorem dL_law_599 : decode code 599 = .ok (.iaload, 1) := la_dk la_t4_ok (i := 38) rfl
theorem dL_law_600 : decode code 600 = .ok (.invokevirtual 66, 3) := la_dk la_t4_ok (i := 39) rfl
theorem dL_law_603 : decode code 603 = .ok (.pop, 1) := la_dk la_t4_ok (i := 40) rfl
theorem dL_law_604 : decode code 604 = .ok (.goto 1287, 3) := la_dk la_t4_ok (i := 41) rfl
theorem dL_law_607 : decode code 607 = .ok (.aload_n 1, 1) := la_dk la_t4_ok (i := 42) rfl
theorem dL_law_608 : decode code 608 = .ok (.invokevirtual 67, 3) := la_dk la_t4_ok (i := 43) rfl
theorem dL_law_611 : decode code 611 = .ok (.pop, 1) := la_dk la_t4_ok (i := 44) rfl
theorem dL_law_612 : decode code 612 = .ok (.aload_n 2, 1) := la_dk la_t4_ok (i := 45) rfl
theorem dL_law_613 : decode code 613 = .ok (.invokevirtual 70, 3) := la_dk la_t4_ok (i := 46) rfl
theorem dL_law_616 : decode code 616 = .ok (.pop, 1) := la_dk la_t4_ok (i := 47) rfl
theorem dL_law_617 : decode code 617 = .ok (.goto 1274, 3) := la_dk la_t4_ok (i := 48) rfl
theorem dL_law_620 : decode code 620 = .ok (.aload_n 1, 1) := la_dk la_t4_ok (i := 49) rfl
theorem dL_law_621 : decode code 621 = .ok (.aload_n 0, 1) := la_dk la_t4_ok (i := 50) rfl
theorem dL_law_622 : decode code 622 = .ok (.iload 4, 2) := la_dk la_t4_ok (i := 51) rfl
theorem dL_law_624 : decode code 624 = .ok (.iconst 1, 1) := la_dk la_t4_ok (i := 52) rfl
theorem dL_law_625 : decode code 625 = .ok (.iadd, 1) := la_dk la_t4_ok (i := 53) rfl
theorem dL_law_626 : decode code 626 = .ok (.iaload, 1) := la_dk la_t4_ok (i := 54) rfl
theorem dL_law_627 : decode code 627 = .ok (.invokevirtual 71, 3) := la_dk la_t4_ok (i := 55) rfl
theorem dL_law_630 : decode code 630 = .ok (.pop, 1) := la_dk la_t4_ok (i := 56) rfl
theorem dL_law_631 : decode code 631 = .ok (.aload_n 2, 1) := la_dk la_t4_ok (i := 57) rfl
theorem dL_law_632 : decode code 632 = .ok (.aload_n 0, 1) := la_dk la_t4_ok (i := 58) rfl
theorem dL_law_633 : decode code 633 = .ok (.iload 4, 2) := la_dk la_t4_ok (i := 59) rfl
def la_t5 : List (Nat × Instr × Nat) := [(635, .iconst 1, 1), (636, .iadd, 1), (637, .iaload, 1), (638, .invokevirtual 74, 3), (641, .pop, 1), (642, .goto 1249, 3), (645, .aload_n 1, 1), (646, .aload_n 0, 1), (647, .iload 4, 2), (649, .iconst 1, 1), (650, .iadd, 1), (651, .iaload, 1), (652, .aload_n 0, 1), (653, .iload 4, 2), (655, .iconst 2, 1), (656, .iadd, 1), (657, .iaload, 1), (658, .invokevirtual 75, 3), (661, .pop, 1), (662, .aload_n 2, 1), (663, .aload_n 0, 1), (664, .iload 4, 2), (666, .iconst 1, 1), (667, .iadd, 1), (668, .iaload, 1), (669, .aload_n 0, 1), (670, .iload 4, 2), (672, .iconst 2, 1), (673, .iadd, 1), (674, .iaload, 1), (675, .invokevirtual 78, 3), (678, .pop, 1), (679, .goto 1212, 3), (682, .aload_n 1, 1), (683, .aload_n 0, 1), (684, .iload 4, 2), (686, .iconst 1, 1), (687, .iadd, 1), (688, .iaload, 1), (689, .invokevirtual 79, 3), (692, .pop, 1), (693, .aload_n 2, 1), (694, .aload_n 0, 1), (695, .iload 4, 2), (697, .iconst 1, 1), (698, .iadd, 1), (699, .iaload, 1), (700, .invokevirtual 82, 3), (703, .pop, 1), (704, .goto 1187, 3), (707, .aload_n 1, 1), (708, .invokevirtual 83, 3), (711, .pop, 1), (712, .aload_n 2, 1), (713, .invokevirtual 86, 3), (716, .pop, 1), (717, .goto 1174, 3), (720, .aload_n 1, 1), (721, .aload_n 0, 1), (722, .iload 4, 2)]
set_option maxRecDepth 1000000 in
theorem la_t5_ok : la_t5.all la_dck = true := by decide +kernel
theorem dL_law_635 : decode code 635 = .ok (.iconst 1, 1) := la_dk la_t5_ok (i := 0) rfl
theorem dL_law_636 : decode code 636 = .ok (.iadd, 1) := la_dk la_t5_ok (i := 1) rfl
theorem dL_law_637 : decode code 637 = .ok (.iaload, 1) := la_dk la_t5_ok (i := 2) rfl
theorem dL_law_638 : decode code 638 = .ok (.invokevirtual 74, 3) := la_dk la_t5_ok (i := 3) rfl
theorem dL_law_641 : decode code 641 = .ok (.pop, 1) := la_dk la_t5_ok (i := 4) rfl
theorem dL_law_642 : decode code 642 = .ok (.goto 1249, 3) := la_dk la_t5_ok (i := 5) rfl
theorem dL_law_645 : decode code 645 = .ok (.aload_n 1, 1) := la_dk la_t5_ok (i := 6) rfl
theorem dL_law_646 : decode code 646 = .ok (.aload_n 0, 1) := la_dk la_t5_ok (i := 7) rfl
theorem dL_law_647 : decode code 647 = .ok (.iload 4, 2) := la_dk la_t5_ok (i := 8) rfl
theorem dL_law_649 : decode code 649 = .ok (.iconst 1, 1) := la_dk la_t5_ok (i := 9) rfl
theorem dL_law_650 : decode code 650 = .ok (.iadd, 1) := la_dk la_t5_ok (i := 10) rfl
theorem dL_law_651 : decode code 651 = .ok (.iaload, 1) := la_dk la_t5_ok (i := 11) rfl
theorem dL_law_652 : decode code 652 = .ok (.aload_n 0, 1) := la_dk la_t5_ok (i := 12) rfl
theorem dL_law_653 : decode code 653 = .ok (.iload 4, 2) := la_dk la_t5_ok (i := 13) rfl
theorem dL_law_655 : decode code 655 = .ok (.iconst 2, 1) := la_dk la_t5_ok (i := 14) rfl
theorem dL_law_656 : decode code 656 = .ok (.iadd, 1) := la_dk la_t5_ok (i := 15) rfl
theorem dL_law_657 : decode code 657 = .ok (.iaload, 1) := la_dk la_t5_ok (i := 16) rfl
theorem dL_law_658 : decode code 658 = .ok (.invokevirtual 75, 3) := la_dk la_t5_ok (i := 17) rfl
theorem dL_law_661 : decode code 661 = .ok (.pop, 1) := la_dk la_t5_ok (i := 18) rfl
theorem dL_law_662 : decode code 662 = .ok (.aload_n 2, 1) := la_dk la_t5_ok (i := 19) rfl
theorem dL_law_663 : decode code 663 = .ok (.aload_n 0, 1) := la_dk la_t5_ok (i := 20) rfl
theorem dL_law_664 : decode code 664 = .ok (.iload 4, 2) := la_dk la_t5_ok (i := 21) rfl
theorem dL_law_666 : decode code 666 = .ok (.iconst 1, 1) := la_dk la_t5_ok (i := 22) rfl
theorem dL_law_667 : decode code 667 = .ok (.iadd, 1) := la_dk la_t5_ok (i := 23) rfl
theorem dL_law_668 : decode code 668 = .ok (.iaload, 1) := la_dk la_t5_ok (i := 24) rfl
theorem dL_law_669 : decode code 669 = .ok (.aload_n 0, 1) := la_dk la_t5_ok (i := 25) rfl
theorem dL_law_670 : decode code 670 = .ok (.iload 4, 2) := la_dk la_t5_ok (i := 26) rfl
theorem dL_law_672 : decode code 672 = .ok (.iconst 2, 1) := la_dk la_t5_ok (i := 27) rfl
theorem dL_law_673 : decode code 673 = .ok (.iadd, 1) := la_dk la_t5_ok (i := 28) rfl
theorem dL_law_674 : decode code 674 = .ok (.iaload, 1) := la_dk la_t5_ok (i := 29) rfl
theorem dL_law_675 : decode code 675 = .ok (.invokevirtual 78, 3) := la_dk la_t5_ok (i := 30) rfl
theorem dL_law_678 : decode code 678 = .ok (.pop, 1) := la_dk la_t5_ok (i := 31) rfl
theorem dL_law_679 : decode code 679 = .ok (.goto 1212, 3) := la_dk la_t5_ok (i := 32) rfl
theorem dL_law_682 : decode code 682 = .ok (.aload_n 1, 1) := la_dk la_t5_ok (i := 33) rfl
theorem dL_law_683 : decode code 683 = .ok (.aload_n 0, 1) := la_dk la_t5_ok (i := 34) rfl
theorem dL_law_684 : decode code 684 = .ok (.iload 4, 2) := la_dk la_t5_ok (i := 35) rfl
theorem dL_law_686 : decode code 686 = .ok (.iconst 1, 1) := la_dk la_t5_ok (i := 36) rfl
theorem dL_law_687 : decode code 687 = .ok (.iadd, 1) := la_dk la_t5_ok (i := 37) rfl
theorem dL_law_688 : decode code 688 = .ok (.iaload, 1) := la_dk la_t5_ok (i := 38) rfl
theorem dL_law_689 : decode code 689 = .ok (.invokevirtual 79, 3) := la_dk la_t5_ok (i := 39) rfl
theorem dL_law_692 : decode code 692 = .ok (.pop, 1) := la_dk la_t5_ok (i := 40) rfl
theorem dL_law_693 : decode code 693 = .ok (.aload_n 2, 1) := la_dk la_t5_ok (i := 41) rfl
theorem dL_law_694 : decode code 694 = .ok (.aload_n 0, 1) := la_dk la_t5_ok (i := 42) rfl
theorem dL_law_695 : decode code 695 = .ok (.iload 4, 2) := la_dk la_t5_ok (i := 43) rfl
theorem dL_law_697 : decode code 697 = .ok (.iconst 1, 1) := la_dk la_t5_ok (i := 44) rfl
theorem dL_law_698 : decode code 698 = .ok (.iadd, 1) := la_dk la_t5_ok (i := 45) rfl
theorem dL_law_699 : decode code 699 = .ok (.iaload, 1) := la_dk la_t5_ok (i := 46) rfl
theorem dL_law_700 : decode code 700 = .ok (.invokevirtual 82, 3) := la_dk la_t5_ok (i := 47) rfl
theorem dL_law_703 : decode code 703 = .ok (.pop, 1) := la_dk la_t5_ok (i := 48) rfl
theorem dL_law_704 : decode code 704 = .ok (.goto 1187, 3) := la_dk la_t5_ok (i := 49) rfl
theorem dL_law_707 : decode code 707 = .ok (.aload_n 1, 1) := la_dk la_t5_ok (i := 50) rfl
theorem dL_law_708 : decode code 708 = .ok (.invokevirtual 83, 3) := la_dk la_t5_ok (i := 51) rfl
theorem dL_law_711 : decode code 711 = .ok (.pop, 1) := la_dk la_t5_ok (i := 52) rfl
theorem dL_law_712 : decode code 712 = .ok (.aload_n 2, 1) := la_dk la_t5_ok (i := 53) rfl
theorem dL_law_713 : decode code 713 = .ok (.invokevirtual 86, 3) := la_dk la_t5_ok (i := 54) rfl
theorem dL_law_716 : decode code 716 = .ok (.pop, 1) := la_dk la_t5_ok (i := 55) rfl
theorem dL_law_717 : decode code 717 = .ok (.goto 1174, 3) := la_dk la_t5_ok (i := 56) rfl
theorem dL_law_720 : decode code 720 = .ok (.aload_n 1, 1) := la_dk la_t5_ok (i := 57) rfl
theorem dL_law_721 : decode code 721 = .ok (.aload_n 0, 1) := la_dk la_t5_ok (i := 58) rfl
theorem dL_law_722 : decode code 722 = .ok (.iload 4, 2) := la_dk la_t5_ok (i := 59) rfl
def la_t6 : List (Nat × Instr × Nat) := [(724, .iconst 1, 1), (725, .iadd, 1), (726, .iaload, 1), (727, .invokevirtual 87, 3), (730, .pop, 1), (731, .aload_n 2, 1), (732, .aload_n 0, 1), (733, .iload 4, 2), (735, .iconst 1, 1), (736, .iadd, 1), (737, .iaload, 1), (738, .invokevirtual 90, 3), (741, .pop, 1), (742, .goto 1149, 3), (745, .aload_n 1, 1), (746, .aload_n 0, 1), (747, .iload 4, 2), (749, .iconst 1, 1), (750, .iadd, 1), (751, .iaload, 1), (752, .aload_n 0, 1), (753, .iload 4, 2), (755, .iconst 2, 1), (756, .iadd, 1), (757, .iaload, 1), (758, .aload_n 0, 1), (759, .iload 4, 2), (761, .iconst 3, 1), (762, .iadd, 1), (763, .iaload, 1), (764, .ifCond .eq 7, 3), (767, .iconst 1, 1), (768, .goto 4, 3), (771, .iconst 0, 1), (772, .invokevirtual 91, 3), (775, .pop, 1), (776, .aload_n 2, 1), (777, .aload_n 0, 1), (778, .iload 4, 2), (780, .iconst 1, 1), (781, .iadd, 1), (782, .iaload, 1), (783, .aload_n 0, 1), (784, .iload 4, 2), (786, .iconst 2, 1), (787, .iadd, 1), (788, .iaload, 1), (789, .aload_n 0, 1), (790, .iload 4, 2), (792, .iconst 3, 1), (793, .iadd, 1), (794, .iaload, 1), (795, .ifCond .eq 7, 3), (798, .iconst 1, 1), (799, .goto 4, 3), (802, .iconst 0, 1), (803, .invokevirtual 95, 3), (806, .pop, 1), (807, .goto 1084, 3), (810, .aload_n 1, 1)]
set_option maxRecDepth 1000000 in
theorem la_t6_ok : la_t6.all la_dck = true := by decide +kernel
theorem dL_law_724 : decode code 724 = .ok (.iconst 1, 1) := la_dk la_t6_ok (i := 0) rfl
theorem dL_law_725 : decode code 725 = .ok (.iadd, 1) := la_dk la_t6_ok (i := 1) rfl
theorem dL_law_726 : decode code 726 = .ok (.iaload, 1) := la_dk la_t6_ok (i := 2) rfl
theorem dL_law_727 : decode code 727 = .ok (.invokevirtual 87, 3) := la_dk la_t6_ok (i := 3) rfl
theorem dL_law_730 : decode code 730 = .ok (.pop, 1) := la_dk la_t6_ok (i := 4) rfl
theorem dL_law_731 : decode code 731 = .ok (.aload_n 2, 1) := la_dk la_t6_ok (i := 5) rfl
theorem dL_law_732 : decode code 732 = .ok (.aload_n 0, 1) := la_dk la_t6_ok (i := 6) rfl
theorem dL_law_733 : decode code 733 = .ok (.iload 4, 2) := la_dk la_t6_ok (i := 7) rfl
theorem dL_law_735 : decode code 735 = .ok (.iconst 1, 1) := la_dk la_t6_ok (i := 8) rfl
theorem dL_law_736 : decode code 736 = .ok (.iadd, 1) := la_dk la_t6_ok (i := 9) rfl
theorem dL_law_737 : decode code 737 = .ok (.iaload, 1) := la_dk la_t6_ok (i := 10) rfl
theorem dL_law_738 : decode code 738 = .ok (.invokevirtual 90, 3) := la_dk la_t6_ok (i := 11) rfl
theorem dL_law_741 : decode code 741 = .ok (.pop, 1) := la_dk la_t6_ok (i := 12) rfl
theorem dL_law_742 : decode code 742 = .ok (.goto 1149, 3) := la_dk la_t6_ok (i := 13) rfl
theorem dL_law_745 : decode code 745 = .ok (.aload_n 1, 1) := la_dk la_t6_ok (i := 14) rfl
theorem dL_law_746 : decode code 746 = .ok (.aload_n 0, 1) := la_dk la_t6_ok (i := 15) rfl
theorem dL_law_747 : decode code 747 = .ok (.iload 4, 2) := la_dk la_t6_ok (i := 16) rfl
theorem dL_law_749 : decode code 749 = .ok (.iconst 1, 1) := la_dk la_t6_ok (i := 17) rfl
theorem dL_law_750 : decode code 750 = .ok (.iadd, 1) := la_dk la_t6_ok (i := 18) rfl
theorem dL_law_751 : decode code 751 = .ok (.iaload, 1) := la_dk la_t6_ok (i := 19) rfl
theorem dL_law_752 : decode code 752 = .ok (.aload_n 0, 1) := la_dk la_t6_ok (i := 20) rfl
theorem dL_law_753 : decode code 753 = .ok (.iload 4, 2) := la_dk la_t6_ok (i := 21) rfl
theorem dL_law_755 : decode code 755 = .ok (.iconst 2, 1) := la_dk la_t6_ok (i := 22) rfl
theorem dL_law_756 : decode code 756 = .ok (.iadd, 1) := la_dk la_t6_ok (i := 23) rfl
theorem dL_law_757 : decode code 757 = .ok (.iaload, 1) := la_dk la_t6_ok (i := 24) rfl
theorem dL_law_758 : decode code 758 = .ok (.aload_n 0, 1) := la_dk la_t6_ok (i := 25) rfl
theorem dL_law_759 : decode code 759 = .ok (.iload 4, 2) := la_dk la_t6_ok (i := 26) rfl
theorem dL_law_761 : decode code 761 = .ok (.iconst 3, 1) := la_dk la_t6_ok (i := 27) rfl
theorem dL_law_762 : decode code 762 = .ok (.iadd, 1) := la_dk la_t6_ok (i := 28) rfl
theorem dL_law_763 : decode code 763 = .ok (.iaload, 1) := la_dk la_t6_ok (i := 29) rfl
theorem dL_law_764 : decode code 764 = .ok (.ifCond .eq 7, 3) := la_dk la_t6_ok (i := 30) rfl
theorem dL_law_767 : decode code 767 = .ok (.iconst 1, 1) := la_dk la_t6_ok (i := 31) rfl
theorem dL_law_768 : decode code 768 = .ok (.goto 4, 3) := la_dk la_t6_ok (i := 32) rfl
theorem dL_law_771 : decode code 771 = .ok (.iconst 0, 1) := la_dk la_t6_ok (i := 33) rfl
theorem dL_law_772 : decode code 772 = .ok (.invokevirtual 91, 3) := la_dk la_t6_ok (i := 34) rfl
theorem dL_law_775 : decode code 775 = .ok (.pop, 1) := la_dk la_t6_ok (i := 35) rfl
theorem dL_law_776 : decode code 776 = .ok (.aload_n 2, 1) := la_dk la_t6_ok (i := 36) rfl
theorem dL_law_777 : decode code 777 = .ok (.aload_n 0, 1) := la_dk la_t6_ok (i := 37) rfl
theorem dL_law_778 : decode code 778 = .ok (.iload 4, 2) := la_dk la_t6_ok (i := 38) rfl
theorem dL_law_780 : decode code 780 = .ok (.iconst 1, 1) := la_dk la_t6_ok (i := 39) rfl
theorem dL_law_781 : decode code 781 = .ok (.iadd, 1) := la_dk la_t6_ok (i := 40) rfl
theorem dL_law_782 : decode code 782 = .ok (.iaload, 1) := la_dk la_t6_ok (i := 41) rfl
theorem dL_law_783 : decode code 783 = .ok (.aload_n 0, 1) := la_dk la_t6_ok (i := 42) rfl
theorem dL_law_784 : decode code 784 = .ok (.iload 4, 2) := la_dk la_t6_ok (i := 43) rfl
theorem dL_law_786 : decode code 786 = .ok (.iconst 2, 1) := la_dk la_t6_ok (i := 44) rfl
theorem dL_law_787 : decode code 787 = .ok (.iadd, 1) := la_dk la_t6_ok (i := 45) rfl
theorem dL_law_788 : decode code 788 = .ok (.iaload, 1) := la_dk la_t6_ok (i := 46) rfl
theorem dL_law_789 : decode code 789 = .ok (.aload_n 0, 1) := la_dk la_t6_ok (i := 47) rfl
theorem dL_law_790 : decode code 790 = .ok (.iload 4, 2) := la_dk la_t6_ok (i := 48) rfl
theorem dL_law_792 : decode code 792 = .ok (.iconst 3, 1) := la_dk la_t6_ok (i := 49) rfl
theorem dL_law_793 : decode code 793 = .ok (.iadd, 1) := la_dk la_t6_ok (i := 50) rfl
theorem dL_law_794 : decode code 794 = .ok (.iaload, 1) := la_dk la_t6_ok (i := 51) rfl
theorem dL_law_795 : decode code 795 = .ok (.ifCond .eq 7, 3) := la_dk la_t6_ok (i := 52) rfl
theorem dL_law_798 : decode code 798 = .ok (.iconst 1, 1) := la_dk la_t6_ok (i := 53) rfl
theorem dL_law_799 : decode code 799 = .ok (.goto 4, 3) := la_dk la_t6_ok (i := 54) rfl
theorem dL_law_802 : decode code 802 = .ok (.iconst 0, 1) := la_dk la_t6_ok (i := 55) rfl
theorem dL_law_803 : decode code 803 = .ok (.invokevirtual 95, 3) := la_dk la_t6_ok (i := 56) rfl
theorem dL_law_806 : decode code 806 = .ok (.pop, 1) := la_dk la_t6_ok (i := 57) rfl
theorem dL_law_807 : decode code 807 = .ok (.goto 1084, 3) := la_dk la_t6_ok (i := 58) rfl
theorem dL_law_810 : decode code 810 = .ok (.aload_n 1, 1) := la_dk la_t6_ok (i := 59) rfl
def la_t7 : List (Nat × Instr × Nat) := [(811, .aload_n 0, 1), (812, .iload 4, 2), (814, .iconst 1, 1), (815, .iadd, 1), (816, .iaload, 1), (817, .aload_n 0, 1), (818, .iload 4, 2), (820, .iconst 2, 1), (821, .iadd, 1), (822, .iaload, 1), (823, .aload_n 0, 1), (824, .iload 4, 2), (826, .iconst 3, 1), (827, .iadd, 1), (828, .iaload, 1), (829, .ifCond .eq 7, 3), (832, .iconst 1, 1), (833, .goto 4, 3), (836, .iconst 0, 1), (837, .invokevirtual 96, 3), (840, .pop, 1), (841, .aload_n 2, 1), (842, .aload_n 0, 1), (843, .iload 4, 2), (845, .iconst 1, 1), (846, .iadd, 1), (847, .iaload, 1), (848, .aload_n 0, 1), (849, .iload 4, 2), (851, .iconst 2, 1), (852, .iadd, 1), (853, .iaload, 1), (854, .aload_n 0, 1), (855, .iload 4, 2), (857, .iconst 3, 1), (858, .iadd, 1), (859, .iaload, 1), (860, .ifCond .eq 7, 3), (863, .iconst 1, 1), (864, .goto 4, 3), (867, .iconst 0, 1), (868, .invokevirtual 99, 3), (871, .pop, 1), (872, .goto 1019, 3), (875, .aload_n 1, 1), (876, .aload_n 0, 1), (877, .iload 4, 2), (879, .iconst 1, 1), (880, .iadd, 1), (881, .iaload, 1), (882, .aload_n 0, 1), (883, .iload 4, 2), (885, .iconst 2, 1), (886, .iadd, 1), (887, .iaload, 1), (888, .invokevirtual 100, 3), (891, .pop, 1), (892, .aload_n 2, 1), (893, .aload_n 0, 1), (894, .iload 4, 2)]
set_option maxRecDepth 1000000 in
theorem la_t7_ok : la_t7.all la_dck = true := by decide +kernel
theorem dL_law_811 : decode code 811 = .ok (.aload_n 0, 1) := la_dk la_t7_ok (i := 0) rfl
theorem dL_law_812 : decode code 812 = .ok (.iload 4, 2) := la_dk la_t7_ok (i := 1) rfl
theorem dL_law_814 : decode code 814 = .ok (.iconst 1, 1) := la_dk la_t7_ok (i := 2) rfl
theorem dL_law_815 : decode code 815 = .ok (.iadd, 1) := la_dk la_t7_ok (i := 3) rfl
theorem dL_law_816 : decode code 816 = .ok (.iaload, 1) := la_dk la_t7_ok (i := 4) rfl
theorem dL_law_817 : decode code 817 = .ok (.aload_n 0, 1) := la_dk la_t7_ok (i := 5) rfl
theorem dL_law_818 : decode code 818 = .ok (.iload 4, 2) := la_dk la_t7_ok (i := 6) rfl
theorem dL_law_820 : decode code 820 = .ok (.iconst 2, 1) := la_dk la_t7_ok (i := 7) rfl
theorem dL_law_821 : decode code 821 = .ok (.iadd, 1) := la_dk la_t7_ok (i := 8) rfl
theorem dL_law_822 : decode code 822 = .ok (.iaload, 1) := la_dk la_t7_ok (i := 9) rfl
theorem dL_law_823 : decode code 823 = .ok (.aload_n 0, 1) := la_dk la_t7_ok (i := 10) rfl
theorem dL_law_824 : decode code 824 = .ok (.iload 4, 2) := la_dk la_t7_ok (i := 11) rfl
theorem dL_law_826 : decode code 826 = .ok (.iconst 3, 1) := la_dk la_t7_ok (i := 12) rfl
theorem dL_law_827 : decode code 827 = .ok (.iadd, 1) := la_dk la_t7_ok (i := 13) rfl
theorem dL_law_828 : decode code 828 = .ok (.iaload, 1) := la_dk la_t7_ok (i := 14) rfl
theorem dL_law_829 : decode code 829 = .ok (.ifCond .eq 7, 3) := la_dk la_t7_ok (i := 15) rfl
theorem dL_law_832 : decode code 832 = .ok (.iconst 1, 1) := la_dk la_t7_ok (i := 16) rfl
theorem dL_law_833 : decode code 833 = .ok (.goto 4, 3) := la_dk la_t7_ok (i := 17) rfl
theorem dL_law_836 : decode code 836 = .ok (.iconst 0, 1) := la_dk la_t7_ok (i := 18) rfl
theorem dL_law_837 : decode code 837 = .ok (.invokevirtual 96, 3) := la_dk la_t7_ok (i := 19) rfl
theorem dL_law_840 : decode code 840 = .ok (.pop, 1) := la_dk la_t7_ok (i := 20) rfl
theorem dL_law_841 : decode code 841 = .ok (.aload_n 2, 1) := la_dk la_t7_ok (i := 21) rfl
theorem dL_law_842 : decode code 842 = .ok (.aload_n 0, 1) := la_dk la_t7_ok (i := 22) rfl
theorem dL_law_843 : decode code 843 = .ok (.iload 4, 2) := la_dk la_t7_ok (i := 23) rfl
theorem dL_law_845 : decode code 845 = .ok (.iconst 1, 1) := la_dk la_t7_ok (i := 24) rfl
theorem dL_law_846 : decode code 846 = .ok (.iadd, 1) := la_dk la_t7_ok (i := 25) rfl
theorem dL_law_847 : decode code 847 = .ok (.iaload, 1) := la_dk la_t7_ok (i := 26) rfl
theorem dL_law_848 : decode code 848 = .ok (.aload_n 0, 1) := la_dk la_t7_ok (i := 27) rfl
theorem dL_law_849 : decode code 849 = .ok (.iload 4, 2) := la_dk la_t7_ok (i := 28) rfl
theorem dL_law_851 : decode code 851 = .ok (.iconst 2, 1) := la_dk la_t7_ok (i := 29) rfl
theorem dL_law_852 : decode code 852 = .ok (.iadd, 1) := la_dk la_t7_ok (i := 30) rfl
theorem dL_law_853 : decode code 853 = .ok (.iaload, 1) := la_dk la_t7_ok (i := 31) rfl
theorem dL_law_854 : decode code 854 = .ok (.aload_n 0, 1) := la_dk la_t7_ok (i := 32) rfl
theorem dL_law_855 : decode code 855 = .ok (.iload 4, 2) := la_dk la_t7_ok (i := 33) rfl
theorem dL_law_857 : decode code 857 = .ok (.iconst 3, 1) := la_dk la_t7_ok (i := 34) rfl
theorem dL_law_858 : decode code 858 = .ok (.iadd, 1) := la_dk la_t7_ok (i := 35) rfl
theorem dL_law_859 : decode code 859 = .ok (.iaload, 1) := la_dk la_t7_ok (i := 36) rfl
theorem dL_law_860 : decode code 860 = .ok (.ifCond .eq 7, 3) := la_dk la_t7_ok (i := 37) rfl
theorem dL_law_863 : decode code 863 = .ok (.iconst 1, 1) := la_dk la_t7_ok (i := 38) rfl
theorem dL_law_864 : decode code 864 = .ok (.goto 4, 3) := la_dk la_t7_ok (i := 39) rfl
theorem dL_law_867 : decode code 867 = .ok (.iconst 0, 1) := la_dk la_t7_ok (i := 40) rfl
theorem dL_law_868 : decode code 868 = .ok (.invokevirtual 99, 3) := la_dk la_t7_ok (i := 41) rfl
theorem dL_law_871 : decode code 871 = .ok (.pop, 1) := la_dk la_t7_ok (i := 42) rfl
theorem dL_law_872 : decode code 872 = .ok (.goto 1019, 3) := la_dk la_t7_ok (i := 43) rfl
theorem dL_law_875 : decode code 875 = .ok (.aload_n 1, 1) := la_dk la_t7_ok (i := 44) rfl
theorem dL_law_876 : decode code 876 = .ok (.aload_n 0, 1) := la_dk la_t7_ok (i := 45) rfl
theorem dL_law_877 : decode code 877 = .ok (.iload 4, 2) := la_dk la_t7_ok (i := 46) rfl
theorem dL_law_879 : decode code 879 = .ok (.iconst 1, 1) := la_dk la_t7_ok (i := 47) rfl
theorem dL_law_880 : decode code 880 = .ok (.iadd, 1) := la_dk la_t7_ok (i := 48) rfl
theorem dL_law_881 : decode code 881 = .ok (.iaload, 1) := la_dk la_t7_ok (i := 49) rfl
theorem dL_law_882 : decode code 882 = .ok (.aload_n 0, 1) := la_dk la_t7_ok (i := 50) rfl
theorem dL_law_883 : decode code 883 = .ok (.iload 4, 2) := la_dk la_t7_ok (i := 51) rfl
theorem dL_law_885 : decode code 885 = .ok (.iconst 2, 1) := la_dk la_t7_ok (i := 52) rfl
theorem dL_law_886 : decode code 886 = .ok (.iadd, 1) := la_dk la_t7_ok (i := 53) rfl
theorem dL_law_887 : decode code 887 = .ok (.iaload, 1) := la_dk la_t7_ok (i := 54) rfl
theorem dL_law_888 : decode code 888 = .ok (.invokevirtual 100, 3) := la_dk la_t7_ok (i := 55) rfl
theorem dL_law_891 : decode code 891 = .ok (.pop, 1) := la_dk la_t7_ok (i := 56) rfl
theorem dL_law_892 : decode code 892 = .ok (.aload_n 2, 1) := la_dk la_t7_ok (i := 57) rfl
theorem dL_law_893 : decode code 893 = .ok (.aload_n 0, 1) := la_dk la_t7_ok (i := 58) rfl
theorem dL_law_894 : decode code 894 = .ok (.iload 4, 2) := la_dk la_t7_ok (i := 59) rfl
def la_t8 : List (Nat × Instr × Nat) := [(896, .iconst 1, 1), (897, .iadd, 1), (898, .iaload, 1), (899, .aload_n 0, 1), (900, .iload 4, 2), (902, .iconst 2, 1), (903, .iadd, 1), (904, .iaload, 1), (905, .invokevirtual 103, 3), (908, .pop, 1), (909, .goto 982, 3), (912, .aload_n 1, 1), (913, .aload_n 0, 1), (914, .iload 4, 2), (916, .iconst 1, 1), (917, .iadd, 1), (918, .iaload, 1), (919, .invokevirtual 104, 3), (922, .pop, 1), (923, .aload_n 2, 1), (924, .aload_n 0, 1), (925, .iload 4, 2), (927, .iconst 1, 1), (928, .iadd, 1), (929, .iaload, 1), (930, .invokevirtual 107, 3), (933, .pop, 1), (934, .goto 957, 3), (937, .aload_n 1, 1), (938, .aload_n 0, 1), (939, .iload 4, 2), (941, .iconst 1, 1), (942, .iadd, 1), (943, .iaload, 1), (944, .aload_n 0, 1), (945, .iload 4, 2), (947, .iconst 2, 1), (948, .iadd, 1), (949, .iaload, 1), (950, .invokevirtual 108, 3), (953, .pop, 1), (954, .aload_n 2, 1), (955, .aload_n 0, 1), (956, .iload 4, 2), (958, .iconst 1, 1), (959, .iadd, 1), (960, .iaload, 1), (961, .aload_n 0, 1), (962, .iload 4, 2), (964, .iconst 2, 1), (965, .iadd, 1), (966, .iaload, 1), (967, .invokevirtual 111, 3), (970, .pop, 1), (971, .goto 920, 3), (974, .aload_n 1, 1), (975, .aload_n 0, 1), (976, .iload 4, 2), (978, .iconst 1, 1), (979, .iadd, 1)]
set_option maxRecDepth 1000000 in
theorem la_t8_ok : la_t8.all la_dck = true := by decide +kernel
theorem dL_law_896 : decode code 896 = .ok (.iconst 1, 1) := la_dk la_t8_ok (i := 0) rfl
theorem dL_law_897 : decode code 897 = .ok (.iadd, 1) := la_dk la_t8_ok (i := 1) rfl
theorem dL_law_898 : decode code 898 = .ok (.iaload, 1) := la_dk la_t8_ok (i := 2) rfl
theorem dL_law_899 : decode code 899 = .ok (.aload_n 0, 1) := la_dk la_t8_ok (i := 3) rfl
theorem dL_law_900 : decode code 900 = .ok (.iload 4, 2) := la_dk la_t8_ok (i := 4) rfl
theorem dL_law_902 : decode code 902 = .ok (.iconst 2, 1) := la_dk la_t8_ok (i := 5) rfl
theorem dL_law_903 : decode code 903 = .ok (.iadd, 1) := la_dk la_t8_ok (i := 6) rfl
theorem dL_law_904 : decode code 904 = .ok (.iaload, 1) := la_dk la_t8_ok (i := 7) rfl
theorem dL_law_905 : decode code 905 = .ok (.invokevirtual 103, 3) := la_dk la_t8_ok (i := 8) rfl
theorem dL_law_908 : decode code 908 = .ok (.pop, 1) := la_dk la_t8_ok (i := 9) rfl
theorem dL_law_909 : decode code 909 = .ok (.goto 982, 3) := la_dk la_t8_ok (i := 10) rfl
theorem dL_law_912 : decode code 912 = .ok (.aload_n 1, 1) := la_dk la_t8_ok (i := 11) rfl
theorem dL_law_913 : decode code 913 = .ok (.aload_n 0, 1) := la_dk la_t8_ok (i := 12) rfl
theorem dL_law_914 : decode code 914 = .ok (.iload 4, 2) := la_dk la_t8_ok (i := 13) rfl
theorem dL_law_916 : decode code 916 = .ok (.iconst 1, 1) := la_dk la_t8_ok (i := 14) rfl
theorem dL_law_917 : decode code 917 = .ok (.iadd, 1) := la_dk la_t8_ok (i := 15) rfl
theorem dL_law_918 : decode code 918 = .ok (.iaload, 1) := la_dk la_t8_ok (i := 16) rfl
theorem dL_law_919 : decode code 919 = .ok (.invokevirtual 104, 3) := la_dk la_t8_ok (i := 17) rfl
theorem dL_law_922 : decode code 922 = .ok (.pop, 1) := la_dk la_t8_ok (i := 18) rfl
theorem dL_law_923 : decode code 923 = .ok (.aload_n 2, 1) := la_dk la_t8_ok (i := 19) rfl
theorem dL_law_924 : decode code 924 = .ok (.aload_n 0, 1) := la_dk la_t8_ok (i := 20) rfl
theorem dL_law_925 : decode code 925 = .ok (.iload 4, 2) := la_dk la_t8_ok (i := 21) rfl
theorem dL_law_927 : decode code 927 = .ok (.iconst 1, 1) := la_dk la_t8_ok (i := 22) rfl
theorem dL_law_928 : decode code 928 = .ok (.iadd, 1) := la_dk la_t8_ok (i := 23) rfl
theorem dL_law_929 : decode code 929 = .ok (.iaload, 1) := la_dk la_t8_ok (i := 24) rfl
theorem dL_law_930 : decode code 930 = .ok (.invokevirtual 107, 3) := la_dk la_t8_ok (i := 25) rfl
theorem dL_law_933 : decode code 933 = .ok (.pop, 1) := la_dk la_t8_ok (i := 26) rfl
theorem dL_law_934 : decode code 934 = .ok (.goto 957, 3) := la_dk la_t8_ok (i := 27) rfl
theorem dL_law_937 : decode code 937 = .ok (.aload_n 1, 1) := la_dk la_t8_ok (i := 28) rfl
theorem dL_law_938 : decode code 938 = .ok (.aload_n 0, 1) := la_dk la_t8_ok (i := 29) rfl
theorem dL_law_939 : decode code 939 = .ok (.iload 4, 2) := la_dk la_t8_ok (i := 30) rfl
theorem dL_law_941 : decode code 941 = .ok (.iconst 1, 1) := la_dk la_t8_ok (i := 31) rfl
theorem dL_law_942 : decode code 942 = .ok (.iadd, 1) := la_dk la_t8_ok (i := 32) rfl
theorem dL_law_943 : decode code 943 = .ok (.iaload, 1) := la_dk la_t8_ok (i := 33) rfl
theorem dL_law_944 : decode code 944 = .ok (.aload_n 0, 1) := la_dk la_t8_ok (i := 34) rfl
theorem dL_law_945 : decode code 945 = .ok (.iload 4, 2) := la_dk la_t8_ok (i := 35) rfl
theorem dL_law_947 : decode code 947 = .ok (.iconst 2, 1) := la_dk la_t8_ok (i := 36) rfl
theorem dL_law_948 : decode code 948 = .ok (.iadd, 1) := la_dk la_t8_ok (i := 37) rfl
theorem dL_law_949 : decode code 949 = .ok (.iaload, 1) := la_dk la_t8_ok (i := 38) rfl
theorem dL_law_950 : decode code 950 = .ok (.invokevirtual 108, 3) := la_dk la_t8_ok (i := 39) rfl
theorem dL_law_953 : decode code 953 = .ok (.pop, 1) := la_dk la_t8_ok (i := 40) rfl
theorem dL_law_954 : decode code 954 = .ok (.aload_n 2, 1) := la_dk la_t8_ok (i := 41) rfl
theorem dL_law_955 : decode code 955 = .ok (.aload_n 0, 1) := la_dk la_t8_ok (i := 42) rfl
theorem dL_law_956 : decode code 956 = .ok (.iload 4, 2) := la_dk la_t8_ok (i := 43) rfl
theorem dL_law_958 : decode code 958 = .ok (.iconst 1, 1) := la_dk la_t8_ok (i := 44) rfl
theorem dL_law_959 : decode code 959 = .ok (.iadd, 1) := la_dk la_t8_ok (i := 45) rfl
theorem dL_law_960 : decode code 960 = .ok (.iaload, 1) := la_dk la_t8_ok (i := 46) rfl
theorem dL_law_961 : decode code 961 = .ok (.aload_n 0, 1) := la_dk la_t8_ok (i := 47) rfl
theorem dL_law_962 : decode code 962 = .ok (.iload 4, 2) := la_dk la_t8_ok (i := 48) rfl
theorem dL_law_964 : decode code 964 = .ok (.iconst 2, 1) := la_dk la_t8_ok (i := 49) rfl
theorem dL_law_965 : decode code 965 = .ok (.iadd, 1) := la_dk la_t8_ok (i := 50) rfl
theorem dL_law_966 : decode code 966 = .ok (.iaload, 1) := la_dk la_t8_ok (i := 51) rfl
theorem dL_law_967 : decode code 967 = .ok (.invokevirtual 111, 3) := la_dk la_t8_ok (i := 52) rfl
theorem dL_law_970 : decode code 970 = .ok (.pop, 1) := la_dk la_t8_ok (i := 53) rfl
theorem dL_law_971 : decode code 971 = .ok (.goto 920, 3) := la_dk la_t8_ok (i := 54) rfl
theorem dL_law_974 : decode code 974 = .ok (.aload_n 1, 1) := la_dk la_t8_ok (i := 55) rfl
theorem dL_law_975 : decode code 975 = .ok (.aload_n 0, 1) := la_dk la_t8_ok (i := 56) rfl
theorem dL_law_976 : decode code 976 = .ok (.iload 4, 2) := la_dk la_t8_ok (i := 57) rfl
theorem dL_law_978 : decode code 978 = .ok (.iconst 1, 1) := la_dk la_t8_ok (i := 58) rfl
theorem dL_law_979 : decode code 979 = .ok (.iadd, 1) := la_dk la_t8_ok (i := 59) rfl
def la_t9 : List (Nat × Instr × Nat) := [(980, .iaload, 1), (981, .aload_n 0, 1), (982, .iload 4, 2), (984, .iconst 2, 1), (985, .iadd, 1), (986, .iaload, 1), (987, .invokevirtual 112, 3), (990, .pop, 1), (991, .aload_n 2, 1), (992, .aload_n 0, 1), (993, .iload 4, 2), (995, .iconst 1, 1), (996, .iadd, 1), (997, .iaload, 1), (998, .aload_n 0, 1), (999, .iload 4, 2), (1001, .iconst 2, 1), (1002, .iadd, 1), (1003, .iaload, 1), (1004, .invokevirtual 115, 3), (1007, .pop, 1), (1008, .goto 883, 3), (1011, .aload_n 1, 1), (1012, .aload_n 0, 1), (1013, .iload 4, 2), (1015, .iconst 1, 1), (1016, .iadd, 1), (1017, .iaload, 1), (1018, .invokevirtual 116, 3), (1021, .pop, 1), (1022, .aload_n 2, 1), (1023, .aload_n 0, 1), (1024, .iload 4, 2), (1026, .iconst 1, 1), (1027, .iadd, 1), (1028, .iaload, 1), (1029, .invokevirtual 119, 3), (1032, .pop, 1), (1033, .goto 858, 3), (1036, .aload_n 1, 1), (1037, .aload_n 0, 1), (1038, .iload 4, 2), (1040, .iconst 1, 1), (1041, .iadd, 1), (1042, .iaload, 1), (1043, .aload_n 0, 1), (1044, .iload 4, 2), (1046, .iconst 2, 1), (1047, .iadd, 1), (1048, .iaload, 1), (1049, .invokevirtual 120, 3), (1052, .pop, 1), (1053, .aload_n 2, 1), (1054, .aload_n 0, 1), (1055, .iload 4, 2), (1057, .iconst 1, 1), (1058, .iadd, 1), (1059, .iaload, 1), (1060, .aload_n 0, 1), (1061, .iload 4, 2)]
set_option maxRecDepth 1000000 in
theorem la_t9_ok : la_t9.all la_dck = true := by decide +kernel
theorem dL_law_980 : decode code 980 = .ok (.iaload, 1) := la_dk la_t9_ok (i := 0) rfl
theorem dL_law_981 : decode code 981 = .ok (.aload_n 0, 1) := la_dk la_t9_ok (i := 1) rfl
theorem dL_law_982 : decode code 982 = .ok (.iload 4, 2) := la_dk la_t9_ok (i := 2) rfl
theorem dL_law_984 : decode code 984 = .ok (.iconst 2, 1) := la_dk la_t9_ok (i := 3) rfl
theorem dL_law_985 : decode code 985 = .ok (.iadd, 1) := la_dk la_t9_ok (i := 4) rfl
theorem dL_law_986 : decode code 986 = .ok (.iaload, 1) := la_dk la_t9_ok (i := 5) rfl
theorem dL_law_987 : decode code 987 = .ok (.invokevirtual 112, 3) := la_dk la_t9_ok (i := 6) rfl
theorem dL_law_990 : decode code 990 = .ok (.pop, 1) := la_dk la_t9_ok (i := 7) rfl
theorem dL_law_991 : decode code 991 = .ok (.aload_n 2, 1) := la_dk la_t9_ok (i := 8) rfl
theorem dL_law_992 : decode code 992 = .ok (.aload_n 0, 1) := la_dk la_t9_ok (i := 9) rfl
theorem dL_law_993 : decode code 993 = .ok (.iload 4, 2) := la_dk la_t9_ok (i := 10) rfl
theorem dL_law_995 : decode code 995 = .ok (.iconst 1, 1) := la_dk la_t9_ok (i := 11) rfl
theorem dL_law_996 : decode code 996 = .ok (.iadd, 1) := la_dk la_t9_ok (i := 12) rfl
theorem dL_law_997 : decode code 997 = .ok (.iaload, 1) := la_dk la_t9_ok (i := 13) rfl
theorem dL_law_998 : decode code 998 = .ok (.aload_n 0, 1) := la_dk la_t9_ok (i := 14) rfl
theorem dL_law_999 : decode code 999 = .ok (.iload 4, 2) := la_dk la_t9_ok (i := 15) rfl
theorem dL_law_1001 : decode code 1001 = .ok (.iconst 2, 1) := la_dk la_t9_ok (i := 16) rfl
theorem dL_law_1002 : decode code 1002 = .ok (.iadd, 1) := la_dk la_t9_ok (i := 17) rfl
theorem dL_law_1003 : decode code 1003 = .ok (.iaload, 1) := la_dk la_t9_ok (i := 18) rfl
theorem dL_law_1004 : decode code 1004 = .ok (.invokevirtual 115, 3) := la_dk la_t9_ok (i := 19) rfl
theorem dL_law_1007 : decode code 1007 = .ok (.pop, 1) := la_dk la_t9_ok (i := 20) rfl
theorem dL_law_1008 : decode code 1008 = .ok (.goto 883, 3) := la_dk la_t9_ok (i := 21) rfl
theorem dL_law_1011 : decode code 1011 = .ok (.aload_n 1, 1) := la_dk la_t9_ok (i := 22) rfl
theorem dL_law_1012 : decode code 1012 = .ok (.aload_n 0, 1) := la_dk la_t9_ok (i := 23) rfl
theorem dL_law_1013 : decode code 1013 = .ok (.iload 4, 2) := la_dk la_t9_ok (i := 24) rfl
theorem dL_law_1015 : decode code 1015 = .ok (.iconst 1, 1) := la_dk la_t9_ok (i := 25) rfl
theorem dL_law_1016 : decode code 1016 = .ok (.iadd, 1) := la_dk la_t9_ok (i := 26) rfl
theorem dL_law_1017 : decode code 1017 = .ok (.iaload, 1) := la_dk la_t9_ok (i := 27) rfl
theorem dL_law_1018 : decode code 1018 = .ok (.invokevirtual 116, 3) := la_dk la_t9_ok (i := 28) rfl
theorem dL_law_1021 : decode code 1021 = .ok (.pop, 1) := la_dk la_t9_ok (i := 29) rfl
theorem dL_law_1022 : decode code 1022 = .ok (.aload_n 2, 1) := la_dk la_t9_ok (i := 30) rfl
theorem dL_law_1023 : decode code 1023 = .ok (.aload_n 0, 1) := la_dk la_t9_ok (i := 31) rfl
theorem dL_law_1024 : decode code 1024 = .ok (.iload 4, 2) := la_dk la_t9_ok (i := 32) rfl
theorem dL_law_1026 : decode code 1026 = .ok (.iconst 1, 1) := la_dk la_t9_ok (i := 33) rfl
theorem dL_law_1027 : decode code 1027 = .ok (.iadd, 1) := la_dk la_t9_ok (i := 34) rfl
theorem dL_law_1028 : decode code 1028 = .ok (.iaload, 1) := la_dk la_t9_ok (i := 35) rfl
theorem dL_law_1029 : decode code 1029 = .ok (.invokevirtual 119, 3) := la_dk la_t9_ok (i := 36) rfl
theorem dL_law_1032 : decode code 1032 = .ok (.pop, 1) := la_dk la_t9_ok (i := 37) rfl
theorem dL_law_1033 : decode code 1033 = .ok (.goto 858, 3) := la_dk la_t9_ok (i := 38) rfl
theorem dL_law_1036 : decode code 1036 = .ok (.aload_n 1, 1) := la_dk la_t9_ok (i := 39) rfl
theorem dL_law_1037 : decode code 1037 = .ok (.aload_n 0, 1) := la_dk la_t9_ok (i := 40) rfl
theorem dL_law_1038 : decode code 1038 = .ok (.iload 4, 2) := la_dk la_t9_ok (i := 41) rfl
theorem dL_law_1040 : decode code 1040 = .ok (.iconst 1, 1) := la_dk la_t9_ok (i := 42) rfl
theorem dL_law_1041 : decode code 1041 = .ok (.iadd, 1) := la_dk la_t9_ok (i := 43) rfl
theorem dL_law_1042 : decode code 1042 = .ok (.iaload, 1) := la_dk la_t9_ok (i := 44) rfl
theorem dL_law_1043 : decode code 1043 = .ok (.aload_n 0, 1) := la_dk la_t9_ok (i := 45) rfl
theorem dL_law_1044 : decode code 1044 = .ok (.iload 4, 2) := la_dk la_t9_ok (i := 46) rfl
theorem dL_law_1046 : decode code 1046 = .ok (.iconst 2, 1) := la_dk la_t9_ok (i := 47) rfl
theorem dL_law_1047 : decode code 1047 = .ok (.iadd, 1) := la_dk la_t9_ok (i := 48) rfl
theorem dL_law_1048 : decode code 1048 = .ok (.iaload, 1) := la_dk la_t9_ok (i := 49) rfl
theorem dL_law_1049 : decode code 1049 = .ok (.invokevirtual 120, 3) := la_dk la_t9_ok (i := 50) rfl
theorem dL_law_1052 : decode code 1052 = .ok (.pop, 1) := la_dk la_t9_ok (i := 51) rfl
theorem dL_law_1053 : decode code 1053 = .ok (.aload_n 2, 1) := la_dk la_t9_ok (i := 52) rfl
theorem dL_law_1054 : decode code 1054 = .ok (.aload_n 0, 1) := la_dk la_t9_ok (i := 53) rfl
theorem dL_law_1055 : decode code 1055 = .ok (.iload 4, 2) := la_dk la_t9_ok (i := 54) rfl
theorem dL_law_1057 : decode code 1057 = .ok (.iconst 1, 1) := la_dk la_t9_ok (i := 55) rfl
theorem dL_law_1058 : decode code 1058 = .ok (.iadd, 1) := la_dk la_t9_ok (i := 56) rfl
theorem dL_law_1059 : decode code 1059 = .ok (.iaload, 1) := la_dk la_t9_ok (i := 57) rfl
theorem dL_law_1060 : decode code 1060 = .ok (.aload_n 0, 1) := la_dk la_t9_ok (i := 58) rfl
theorem dL_law_1061 : decode code 1061 = .ok (.iload 4, 2) := la_dk la_t9_ok (i := 59) rfl
def la_t10 : List (Nat × Instr × Nat) := [(1063, .iconst 2, 1), (1064, .iadd, 1), (1065, .iaload, 1), (1066, .invokevirtual 123, 3), (1069, .pop, 1), (1070, .goto 821, 3), (1073, .aload_n 1, 1), (1074, .aload_n 0, 1), (1075, .iload 4, 2), (1077, .iconst 1, 1), (1078, .iadd, 1), (1079, .iaload, 1), (1080, .invokevirtual 124, 3), (1083, .pop, 1), (1084, .aload_n 2, 1), (1085, .aload_n 0, 1), (1086, .iload 4, 2), (1088, .iconst 1, 1), (1089, .iadd, 1), (1090, .iaload, 1), (1091, .invokevirtual 127, 3), (1094, .pop, 1), (1095, .goto 796, 3), (1098, .aload_n 1, 1), (1099, .aload_n 0, 1), (1100, .iload 4, 2), (1102, .iconst 1, 1), (1103, .iadd, 1), (1104, .iaload, 1), (1105, .aload_n 0, 1), (1106, .iload 4, 2), (1108, .iconst 2, 1), (1109, .iadd, 1), (1110, .iaload, 1), (1111, .ifCond .eq 7, 3), (1114, .iconst 1, 1), (1115, .goto 4, 3), (1118, .iconst 0, 1), (1119, .aload_n 0, 1), (1120, .iload 4, 2), (1122, .iconst 3, 1), (1123, .iadd, 1), (1124, .iaload, 1), (1125, .invokevirtual 128, 3), (1128, .pop, 1), (1129, .aload_n 2, 1), (1130, .aload_n 0, 1), (1131, .iload 4, 2), (1133, .iconst 1, 1), (1134, .iadd, 1), (1135, .iaload, 1), (1136, .aload_n 0, 1), (1137, .iload 4, 2), (1139, .iconst 2, 1), (1140, .iadd, 1), (1141, .iaload, 1), (1142, .ifCond .eq 7, 3), (1145, .iconst 1, 1), (1146, .goto 4, 3), (1149, .iconst 0, 1)]
set_option maxRecDepth 1000000 in
theorem la_t10_ok : la_t10.all la_dck = true := by decide +kernel
theorem dL_law_1063 : decode code 1063 = .ok (.iconst 2, 1) := la_dk la_t10_ok (i := 0) rfl
theorem dL_law_1064 : decode code 1064 = .ok (.iadd, 1) := la_dk la_t10_ok (i := 1) rfl
theorem dL_law_1065 : decode code 1065 = .ok (.iaload, 1) := la_dk la_t10_ok (i := 2) rfl
theorem dL_law_1066 : decode code 1066 = .ok (.invokevirtual 123, 3) := la_dk la_t10_ok (i := 3) rfl
theorem dL_law_1069 : decode code 1069 = .ok (.pop, 1) := la_dk la_t10_ok (i := 4) rfl
theorem dL_law_1070 : decode code 1070 = .ok (.goto 821, 3) := la_dk la_t10_ok (i := 5) rfl
theorem dL_law_1073 : decode code 1073 = .ok (.aload_n 1, 1) := la_dk la_t10_ok (i := 6) rfl
theorem dL_law_1074 : decode code 1074 = .ok (.aload_n 0, 1) := la_dk la_t10_ok (i := 7) rfl
theorem dL_law_1075 : decode code 1075 = .ok (.iload 4, 2) := la_dk la_t10_ok (i := 8) rfl
theorem dL_law_1077 : decode code 1077 = .ok (.iconst 1, 1) := la_dk la_t10_ok (i := 9) rfl
theorem dL_law_1078 : decode code 1078 = .ok (.iadd, 1) := la_dk la_t10_ok (i := 10) rfl
theorem dL_law_1079 : decode code 1079 = .ok (.iaload, 1) := la_dk la_t10_ok (i := 11) rfl
theorem dL_law_1080 : decode code 1080 = .ok (.invokevirtual 124, 3) := la_dk la_t10_ok (i := 12) rfl
theorem dL_law_1083 : decode code 1083 = .ok (.pop, 1) := la_dk la_t10_ok (i := 13) rfl
theorem dL_law_1084 : decode code 1084 = .ok (.aload_n 2, 1) := la_dk la_t10_ok (i := 14) rfl
theorem dL_law_1085 : decode code 1085 = .ok (.aload_n 0, 1) := la_dk la_t10_ok (i := 15) rfl
theorem dL_law_1086 : decode code 1086 = .ok (.iload 4, 2) := la_dk la_t10_ok (i := 16) rfl
theorem dL_law_1088 : decode code 1088 = .ok (.iconst 1, 1) := la_dk la_t10_ok (i := 17) rfl
theorem dL_law_1089 : decode code 1089 = .ok (.iadd, 1) := la_dk la_t10_ok (i := 18) rfl
theorem dL_law_1090 : decode code 1090 = .ok (.iaload, 1) := la_dk la_t10_ok (i := 19) rfl
theorem dL_law_1091 : decode code 1091 = .ok (.invokevirtual 127, 3) := la_dk la_t10_ok (i := 20) rfl
theorem dL_law_1094 : decode code 1094 = .ok (.pop, 1) := la_dk la_t10_ok (i := 21) rfl
theorem dL_law_1095 : decode code 1095 = .ok (.goto 796, 3) := la_dk la_t10_ok (i := 22) rfl
theorem dL_law_1098 : decode code 1098 = .ok (.aload_n 1, 1) := la_dk la_t10_ok (i := 23) rfl
theorem dL_law_1099 : decode code 1099 = .ok (.aload_n 0, 1) := la_dk la_t10_ok (i := 24) rfl
theorem dL_law_1100 : decode code 1100 = .ok (.iload 4, 2) := la_dk la_t10_ok (i := 25) rfl
theorem dL_law_1102 : decode code 1102 = .ok (.iconst 1, 1) := la_dk la_t10_ok (i := 26) rfl
theorem dL_law_1103 : decode code 1103 = .ok (.iadd, 1) := la_dk la_t10_ok (i := 27) rfl
theorem dL_law_1104 : decode code 1104 = .ok (.iaload, 1) := la_dk la_t10_ok (i := 28) rfl
theorem dL_law_1105 : decode code 1105 = .ok (.aload_n 0, 1) := la_dk la_t10_ok (i := 29) rfl
theorem dL_law_1106 : decode code 1106 = .ok (.iload 4, 2) := la_dk la_t10_ok (i := 30) rfl
theorem dL_law_1108 : decode code 1108 = .ok (.iconst 2, 1) := la_dk la_t10_ok (i := 31) rfl
theorem dL_law_1109 : decode code 1109 = .ok (.iadd, 1) := la_dk la_t10_ok (i := 32) rfl
theorem dL_law_1110 : decode code 1110 = .ok (.iaload, 1) := la_dk la_t10_ok (i := 33) rfl
theorem dL_law_1111 : decode code 1111 = .ok (.ifCond .eq 7, 3) := la_dk la_t10_ok (i := 34) rfl
theorem dL_law_1114 : decode code 1114 = .ok (.iconst 1, 1) := la_dk la_t10_ok (i := 35) rfl
theorem dL_law_1115 : decode code 1115 = .ok (.goto 4, 3) := la_dk la_t10_ok (i := 36) rfl
theorem dL_law_1118 : decode code 1118 = .ok (.iconst 0, 1) := la_dk la_t10_ok (i := 37) rfl
theorem dL_law_1119 : decode code 1119 = .ok (.aload_n 0, 1) := la_dk la_t10_ok (i := 38) rfl
theorem dL_law_1120 : decode code 1120 = .ok (.iload 4, 2) := la_dk la_t10_ok (i := 39) rfl
theorem dL_law_1122 : decode code 1122 = .ok (.iconst 3, 1) := la_dk la_t10_ok (i := 40) rfl
theorem dL_law_1123 : decode code 1123 = .ok (.iadd, 1) := la_dk la_t10_ok (i := 41) rfl
theorem dL_law_1124 : decode code 1124 = .ok (.iaload, 1) := la_dk la_t10_ok (i := 42) rfl
theorem dL_law_1125 : decode code 1125 = .ok (.invokevirtual 128, 3) := la_dk la_t10_ok (i := 43) rfl
theorem dL_law_1128 : decode code 1128 = .ok (.pop, 1) := la_dk la_t10_ok (i := 44) rfl
theorem dL_law_1129 : decode code 1129 = .ok (.aload_n 2, 1) := la_dk la_t10_ok (i := 45) rfl
theorem dL_law_1130 : decode code 1130 = .ok (.aload_n 0, 1) := la_dk la_t10_ok (i := 46) rfl
theorem dL_law_1131 : decode code 1131 = .ok (.iload 4, 2) := la_dk la_t10_ok (i := 47) rfl
theorem dL_law_1133 : decode code 1133 = .ok (.iconst 1, 1) := la_dk la_t10_ok (i := 48) rfl
theorem dL_law_1134 : decode code 1134 = .ok (.iadd, 1) := la_dk la_t10_ok (i := 49) rfl
theorem dL_law_1135 : decode code 1135 = .ok (.iaload, 1) := la_dk la_t10_ok (i := 50) rfl
theorem dL_law_1136 : decode code 1136 = .ok (.aload_n 0, 1) := la_dk la_t10_ok (i := 51) rfl
theorem dL_law_1137 : decode code 1137 = .ok (.iload 4, 2) := la_dk la_t10_ok (i := 52) rfl
theorem dL_law_1139 : decode code 1139 = .ok (.iconst 2, 1) := la_dk la_t10_ok (i := 53) rfl
theorem dL_law_1140 : decode code 1140 = .ok (.iadd, 1) := la_dk la_t10_ok (i := 54) rfl
theorem dL_law_1141 : decode code 1141 = .ok (.iaload, 1) := la_dk la_t10_ok (i := 55) rfl
theorem dL_law_1142 : decode code 1142 = .ok (.ifCond .eq 7, 3) := la_dk la_t10_ok (i := 56) rfl
theorem dL_law_1145 : decode code 1145 = .ok (.iconst 1, 1) := la_dk la_t10_ok (i := 57) rfl
theorem dL_law_1146 : decode code 1146 = .ok (.goto 4, 3) := la_dk la_t10_ok (i := 58) rfl
theorem dL_law_1149 : decode code 1149 = .ok (.iconst 0, 1) := la_dk la_t10_ok (i := 59) rfl
def la_t11 : List (Nat × Instr × Nat) := [(1150, .aload_n 0, 1), (1151, .iload 4, 2), (1153, .iconst 3, 1), (1154, .iadd, 1), (1155, .iaload, 1), (1156, .invokevirtual 132, 3), (1159, .pop, 1), (1160, .goto 731, 3), (1163, .aload_n 1, 1), (1164, .aload_n 0, 1), (1165, .iload 4, 2), (1167, .iconst 1, 1), (1168, .iadd, 1), (1169, .iaload, 1), (1170, .ifCond .eq 7, 3), (1173, .iconst 1, 1), (1174, .goto 4, 3), (1177, .iconst 0, 1), (1178, .aload_n 0, 1), (1179, .iload 4, 2), (1181, .iconst 2, 1), (1182, .iadd, 1), (1183, .iaload, 1), (1184, .invokevirtual 133, 3), (1187, .pop, 1), (1188, .aload_n 2, 1), (1189, .aload_n 0, 1), (1190, .iload 4, 2), (1192, .iconst 1, 1), (1193, .iadd, 1), (1194, .iaload, 1), (1195, .ifCond .eq 7, 3), (1198, .iconst 1, 1), (1199, .goto 4, 3), (1202, .iconst 0, 1), (1203, .aload_n 0, 1), (1204, .iload 4, 2), (1206, .iconst 2, 1), (1207, .iadd, 1), (1208, .iaload, 1), (1209, .invokevirtual 137, 3), (1212, .pop, 1), (1213, .goto 678, 3), (1216, .aload_n 1, 1), (1217, .aload_n 0, 1), (1218, .iload 4, 2), (1220, .iconst 1, 1), (1221, .iadd, 1), (1222, .iaload, 1), (1223, .invokevirtual 138, 3), (1226, .pop, 1), (1227, .aload_n 2, 1), (1228, .aload_n 0, 1), (1229, .iload 4, 2), (1231, .iconst 1, 1), (1232, .iadd, 1), (1233, .iaload, 1), (1234, .invokevirtual 141, 3), (1237, .pop, 1), (1238, .goto 653, 3)]
set_option maxRecDepth 1000000 in
theorem la_t11_ok : la_t11.all la_dck = true := by decide +kernel
theorem dL_law_1150 : decode code 1150 = .ok (.aload_n 0, 1) := la_dk la_t11_ok (i := 0) rfl
theorem dL_law_1151 : decode code 1151 = .ok (.iload 4, 2) := la_dk la_t11_ok (i := 1) rfl
theorem dL_law_1153 : decode code 1153 = .ok (.iconst 3, 1) := la_dk la_t11_ok (i := 2) rfl
theorem dL_law_1154 : decode code 1154 = .ok (.iadd, 1) := la_dk la_t11_ok (i := 3) rfl
theorem dL_law_1155 : decode code 1155 = .ok (.iaload, 1) := la_dk la_t11_ok (i := 4) rfl
theorem dL_law_1156 : decode code 1156 = .ok (.invokevirtual 132, 3) := la_dk la_t11_ok (i := 5) rfl
theorem dL_law_1159 : decode code 1159 = .ok (.pop, 1) := la_dk la_t11_ok (i := 6) rfl
theorem dL_law_1160 : decode code 1160 = .ok (.goto 731, 3) := la_dk la_t11_ok (i := 7) rfl
theorem dL_law_1163 : decode code 1163 = .ok (.aload_n 1, 1) := la_dk la_t11_ok (i := 8) rfl
theorem dL_law_1164 : decode code 1164 = .ok (.aload_n 0, 1) := la_dk la_t11_ok (i := 9) rfl
theorem dL_law_1165 : decode code 1165 = .ok (.iload 4, 2) := la_dk la_t11_ok (i := 10) rfl
theorem dL_law_1167 : decode code 1167 = .ok (.iconst 1, 1) := la_dk la_t11_ok (i := 11) rfl
theorem dL_law_1168 : decode code 1168 = .ok (.iadd, 1) := la_dk la_t11_ok (i := 12) rfl
theorem dL_law_1169 : decode code 1169 = .ok (.iaload, 1) := la_dk la_t11_ok (i := 13) rfl
theorem dL_law_1170 : decode code 1170 = .ok (.ifCond .eq 7, 3) := la_dk la_t11_ok (i := 14) rfl
theorem dL_law_1173 : decode code 1173 = .ok (.iconst 1, 1) := la_dk la_t11_ok (i := 15) rfl
theorem dL_law_1174 : decode code 1174 = .ok (.goto 4, 3) := la_dk la_t11_ok (i := 16) rfl
theorem dL_law_1177 : decode code 1177 = .ok (.iconst 0, 1) := la_dk la_t11_ok (i := 17) rfl
theorem dL_law_1178 : decode code 1178 = .ok (.aload_n 0, 1) := la_dk la_t11_ok (i := 18) rfl
theorem dL_law_1179 : decode code 1179 = .ok (.iload 4, 2) := la_dk la_t11_ok (i := 19) rfl
theorem dL_law_1181 : decode code 1181 = .ok (.iconst 2, 1) := la_dk la_t11_ok (i := 20) rfl
theorem dL_law_1182 : decode code 1182 = .ok (.iadd, 1) := la_dk la_t11_ok (i := 21) rfl
theorem dL_law_1183 : decode code 1183 = .ok (.iaload, 1) := la_dk la_t11_ok (i := 22) rfl
theorem dL_law_1184 : decode code 1184 = .ok (.invokevirtual 133, 3) := la_dk la_t11_ok (i := 23) rfl
theorem dL_law_1187 : decode code 1187 = .ok (.pop, 1) := la_dk la_t11_ok (i := 24) rfl
theorem dL_law_1188 : decode code 1188 = .ok (.aload_n 2, 1) := la_dk la_t11_ok (i := 25) rfl
theorem dL_law_1189 : decode code 1189 = .ok (.aload_n 0, 1) := la_dk la_t11_ok (i := 26) rfl
theorem dL_law_1190 : decode code 1190 = .ok (.iload 4, 2) := la_dk la_t11_ok (i := 27) rfl
theorem dL_law_1192 : decode code 1192 = .ok (.iconst 1, 1) := la_dk la_t11_ok (i := 28) rfl
theorem dL_law_1193 : decode code 1193 = .ok (.iadd, 1) := la_dk la_t11_ok (i := 29) rfl
theorem dL_law_1194 : decode code 1194 = .ok (.iaload, 1) := la_dk la_t11_ok (i := 30) rfl
theorem dL_law_1195 : decode code 1195 = .ok (.ifCond .eq 7, 3) := la_dk la_t11_ok (i := 31) rfl
theorem dL_law_1198 : decode code 1198 = .ok (.iconst 1, 1) := la_dk la_t11_ok (i := 32) rfl
theorem dL_law_1199 : decode code 1199 = .ok (.goto 4, 3) := la_dk la_t11_ok (i := 33) rfl
theorem dL_law_1202 : decode code 1202 = .ok (.iconst 0, 1) := la_dk la_t11_ok (i := 34) rfl
theorem dL_law_1203 : decode code 1203 = .ok (.aload_n 0, 1) := la_dk la_t11_ok (i := 35) rfl
theorem dL_law_1204 : decode code 1204 = .ok (.iload 4, 2) := la_dk la_t11_ok (i := 36) rfl
theorem dL_law_1206 : decode code 1206 = .ok (.iconst 2, 1) := la_dk la_t11_ok (i := 37) rfl
theorem dL_law_1207 : decode code 1207 = .ok (.iadd, 1) := la_dk la_t11_ok (i := 38) rfl
theorem dL_law_1208 : decode code 1208 = .ok (.iaload, 1) := la_dk la_t11_ok (i := 39) rfl
theorem dL_law_1209 : decode code 1209 = .ok (.invokevirtual 137, 3) := la_dk la_t11_ok (i := 40) rfl
theorem dL_law_1212 : decode code 1212 = .ok (.pop, 1) := la_dk la_t11_ok (i := 41) rfl
theorem dL_law_1213 : decode code 1213 = .ok (.goto 678, 3) := la_dk la_t11_ok (i := 42) rfl
theorem dL_law_1216 : decode code 1216 = .ok (.aload_n 1, 1) := la_dk la_t11_ok (i := 43) rfl
theorem dL_law_1217 : decode code 1217 = .ok (.aload_n 0, 1) := la_dk la_t11_ok (i := 44) rfl
theorem dL_law_1218 : decode code 1218 = .ok (.iload 4, 2) := la_dk la_t11_ok (i := 45) rfl
theorem dL_law_1220 : decode code 1220 = .ok (.iconst 1, 1) := la_dk la_t11_ok (i := 46) rfl
theorem dL_law_1221 : decode code 1221 = .ok (.iadd, 1) := la_dk la_t11_ok (i := 47) rfl
theorem dL_law_1222 : decode code 1222 = .ok (.iaload, 1) := la_dk la_t11_ok (i := 48) rfl
theorem dL_law_1223 : decode code 1223 = .ok (.invokevirtual 138, 3) := la_dk la_t11_ok (i := 49) rfl
theorem dL_law_1226 : decode code 1226 = .ok (.pop, 1) := la_dk la_t11_ok (i := 50) rfl
theorem dL_law_1227 : decode code 1227 = .ok (.aload_n 2, 1) := la_dk la_t11_ok (i := 51) rfl
theorem dL_law_1228 : decode code 1228 = .ok (.aload_n 0, 1) := la_dk la_t11_ok (i := 52) rfl
theorem dL_law_1229 : decode code 1229 = .ok (.iload 4, 2) := la_dk la_t11_ok (i := 53) rfl
theorem dL_law_1231 : decode code 1231 = .ok (.iconst 1, 1) := la_dk la_t11_ok (i := 54) rfl
theorem dL_law_1232 : decode code 1232 = .ok (.iadd, 1) := la_dk la_t11_ok (i := 55) rfl
theorem dL_law_1233 : decode code 1233 = .ok (.iaload, 1) := la_dk la_t11_ok (i := 56) rfl
theorem dL_law_1234 : decode code 1234 = .ok (.invokevirtual 141, 3) := la_dk la_t11_ok (i := 57) rfl
theorem dL_law_1237 : decode code 1237 = .ok (.pop, 1) := la_dk la_t11_ok (i := 58) rfl
theorem dL_law_1238 : decode code 1238 = .ok (.goto 653, 3) := la_dk la_t11_ok (i := 59) rfl
def la_t12 : List (Nat × Instr × Nat) := [(1241, .aload_n 1, 1), (1242, .aload_n 0, 1), (1243, .iload 4, 2), (1245, .iconst 1, 1), (1246, .iadd, 1), (1247, .iaload, 1), (1248, .invokevirtual 142, 3), (1251, .pop, 1), (1252, .aload_n 2, 1), (1253, .aload_n 0, 1), (1254, .iload 4, 2), (1256, .iconst 1, 1), (1257, .iadd, 1), (1258, .iaload, 1), (1259, .invokevirtual 145, 3), (1262, .pop, 1), (1263, .goto 628, 3), (1266, .aload_n 1, 1), (1267, .aload_n 0, 1), (1268, .iload 4, 2), (1270, .iconst 1, 1), (1271, .iadd, 1), (1272, .iaload, 1), (1273, .aload_n 0, 1), (1274, .iload 4, 2), (1276, .iconst 2, 1), (1277, .iadd, 1), (1278, .iaload, 1), (1279, .invokevirtual 146, 3), (1282, .pop, 1), (1283, .aload_n 2, 1), (1284, .aload_n 0, 1), (1285, .iload 4, 2), (1287, .iconst 1, 1), (1288, .iadd, 1), (1289, .iaload, 1), (1290, .aload_n 0, 1), (1291, .iload 4, 2), (1293, .iconst 2, 1), (1294, .iadd, 1), (1295, .iaload, 1), (1296, .invokevirtual 149, 3), (1299, .pop, 1), (1300, .goto 591, 3), (1303, .aload_n 1, 1), (1304, .aload_n 0, 1), (1305, .iload 4, 2), (1307, .iconst 1, 1), (1308, .iadd, 1), (1309, .iaload, 1), (1310, .invokevirtual 150, 3), (1313, .pop, 1), (1314, .aload_n 2, 1), (1315, .aload_n 0, 1), (1316, .iload 4, 2), (1318, .iconst 1, 1), (1319, .iadd, 1), (1320, .iaload, 1), (1321, .invokevirtual 153, 3), (1324, .pop, 1)]
set_option maxRecDepth 1000000 in
theorem la_t12_ok : la_t12.all la_dck = true := by decide +kernel
theorem dL_law_1241 : decode code 1241 = .ok (.aload_n 1, 1) := la_dk la_t12_ok (i := 0) rfl
theorem dL_law_1242 : decode code 1242 = .ok (.aload_n 0, 1) := la_dk la_t12_ok (i := 1) rfl
theorem dL_law_1243 : decode code 1243 = .ok (.iload 4, 2) := la_dk la_t12_ok (i := 2) rfl
theorem dL_law_1245 : decode code 1245 = .ok (.iconst 1, 1) := la_dk la_t12_ok (i := 3) rfl
theorem dL_law_1246 : decode code 1246 = .ok (.iadd, 1) := la_dk la_t12_ok (i := 4) rfl
theorem dL_law_1247 : decode code 1247 = .ok (.iaload, 1) := la_dk la_t12_ok (i := 5) rfl
theorem dL_law_1248 : decode code 1248 = .ok (.invokevirtual 142, 3) := la_dk la_t12_ok (i := 6) rfl
theorem dL_law_1251 : decode code 1251 = .ok (.pop, 1) := la_dk la_t12_ok (i := 7) rfl
theorem dL_law_1252 : decode code 1252 = .ok (.aload_n 2, 1) := la_dk la_t12_ok (i := 8) rfl
theorem dL_law_1253 : decode code 1253 = .ok (.aload_n 0, 1) := la_dk la_t12_ok (i := 9) rfl
theorem dL_law_1254 : decode code 1254 = .ok (.iload 4, 2) := la_dk la_t12_ok (i := 10) rfl
theorem dL_law_1256 : decode code 1256 = .ok (.iconst 1, 1) := la_dk la_t12_ok (i := 11) rfl
theorem dL_law_1257 : decode code 1257 = .ok (.iadd, 1) := la_dk la_t12_ok (i := 12) rfl
theorem dL_law_1258 : decode code 1258 = .ok (.iaload, 1) := la_dk la_t12_ok (i := 13) rfl
theorem dL_law_1259 : decode code 1259 = .ok (.invokevirtual 145, 3) := la_dk la_t12_ok (i := 14) rfl
theorem dL_law_1262 : decode code 1262 = .ok (.pop, 1) := la_dk la_t12_ok (i := 15) rfl
theorem dL_law_1263 : decode code 1263 = .ok (.goto 628, 3) := la_dk la_t12_ok (i := 16) rfl
theorem dL_law_1266 : decode code 1266 = .ok (.aload_n 1, 1) := la_dk la_t12_ok (i := 17) rfl
theorem dL_law_1267 : decode code 1267 = .ok (.aload_n 0, 1) := la_dk la_t12_ok (i := 18) rfl
theorem dL_law_1268 : decode code 1268 = .ok (.iload 4, 2) := la_dk la_t12_ok (i := 19) rfl
theorem dL_law_1270 : decode code 1270 = .ok (.iconst 1, 1) := la_dk la_t12_ok (i := 20) rfl
theorem dL_law_1271 : decode code 1271 = .ok (.iadd, 1) := la_dk la_t12_ok (i := 21) rfl
theorem dL_law_1272 : decode code 1272 = .ok (.iaload, 1) := la_dk la_t12_ok (i := 22) rfl
theorem dL_law_1273 : decode code 1273 = .ok (.aload_n 0, 1) := la_dk la_t12_ok (i := 23) rfl
theorem dL_law_1274 : decode code 1274 = .ok (.iload 4, 2) := la_dk la_t12_ok (i := 24) rfl
theorem dL_law_1276 : decode code 1276 = .ok (.iconst 2, 1) := la_dk la_t12_ok (i := 25) rfl
theorem dL_law_1277 : decode code 1277 = .ok (.iadd, 1) := la_dk la_t12_ok (i := 26) rfl
theorem dL_law_1278 : decode code 1278 = .ok (.iaload, 1) := la_dk la_t12_ok (i := 27) rfl
theorem dL_law_1279 : decode code 1279 = .ok (.invokevirtual 146, 3) := la_dk la_t12_ok (i := 28) rfl
theorem dL_law_1282 : decode code 1282 = .ok (.pop, 1) := la_dk la_t12_ok (i := 29) rfl
theorem dL_law_1283 : decode code 1283 = .ok (.aload_n 2, 1) := la_dk la_t12_ok (i := 30) rfl
theorem dL_law_1284 : decode code 1284 = .ok (.aload_n 0, 1) := la_dk la_t12_ok (i := 31) rfl
theorem dL_law_1285 : decode code 1285 = .ok (.iload 4, 2) := la_dk la_t12_ok (i := 32) rfl
theorem dL_law_1287 : decode code 1287 = .ok (.iconst 1, 1) := la_dk la_t12_ok (i := 33) rfl
theorem dL_law_1288 : decode code 1288 = .ok (.iadd, 1) := la_dk la_t12_ok (i := 34) rfl
theorem dL_law_1289 : decode code 1289 = .ok (.iaload, 1) := la_dk la_t12_ok (i := 35) rfl
theorem dL_law_1290 : decode code 1290 = .ok (.aload_n 0, 1) := la_dk la_t12_ok (i := 36) rfl
theorem dL_law_1291 : decode code 1291 = .ok (.iload 4, 2) := la_dk la_t12_ok (i := 37) rfl
theorem dL_law_1293 : decode code 1293 = .ok (.iconst 2, 1) := la_dk la_t12_ok (i := 38) rfl
theorem dL_law_1294 : decode code 1294 = .ok (.iadd, 1) := la_dk la_t12_ok (i := 39) rfl
theorem dL_law_1295 : decode code 1295 = .ok (.iaload, 1) := la_dk la_t12_ok (i := 40) rfl
theorem dL_law_1296 : decode code 1296 = .ok (.invokevirtual 149, 3) := la_dk la_t12_ok (i := 41) rfl
theorem dL_law_1299 : decode code 1299 = .ok (.pop, 1) := la_dk la_t12_ok (i := 42) rfl
theorem dL_law_1300 : decode code 1300 = .ok (.goto 591, 3) := la_dk la_t12_ok (i := 43) rfl
theorem dL_law_1303 : decode code 1303 = .ok (.aload_n 1, 1) := la_dk la_t12_ok (i := 44) rfl
theorem dL_law_1304 : decode code 1304 = .ok (.aload_n 0, 1) := la_dk la_t12_ok (i := 45) rfl
theorem dL_law_1305 : decode code 1305 = .ok (.iload 4, 2) := la_dk la_t12_ok (i := 46) rfl
theorem dL_law_1307 : decode code 1307 = .ok (.iconst 1, 1) := la_dk la_t12_ok (i := 47) rfl
theorem dL_law_1308 : decode code 1308 = .ok (.iadd, 1) := la_dk la_t12_ok (i := 48) rfl
theorem dL_law_1309 : decode code 1309 = .ok (.iaload, 1) := la_dk la_t12_ok (i := 49) rfl
theorem dL_law_1310 : decode code 1310 = .ok (.invokevirtual 150, 3) := la_dk la_t12_ok (i := 50) rfl
theorem dL_law_1313 : decode code 1313 = .ok (.pop, 1) := la_dk la_t12_ok (i := 51) rfl
theorem dL_law_1314 : decode code 1314 = .ok (.aload_n 2, 1) := la_dk la_t12_ok (i := 52) rfl
theorem dL_law_1315 : decode code 1315 = .ok (.aload_n 0, 1) := la_dk la_t12_ok (i := 53) rfl
theorem dL_law_1316 : decode code 1316 = .ok (.iload 4, 2) := la_dk la_t12_ok (i := 54) rfl
theorem dL_law_1318 : decode code 1318 = .ok (.iconst 1, 1) := la_dk la_t12_ok (i := 55) rfl
theorem dL_law_1319 : decode code 1319 = .ok (.iadd, 1) := la_dk la_t12_ok (i := 56) rfl
theorem dL_law_1320 : decode code 1320 = .ok (.iaload, 1) := la_dk la_t12_ok (i := 57) rfl
theorem dL_law_1321 : decode code 1321 = .ok (.invokevirtual 153, 3) := la_dk la_t12_ok (i := 58) rfl
theorem dL_law_1324 : decode code 1324 = .ok (.pop, 1) := la_dk la_t12_ok (i := 59) rfl
def la_t13 : List (Nat × Instr × Nat) := [(1325, .goto 566, 3), (1328, .aload_n 1, 1), (1329, .aload_n 0, 1), (1330, .iload 4, 2), (1332, .iconst 1, 1), (1333, .iadd, 1), (1334, .iaload, 1), (1335, .aload_n 0, 1), (1336, .iload 4, 2), (1338, .iconst 2, 1), (1339, .iadd, 1), (1340, .iaload, 1), (1341, .ifCond .eq 7, 3), (1344, .iconst 1, 1), (1345, .goto 4, 3), (1348, .iconst 0, 1), (1349, .invokevirtual 154, 3), (1352, .pop, 1), (1353, .aload_n 2, 1), (1354, .aload_n 0, 1), (1355, .iload 4, 2), (1357, .iconst 1, 1), (1358, .iadd, 1), (1359, .iaload, 1), (1360, .aload_n 0, 1), (1361, .iload 4, 2), (1363, .iconst 2, 1), (1364, .iadd, 1), (1365, .iaload, 1), (1366, .ifCond .eq 7, 3), (1369, .iconst 1, 1), (1370, .goto 4, 3), (1373, .iconst 0, 1), (1374, .invokevirtual 158, 3), (1377, .pop, 1), (1378, .goto 513, 3), (1381, .aload_n 1, 1), (1382, .aload_n 0, 1), (1383, .iload 4, 2), (1385, .iconst 1, 1), (1386, .iadd, 1), (1387, .iaload, 1), (1388, .aload_n 0, 1), (1389, .iload 4, 2), (1391, .iconst 2, 1), (1392, .iadd, 1), (1393, .iaload, 1), (1394, .invokevirtual 159, 3), (1397, .pop, 1), (1398, .aload_n 2, 1), (1399, .aload_n 0, 1), (1400, .iload 4, 2), (1402, .iconst 1, 1), (1403, .iadd, 1), (1404, .iaload, 1), (1405, .aload_n 0, 1), (1406, .iload 4, 2), (1408, .iconst 2, 1), (1409, .iadd, 1), (1410, .iaload, 1)]
set_option maxRecDepth 1000000 in
theorem la_t13_ok : la_t13.all la_dck = true := by decide +kernel
theorem dL_law_1325 : decode code 1325 = .ok (.goto 566, 3) := la_dk la_t13_ok (i := 0) rfl
theorem dL_law_1328 : decode code 1328 = .ok (.aload_n 1, 1) := la_dk la_t13_ok (i := 1) rfl
theorem dL_law_1329 : decode code 1329 = .ok (.aload_n 0, 1) := la_dk la_t13_ok (i := 2) rfl
theorem dL_law_1330 : decode code 1330 = .ok (.iload 4, 2) := la_dk la_t13_ok (i := 3) rfl
theorem dL_law_1332 : decode code 1332 = .ok (.iconst 1, 1) := la_dk la_t13_ok (i := 4) rfl
theorem dL_law_1333 : decode code 1333 = .ok (.iadd, 1) := la_dk la_t13_ok (i := 5) rfl
theorem dL_law_1334 : decode code 1334 = .ok (.iaload, 1) := la_dk la_t13_ok (i := 6) rfl
theorem dL_law_1335 : decode code 1335 = .ok (.aload_n 0, 1) := la_dk la_t13_ok (i := 7) rfl
theorem dL_law_1336 : decode code 1336 = .ok (.iload 4, 2) := la_dk la_t13_ok (i := 8) rfl
theorem dL_law_1338 : decode code 1338 = .ok (.iconst 2, 1) := la_dk la_t13_ok (i := 9) rfl
theorem dL_law_1339 : decode code 1339 = .ok (.iadd, 1) := la_dk la_t13_ok (i := 10) rfl
theorem dL_law_1340 : decode code 1340 = .ok (.iaload, 1) := la_dk la_t13_ok (i := 11) rfl
theorem dL_law_1341 : decode code 1341 = .ok (.ifCond .eq 7, 3) := la_dk la_t13_ok (i := 12) rfl
theorem dL_law_1344 : decode code 1344 = .ok (.iconst 1, 1) := la_dk la_t13_ok (i := 13) rfl
theorem dL_law_1345 : decode code 1345 = .ok (.goto 4, 3) := la_dk la_t13_ok (i := 14) rfl
theorem dL_law_1348 : decode code 1348 = .ok (.iconst 0, 1) := la_dk la_t13_ok (i := 15) rfl
theorem dL_law_1349 : decode code 1349 = .ok (.invokevirtual 154, 3) := la_dk la_t13_ok (i := 16) rfl
theorem dL_law_1352 : decode code 1352 = .ok (.pop, 1) := la_dk la_t13_ok (i := 17) rfl
theorem dL_law_1353 : decode code 1353 = .ok (.aload_n 2, 1) := la_dk la_t13_ok (i := 18) rfl
theorem dL_law_1354 : decode code 1354 = .ok (.aload_n 0, 1) := la_dk la_t13_ok (i := 19) rfl
theorem dL_law_1355 : decode code 1355 = .ok (.iload 4, 2) := la_dk la_t13_ok (i := 20) rfl
theorem dL_law_1357 : decode code 1357 = .ok (.iconst 1, 1) := la_dk la_t13_ok (i := 21) rfl
theorem dL_law_1358 : decode code 1358 = .ok (.iadd, 1) := la_dk la_t13_ok (i := 22) rfl
theorem dL_law_1359 : decode code 1359 = .ok (.iaload, 1) := la_dk la_t13_ok (i := 23) rfl
theorem dL_law_1360 : decode code 1360 = .ok (.aload_n 0, 1) := la_dk la_t13_ok (i := 24) rfl
theorem dL_law_1361 : decode code 1361 = .ok (.iload 4, 2) := la_dk la_t13_ok (i := 25) rfl
theorem dL_law_1363 : decode code 1363 = .ok (.iconst 2, 1) := la_dk la_t13_ok (i := 26) rfl
theorem dL_law_1364 : decode code 1364 = .ok (.iadd, 1) := la_dk la_t13_ok (i := 27) rfl
theorem dL_law_1365 : decode code 1365 = .ok (.iaload, 1) := la_dk la_t13_ok (i := 28) rfl
theorem dL_law_1366 : decode code 1366 = .ok (.ifCond .eq 7, 3) := la_dk la_t13_ok (i := 29) rfl
theorem dL_law_1369 : decode code 1369 = .ok (.iconst 1, 1) := la_dk la_t13_ok (i := 30) rfl
theorem dL_law_1370 : decode code 1370 = .ok (.goto 4, 3) := la_dk la_t13_ok (i := 31) rfl
theorem dL_law_1373 : decode code 1373 = .ok (.iconst 0, 1) := la_dk la_t13_ok (i := 32) rfl
theorem dL_law_1374 : decode code 1374 = .ok (.invokevirtual 158, 3) := la_dk la_t13_ok (i := 33) rfl
theorem dL_law_1377 : decode code 1377 = .ok (.pop, 1) := la_dk la_t13_ok (i := 34) rfl
theorem dL_law_1378 : decode code 1378 = .ok (.goto 513, 3) := la_dk la_t13_ok (i := 35) rfl
theorem dL_law_1381 : decode code 1381 = .ok (.aload_n 1, 1) := la_dk la_t13_ok (i := 36) rfl
theorem dL_law_1382 : decode code 1382 = .ok (.aload_n 0, 1) := la_dk la_t13_ok (i := 37) rfl
theorem dL_law_1383 : decode code 1383 = .ok (.iload 4, 2) := la_dk la_t13_ok (i := 38) rfl
theorem dL_law_1385 : decode code 1385 = .ok (.iconst 1, 1) := la_dk la_t13_ok (i := 39) rfl
theorem dL_law_1386 : decode code 1386 = .ok (.iadd, 1) := la_dk la_t13_ok (i := 40) rfl
theorem dL_law_1387 : decode code 1387 = .ok (.iaload, 1) := la_dk la_t13_ok (i := 41) rfl
theorem dL_law_1388 : decode code 1388 = .ok (.aload_n 0, 1) := la_dk la_t13_ok (i := 42) rfl
theorem dL_law_1389 : decode code 1389 = .ok (.iload 4, 2) := la_dk la_t13_ok (i := 43) rfl
theorem dL_law_1391 : decode code 1391 = .ok (.iconst 2, 1) := la_dk la_t13_ok (i := 44) rfl
theorem dL_law_1392 : decode code 1392 = .ok (.iadd, 1) := la_dk la_t13_ok (i := 45) rfl
theorem dL_law_1393 : decode code 1393 = .ok (.iaload, 1) := la_dk la_t13_ok (i := 46) rfl
theorem dL_law_1394 : decode code 1394 = .ok (.invokevirtual 159, 3) := la_dk la_t13_ok (i := 47) rfl
theorem dL_law_1397 : decode code 1397 = .ok (.pop, 1) := la_dk la_t13_ok (i := 48) rfl
theorem dL_law_1398 : decode code 1398 = .ok (.aload_n 2, 1) := la_dk la_t13_ok (i := 49) rfl
theorem dL_law_1399 : decode code 1399 = .ok (.aload_n 0, 1) := la_dk la_t13_ok (i := 50) rfl
theorem dL_law_1400 : decode code 1400 = .ok (.iload 4, 2) := la_dk la_t13_ok (i := 51) rfl
theorem dL_law_1402 : decode code 1402 = .ok (.iconst 1, 1) := la_dk la_t13_ok (i := 52) rfl
theorem dL_law_1403 : decode code 1403 = .ok (.iadd, 1) := la_dk la_t13_ok (i := 53) rfl
theorem dL_law_1404 : decode code 1404 = .ok (.iaload, 1) := la_dk la_t13_ok (i := 54) rfl
theorem dL_law_1405 : decode code 1405 = .ok (.aload_n 0, 1) := la_dk la_t13_ok (i := 55) rfl
theorem dL_law_1406 : decode code 1406 = .ok (.iload 4, 2) := la_dk la_t13_ok (i := 56) rfl
theorem dL_law_1408 : decode code 1408 = .ok (.iconst 2, 1) := la_dk la_t13_ok (i := 57) rfl
theorem dL_law_1409 : decode code 1409 = .ok (.iadd, 1) := la_dk la_t13_ok (i := 58) rfl
theorem dL_law_1410 : decode code 1410 = .ok (.iaload, 1) := la_dk la_t13_ok (i := 59) rfl
def la_t14 : List (Nat × Instr × Nat) := [(1411, .invokevirtual 162, 3), (1414, .pop, 1), (1415, .goto 476, 3), (1418, .aload_n 1, 1), (1419, .aload_n 0, 1), (1420, .iload 4, 2), (1422, .iconst 1, 1), (1423, .iadd, 1), (1424, .iaload, 1), (1425, .ifCond .eq 7, 3), (1428, .iconst 1, 1), (1429, .goto 4, 3), (1432, .iconst 0, 1), (1433, .invokevirtual 163, 3), (1436, .pop, 1), (1437, .aload_n 2, 1), (1438, .aload_n 0, 1), (1439, .iload 4, 2), (1441, .iconst 1, 1), (1442, .iadd, 1), (1443, .iaload, 1), (1444, .ifCond .eq 7, 3), (1447, .iconst 1, 1), (1448, .goto 4, 3), (1451, .iconst 0, 1), (1452, .invokevirtual 167, 3), (1455, .pop, 1), (1456, .goto 435, 3), (1459, .aload_n 1, 1), (1460, .aload_n 0, 1), (1461, .iload 4, 2), (1463, .iconst 1, 1), (1464, .iadd, 1), (1465, .iaload, 1), (1466, .aload_n 0, 1), (1467, .iload 4, 2), (1469, .iconst 2, 1), (1470, .iadd, 1), (1471, .iaload, 1), (1472, .invokevirtual 168, 3), (1475, .pop, 1), (1476, .aload_n 2, 1), (1477, .aload_n 0, 1), (1478, .iload 4, 2), (1480, .iconst 1, 1), (1481, .iadd, 1), (1482, .iaload, 1), (1483, .aload_n 0, 1), (1484, .iload 4, 2), (1486, .iconst 2, 1), (1487, .iadd, 1), (1488, .iaload, 1), (1489, .invokevirtual 171, 3), (1492, .pop, 1), (1493, .goto 398, 3), (1496, .aload_n 1, 1), (1497, .invokevirtual 172, 3), (1500, .aload_n 2, 1), (1501, .invokevirtual 175, 3), (1504, .if_icmp .eq 387, 3)]
set_option maxRecDepth 1000000 in
theorem la_t14_ok : la_t14.all la_dck = true := by decide +kernel
theorem dL_law_1411 : decode code 1411 = .ok (.invokevirtual 162, 3) := la_dk la_t14_ok (i := 0) rfl
theorem dL_law_1414 : decode code 1414 = .ok (.pop, 1) := la_dk la_t14_ok (i := 1) rfl
theorem dL_law_1415 : decode code 1415 = .ok (.goto 476, 3) := la_dk la_t14_ok (i := 2) rfl
theorem dL_law_1418 : decode code 1418 = .ok (.aload_n 1, 1) := la_dk la_t14_ok (i := 3) rfl
theorem dL_law_1419 : decode code 1419 = .ok (.aload_n 0, 1) := la_dk la_t14_ok (i := 4) rfl
theorem dL_law_1420 : decode code 1420 = .ok (.iload 4, 2) := la_dk la_t14_ok (i := 5) rfl
theorem dL_law_1422 : decode code 1422 = .ok (.iconst 1, 1) := la_dk la_t14_ok (i := 6) rfl
theorem dL_law_1423 : decode code 1423 = .ok (.iadd, 1) := la_dk la_t14_ok (i := 7) rfl
theorem dL_law_1424 : decode code 1424 = .ok (.iaload, 1) := la_dk la_t14_ok (i := 8) rfl
theorem dL_law_1425 : decode code 1425 = .ok (.ifCond .eq 7, 3) := la_dk la_t14_ok (i := 9) rfl
theorem dL_law_1428 : decode code 1428 = .ok (.iconst 1, 1) := la_dk la_t14_ok (i := 10) rfl
theorem dL_law_1429 : decode code 1429 = .ok (.goto 4, 3) := la_dk la_t14_ok (i := 11) rfl
theorem dL_law_1432 : decode code 1432 = .ok (.iconst 0, 1) := la_dk la_t14_ok (i := 12) rfl
theorem dL_law_1433 : decode code 1433 = .ok (.invokevirtual 163, 3) := la_dk la_t14_ok (i := 13) rfl
theorem dL_law_1436 : decode code 1436 = .ok (.pop, 1) := la_dk la_t14_ok (i := 14) rfl
theorem dL_law_1437 : decode code 1437 = .ok (.aload_n 2, 1) := la_dk la_t14_ok (i := 15) rfl
theorem dL_law_1438 : decode code 1438 = .ok (.aload_n 0, 1) := la_dk la_t14_ok (i := 16) rfl
theorem dL_law_1439 : decode code 1439 = .ok (.iload 4, 2) := la_dk la_t14_ok (i := 17) rfl
theorem dL_law_1441 : decode code 1441 = .ok (.iconst 1, 1) := la_dk la_t14_ok (i := 18) rfl
theorem dL_law_1442 : decode code 1442 = .ok (.iadd, 1) := la_dk la_t14_ok (i := 19) rfl
theorem dL_law_1443 : decode code 1443 = .ok (.iaload, 1) := la_dk la_t14_ok (i := 20) rfl
theorem dL_law_1444 : decode code 1444 = .ok (.ifCond .eq 7, 3) := la_dk la_t14_ok (i := 21) rfl
theorem dL_law_1447 : decode code 1447 = .ok (.iconst 1, 1) := la_dk la_t14_ok (i := 22) rfl
theorem dL_law_1448 : decode code 1448 = .ok (.goto 4, 3) := la_dk la_t14_ok (i := 23) rfl
theorem dL_law_1451 : decode code 1451 = .ok (.iconst 0, 1) := la_dk la_t14_ok (i := 24) rfl
theorem dL_law_1452 : decode code 1452 = .ok (.invokevirtual 167, 3) := la_dk la_t14_ok (i := 25) rfl
theorem dL_law_1455 : decode code 1455 = .ok (.pop, 1) := la_dk la_t14_ok (i := 26) rfl
theorem dL_law_1456 : decode code 1456 = .ok (.goto 435, 3) := la_dk la_t14_ok (i := 27) rfl
theorem dL_law_1459 : decode code 1459 = .ok (.aload_n 1, 1) := la_dk la_t14_ok (i := 28) rfl
theorem dL_law_1460 : decode code 1460 = .ok (.aload_n 0, 1) := la_dk la_t14_ok (i := 29) rfl
theorem dL_law_1461 : decode code 1461 = .ok (.iload 4, 2) := la_dk la_t14_ok (i := 30) rfl
theorem dL_law_1463 : decode code 1463 = .ok (.iconst 1, 1) := la_dk la_t14_ok (i := 31) rfl
theorem dL_law_1464 : decode code 1464 = .ok (.iadd, 1) := la_dk la_t14_ok (i := 32) rfl
theorem dL_law_1465 : decode code 1465 = .ok (.iaload, 1) := la_dk la_t14_ok (i := 33) rfl
theorem dL_law_1466 : decode code 1466 = .ok (.aload_n 0, 1) := la_dk la_t14_ok (i := 34) rfl
theorem dL_law_1467 : decode code 1467 = .ok (.iload 4, 2) := la_dk la_t14_ok (i := 35) rfl
theorem dL_law_1469 : decode code 1469 = .ok (.iconst 2, 1) := la_dk la_t14_ok (i := 36) rfl
theorem dL_law_1470 : decode code 1470 = .ok (.iadd, 1) := la_dk la_t14_ok (i := 37) rfl
theorem dL_law_1471 : decode code 1471 = .ok (.iaload, 1) := la_dk la_t14_ok (i := 38) rfl
theorem dL_law_1472 : decode code 1472 = .ok (.invokevirtual 168, 3) := la_dk la_t14_ok (i := 39) rfl
theorem dL_law_1475 : decode code 1475 = .ok (.pop, 1) := la_dk la_t14_ok (i := 40) rfl
theorem dL_law_1476 : decode code 1476 = .ok (.aload_n 2, 1) := la_dk la_t14_ok (i := 41) rfl
theorem dL_law_1477 : decode code 1477 = .ok (.aload_n 0, 1) := la_dk la_t14_ok (i := 42) rfl
theorem dL_law_1478 : decode code 1478 = .ok (.iload 4, 2) := la_dk la_t14_ok (i := 43) rfl
theorem dL_law_1480 : decode code 1480 = .ok (.iconst 1, 1) := la_dk la_t14_ok (i := 44) rfl
theorem dL_law_1481 : decode code 1481 = .ok (.iadd, 1) := la_dk la_t14_ok (i := 45) rfl
theorem dL_law_1482 : decode code 1482 = .ok (.iaload, 1) := la_dk la_t14_ok (i := 46) rfl
theorem dL_law_1483 : decode code 1483 = .ok (.aload_n 0, 1) := la_dk la_t14_ok (i := 47) rfl
theorem dL_law_1484 : decode code 1484 = .ok (.iload 4, 2) := la_dk la_t14_ok (i := 48) rfl
theorem dL_law_1486 : decode code 1486 = .ok (.iconst 2, 1) := la_dk la_t14_ok (i := 49) rfl
theorem dL_law_1487 : decode code 1487 = .ok (.iadd, 1) := la_dk la_t14_ok (i := 50) rfl
theorem dL_law_1488 : decode code 1488 = .ok (.iaload, 1) := la_dk la_t14_ok (i := 51) rfl
theorem dL_law_1489 : decode code 1489 = .ok (.invokevirtual 171, 3) := la_dk la_t14_ok (i := 52) rfl
theorem dL_law_1492 : decode code 1492 = .ok (.pop, 1) := la_dk la_t14_ok (i := 53) rfl
theorem dL_law_1493 : decode code 1493 = .ok (.goto 398, 3) := la_dk la_t14_ok (i := 54) rfl
theorem dL_law_1496 : decode code 1496 = .ok (.aload_n 1, 1) := la_dk la_t14_ok (i := 55) rfl
theorem dL_law_1497 : decode code 1497 = .ok (.invokevirtual 172, 3) := la_dk la_t14_ok (i := 56) rfl
theorem dL_law_1500 : decode code 1500 = .ok (.aload_n 2, 1) := la_dk la_t14_ok (i := 57) rfl
theorem dL_law_1501 : decode code 1501 = .ok (.invokevirtual 175, 3) := la_dk la_t14_ok (i := 58) rfl
theorem dL_law_1504 : decode code 1504 = .ok (.if_icmp .eq 387, 3) := la_dk la_t14_ok (i := 59) rfl
def la_t15 : List (Nat × Instr × Nat) := [(1507, .iconst 0, 1), (1508, .ireturn, 1), (1509, .aload_n 1, 1), (1510, .aload_n 0, 1), (1511, .iload 4, 2), (1513, .iconst 1, 1), (1514, .iadd, 1), (1515, .iaload, 1), (1516, .aload_n 0, 1), (1517, .iload 4, 2), (1519, .iconst 2, 1), (1520, .iadd, 1), (1521, .iaload, 1), (1522, .ifCond .eq 7, 3), (1525, .iconst 1, 1), (1526, .goto 4, 3), (1529, .iconst 0, 1), (1530, .invokevirtual 176, 3), (1533, .pop, 1), (1534, .aload_n 2, 1), (1535, .aload_n 0, 1), (1536, .iload 4, 2), (1538, .iconst 1, 1), (1539, .iadd, 1), (1540, .iaload, 1), (1541, .aload_n 0, 1), (1542, .iload 4, 2), (1544, .iconst 2, 1), (1545, .iadd, 1), (1546, .iaload, 1), (1547, .ifCond .eq 7, 3), (1550, .iconst 1, 1), (1551, .goto 4, 3), (1554, .iconst 0, 1), (1555, .invokevirtual 179, 3), (1558, .pop, 1), (1559, .goto 332, 3), (1562, .aload_n 1, 1), (1563, .aload_n 0, 1), (1564, .iload 4, 2), (1566, .iconst 1, 1), (1567, .iadd, 1), (1568, .iaload, 1), (1569, .aload_n 0, 1), (1570, .iload 4, 2), (1572, .iconst 2, 1), (1573, .iadd, 1), (1574, .iaload, 1), (1575, .invokevirtual 180, 3), (1578, .pop, 1), (1579, .aload_n 2, 1), (1580, .aload_n 0, 1), (1581, .iload 4, 2), (1583, .iconst 1, 1), (1584, .iadd, 1), (1585, .iaload, 1), (1586, .aload_n 0, 1), (1587, .iload 4, 2), (1589, .iconst 2, 1), (1590, .iadd, 1)]
set_option maxRecDepth 1000000 in
theorem la_t15_ok : la_t15.all la_dck = true := by decide +kernel
theorem dL_law_1507 : decode code 1507 = .ok (.iconst 0, 1) := la_dk la_t15_ok (i := 0) rfl
theorem dL_law_1508 : decode code 1508 = .ok (.ireturn, 1) := la_dk la_t15_ok (i := 1) rfl
theorem dL_law_1509 : decode code 1509 = .ok (.aload_n 1, 1) := la_dk la_t15_ok (i := 2) rfl
theorem dL_law_1510 : decode code 1510 = .ok (.aload_n 0, 1) := la_dk la_t15_ok (i := 3) rfl
theorem dL_law_1511 : decode code 1511 = .ok (.iload 4, 2) := la_dk la_t15_ok (i := 4) rfl
theorem dL_law_1513 : decode code 1513 = .ok (.iconst 1, 1) := la_dk la_t15_ok (i := 5) rfl
theorem dL_law_1514 : decode code 1514 = .ok (.iadd, 1) := la_dk la_t15_ok (i := 6) rfl
theorem dL_law_1515 : decode code 1515 = .ok (.iaload, 1) := la_dk la_t15_ok (i := 7) rfl
theorem dL_law_1516 : decode code 1516 = .ok (.aload_n 0, 1) := la_dk la_t15_ok (i := 8) rfl
theorem dL_law_1517 : decode code 1517 = .ok (.iload 4, 2) := la_dk la_t15_ok (i := 9) rfl
theorem dL_law_1519 : decode code 1519 = .ok (.iconst 2, 1) := la_dk la_t15_ok (i := 10) rfl
theorem dL_law_1520 : decode code 1520 = .ok (.iadd, 1) := la_dk la_t15_ok (i := 11) rfl
theorem dL_law_1521 : decode code 1521 = .ok (.iaload, 1) := la_dk la_t15_ok (i := 12) rfl
theorem dL_law_1522 : decode code 1522 = .ok (.ifCond .eq 7, 3) := la_dk la_t15_ok (i := 13) rfl
theorem dL_law_1525 : decode code 1525 = .ok (.iconst 1, 1) := la_dk la_t15_ok (i := 14) rfl
theorem dL_law_1526 : decode code 1526 = .ok (.goto 4, 3) := la_dk la_t15_ok (i := 15) rfl
theorem dL_law_1529 : decode code 1529 = .ok (.iconst 0, 1) := la_dk la_t15_ok (i := 16) rfl
theorem dL_law_1530 : decode code 1530 = .ok (.invokevirtual 176, 3) := la_dk la_t15_ok (i := 17) rfl
theorem dL_law_1533 : decode code 1533 = .ok (.pop, 1) := la_dk la_t15_ok (i := 18) rfl
theorem dL_law_1534 : decode code 1534 = .ok (.aload_n 2, 1) := la_dk la_t15_ok (i := 19) rfl
theorem dL_law_1535 : decode code 1535 = .ok (.aload_n 0, 1) := la_dk la_t15_ok (i := 20) rfl
theorem dL_law_1536 : decode code 1536 = .ok (.iload 4, 2) := la_dk la_t15_ok (i := 21) rfl
theorem dL_law_1538 : decode code 1538 = .ok (.iconst 1, 1) := la_dk la_t15_ok (i := 22) rfl
theorem dL_law_1539 : decode code 1539 = .ok (.iadd, 1) := la_dk la_t15_ok (i := 23) rfl
theorem dL_law_1540 : decode code 1540 = .ok (.iaload, 1) := la_dk la_t15_ok (i := 24) rfl
theorem dL_law_1541 : decode code 1541 = .ok (.aload_n 0, 1) := la_dk la_t15_ok (i := 25) rfl
theorem dL_law_1542 : decode code 1542 = .ok (.iload 4, 2) := la_dk la_t15_ok (i := 26) rfl
theorem dL_law_1544 : decode code 1544 = .ok (.iconst 2, 1) := la_dk la_t15_ok (i := 27) rfl
theorem dL_law_1545 : decode code 1545 = .ok (.iadd, 1) := la_dk la_t15_ok (i := 28) rfl
theorem dL_law_1546 : decode code 1546 = .ok (.iaload, 1) := la_dk la_t15_ok (i := 29) rfl
theorem dL_law_1547 : decode code 1547 = .ok (.ifCond .eq 7, 3) := la_dk la_t15_ok (i := 30) rfl
theorem dL_law_1550 : decode code 1550 = .ok (.iconst 1, 1) := la_dk la_t15_ok (i := 31) rfl
theorem dL_law_1551 : decode code 1551 = .ok (.goto 4, 3) := la_dk la_t15_ok (i := 32) rfl
theorem dL_law_1554 : decode code 1554 = .ok (.iconst 0, 1) := la_dk la_t15_ok (i := 33) rfl
theorem dL_law_1555 : decode code 1555 = .ok (.invokevirtual 179, 3) := la_dk la_t15_ok (i := 34) rfl
theorem dL_law_1558 : decode code 1558 = .ok (.pop, 1) := la_dk la_t15_ok (i := 35) rfl
theorem dL_law_1559 : decode code 1559 = .ok (.goto 332, 3) := la_dk la_t15_ok (i := 36) rfl
theorem dL_law_1562 : decode code 1562 = .ok (.aload_n 1, 1) := la_dk la_t15_ok (i := 37) rfl
theorem dL_law_1563 : decode code 1563 = .ok (.aload_n 0, 1) := la_dk la_t15_ok (i := 38) rfl
theorem dL_law_1564 : decode code 1564 = .ok (.iload 4, 2) := la_dk la_t15_ok (i := 39) rfl
theorem dL_law_1566 : decode code 1566 = .ok (.iconst 1, 1) := la_dk la_t15_ok (i := 40) rfl
theorem dL_law_1567 : decode code 1567 = .ok (.iadd, 1) := la_dk la_t15_ok (i := 41) rfl
theorem dL_law_1568 : decode code 1568 = .ok (.iaload, 1) := la_dk la_t15_ok (i := 42) rfl
theorem dL_law_1569 : decode code 1569 = .ok (.aload_n 0, 1) := la_dk la_t15_ok (i := 43) rfl
theorem dL_law_1570 : decode code 1570 = .ok (.iload 4, 2) := la_dk la_t15_ok (i := 44) rfl
theorem dL_law_1572 : decode code 1572 = .ok (.iconst 2, 1) := la_dk la_t15_ok (i := 45) rfl
theorem dL_law_1573 : decode code 1573 = .ok (.iadd, 1) := la_dk la_t15_ok (i := 46) rfl
theorem dL_law_1574 : decode code 1574 = .ok (.iaload, 1) := la_dk la_t15_ok (i := 47) rfl
theorem dL_law_1575 : decode code 1575 = .ok (.invokevirtual 180, 3) := la_dk la_t15_ok (i := 48) rfl
theorem dL_law_1578 : decode code 1578 = .ok (.pop, 1) := la_dk la_t15_ok (i := 49) rfl
theorem dL_law_1579 : decode code 1579 = .ok (.aload_n 2, 1) := la_dk la_t15_ok (i := 50) rfl
theorem dL_law_1580 : decode code 1580 = .ok (.aload_n 0, 1) := la_dk la_t15_ok (i := 51) rfl
theorem dL_law_1581 : decode code 1581 = .ok (.iload 4, 2) := la_dk la_t15_ok (i := 52) rfl
theorem dL_law_1583 : decode code 1583 = .ok (.iconst 1, 1) := la_dk la_t15_ok (i := 53) rfl
theorem dL_law_1584 : decode code 1584 = .ok (.iadd, 1) := la_dk la_t15_ok (i := 54) rfl
theorem dL_law_1585 : decode code 1585 = .ok (.iaload, 1) := la_dk la_t15_ok (i := 55) rfl
theorem dL_law_1586 : decode code 1586 = .ok (.aload_n 0, 1) := la_dk la_t15_ok (i := 56) rfl
theorem dL_law_1587 : decode code 1587 = .ok (.iload 4, 2) := la_dk la_t15_ok (i := 57) rfl
theorem dL_law_1589 : decode code 1589 = .ok (.iconst 2, 1) := la_dk la_t15_ok (i := 58) rfl
theorem dL_law_1590 : decode code 1590 = .ok (.iadd, 1) := la_dk la_t15_ok (i := 59) rfl
def la_t16 : List (Nat × Instr × Nat) := [(1591, .iaload, 1), (1592, .invokevirtual 183, 3), (1595, .pop, 1), (1596, .goto 295, 3), (1599, .aload_n 1, 1), (1600, .aload_n 0, 1), (1601, .iload 4, 2), (1603, .iconst 1, 1), (1604, .iadd, 1), (1605, .iaload, 1), (1606, .aload_n 0, 1), (1607, .iload 4, 2), (1609, .iconst 2, 1), (1610, .iadd, 1), (1611, .iaload, 1), (1612, .aload_n 0, 1), (1613, .iload 4, 2), (1615, .iconst 3, 1), (1616, .iadd, 1), (1617, .iaload, 1), (1618, .ifCond .eq 7, 3), (1621, .iconst 1, 1), (1622, .goto 4, 3), (1625, .iconst 0, 1), (1626, .invokevirtual 184, 3), (1629, .pop, 1), (1630, .aload_n 2, 1), (1631, .aload_n 0, 1), (1632, .iload 4, 2), (1634, .iconst 1, 1), (1635, .iadd, 1), (1636, .iaload, 1), (1637, .aload_n 0, 1), (1638, .iload 4, 2), (1640, .iconst 2, 1), (1641, .iadd, 1), (1642, .iaload, 1), (1643, .aload_n 0, 1), (1644, .iload 4, 2), (1646, .iconst 3, 1), (1647, .iadd, 1), (1648, .iaload, 1), (1649, .ifCond .eq 7, 3), (1652, .iconst 1, 1), (1653, .goto 4, 3), (1656, .iconst 0, 1), (1657, .invokevirtual 187, 3), (1660, .pop, 1), (1661, .goto 230, 3), (1664, .aload_n 1, 1), (1665, .aload_n 0, 1), (1666, .iload 4, 2), (1668, .iconst 1, 1), (1669, .iadd, 1), (1670, .iaload, 1), (1671, .invokevirtual 188, 3), (1674, .pop, 1), (1675, .aload_n 2, 1), (1676, .aload_n 0, 1), (1677, .iload 4, 2)]
set_option maxRecDepth 1000000 in
theorem la_t16_ok : la_t16.all la_dck = true := by decide +kernel
theorem dL_law_1591 : decode code 1591 = .ok (.iaload, 1) := la_dk la_t16_ok (i := 0) rfl
theorem dL_law_1592 : decode code 1592 = .ok (.invokevirtual 183, 3) := la_dk la_t16_ok (i := 1) rfl
theorem dL_law_1595 : decode code 1595 = .ok (.pop, 1) := la_dk la_t16_ok (i := 2) rfl
theorem dL_law_1596 : decode code 1596 = .ok (.goto 295, 3) := la_dk la_t16_ok (i := 3) rfl
theorem dL_law_1599 : decode code 1599 = .ok (.aload_n 1, 1) := la_dk la_t16_ok (i := 4) rfl
theorem dL_law_1600 : decode code 1600 = .ok (.aload_n 0, 1) := la_dk la_t16_ok (i := 5) rfl
theorem dL_law_1601 : decode code 1601 = .ok (.iload 4, 2) := la_dk la_t16_ok (i := 6) rfl
theorem dL_law_1603 : decode code 1603 = .ok (.iconst 1, 1) := la_dk la_t16_ok (i := 7) rfl
theorem dL_law_1604 : decode code 1604 = .ok (.iadd, 1) := la_dk la_t16_ok (i := 8) rfl
theorem dL_law_1605 : decode code 1605 = .ok (.iaload, 1) := la_dk la_t16_ok (i := 9) rfl
theorem dL_law_1606 : decode code 1606 = .ok (.aload_n 0, 1) := la_dk la_t16_ok (i := 10) rfl
theorem dL_law_1607 : decode code 1607 = .ok (.iload 4, 2) := la_dk la_t16_ok (i := 11) rfl
theorem dL_law_1609 : decode code 1609 = .ok (.iconst 2, 1) := la_dk la_t16_ok (i := 12) rfl
theorem dL_law_1610 : decode code 1610 = .ok (.iadd, 1) := la_dk la_t16_ok (i := 13) rfl
theorem dL_law_1611 : decode code 1611 = .ok (.iaload, 1) := la_dk la_t16_ok (i := 14) rfl
theorem dL_law_1612 : decode code 1612 = .ok (.aload_n 0, 1) := la_dk la_t16_ok (i := 15) rfl
theorem dL_law_1613 : decode code 1613 = .ok (.iload 4, 2) := la_dk la_t16_ok (i := 16) rfl
theorem dL_law_1615 : decode code 1615 = .ok (.iconst 3, 1) := la_dk la_t16_ok (i := 17) rfl
theorem dL_law_1616 : decode code 1616 = .ok (.iadd, 1) := la_dk la_t16_ok (i := 18) rfl
theorem dL_law_1617 : decode code 1617 = .ok (.iaload, 1) := la_dk la_t16_ok (i := 19) rfl
theorem dL_law_1618 : decode code 1618 = .ok (.ifCond .eq 7, 3) := la_dk la_t16_ok (i := 20) rfl
theorem dL_law_1621 : decode code 1621 = .ok (.iconst 1, 1) := la_dk la_t16_ok (i := 21) rfl
theorem dL_law_1622 : decode code 1622 = .ok (.goto 4, 3) := la_dk la_t16_ok (i := 22) rfl
theorem dL_law_1625 : decode code 1625 = .ok (.iconst 0, 1) := la_dk la_t16_ok (i := 23) rfl
theorem dL_law_1626 : decode code 1626 = .ok (.invokevirtual 184, 3) := la_dk la_t16_ok (i := 24) rfl
theorem dL_law_1629 : decode code 1629 = .ok (.pop, 1) := la_dk la_t16_ok (i := 25) rfl
theorem dL_law_1630 : decode code 1630 = .ok (.aload_n 2, 1) := la_dk la_t16_ok (i := 26) rfl
theorem dL_law_1631 : decode code 1631 = .ok (.aload_n 0, 1) := la_dk la_t16_ok (i := 27) rfl
theorem dL_law_1632 : decode code 1632 = .ok (.iload 4, 2) := la_dk la_t16_ok (i := 28) rfl
theorem dL_law_1634 : decode code 1634 = .ok (.iconst 1, 1) := la_dk la_t16_ok (i := 29) rfl
theorem dL_law_1635 : decode code 1635 = .ok (.iadd, 1) := la_dk la_t16_ok (i := 30) rfl
theorem dL_law_1636 : decode code 1636 = .ok (.iaload, 1) := la_dk la_t16_ok (i := 31) rfl
theorem dL_law_1637 : decode code 1637 = .ok (.aload_n 0, 1) := la_dk la_t16_ok (i := 32) rfl
theorem dL_law_1638 : decode code 1638 = .ok (.iload 4, 2) := la_dk la_t16_ok (i := 33) rfl
theorem dL_law_1640 : decode code 1640 = .ok (.iconst 2, 1) := la_dk la_t16_ok (i := 34) rfl
theorem dL_law_1641 : decode code 1641 = .ok (.iadd, 1) := la_dk la_t16_ok (i := 35) rfl
theorem dL_law_1642 : decode code 1642 = .ok (.iaload, 1) := la_dk la_t16_ok (i := 36) rfl
theorem dL_law_1643 : decode code 1643 = .ok (.aload_n 0, 1) := la_dk la_t16_ok (i := 37) rfl
theorem dL_law_1644 : decode code 1644 = .ok (.iload 4, 2) := la_dk la_t16_ok (i := 38) rfl
theorem dL_law_1646 : decode code 1646 = .ok (.iconst 3, 1) := la_dk la_t16_ok (i := 39) rfl
theorem dL_law_1647 : decode code 1647 = .ok (.iadd, 1) := la_dk la_t16_ok (i := 40) rfl
theorem dL_law_1648 : decode code 1648 = .ok (.iaload, 1) := la_dk la_t16_ok (i := 41) rfl
theorem dL_law_1649 : decode code 1649 = .ok (.ifCond .eq 7, 3) := la_dk la_t16_ok (i := 42) rfl
theorem dL_law_1652 : decode code 1652 = .ok (.iconst 1, 1) := la_dk la_t16_ok (i := 43) rfl
theorem dL_law_1653 : decode code 1653 = .ok (.goto 4, 3) := la_dk la_t16_ok (i := 44) rfl
theorem dL_law_1656 : decode code 1656 = .ok (.iconst 0, 1) := la_dk la_t16_ok (i := 45) rfl
theorem dL_law_1657 : decode code 1657 = .ok (.invokevirtual 187, 3) := la_dk la_t16_ok (i := 46) rfl
theorem dL_law_1660 : decode code 1660 = .ok (.pop, 1) := la_dk la_t16_ok (i := 47) rfl
theorem dL_law_1661 : decode code 1661 = .ok (.goto 230, 3) := la_dk la_t16_ok (i := 48) rfl
theorem dL_law_1664 : decode code 1664 = .ok (.aload_n 1, 1) := la_dk la_t16_ok (i := 49) rfl
theorem dL_law_1665 : decode code 1665 = .ok (.aload_n 0, 1) := la_dk la_t16_ok (i := 50) rfl
theorem dL_law_1666 : decode code 1666 = .ok (.iload 4, 2) := la_dk la_t16_ok (i := 51) rfl
theorem dL_law_1668 : decode code 1668 = .ok (.iconst 1, 1) := la_dk la_t16_ok (i := 52) rfl
theorem dL_law_1669 : decode code 1669 = .ok (.iadd, 1) := la_dk la_t16_ok (i := 53) rfl
theorem dL_law_1670 : decode code 1670 = .ok (.iaload, 1) := la_dk la_t16_ok (i := 54) rfl
theorem dL_law_1671 : decode code 1671 = .ok (.invokevirtual 188, 3) := la_dk la_t16_ok (i := 55) rfl
theorem dL_law_1674 : decode code 1674 = .ok (.pop, 1) := la_dk la_t16_ok (i := 56) rfl
theorem dL_law_1675 : decode code 1675 = .ok (.aload_n 2, 1) := la_dk la_t16_ok (i := 57) rfl
theorem dL_law_1676 : decode code 1676 = .ok (.aload_n 0, 1) := la_dk la_t16_ok (i := 58) rfl
theorem dL_law_1677 : decode code 1677 = .ok (.iload 4, 2) := la_dk la_t16_ok (i := 59) rfl
def la_t17 : List (Nat × Instr × Nat) := [(1679, .iconst 1, 1), (1680, .iadd, 1), (1681, .iaload, 1), (1682, .invokevirtual 191, 3), (1685, .pop, 1), (1686, .goto 205, 3), (1689, .aload_n 1, 1), (1690, .aload_n 0, 1), (1691, .iload 4, 2), (1693, .iconst 1, 1), (1694, .iadd, 1), (1695, .iaload, 1), (1696, .aload_n 0, 1), (1697, .iload 4, 2), (1699, .iconst 2, 1), (1700, .iadd, 1), (1701, .iaload, 1), (1702, .invokevirtual 192, 3), (1705, .pop, 1), (1706, .aload_n 2, 1), (1707, .aload_n 0, 1), (1708, .iload 4, 2), (1710, .iconst 1, 1), (1711, .iadd, 1), (1712, .iaload, 1), (1713, .aload_n 0, 1), (1714, .iload 4, 2), (1716, .iconst 2, 1), (1717, .iadd, 1), (1718, .iaload, 1), (1719, .invokevirtual 195, 3), (1722, .pop, 1), (1723, .goto 168, 3), (1726, .aload_n 1, 1), (1727, .aload_n 0, 1), (1728, .iload 4, 2), (1730, .iconst 1, 1), (1731, .iadd, 1), (1732, .iaload, 1), (1733, .aload_n 0, 1), (1734, .iload 4, 2), (1736, .iconst 2, 1), (1737, .iadd, 1), (1738, .iaload, 1), (1739, .invokevirtual 196, 3), (1742, .pop, 1), (1743, .aload_n 2, 1), (1744, .aload_n 0, 1), (1745, .iload 4, 2), (1747, .iconst 1, 1), (1748, .iadd, 1), (1749, .iaload, 1), (1750, .aload_n 0, 1), (1751, .iload 4, 2), (1753, .iconst 2, 1), (1754, .iadd, 1), (1755, .iaload, 1), (1756, .invokevirtual 199, 3), (1759, .pop, 1), (1760, .goto 131, 3)]
set_option maxRecDepth 1000000 in
theorem la_t17_ok : la_t17.all la_dck = true := by decide +kernel
theorem dL_law_1679 : decode code 1679 = .ok (.iconst 1, 1) := la_dk la_t17_ok (i := 0) rfl
theorem dL_law_1680 : decode code 1680 = .ok (.iadd, 1) := la_dk la_t17_ok (i := 1) rfl
theorem dL_law_1681 : decode code 1681 = .ok (.iaload, 1) := la_dk la_t17_ok (i := 2) rfl
theorem dL_law_1682 : decode code 1682 = .ok (.invokevirtual 191, 3) := la_dk la_t17_ok (i := 3) rfl
theorem dL_law_1685 : decode code 1685 = .ok (.pop, 1) := la_dk la_t17_ok (i := 4) rfl
theorem dL_law_1686 : decode code 1686 = .ok (.goto 205, 3) := la_dk la_t17_ok (i := 5) rfl
theorem dL_law_1689 : decode code 1689 = .ok (.aload_n 1, 1) := la_dk la_t17_ok (i := 6) rfl
theorem dL_law_1690 : decode code 1690 = .ok (.aload_n 0, 1) := la_dk la_t17_ok (i := 7) rfl
theorem dL_law_1691 : decode code 1691 = .ok (.iload 4, 2) := la_dk la_t17_ok (i := 8) rfl
theorem dL_law_1693 : decode code 1693 = .ok (.iconst 1, 1) := la_dk la_t17_ok (i := 9) rfl
theorem dL_law_1694 : decode code 1694 = .ok (.iadd, 1) := la_dk la_t17_ok (i := 10) rfl
theorem dL_law_1695 : decode code 1695 = .ok (.iaload, 1) := la_dk la_t17_ok (i := 11) rfl
theorem dL_law_1696 : decode code 1696 = .ok (.aload_n 0, 1) := la_dk la_t17_ok (i := 12) rfl
theorem dL_law_1697 : decode code 1697 = .ok (.iload 4, 2) := la_dk la_t17_ok (i := 13) rfl
theorem dL_law_1699 : decode code 1699 = .ok (.iconst 2, 1) := la_dk la_t17_ok (i := 14) rfl
theorem dL_law_1700 : decode code 1700 = .ok (.iadd, 1) := la_dk la_t17_ok (i := 15) rfl
theorem dL_law_1701 : decode code 1701 = .ok (.iaload, 1) := la_dk la_t17_ok (i := 16) rfl
theorem dL_law_1702 : decode code 1702 = .ok (.invokevirtual 192, 3) := la_dk la_t17_ok (i := 17) rfl
theorem dL_law_1705 : decode code 1705 = .ok (.pop, 1) := la_dk la_t17_ok (i := 18) rfl
theorem dL_law_1706 : decode code 1706 = .ok (.aload_n 2, 1) := la_dk la_t17_ok (i := 19) rfl
theorem dL_law_1707 : decode code 1707 = .ok (.aload_n 0, 1) := la_dk la_t17_ok (i := 20) rfl
theorem dL_law_1708 : decode code 1708 = .ok (.iload 4, 2) := la_dk la_t17_ok (i := 21) rfl
theorem dL_law_1710 : decode code 1710 = .ok (.iconst 1, 1) := la_dk la_t17_ok (i := 22) rfl
theorem dL_law_1711 : decode code 1711 = .ok (.iadd, 1) := la_dk la_t17_ok (i := 23) rfl
theorem dL_law_1712 : decode code 1712 = .ok (.iaload, 1) := la_dk la_t17_ok (i := 24) rfl
theorem dL_law_1713 : decode code 1713 = .ok (.aload_n 0, 1) := la_dk la_t17_ok (i := 25) rfl
theorem dL_law_1714 : decode code 1714 = .ok (.iload 4, 2) := la_dk la_t17_ok (i := 26) rfl
theorem dL_law_1716 : decode code 1716 = .ok (.iconst 2, 1) := la_dk la_t17_ok (i := 27) rfl
theorem dL_law_1717 : decode code 1717 = .ok (.iadd, 1) := la_dk la_t17_ok (i := 28) rfl
theorem dL_law_1718 : decode code 1718 = .ok (.iaload, 1) := la_dk la_t17_ok (i := 29) rfl
theorem dL_law_1719 : decode code 1719 = .ok (.invokevirtual 195, 3) := la_dk la_t17_ok (i := 30) rfl
theorem dL_law_1722 : decode code 1722 = .ok (.pop, 1) := la_dk la_t17_ok (i := 31) rfl
theorem dL_law_1723 : decode code 1723 = .ok (.goto 168, 3) := la_dk la_t17_ok (i := 32) rfl
theorem dL_law_1726 : decode code 1726 = .ok (.aload_n 1, 1) := la_dk la_t17_ok (i := 33) rfl
theorem dL_law_1727 : decode code 1727 = .ok (.aload_n 0, 1) := la_dk la_t17_ok (i := 34) rfl
theorem dL_law_1728 : decode code 1728 = .ok (.iload 4, 2) := la_dk la_t17_ok (i := 35) rfl
theorem dL_law_1730 : decode code 1730 = .ok (.iconst 1, 1) := la_dk la_t17_ok (i := 36) rfl
theorem dL_law_1731 : decode code 1731 = .ok (.iadd, 1) := la_dk la_t17_ok (i := 37) rfl
theorem dL_law_1732 : decode code 1732 = .ok (.iaload, 1) := la_dk la_t17_ok (i := 38) rfl
theorem dL_law_1733 : decode code 1733 = .ok (.aload_n 0, 1) := la_dk la_t17_ok (i := 39) rfl
theorem dL_law_1734 : decode code 1734 = .ok (.iload 4, 2) := la_dk la_t17_ok (i := 40) rfl
theorem dL_law_1736 : decode code 1736 = .ok (.iconst 2, 1) := la_dk la_t17_ok (i := 41) rfl
theorem dL_law_1737 : decode code 1737 = .ok (.iadd, 1) := la_dk la_t17_ok (i := 42) rfl
theorem dL_law_1738 : decode code 1738 = .ok (.iaload, 1) := la_dk la_t17_ok (i := 43) rfl
theorem dL_law_1739 : decode code 1739 = .ok (.invokevirtual 196, 3) := la_dk la_t17_ok (i := 44) rfl
theorem dL_law_1742 : decode code 1742 = .ok (.pop, 1) := la_dk la_t17_ok (i := 45) rfl
theorem dL_law_1743 : decode code 1743 = .ok (.aload_n 2, 1) := la_dk la_t17_ok (i := 46) rfl
theorem dL_law_1744 : decode code 1744 = .ok (.aload_n 0, 1) := la_dk la_t17_ok (i := 47) rfl
theorem dL_law_1745 : decode code 1745 = .ok (.iload 4, 2) := la_dk la_t17_ok (i := 48) rfl
theorem dL_law_1747 : decode code 1747 = .ok (.iconst 1, 1) := la_dk la_t17_ok (i := 49) rfl
theorem dL_law_1748 : decode code 1748 = .ok (.iadd, 1) := la_dk la_t17_ok (i := 50) rfl
theorem dL_law_1749 : decode code 1749 = .ok (.iaload, 1) := la_dk la_t17_ok (i := 51) rfl
theorem dL_law_1750 : decode code 1750 = .ok (.aload_n 0, 1) := la_dk la_t17_ok (i := 52) rfl
theorem dL_law_1751 : decode code 1751 = .ok (.iload 4, 2) := la_dk la_t17_ok (i := 53) rfl
theorem dL_law_1753 : decode code 1753 = .ok (.iconst 2, 1) := la_dk la_t17_ok (i := 54) rfl
theorem dL_law_1754 : decode code 1754 = .ok (.iadd, 1) := la_dk la_t17_ok (i := 55) rfl
theorem dL_law_1755 : decode code 1755 = .ok (.iaload, 1) := la_dk la_t17_ok (i := 56) rfl
theorem dL_law_1756 : decode code 1756 = .ok (.invokevirtual 199, 3) := la_dk la_t17_ok (i := 57) rfl
theorem dL_law_1759 : decode code 1759 = .ok (.pop, 1) := la_dk la_t17_ok (i := 58) rfl
theorem dL_law_1760 : decode code 1760 = .ok (.goto 131, 3) := la_dk la_t17_ok (i := 59) rfl
def la_t18 : List (Nat × Instr × Nat) := [(1763, .aload_n 1, 1), (1764, .aload_n 0, 1), (1765, .iload 4, 2), (1767, .iconst 1, 1), (1768, .iadd, 1), (1769, .iaload, 1), (1770, .aload_n 0, 1), (1771, .iload 4, 2), (1773, .iconst 2, 1), (1774, .iadd, 1), (1775, .iaload, 1), (1776, .aload_n 0, 1), (1777, .iload 4, 2), (1779, .iconst 3, 1), (1780, .iadd, 1), (1781, .iaload, 1), (1782, .invokevirtual 200, 3), (1785, .pop, 1), (1786, .aload_n 2, 1), (1787, .aload_n 0, 1), (1788, .iload 4, 2), (1790, .iconst 1, 1), (1791, .iadd, 1), (1792, .iaload, 1), (1793, .aload_n 0, 1), (1794, .iload 4, 2), (1796, .iconst 2, 1), (1797, .iadd, 1), (1798, .iaload, 1), (1799, .aload_n 0, 1), (1800, .iload 4, 2), (1802, .iconst 3, 1), (1803, .iadd, 1), (1804, .iaload, 1), (1805, .invokevirtual 203, 3), (1808, .pop, 1), (1809, .goto 82, 3), (1812, .aload_n 1, 1), (1813, .aload_n 0, 1), (1814, .iload 4, 2), (1816, .iconst 1, 1), (1817, .iadd, 1), (1818, .iaload, 1), (1819, .invokevirtual 204, 3), (1822, .pop, 1), (1823, .aload_n 2, 1), (1824, .aload_n 0, 1), (1825, .iload 4, 2), (1827, .iconst 1, 1), (1828, .iadd, 1), (1829, .iaload, 1), (1830, .invokevirtual 207, 3), (1833, .pop, 1), (1834, .goto 57, 3), (1837, .aload_n 1, 1), (1838, .invokevirtual 208, 3), (1841, .pop, 1), (1842, .aload_n 2, 1), (1843, .invokevirtual 211, 3), (1846, .pop, 1)]
set_option maxRecDepth 1000000 in
theorem la_t18_ok : la_t18.all la_dck = true := by decide +kernel
theorem dL_law_1763 : decode code 1763 = .ok (.aload_n 1, 1) := la_dk la_t18_ok (i := 0) rfl
theorem dL_law_1764 : decode code 1764 = .ok (.aload_n 0, 1) := la_dk la_t18_ok (i := 1) rfl
theorem dL_law_1765 : decode code 1765 = .ok (.iload 4, 2) := la_dk la_t18_ok (i := 2) rfl
theorem dL_law_1767 : decode code 1767 = .ok (.iconst 1, 1) := la_dk la_t18_ok (i := 3) rfl
theorem dL_law_1768 : decode code 1768 = .ok (.iadd, 1) := la_dk la_t18_ok (i := 4) rfl
theorem dL_law_1769 : decode code 1769 = .ok (.iaload, 1) := la_dk la_t18_ok (i := 5) rfl
theorem dL_law_1770 : decode code 1770 = .ok (.aload_n 0, 1) := la_dk la_t18_ok (i := 6) rfl
theorem dL_law_1771 : decode code 1771 = .ok (.iload 4, 2) := la_dk la_t18_ok (i := 7) rfl
theorem dL_law_1773 : decode code 1773 = .ok (.iconst 2, 1) := la_dk la_t18_ok (i := 8) rfl
theorem dL_law_1774 : decode code 1774 = .ok (.iadd, 1) := la_dk la_t18_ok (i := 9) rfl
theorem dL_law_1775 : decode code 1775 = .ok (.iaload, 1) := la_dk la_t18_ok (i := 10) rfl
theorem dL_law_1776 : decode code 1776 = .ok (.aload_n 0, 1) := la_dk la_t18_ok (i := 11) rfl
theorem dL_law_1777 : decode code 1777 = .ok (.iload 4, 2) := la_dk la_t18_ok (i := 12) rfl
theorem dL_law_1779 : decode code 1779 = .ok (.iconst 3, 1) := la_dk la_t18_ok (i := 13) rfl
theorem dL_law_1780 : decode code 1780 = .ok (.iadd, 1) := la_dk la_t18_ok (i := 14) rfl
theorem dL_law_1781 : decode code 1781 = .ok (.iaload, 1) := la_dk la_t18_ok (i := 15) rfl
theorem dL_law_1782 : decode code 1782 = .ok (.invokevirtual 200, 3) := la_dk la_t18_ok (i := 16) rfl
theorem dL_law_1785 : decode code 1785 = .ok (.pop, 1) := la_dk la_t18_ok (i := 17) rfl
theorem dL_law_1786 : decode code 1786 = .ok (.aload_n 2, 1) := la_dk la_t18_ok (i := 18) rfl
theorem dL_law_1787 : decode code 1787 = .ok (.aload_n 0, 1) := la_dk la_t18_ok (i := 19) rfl
theorem dL_law_1788 : decode code 1788 = .ok (.iload 4, 2) := la_dk la_t18_ok (i := 20) rfl
theorem dL_law_1790 : decode code 1790 = .ok (.iconst 1, 1) := la_dk la_t18_ok (i := 21) rfl
theorem dL_law_1791 : decode code 1791 = .ok (.iadd, 1) := la_dk la_t18_ok (i := 22) rfl
theorem dL_law_1792 : decode code 1792 = .ok (.iaload, 1) := la_dk la_t18_ok (i := 23) rfl
theorem dL_law_1793 : decode code 1793 = .ok (.aload_n 0, 1) := la_dk la_t18_ok (i := 24) rfl
theorem dL_law_1794 : decode code 1794 = .ok (.iload 4, 2) := la_dk la_t18_ok (i := 25) rfl
theorem dL_law_1796 : decode code 1796 = .ok (.iconst 2, 1) := la_dk la_t18_ok (i := 26) rfl
theorem dL_law_1797 : decode code 1797 = .ok (.iadd, 1) := la_dk la_t18_ok (i := 27) rfl
theorem dL_law_1798 : decode code 1798 = .ok (.iaload, 1) := la_dk la_t18_ok (i := 28) rfl
theorem dL_law_1799 : decode code 1799 = .ok (.aload_n 0, 1) := la_dk la_t18_ok (i := 29) rfl
theorem dL_law_1800 : decode code 1800 = .ok (.iload 4, 2) := la_dk la_t18_ok (i := 30) rfl
theorem dL_law_1802 : decode code 1802 = .ok (.iconst 3, 1) := la_dk la_t18_ok (i := 31) rfl
theorem dL_law_1803 : decode code 1803 = .ok (.iadd, 1) := la_dk la_t18_ok (i := 32) rfl
theorem dL_law_1804 : decode code 1804 = .ok (.iaload, 1) := la_dk la_t18_ok (i := 33) rfl
theorem dL_law_1805 : decode code 1805 = .ok (.invokevirtual 203, 3) := la_dk la_t18_ok (i := 34) rfl
theorem dL_law_1808 : decode code 1808 = .ok (.pop, 1) := la_dk la_t18_ok (i := 35) rfl
theorem dL_law_1809 : decode code 1809 = .ok (.goto 82, 3) := la_dk la_t18_ok (i := 36) rfl
theorem dL_law_1812 : decode code 1812 = .ok (.aload_n 1, 1) := la_dk la_t18_ok (i := 37) rfl
theorem dL_law_1813 : decode code 1813 = .ok (.aload_n 0, 1) := la_dk la_t18_ok (i := 38) rfl
theorem dL_law_1814 : decode code 1814 = .ok (.iload 4, 2) := la_dk la_t18_ok (i := 39) rfl
theorem dL_law_1816 : decode code 1816 = .ok (.iconst 1, 1) := la_dk la_t18_ok (i := 40) rfl
theorem dL_law_1817 : decode code 1817 = .ok (.iadd, 1) := la_dk la_t18_ok (i := 41) rfl
theorem dL_law_1818 : decode code 1818 = .ok (.iaload, 1) := la_dk la_t18_ok (i := 42) rfl
theorem dL_law_1819 : decode code 1819 = .ok (.invokevirtual 204, 3) := la_dk la_t18_ok (i := 43) rfl
theorem dL_law_1822 : decode code 1822 = .ok (.pop, 1) := la_dk la_t18_ok (i := 44) rfl
theorem dL_law_1823 : decode code 1823 = .ok (.aload_n 2, 1) := la_dk la_t18_ok (i := 45) rfl
theorem dL_law_1824 : decode code 1824 = .ok (.aload_n 0, 1) := la_dk la_t18_ok (i := 46) rfl
theorem dL_law_1825 : decode code 1825 = .ok (.iload 4, 2) := la_dk la_t18_ok (i := 47) rfl
theorem dL_law_1827 : decode code 1827 = .ok (.iconst 1, 1) := la_dk la_t18_ok (i := 48) rfl
theorem dL_law_1828 : decode code 1828 = .ok (.iadd, 1) := la_dk la_t18_ok (i := 49) rfl
theorem dL_law_1829 : decode code 1829 = .ok (.iaload, 1) := la_dk la_t18_ok (i := 50) rfl
theorem dL_law_1830 : decode code 1830 = .ok (.invokevirtual 207, 3) := la_dk la_t18_ok (i := 51) rfl
theorem dL_law_1833 : decode code 1833 = .ok (.pop, 1) := la_dk la_t18_ok (i := 52) rfl
theorem dL_law_1834 : decode code 1834 = .ok (.goto 57, 3) := la_dk la_t18_ok (i := 53) rfl
theorem dL_law_1837 : decode code 1837 = .ok (.aload_n 1, 1) := la_dk la_t18_ok (i := 54) rfl
theorem dL_law_1838 : decode code 1838 = .ok (.invokevirtual 208, 3) := la_dk la_t18_ok (i := 55) rfl
theorem dL_law_1841 : decode code 1841 = .ok (.pop, 1) := la_dk la_t18_ok (i := 56) rfl
theorem dL_law_1842 : decode code 1842 = .ok (.aload_n 2, 1) := la_dk la_t18_ok (i := 57) rfl
theorem dL_law_1843 : decode code 1843 = .ok (.invokevirtual 211, 3) := la_dk la_t18_ok (i := 58) rfl
theorem dL_law_1846 : decode code 1846 = .ok (.pop, 1) := la_dk la_t18_ok (i := 59) rfl
def la_t19 : List (Nat × Instr × Nat) := [(1847, .goto 44, 3), (1850, .aload_n 1, 1), (1851, .invokevirtual 212, 3), (1854, .pop, 1), (1855, .aload_n 2, 1), (1856, .invokevirtual 215, 3), (1859, .pop, 1), (1860, .goto 31, 3), (1863, .aload_n 1, 1), (1864, .aload_n 0, 1), (1865, .iload 4, 2), (1867, .iconst 1, 1), (1868, .iadd, 1), (1869, .iaload, 1), (1870, .aload_n 3, 1), (1871, .invokestatic 216, 3), (1874, .istore 5, 2), (1876, .aload_n 2, 1), (1877, .aload_n 0, 1), (1878, .iload 4, 2), (1880, .iconst 1, 1), (1881, .iadd, 1), (1882, .iaload, 1), (1883, .invokevirtual 221, 3), (1886, .istore 6, 2), (1888, .goto 3, 3), (1891, .iinc 4 6, 3), (1894, .goto (-1871), 3), (1897, .iconst 1, 1), (1898, .ireturn, 1)]
set_option maxRecDepth 1000000 in
theorem la_t19_ok : la_t19.all la_dck = true := by decide +kernel
theorem dL_law_1847 : decode code 1847 = .ok (.goto 44, 3) := la_dk la_t19_ok (i := 0) rfl
theorem dL_law_1850 : decode code 1850 = .ok (.aload_n 1, 1) := la_dk la_t19_ok (i := 1) rfl
theorem dL_law_1851 : decode code 1851 = .ok (.invokevirtual 212, 3) := la_dk la_t19_ok (i := 2) rfl
theorem dL_law_1854 : decode code 1854 = .ok (.pop, 1) := la_dk la_t19_ok (i := 3) rfl
theorem dL_law_1855 : decode code 1855 = .ok (.aload_n 2, 1) := la_dk la_t19_ok (i := 4) rfl
theorem dL_law_1856 : decode code 1856 = .ok (.invokevirtual 215, 3) := la_dk la_t19_ok (i := 5) rfl
theorem dL_law_1859 : decode code 1859 = .ok (.pop, 1) := la_dk la_t19_ok (i := 6) rfl
theorem dL_law_1860 : decode code 1860 = .ok (.goto 31, 3) := la_dk la_t19_ok (i := 7) rfl
theorem dL_law_1863 : decode code 1863 = .ok (.aload_n 1, 1) := la_dk la_t19_ok (i := 8) rfl
theorem dL_law_1864 : decode code 1864 = .ok (.aload_n 0, 1) := la_dk la_t19_ok (i := 9) rfl
theorem dL_law_1865 : decode code 1865 = .ok (.iload 4, 2) := la_dk la_t19_ok (i := 10) rfl
theorem dL_law_1867 : decode code 1867 = .ok (.iconst 1, 1) := la_dk la_t19_ok (i := 11) rfl
theorem dL_law_1868 : decode code 1868 = .ok (.iadd, 1) := la_dk la_t19_ok (i := 12) rfl
theorem dL_law_1869 : decode code 1869 = .ok (.iaload, 1) := la_dk la_t19_ok (i := 13) rfl
theorem dL_law_1870 : decode code 1870 = .ok (.aload_n 3, 1) := la_dk la_t19_ok (i := 14) rfl
theorem dL_law_1871 : decode code 1871 = .ok (.invokestatic 216, 3) := la_dk la_t19_ok (i := 15) rfl
theorem dL_law_1874 : decode code 1874 = .ok (.istore 5, 2) := la_dk la_t19_ok (i := 16) rfl
theorem dL_law_1876 : decode code 1876 = .ok (.aload_n 2, 1) := la_dk la_t19_ok (i := 17) rfl
theorem dL_law_1877 : decode code 1877 = .ok (.aload_n 0, 1) := la_dk la_t19_ok (i := 18) rfl
theorem dL_law_1878 : decode code 1878 = .ok (.iload 4, 2) := la_dk la_t19_ok (i := 19) rfl
theorem dL_law_1880 : decode code 1880 = .ok (.iconst 1, 1) := la_dk la_t19_ok (i := 20) rfl
theorem dL_law_1881 : decode code 1881 = .ok (.iadd, 1) := la_dk la_t19_ok (i := 21) rfl
theorem dL_law_1882 : decode code 1882 = .ok (.iaload, 1) := la_dk la_t19_ok (i := 22) rfl
theorem dL_law_1883 : decode code 1883 = .ok (.invokevirtual 221, 3) := la_dk la_t19_ok (i := 23) rfl
theorem dL_law_1886 : decode code 1886 = .ok (.istore 6, 2) := la_dk la_t19_ok (i := 24) rfl
theorem dL_law_1888 : decode code 1888 = .ok (.goto 3, 3) := la_dk la_t19_ok (i := 25) rfl
theorem dL_law_1891 : decode code 1891 = .ok (.iinc 4 6, 3) := la_dk la_t19_ok (i := 26) rfl
theorem dL_law_1894 : decode code 1894 = .ok (.goto (-1871), 3) := la_dk la_t19_ok (i := 27) rfl
theorem dL_law_1897 : decode code 1897 = .ok (.iconst 1, 1) := la_dk la_t19_ok (i := 28) rfl
theorem dL_law_1898 : decode code 1898 = .ok (.ireturn, 1) := la_dk la_t19_ok (i := 29) rfl
