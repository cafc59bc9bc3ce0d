/-! contracts of the reference (17); written by wip/jc/e5.py -/
section Jjxm17
variable {X : J_H → Prop}
set_option maxRecDepth 1000000 in
theorem jxm_c46_k304_2 : jc_ndc jxm_c46_Z 100000 jxm_c46 304 jxm_c46_n304_2 = true := by decide +kernel
set_option maxRecDepth 1000000 in
theorem jxm_c46_k304_3 : jc_ndc jxm_c46_Z 100000 jxm_c46 304 jxm_c46_n304_3 = true := by decide +kernel
set_option maxRecDepth 1000000 in
theorem jxm_c46_k304_4 : jc_ndc jxm_c46_Z 100000 jxm_c46 304 jxm_c46_n304_4 = true := by decide +kernel
set_option maxRecDepth 1000000 in
theorem jxm_c46_s : jc_mtg jxm_c46_Z 100000 jxm_c46 = true := by decide +kernel
theorem jxm_c46_h : ∀ pc ns, ja_n2 jxm_c46_N pc = some ns → jc_ndc jxm_c46_Z 100000 jxm_c46 pc ns = true := by
  intro pc ns h
  have hp := jc_inl_ok (ja_ch2_ok (p := fun i (_ : List jc_Nd) => jc_inl i [2, 56, 211, 304]) (L := jxm_c46_N) (by decide +kernel) h)
  simp only [List.mem_cons, List.not_mem_nil, or_false] at hp
  rcases hp with rfl | rfl | rfl | rfl
  · exact (Option.some.inj (h.symm.trans (show ja_n2 jxm_c46_N 2 = some jxm_c46_n2_0 from rfl))) ▸ jxm_c46_k2_0
  · exact (Option.some.inj (h.symm.trans (show ja_n2 jxm_c46_N 56 = some (jxm_c46_n56_0 ++ (jxm_c46_n56_1 ++ jxm_c46_n56_2)) from rfl))) ▸ (jc_ndc_app jxm_c46_k56_0 (jc_ndc_app jxm_c46_k56_1 jxm_c46_k56_2))
  · exact (Option.some.inj (h.symm.trans (show ja_n2 jxm_c46_N 211 = some (jxm_c46_n211_0 ++ jxm_c46_n211_1) from rfl))) ▸ (jc_ndc_app jxm_c46_k211_0 jxm_c46_k211_1)
  · exact (Option.some.inj (h.symm.trans (show ja_n2 jxm_c46_N 304 = some (jxm_c46_n304_0 ++ (jxm_c46_n304_1 ++ (jxm_c46_n304_2 ++ (jxm_c46_n304_3 ++ jxm_c46_n304_4)))) from rfl))) ▸ (jc_ndc_app jxm_c46_k304_0 (jc_ndc_app jxm_c46_k304_1 (jc_ndc_app jxm_c46_k304_2 (jc_ndc_app jxm_c46_k304_3 jxm_c46_k304_4))))
theorem jxm_c46_ok (hX : jc_Xo jxm X) (hg19 : jc_Con jP jxm X jxm_g19) (hg20 : jc_Con jP jxm X jxm_g20) (hg40 : jc_Con jP jxm X jxm_g40) (hg41 : jc_Con jP jxm X jxm_g41) : jc_Con jP jxm X jxm_c46 := jc_mthc_ok (Z := jxm_c46_Z) (f := 100000) jxm_ok hX jT_ok (jc_c1 (jxm_c41_ok hX hg20 hg41) (jc_c1 (jxm_c42_ok hX hg20 hg41) (jc_c1 (jxm_c43_ok hX hg20 hg41) (jc_c1 (jxm_c44_ok hX hg20 hg41) (jc_c1 (jxm_c45_ok hX hg19 hg40) (jc_c1 (jxm_c35_ok hX) (jc_c1 (jxm_c36_ok hX) (jc_c1 (jxm_c37_ok hX) (jc_c1 (jxm_c38_ok hX) (jc_c1 (jxm_c39_ok hX) (jc_c1 (jxm_c40_ok hX) jc_c0))))))))))) jxm_c46_s jxm_c46_h
-- toTheEnd
def jxm_c47 : jc_Cn := (231, 11, [.inr (some (some 359)), .inl (1, .ofNat 0)], (2, [(1, .ofNat 0, .ofNat 1)], [], [], [], [9, 10, 12, 13, 14, 15, 16, 17, 18, 21, 22, 23, 24, 25]), [(360, 0, 602), (363, 0, 602), (368, 0, 5), (359, 23, 24)], [((1, [], [], [], [], [9, 10, 12, 13, 14, 15, 16, 17, 18, 21, 22, 23, 24, 25]), none)])
def jxm_c47_N : jc_Nt := [some [none, none, some ([(1, some 2, (3, [(1, .ofNat 0, .ofNat 1), (2, .ofNat 0, .ofNat 300)], [], [], [], [9, 10, 12, 13, 14, 15, 16, 17, 18, 21, 22, 23, 24, 25]), [(0, .inr (some (some 359))), (1, .inl (1, .ofNat 0)), (2, .inl (2, .ofNat 0))])]), none, none, none, none, none, none, none, none, none, none, none, none, none]]
set_option maxRecDepth 1000000 in
theorem jxm_c47_ok (hX : jc_Xo jxm X) (hg19 : jc_Con jP jxm X jxm_g19) (hg20 : jc_Con jP jxm X jxm_g20) (hg40 : jc_Con jP jxm X jxm_g40) (hg41 : jc_Con jP jxm X jxm_g41) : jc_Con jP jxm X jxm_c47 := jc_mth_ok (Z := (jxm, [], jT, [jxm_c22, jxm_c46, jxm_c0], jxm_S0, jxm_c47_N, .ofNat 100000)) (f := 100000) jxm_ok hX jT_ok (jc_c1 (jxm_c22_ok hX) (jc_c1 (jxm_c46_ok hX hg19 hg20 hg40 hg41) (jc_c1 (jxm_c0_ok hX) jc_c0))) (by decide +kernel)
-- go
def jxm_c48 : jc_Cn := (185, 1, [.inr (some (some 359))], (1, [], [], [], [], [8, 9, 10, 11, 12, 13, 14, 15, 16, 17, 18, 19, 21, 22, 23, 24, 25]), [(359, 15, 16), (359, 16, 17), (359, 17, 18), (359, 18, 19), (359, 19, 20), (359, 20, 21), (359, 21, 22)], [((1, [], [], [], [], [8, 9, 10, 11, 12, 13, 14, 15, 16, 17, 18, 19, 21, 22, 23, 24, 25]), none)])
def jxm_c48_N : jc_Nt := [some [some ([(2, some 1, (2, [(1, .ofNat 0, .ofNat 700)], [(2940944, .inl (1, .ofNat 0))], [], [], [8, 9, 10, 11, 12, 13, 14, 15, 16, 17, 18, 19, 21, 22, 23, 24, 25]), [(0, .inr (some (some 359)))])]), none, none, none, none, none, none, none, none, none, none, none, none, none, none, none],
  none,
  none,
  none,
  none,
  some [none, some ([(1, some 2, (3, [(1, .ofNat 97, .ofNat 122), (2, .ofNat 0, .ofNat 700)], [(2940944, .inl (2, .ofNat 0))], [], [], [8, 9, 10, 11, 12, 13, 14, 15, 16, 17, 18, 19, 21, 22, 23, 24, 25]), [(0, .inr (some (some 359))), (1, .inl (1, .ofNat 0))])]), none, none, none, none, none, none, none, none, none, none, none, none, none, none],
  none,
  none,
  none,
  none,
  none,
  some [none, none, none, none, none, none, none, none, some ([(1, some 2, (3, [(1, .ofNat 48, .ofNat 57), (2, .ofNat 0, .ofNat 700)], [(2940944, .inl (2, .ofNat 0))], [], [], [8, 9, 10, 11, 12, 13, 14, 15, 16, 17, 18, 19, 21, 22, 23, 24, 25]), [(0, .inr (some (some 359))), (1, .inl (1, .ofNat 0))])]), none, none, none, none, none, none, none]]
set_option maxRecDepth 1000000 in
theorem jxm_c48_ok (hX : jc_Xo jxm X) : jc_Con jP jxm X jxm_c48 := jc_mth_ok (Z := (jxm, [], jT, [], jxm_S0, jxm_c48_N, .ofNat 100000)) (f := 100000) jxm_ok hX jT_ok jc_c0 (by decide +kernel)
-- stationHere
def jxm_c49 : jc_Cn := (193, 0, [.inr (some (some 359))], (1, [], [], [], [], [8, 9, 10, 11, 12, 13, 14, 15, 16, 17, 18, 19, 21, 22, 23, 24, 25]), [], [((2, [(1, .negSucc 0, .ofNat 6)], [], [], [], [8, 9, 10, 11, 12, 13, 14, 15, 16, 17, 18, 19, 21, 22, 23, 24, 25]), some (.inl (1, .ofNat 0)))])
def jxm_c49_N : jc_Nt := [some [none, none, some ([(8, none, (1, [], [], [], [], [8, 9, 10, 11, 12, 13, 14, 15, 16, 17, 18, 19, 21, 22, 23, 24, 25]), [(0, .inr (some (some 359))), (1, .inl (0, .ofNat 0))]),
    (7, none, (1, [], [], [], [], [8, 9, 10, 11, 12, 13, 14, 15, 16, 17, 18, 19, 21, 22, 23, 24, 25]), [(0, .inr (some (some 359))), (1, .inl (0, .ofNat 1))]),
    (6, none, (1, [], [], [], [], [8, 9, 10, 11, 12, 13, 14, 15, 16, 17, 18, 19, 21, 22, 23, 24, 25]), [(0, .inr (some (some 359))), (1, .inl (0, .ofNat 2))]),
    (5, none, (1, [], [], [], [], [8, 9, 10, 11, 12, 13, 14, 15, 16, 17, 18, 19, 21, 22, 23, 24, 25]), [(0, .inr (some (some 359))), (1, .inl (0, .ofNat 3))]),
    (4, none, (1, [], [], [], [], [8, 9, 10, 11, 12, 13, 14, 15, 16, 17, 18, 19, 21, 22, 23, 24, 25]), [(0, .inr (some (some 359))), (1, .inl (0, .ofNat 4))]),
    (3, none, (1, [], [], [], [], [8, 9, 10, 11, 12, 13, 14, 15, 16, 17, 18, 19, 21, 22, 23, 24, 25]), [(0, .inr (some (some 359))), (1, .inl (0, .ofNat 5))]),
    (2, none, (1, [], [], [], [], [8, 9, 10, 11, 12, 13, 14, 15, 16, 17, 18, 19, 21, 22, 23, 24, 25]), [(0, .inr (some (some 359))), (1, .inl (0, .ofNat 6))]),
    (1, none, (1, [], [], [], [], [8, 9, 10, 11, 12, 13, 14, 15, 16, 17, 18, 19, 21, 22, 23, 24, 25]), [(0, .inr (some (some 359))), (1, .inl (0, .ofNat 7))])]), none, none, none, none, none, none, none, none, none, none, none, none, none]]
set_option maxRecDepth 1000000 in
theorem jxm_c49_ok (hX : jc_Xo jxm X) : jc_Con jP jxm X jxm_c49 := jc_mth_ok (Z := (jxm, [], jT, [], jxm_S0, jxm_c49_N, .ofNat 100000)) (f := 100000) jxm_ok hX jT_ok jc_c0 (by decide +kernel)
-- isName
def jxm_c50 : jc_Cn := (189, 3, [.inr (some (some 359))], (1, [], [], [], [], [8, 9, 10, 11, 12, 13, 14, 15, 16, 17, 18, 19, 21, 22, 23, 24, 25]), [], [((1, [], [], [], [], [8, 9, 10, 11, 12, 13, 14, 15, 16, 17, 18, 19, 21, 22, 23, 24, 25]), some (.inl (0, .ofNat 0))), ((1, [], [], [], [], [8, 9, 10, 11, 12, 13, 14, 15, 16, 17, 18, 19, 21, 22, 23, 24, 25]), some (.inl (0, .ofNat 1)))])
def jxm_c50_N : jc_Nt := []
set_option maxRecDepth 1000000 in
theorem jxm_c50_ok (hX : jc_Xo jxm X) : jc_Con jP jxm X jxm_c50 := jc_mth_ok (Z := (jxm, [], jT, [], jxm_S0, jxm_c50_N, .ofNat 100000)) (f := 100000) jxm_ok hX jT_ok jc_c0 (by decide +kernel)
-- readName
def jxm_c51 : jc_Cn := (194, 4, [.inr (some (some 359)), .inl (1, .ofNat 0)], (2, [(1, .ofNat 0, .ofNat 11)], [], [], [], [8, 9, 10, 11, 12, 13, 14, 15, 16, 17, 18, 19, 21, 22, 23, 24, 25]), [(359, 15, 16), (359, 16, 17), (359, 17, 18), (359, 18, 19), (359, 19, 20), (359, 20, 21), (359, 21, 22), (367, 0, 12)], [((1, [], [], [], [], [8, 9, 10, 11, 12, 13, 14, 15, 16, 17, 18, 19, 21, 22, 23, 24, 25]), some (.inl (0, .ofNat 0))), ((1, [], [], [], [], [8, 9, 10, 11, 12, 13, 14, 15, 16, 17, 18, 19, 21, 22, 23, 24, 25]), some (.inl (0, .ofNat 1)))])
def jxm_c51_N : jc_Nt := [none,
  some [none, none, none, none, none, none, none, none, none, none, none, none, none, some ([(6, none, (3, [(1, .ofNat 0, .ofNat 11), (2, .ofNat 0, .ofNat 1)], [], [], [], [8, 9, 10, 11, 12, 13, 14, 15, 16, 17, 18, 19, 21, 22, 23, 24, 25]), [(0, .inr (some (some 359))), (1, .inl (1, .ofNat 0)), (2, .inl (2, .ofNat 0)), (3, .inl (0, .ofNat 0))]),
    (5, none, (3, [(1, .ofNat 0, .ofNat 11), (2, .ofNat 0, .ofNat 1)], [], [], [], [8, 9, 10, 11, 12, 13, 14, 15, 16, 17, 18, 19, 21, 22, 23, 24, 25]), [(0, .inr (some (some 359))), (1, .inl (1, .ofNat 0)), (2, .inl (2, .ofNat 0)), (3, .inl (0, .ofNat 1))]),
    (4, none, (3, [(1, .ofNat 0, .ofNat 11), (2, .ofNat 0, .ofNat 1)], [], [], [], [8, 9, 10, 11, 12, 13, 14, 15, 16, 17, 18, 19, 21, 22, 23, 24, 25]), [(0, .inr (some (some 359))), (1, .inl (1, .ofNat 0)), (2, .inl (2, .ofNat 0)), (3, .inl (0, .ofNat 2))]),
    (3, none, (3, [(1, .ofNat 0, .ofNat 11), (2, .ofNat 0, .ofNat 1)], [], [], [], [8, 9, 10, 11, 12, 13, 14, 15, 16, 17, 18, 19, 21, 22, 23, 24, 25]), [(0, .inr (some (some 359))), (1, .inl (1, .ofNat 0)), (2, .inl (2, .ofNat 0)), (3, .inl (0, .ofNat 3))]),
    (2, none, (3, [(1, .ofNat 0, .ofNat 11), (2, .ofNat 0, .ofNat 1)], [], [], [], [8, 9, 10, 11, 12, 13, 14, 15, 16, 17, 18, 19, 21, 22, 23, 24, 25]), [(0, .inr (some (some 359))), (1, .inl (1, .ofNat 0)), (2, .inl (2, .ofNat 0)), (3, .inl (0, .ofNat 4))]),
    (1, none, (3, [(1, .ofNat 0, .ofNat 11), (2, .ofNat 0, .ofNat 1)], [], [], [], [8, 9, 10, 11, 12, 13, 14, 15, 16, 17, 18, 19, 21, 22, 23, 24, 25]), [(0, .inr (some (some 359))), (1, .inl (1, .ofNat 0)), (2, .inl (2, .ofNat 0)), (3, .inl (0, .ofNat 5))])]), none, none]]
set_option maxRecDepth 1000000 in
theorem jxm_c51_ok (hX : jc_Xo jxm X) : jc_Con jP jxm X jxm_c51 := jc_mth_ok (Z := (jxm, [], jT, [jxm_c48, jxm_c50, jxm_c49], jxm_S0, jxm_c51_N, .ofNat 100000)) (f := 100000) jxm_ok hX jT_ok (jc_c1 (jxm_c48_ok hX) (jc_c1 (jxm_c50_ok hX) (jc_c1 (jxm_c49_ok hX) jc_c0))) (by decide +kernel)
-- readStation0
def jxm_c52 : jc_Cn := (195, 5, [.inr (some (some 359))], (1, [], [(2957514, .inl (0, .ofNat 0))], [], [], [8, 9, 10, 11, 12, 13, 14, 15, 16, 17, 18, 19, 21, 22, 23, 24, 25]), [(359, 15, 16), (359, 16, 17), (359, 17, 18), (359, 18, 19), (359, 19, 20), (359, 20, 21), (359, 21, 22), (367, 0, 12), (361, 0, 56), (361, 202, 203)], [((2, [(1, .ofNat 0, .ofNat 1)], [(2957514, .inl (1, .ofNat 0))], [], [], [8, 9, 10, 11, 12, 13, 14, 15, 16, 17, 18, 19, 21, 22, 23, 24, 25]), some (.inl (0, .ofNat 0))), ((1, [], [(2957514, .inl (0, .ofNat 1))], [], [], [8, 9, 10, 11, 12, 13, 14, 15, 16, 17, 18, 19, 21, 22, 23, 24, 25]), some (.inl (0, .ofNat 1)))])
def jxm_c52_N : jc_Nt := [none,
  none,
  none,
  some [none, none, none, none, none, none, none, none, none, none, none, none, none, some ([(4, none, (1, [], [(2957514, .inl (0, .ofNat 0))], [], [], [8, 9, 10, 11, 12, 13, 14, 15, 16, 17, 18, 19, 21, 22, 23, 24, 25]), [(0, .inr (some (some 359))), (1, .inl (0, .ofNat 0)), (2, .inl (0, .ofNat 0))]),
    (3, none, (1, [], [(2957514, .inl (0, .ofNat 0))], [], [], [8, 9, 10, 11, 12, 13, 14, 15, 16, 17, 18, 19, 21, 22, 23, 24, 25]), [(0, .inr (some (some 359))), (1, .inl (0, .ofNat 0)), (2, .inl (0, .ofNat 1))]),
    (2, none, (1, [], [(2957514, .inl (0, .ofNat 0))], [], [], [8, 9, 10, 11, 12, 13, 14, 15, 16, 17, 18, 19, 21, 22, 23, 24, 25]), [(0, .inr (some (some 359))), (1, .inl (0, .ofNat 0)), (2, .inl (0, .ofNat 2))]),
    (1, none, (1, [], [(2957514, .inl (0, .ofNat 0))], [], [], [8, 9, 10, 11, 12, 13, 14, 15, 16, 17, 18, 19, 21, 22, 23, 24, 25]), [(0, .inr (some (some 359))), (1, .inl (0, .ofNat 0)), (2, .inl (0, .ofNat 3))])]), none, none]]
set_option maxRecDepth 1000000 in
theorem jxm_c52_ok (hX : jc_Xo jxm X) : jc_Con jP jxm X jxm_c52 := jc_mth_ok (Z := (jxm, [], jT, [jxm_c48, jxm_c51], jxm_S0, jxm_c52_N, .ofNat 100000)) (f := 100000) jxm_ok hX jT_ok (jc_c1 (jxm_c48_ok hX) (jc_c1 (jxm_c51_ok hX) jc_c0)) (by decide +kernel)
-- readStation1
def jxm_c53 : jc_Cn := (195, 5, [.inr (some (some 359))], (1, [], [(2957514, .inl (0, .ofNat 1))], [], [], [8, 9, 10, 11, 12, 13, 14, 15, 16, 17, 18, 19, 21, 22, 23, 24, 25]), [(359, 15, 16), (359, 16, 17), (359, 17, 18), (359, 18, 19), (359, 19, 20), (359, 20, 21), (359, 21, 22), (367, 0, 12), (361, 0, 56), (361, 202, 203)], [((2, [(1, .ofNat 1, .ofNat 2)], [(2957514, .inl (1, .ofNat 0))], [], [], [8, 9, 10, 11, 12, 13, 14, 15, 16, 17, 18, 19, 21, 22, 23, 24, 25]), some (.inl (0, .ofNat 0))), ((1, [], [(2957514, .inl (0, .ofNat 2))], [], [], [8, 9, 10, 11, 12, 13, 14, 15, 16, 17, 18, 19, 21, 22, 23, 24, 25]), some (.inl (0, .ofNat 1)))])
def jxm_c53_N : jc_Nt := [none,
  none,
  none,
  some [none, none, none, none, none, none, none, none, none, none, none, none, none, some ([(4, none, (1, [], [(2957514, .inl (0, .ofNat 1))], [], [], [8, 9, 10, 11, 12, 13, 14, 15, 16, 17, 18, 19, 21, 22, 23, 24, 25]), [(0, .inr (some (some 359))), (1, .inl (0, .ofNat 1)), (2, .inl (0, .ofNat 0))]),
    (3, none, (1, [], [(2957514, .inl (0, .ofNat 1))], [], [], [8, 9, 10, 11, 12, 13, 14, 15, 16, 17, 18, 19, 21, 22, 23, 24, 25]), [(0, .inr (some (some 359))), (1, .inl (0, .ofNat 1)), (2, .inl (0, .ofNat 1))]),
    (2, none, (1, [], [(2957514, .inl (0, .ofNat 1))], [], [], [8, 9, 10, 11, 12, 13, 14, 15, 16, 17, 18, 19, 21, 22, 23, 24, 25]), [(0, .inr (some (some 359))), (1, .inl (0, .ofNat 1)), (2, .inl (0, .ofNat 2))]),
    (1, none, (1, [], [(2957514, .inl (0, .ofNat 1))], [], [], [8, 9, 10, 11, 12, 13, 14, 15, 16, 17, 18, 19, 21, 22, 23, 24, 25]), [(0, .inr (some (some 359))), (1, .inl (0, .ofNat 1)), (2, .inl (0, .ofNat 3))])]), none, none]]
set_option maxRecDepth 1000000 in
theorem jxm_c53_ok (hX : jc_Xo jxm X) : jc_Con jP jxm X jxm_c53 := jc_mth_ok (Z := (jxm, [], jT, [jxm_c48, jxm_c51], jxm_S0, jxm_c53_N, .ofNat 100000)) (f := 100000) jxm_ok hX jT_ok (jc_c1 (jxm_c48_ok hX) (jc_c1 (jxm_c51_ok hX) jc_c0)) (by decide +kernel)
end Jjxm17
