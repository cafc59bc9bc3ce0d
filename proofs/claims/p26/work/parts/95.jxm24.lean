/-! contracts of the reference (24); written by wip/jc/e5.py -/
section Jjxm24
variable {X : J_H → Prop}
-- waitsFor2
def jxm_c100 : jc_Cn := (244, 9, [.inr (some (some 359)), .inl (0, .ofNat 2)], (2, [(1, .ofNat 3, .ofNat 5)], [(2949323, .inl (1, .ofNat 0))], [], [], [9, 12, 13, 14, 15, 16, 17, 18, 21, 22, 23, 24, 25]), [], [((2, [(1, .ofNat 3, .ofNat 5)], [(2949323, .inl (1, .ofNat 0))], [], [], [9, 12, 13, 14, 15, 16, 17, 18, 21, 22, 23, 24, 25]), some (.inl (0, .ofNat 0))), ((3, [(1, .negSucc 2147483647, .ofNat 2147483647), (2, .ofNat 3, .ofNat 5)], [(2949323, .inl (2, .ofNat 0))], [], [], [9, 12, 13, 14, 15, 16, 17, 18, 21, 22, 23, 24, 25]), some (.inl (1, .ofNat 0)))])
def jxm_c100_N : jc_Nt := [none,
  none,
  some [none, none, none, none, none, none, none, none, none, none, none, none, none, some ([(6, none, (3, [(1, .ofNat 0, .ofNat 6), (2, .ofNat 3, .ofNat 5)], [(2949238, .inl (0, .ofNat 1)), (2949239, .inl (1, .ofNat 0)), (2949323, .inl (2, .ofNat 0))], [], [], [9, 12, 13, 14, 15, 16, 17, 18, 21, 22, 23, 24, 25]), [(0, .inr (some (some 359))), (1, .inl (0, .ofNat 2)), (2, .inl (0, .negSucc 0)), (3, .inl (0, .ofNat 0)), (4, .inl (0, .ofNat 0))]),
    (5, none, (4, [(1, .ofNat 0, .ofNat 1), (2, .ofNat 0, .ofNat 6), (3, .ofNat 3, .ofNat 5)], [(2949238, .inl (0, .ofNat 1)), (2949239, .inl (2, .ofNat 0)), (2949323, .inl (3, .ofNat 0))], [], [], [9, 12, 13, 14, 15, 16, 17, 18, 21, 22, 23, 24, 25]), [(0, .inr (some (some 359))), (1, .inl (0, .ofNat 2)), (2, .inl (0, .negSucc 0)), (3, .inl (1, .ofNat 0)), (4, .inl (0, .ofNat 1))]),
    (4, none, (4, [(1, .ofNat 0, .ofNat 127), (2, .ofNat 0, .ofNat 6), (3, .ofNat 3, .ofNat 5)], [(2949238, .inl (0, .ofNat 1)), (2949239, .inl (2, .ofNat 0)), (2949323, .inl (3, .ofNat 0))], [], [], [9, 12, 13, 14, 15, 16, 17, 18, 21, 22, 23, 24, 25]), [(0, .inr (some (some 359))), (1, .inl (0, .ofNat 2)), (2, .inl (0, .negSucc 0)), (3, .inl (1, .ofNat 0)), (4, .inl (0, .ofNat 2))]),
    (3, none, (4, [(1, .ofNat 0, .ofNat 127), (2, .ofNat 0, .ofNat 6), (3, .ofNat 3, .ofNat 5)], [(2949238, .inl (0, .ofNat 1)), (2949239, .inl (2, .ofNat 0)), (2949323, .inl (3, .ofNat 0))], [], [], [9, 12, 13, 14, 15, 16, 17, 18, 21, 22, 23, 24, 25]), [(0, .inr (some (some 359))), (1, .inl (0, .ofNat 2)), (2, .inl (0, .negSucc 0)), (3, .inl (1, .ofNat 0)), (4, .inl (0, .ofNat 3))]),
    (2, none, (4, [(1, .ofNat 0, .ofNat 127), (2, .ofNat 0, .ofNat 6), (3, .ofNat 4, .ofNat 5)], [(2949238, .inl (0, .ofNat 1)), (2949239, .inl (2, .ofNat 0)), (2949323, .inl (3, .ofNat 0))], [], [], [9, 12, 13, 14, 15, 16, 17, 18, 21, 22, 23, 24, 25]), [(0, .inr (some (some 359))), (1, .inl (0, .ofNat 2)), (2, .inl (0, .negSucc 0)), (3, .inl (1, .ofNat 0)), (4, .inl (0, .ofNat 4))]),
    (1, none, (3, [(1, .ofNat 0, .ofNat 127), (2, .ofNat 0, .ofNat 6)], [(2949238, .inl (0, .ofNat 1)), (2949239, .inl (2, .ofNat 0)), (2949323, .inl (0, .ofNat 5))], [], [], [9, 12, 13, 14, 15, 16, 17, 18, 21, 22, 23, 24, 25]), [(0, .inr (some (some 359))), (1, .inl (0, .ofNat 2)), (2, .inl (0, .negSucc 0)), (3, .inl (1, .ofNat 0)), (4, .inl (0, .ofNat 5))])]), none, none]]
set_option maxRecDepth 1000000 in
theorem jxm_c100_ok (hX : jc_Xo jxm X) : jc_Con jP jxm X jxm_c100 := jc_mth_ok (Z := (jxm, [], jT, [jxm_c90, jxm_c1, jxm_c2, jxm_c3, jxm_c4, jxm_c5, jxm_c91, jxm_c9, jxm_c19], jxm_S0, jxm_c100_N, .ofNat 100000)) (f := 100000) jxm_ok hX jT_ok (jc_c1 (jxm_c90_ok hX) (jc_c1 (jxm_c1_ok hX) (jc_c1 (jxm_c2_ok hX) (jc_c1 (jxm_c3_ok hX) (jc_c1 (jxm_c4_ok hX) (jc_c1 (jxm_c5_ok hX) (jc_c1 (jxm_c91_ok hX) (jc_c1 (jxm_c9_ok hX) (jc_c1 (jxm_c19_ok hX) jc_c0))))))))) (by decide +kernel)
-- waitsFor3
def jxm_c101 : jc_Cn := (244, 9, [.inr (some (some 359)), .inl (0, .ofNat 3)], (2, [(1, .ofNat 4, .ofNat 5)], [(2949323, .inl (1, .ofNat 0))], [], [], [9, 12, 13, 14, 15, 16, 17, 18, 21, 22, 23, 24, 25]), [], [((2, [(1, .ofNat 4, .ofNat 5)], [(2949323, .inl (1, .ofNat 0))], [], [], [9, 12, 13, 14, 15, 16, 17, 18, 21, 22, 23, 24, 25]), some (.inl (0, .ofNat 0))), ((3, [(1, .negSucc 2147483647, .ofNat 2147483647), (2, .ofNat 4, .ofNat 5)], [(2949323, .inl (2, .ofNat 0))], [], [], [9, 12, 13, 14, 15, 16, 17, 18, 21, 22, 23, 24, 25]), some (.inl (1, .ofNat 0)))])
def jxm_c101_N : jc_Nt := [none,
  none,
  some [none, none, none, none, none, none, none, none, none, none, none, none, none, some ([(6, none, (3, [(1, .ofNat 0, .ofNat 6), (2, .ofNat 4, .ofNat 5)], [(2949266, .inl (0, .ofNat 1)), (2949267, .inl (1, .ofNat 0)), (2949323, .inl (2, .ofNat 0))], [], [], [9, 12, 13, 14, 15, 16, 17, 18, 21, 22, 23, 24, 25]), [(0, .inr (some (some 359))), (1, .inl (0, .ofNat 3)), (2, .inl (0, .negSucc 0)), (3, .inl (0, .ofNat 0)), (4, .inl (0, .ofNat 0))]),
    (5, none, (4, [(1, .ofNat 0, .ofNat 1), (2, .ofNat 0, .ofNat 6), (3, .ofNat 4, .ofNat 5)], [(2949266, .inl (0, .ofNat 1)), (2949267, .inl (2, .ofNat 0)), (2949323, .inl (3, .ofNat 0))], [], [], [9, 12, 13, 14, 15, 16, 17, 18, 21, 22, 23, 24, 25]), [(0, .inr (some (some 359))), (1, .inl (0, .ofNat 3)), (2, .inl (0, .negSucc 0)), (3, .inl (1, .ofNat 0)), (4, .inl (0, .ofNat 1))]),
    (4, none, (4, [(1, .ofNat 0, .ofNat 127), (2, .ofNat 0, .ofNat 6), (3, .ofNat 4, .ofNat 5)], [(2949266, .inl (0, .ofNat 1)), (2949267, .inl (2, .ofNat 0)), (2949323, .inl (3, .ofNat 0))], [], [], [9, 12, 13, 14, 15, 16, 17, 18, 21, 22, 23, 24, 25]), [(0, .inr (some (some 359))), (1, .inl (0, .ofNat 3)), (2, .inl (0, .negSucc 0)), (3, .inl (1, .ofNat 0)), (4, .inl (0, .ofNat 2))]),
    (3, none, (4, [(1, .ofNat 0, .ofNat 127), (2, .ofNat 0, .ofNat 6), (3, .ofNat 4, .ofNat 5)], [(2949266, .inl (0, .ofNat 1)), (2949267, .inl (2, .ofNat 0)), (2949323, .inl (3, .ofNat 0))], [], [], [9, 12, 13, 14, 15, 16, 17, 18, 21, 22, 23, 24, 25]), [(0, .inr (some (some 359))), (1, .inl (0, .ofNat 3)), (2, .inl (0, .negSucc 0)), (3, .inl (1, .ofNat 0)), (4, .inl (0, .ofNat 3))]),
    (2, none, (4, [(1, .ofNat 0, .ofNat 127), (2, .ofNat 0, .ofNat 6), (3, .ofNat 4, .ofNat 5)], [(2949266, .inl (0, .ofNat 1)), (2949267, .inl (2, .ofNat 0)), (2949323, .inl (3, .ofNat 0))], [], [], [9, 12, 13, 14, 15, 16, 17, 18, 21, 22, 23, 24, 25]), [(0, .inr (some (some 359))), (1, .inl (0, .ofNat 3)), (2, .inl (0, .negSucc 0)), (3, .inl (1, .ofNat 0)), (4, .inl (0, .ofNat 4))]),
    (1, none, (3, [(1, .ofNat 0, .ofNat 127), (2, .ofNat 0, .ofNat 6)], [(2949266, .inl (0, .ofNat 1)), (2949267, .inl (2, .ofNat 0)), (2949323, .inl (0, .ofNat 5))], [], [], [9, 12, 13, 14, 15, 16, 17, 18, 21, 22, 23, 24, 25]), [(0, .inr (some (some 359))), (1, .inl (0, .ofNat 3)), (2, .inl (0, .negSucc 0)), (3, .inl (1, .ofNat 0)), (4, .inl (0, .ofNat 5))])]), none, none]]
set_option maxRecDepth 1000000 in
theorem jxm_c101_ok (hX : jc_Xo jxm X) : jc_Con jP jxm X jxm_c101 := jc_mth_ok (Z := (jxm, [], jT, [jxm_c92, jxm_c1, jxm_c2, jxm_c3, jxm_c4, jxm_c5, jxm_c93, jxm_c9, jxm_c20], jxm_S0, jxm_c101_N, .ofNat 100000)) (f := 100000) jxm_ok hX jT_ok (jc_c1 (jxm_c92_ok hX) (jc_c1 (jxm_c1_ok hX) (jc_c1 (jxm_c2_ok hX) (jc_c1 (jxm_c3_ok hX) (jc_c1 (jxm_c4_ok hX) (jc_c1 (jxm_c5_ok hX) (jc_c1 (jxm_c93_ok hX) (jc_c1 (jxm_c9_ok hX) (jc_c1 (jxm_c20_ok hX) jc_c0))))))))) (by decide +kernel)
-- waitsFor4
def jxm_c102 : jc_Cn := (244, 9, [.inr (some (some 359)), .inl (0, .ofNat 4)], (2, [(1, .ofNat 5, .ofNat 5)], [(2949323, .inl (1, .ofNat 0))], [], [], [9, 12, 13, 14, 15, 16, 17, 18, 21, 22, 23, 24, 25]), [], [((1, [], [(2949323, .inl (0, .ofNat 5))], [], [], [9, 12, 13, 14, 15, 16, 17, 18, 21, 22, 23, 24, 25]), some (.inl (0, .ofNat 0))), ((2, [(1, .negSucc 2147483647, .ofNat 2147483647)], [(2949323, .inl (0, .ofNat 5))], [], [], [9, 12, 13, 14, 15, 16, 17, 18, 21, 22, 23, 24, 25]), some (.inl (1, .ofNat 0)))])
def jxm_c102_N : jc_Nt := [none,
  none,
  some [none, none, none, none, none, none, none, none, none, none, none, none, none, some ([(6, none, (2, [(1, .ofNat 0, .ofNat 6)], [(2949294, .inl (0, .ofNat 1)), (2949295, .inl (1, .ofNat 0)), (2949323, .inl (0, .ofNat 5))], [], [], [9, 12, 13, 14, 15, 16, 17, 18, 21, 22, 23, 24, 25]), [(0, .inr (some (some 359))), (1, .inl (0, .ofNat 4)), (2, .inl (0, .negSucc 0)), (3, .inl (0, .ofNat 0)), (4, .inl (0, .ofNat 0))]),
    (5, none, (3, [(1, .ofNat 0, .ofNat 1), (2, .ofNat 0, .ofNat 6)], [(2949294, .inl (0, .ofNat 1)), (2949295, .inl (2, .ofNat 0)), (2949323, .inl (0, .ofNat 5))], [], [], [9, 12, 13, 14, 15, 16, 17, 18, 21, 22, 23, 24, 25]), [(0, .inr (some (some 359))), (1, .inl (0, .ofNat 4)), (2, .inl (0, .negSucc 0)), (3, .inl (1, .ofNat 0)), (4, .inl (0, .ofNat 1))]),
    (4, none, (3, [(1, .ofNat 0, .ofNat 127), (2, .ofNat 0, .ofNat 6)], [(2949294, .inl (0, .ofNat 1)), (2949295, .inl (2, .ofNat 0)), (2949323, .inl (0, .ofNat 5))], [], [], [9, 12, 13, 14, 15, 16, 17, 18, 21, 22, 23, 24, 25]), [(0, .inr (some (some 359))), (1, .inl (0, .ofNat 4)), (2, .inl (0, .negSucc 0)), (3, .inl (1, .ofNat 0)), (4, .inl (0, .ofNat 2))]),
    (3, none, (3, [(1, .ofNat 0, .ofNat 127), (2, .ofNat 0, .ofNat 6)], [(2949294, .inl (0, .ofNat 1)), (2949295, .inl (2, .ofNat 0)), (2949323, .inl (0, .ofNat 5))], [], [], [9, 12, 13, 14, 15, 16, 17, 18, 21, 22, 23, 24, 25]), [(0, .inr (some (some 359))), (1, .inl (0, .ofNat 4)), (2, .inl (0, .negSucc 0)), (3, .inl (1, .ofNat 0)), (4, .inl (0, .ofNat 3))]),
    (2, none, (3, [(1, .ofNat 0, .ofNat 127), (2, .ofNat 0, .ofNat 6)], [(2949294, .inl (0, .ofNat 1)), (2949295, .inl (2, .ofNat 0)), (2949323, .inl (0, .ofNat 5))], [], [], [9, 12, 13, 14, 15, 16, 17, 18, 21, 22, 23, 24, 25]), [(0, .inr (some (some 359))), (1, .inl (0, .ofNat 4)), (2, .inl (0, .negSucc 0)), (3, .inl (1, .ofNat 0)), (4, .inl (0, .ofNat 4))]),
    (1, none, (3, [(1, .ofNat 0, .ofNat 127), (2, .ofNat 0, .ofNat 6)], [(2949294, .inl (0, .ofNat 1)), (2949295, .inl (2, .ofNat 0)), (2949323, .inl (0, .ofNat 5))], [], [], [9, 12, 13, 14, 15, 16, 17, 18, 21, 22, 23, 24, 25]), [(0, .inr (some (some 359))), (1, .inl (0, .ofNat 4)), (2, .inl (0, .negSucc 0)), (3, .inl (1, .ofNat 0)), (4, .inl (0, .ofNat 5))])]), none, none]]
set_option maxRecDepth 1000000 in
theorem jxm_c102_ok (hX : jc_Xo jxm X) : jc_Con jP jxm X jxm_c102 := jc_mth_ok (Z := (jxm, [], jT, [jxm_c94, jxm_c1, jxm_c2, jxm_c3, jxm_c4, jxm_c5, jxm_c95, jxm_c9, jxm_c21], jxm_S0, jxm_c102_N, .ofNat 100000)) (f := 100000) jxm_ok hX jT_ok (jc_c1 (jxm_c94_ok hX) (jc_c1 (jxm_c1_ok hX) (jc_c1 (jxm_c2_ok hX) (jc_c1 (jxm_c3_ok hX) (jc_c1 (jxm_c4_ok hX) (jc_c1 (jxm_c5_ok hX) (jc_c1 (jxm_c95_ok hX) (jc_c1 (jxm_c9_ok hX) (jc_c1 (jxm_c21_ok hX) jc_c0))))))))) (by decide +kernel)
-- priceAtEnd
def jxm_c103 : jc_Cn := (232, 12, [.inr (some (some 359))], (1, [], [], [], [], [9, 10, 12, 13, 14, 15, 16, 17, 18, 21, 22, 23, 24, 25]), [(360, 0, 602), (363, 0, 602), (368, 0, 5), (359, 23, 24)], [((2, [(1, .negSucc 2147483647, .ofNat 2147483647)], [], [], [], [9, 10, 12, 13, 14, 15, 16, 17, 18, 21, 22, 23, 24, 25]), some (.inl (1, .ofNat 0)))])
def jxm_c103_N : jc_Nt := []
set_option maxRecDepth 1000000 in
theorem jxm_c103_ok (hX : jc_Xo jxm X) (hg19 : jc_Con jP jxm X jxm_g19) (hg20 : jc_Con jP jxm X jxm_g20) (hg40 : jc_Con jP jxm X jxm_g40) (hg41 : jc_Con jP jxm X jxm_g41) : jc_Con jP jxm X jxm_c103 := jc_mth_ok (Z := (jxm, [], jT, [jxm_c28, jxm_c47], jxm_S0, jxm_c103_N, .ofNat 100000)) (f := 100000) jxm_ok hX jT_ok (jc_c1 (jxm_c28_ok hX) (jc_c1 (jxm_c47_ok hX hg19 hg20 hg40 hg41) jc_c0)) (by decide +kernel)
-- priceNow0
def jxm_c104 : jc_Cn := (269, 13, [.inr (some (some 359))], (1, [], [(2949323, .inl (0, .ofNat 0))], [], [], [9, 12, 13, 14, 15, 16, 17, 18, 21, 22, 23, 24, 25]), [(360, 0, 602), (363, 0, 602), (362, 0, 602), (368, 0, 5), (359, 23, 24)], [((2, [(1, .negSucc 2147483647, .ofNat 2147483647)], [(2949323, .inl (0, .ofNat 0))], [], [], [9, 12, 13, 14, 15, 16, 17, 18, 21, 22, 23, 24, 25]), some (.inl (1, .ofNat 0)))])
def jxm_c104_N : jc_Nt := []
set_option maxRecDepth 1000000 in
theorem jxm_c104_ok (hX : jc_Xo jxm X) (hg0 : jc_Con jP jxm X jxm_g0) (hg19 : jc_Con jP jxm X jxm_g19) (hg20 : jc_Con jP jxm X jxm_g20) (hg21 : jc_Con jP jxm X jxm_g21) (hg40 : jc_Con jP jxm X jxm_g40) (hg41 : jc_Con jP jxm X jxm_g41) : jc_Con jP jxm X jxm_c104 := jc_mth_ok (Z := (jxm, [], jT, [jxm_g0, jxm_g21, jxm_c103], jxm_S0, jxm_c104_N, .ofNat 100000)) (f := 100000) jxm_ok hX jT_ok (jc_c1 hg0 (jc_c1 hg21 (jc_c1 (jxm_c103_ok hX hg19 hg20 hg40 hg41) jc_c0))) (by decide +kernel)
-- priceNow1
def jxm_c105 : jc_Cn := (269, 13, [.inr (some (some 359))], (1, [], [(2949323, .inl (0, .ofNat 1))], [], [], [9, 12, 13, 14, 15, 16, 17, 18, 21, 22, 23, 24, 25]), [(360, 0, 602), (363, 0, 602), (362, 0, 602), (368, 0, 5), (359, 23, 24)], [((2, [(1, .negSucc 2147483647, .ofNat 2147483647)], [(2949323, .inl (0, .ofNat 1))], [], [], [9, 12, 13, 14, 15, 16, 17, 18, 21, 22, 23, 24, 25]), some (.inl (1, .ofNat 0)))])
def jxm_c105_N : jc_Nt := []
set_option maxRecDepth 1000000 in
theorem jxm_c105_ok (hX : jc_Xo jxm X) (hg1 : jc_Con jP jxm X jxm_g1) (hg19 : jc_Con jP jxm X jxm_g19) (hg20 : jc_Con jP jxm X jxm_g20) (hg22 : jc_Con jP jxm X jxm_g22) (hg40 : jc_Con jP jxm X jxm_g40) (hg41 : jc_Con jP jxm X jxm_g41) : jc_Con jP jxm X jxm_c105 := jc_mth_ok (Z := (jxm, [], jT, [jxm_g1, jxm_g22, jxm_c103], jxm_S0, jxm_c105_N, .ofNat 100000)) (f := 100000) jxm_ok hX jT_ok (jc_c1 hg1 (jc_c1 hg22 (jc_c1 (jxm_c103_ok hX hg19 hg20 hg40 hg41) jc_c0))) (by decide +kernel)
-- priceNow2
def jxm_c106 : jc_Cn := (269, 13, [.inr (some (some 359))], (1, [], [(2949323, .inl (0, .ofNat 2))], [], [], [9, 12, 13, 14, 15, 16, 17, 18, 21, 22, 23, 24, 25]), [(360, 0, 602), (363, 0, 602), (362, 0, 602), (368, 0, 5), (359, 23, 24)], [((2, [(1, .negSucc 2147483647, .ofNat 2147483647)], [(2949323, .inl (0, .ofNat 2))], [], [], [9, 12, 13, 14, 15, 16, 17, 18, 21, 22, 23, 24, 25]), some (.inl (1, .ofNat 0)))])
def jxm_c106_N : jc_Nt := []
set_option maxRecDepth 1000000 in
theorem jxm_c106_ok (hX : jc_Xo jxm X) (hg2 : jc_Con jP jxm X jxm_g2) (hg19 : jc_Con jP jxm X jxm_g19) (hg20 : jc_Con jP jxm X jxm_g20) (hg23 : jc_Con jP jxm X jxm_g23) (hg40 : jc_Con jP jxm X jxm_g40) (hg41 : jc_Con jP jxm X jxm_g41) : jc_Con jP jxm X jxm_c106 := jc_mth_ok (Z := (jxm, [], jT, [jxm_g2, jxm_g23, jxm_c103], jxm_S0, jxm_c106_N, .ofNat 100000)) (f := 100000) jxm_ok hX jT_ok (jc_c1 hg2 (jc_c1 hg23 (jc_c1 (jxm_c103_ok hX hg19 hg20 hg40 hg41) jc_c0))) (by decide +kernel)
-- priceNow3
def jxm_c107 : jc_Cn := (269, 13, [.inr (some (some 359))], (1, [], [(2949323, .inl (0, .ofNat 3))], [], [], [9, 12, 13, 14, 15, 16, 17, 18, 21, 22, 23, 24, 25]), [(360, 0, 602), (363, 0, 602), (362, 0, 602), (368, 0, 5), (359, 23, 24)], [((2, [(1, .negSucc 2147483647, .ofNat 2147483647)], [(2949323, .inl (0, .ofNat 3))], [], [], [9, 12, 13, 14, 15, 16, 17, 18, 21, 22, 23, 24, 25]), some (.inl (1, .ofNat 0)))])
def jxm_c107_N : jc_Nt := []
set_option maxRecDepth 1000000 in
theorem jxm_c107_ok (hX : jc_Xo jxm X) (hg3 : jc_Con jP jxm X jxm_g3) (hg19 : jc_Con jP jxm X jxm_g19) (hg20 : jc_Con jP jxm X jxm_g20) (hg24 : jc_Con jP jxm X jxm_g24) (hg40 : jc_Con jP jxm X jxm_g40) (hg41 : jc_Con jP jxm X jxm_g41) : jc_Con jP jxm X jxm_c107 := jc_mth_ok (Z := (jxm, [], jT, [jxm_g3, jxm_g24, jxm_c103], jxm_S0, jxm_c107_N, .ofNat 100000)) (f := 100000) jxm_ok hX jT_ok (jc_c1 hg3 (jc_c1 hg24 (jc_c1 (jxm_c103_ok hX hg19 hg20 hg40 hg41) jc_c0))) (by decide +kernel)
-- priceNow4
def jxm_c108 : jc_Cn := (269, 13, [.inr (some (some 359))], (1, [], [(2949323, .inl (0, .ofNat 4))], [], [], [9, 12, 13, 14, 15, 16, 17, 18, 21, 22, 23, 24, 25]), [(360, 0, 602), (363, 0, 602), (362, 0, 602), (368, 0, 5), (359, 23, 24)], [((2, [(1, .negSucc 2147483647, .ofNat 2147483647)], [(2949323, .inl (0, .ofNat 4))], [], [], [9, 12, 13, 14, 15, 16, 17, 18, 21, 22, 23, 24, 25]), some (.inl (1, .ofNat 0)))])
def jxm_c108_N : jc_Nt := []
set_option maxRecDepth 1000000 in
theorem jxm_c108_ok (hX : jc_Xo jxm X) (hg4 : jc_Con jP jxm X jxm_g4) (hg19 : jc_Con jP jxm X jxm_g19) (hg20 : jc_Con jP jxm X jxm_g20) (hg25 : jc_Con jP jxm X jxm_g25) (hg40 : jc_Con jP jxm X jxm_g40) (hg41 : jc_Con jP jxm X jxm_g41) : jc_Con jP jxm X jxm_c108 := jc_mth_ok (Z := (jxm, [], jT, [jxm_g4, jxm_g25, jxm_c103], jxm_S0, jxm_c108_N, .ofNat 100000)) (f := 100000) jxm_ok hX jT_ok (jc_c1 hg4 (jc_c1 hg25 (jc_c1 (jxm_c103_ok hX hg19 hg20 hg40 hg41) jc_c0))) (by decide +kernel)
-- priceNow5
def jxm_c109 : jc_Cn := (269, 13, [.inr (some (some 359))], (1, [], [(2949323, .inl (0, .ofNat 5))], [], [], [9, 12, 13, 14, 15, 16, 17, 18, 21, 22, 23, 24, 25]), [(360, 0, 602), (363, 0, 602), (362, 0, 602), (368, 0, 5), (359, 23, 24)], [((2, [(1, .negSucc 2147483647, .ofNat 2147483647)], [(2949323, .inl (0, .ofNat 5))], [], [], [9, 12, 13, 14, 15, 16, 17, 18, 21, 22, 23, 24, 25]), some (.inl (1, .ofNat 0)))])
def jxm_c109_N : jc_Nt := []
set_option maxRecDepth 1000000 in
theorem jxm_c109_ok (hX : jc_Xo jxm X) (hg5 : jc_Con jP jxm X jxm_g5) (hg19 : jc_Con jP jxm X jxm_g19) (hg20 : jc_Con jP jxm X jxm_g20) (hg26 : jc_Con jP jxm X jxm_g26) (hg40 : jc_Con jP jxm X jxm_g40) (hg41 : jc_Con jP jxm X jxm_g41) : jc_Con jP jxm X jxm_c109 := jc_mth_ok (Z := (jxm, [], jT, [jxm_g5, jxm_g26, jxm_c103], jxm_S0, jxm_c109_N, .ofNat 100000)) (f := 100000) jxm_ok hX jT_ok (jc_c1 hg5 (jc_c1 hg26 (jc_c1 (jxm_c103_ok hX hg19 hg20 hg40 hg41) jc_c0))) (by decide +kernel)
-- priceNows0
def jxm_c110 : jc_Cn := (269, 13, [.inr (some (some 359))], (2, [(1, .ofNat 0, .ofNat 2)], [(2949121, .inl (1, .ofNat 0))], [], [], [9, 12, 13, 14, 15, 16, 17, 18, 21, 22, 23, 24, 25]), [(360, 0, 602), (363, 0, 602), (362, 0, 602), (368, 0, 5), (359, 23, 24)], [((3, [(1, .negSucc 2147483647, .ofNat 2147483647), (2, .ofNat 0, .ofNat 2)], [(2949121, .inl (2, .ofNat 0))], [], [], [9, 12, 13, 14, 15, 16, 17, 18, 21, 22, 23, 24, 25]), some (.inl (1, .ofNat 0)))])
def jxm_c110_N : jc_Nt := []
set_option maxRecDepth 1000000 in
theorem jxm_c110_ok (hX : jc_Xo jxm X) (hg6 : jc_Con jP jxm X jxm_g6) (hg19 : jc_Con jP jxm X jxm_g19) (hg20 : jc_Con jP jxm X jxm_g20) (hg27 : jc_Con jP jxm X jxm_g27) (hg40 : jc_Con jP jxm X jxm_g40) (hg41 : jc_Con jP jxm X jxm_g41) : jc_Con jP jxm X jxm_c110 := jc_mth_ok (Z := (jxm, [], jT, [jxm_g6, jxm_g27, jxm_c103], jxm_S0, jxm_c110_N, .ofNat 100000)) (f := 100000) jxm_ok hX jT_ok (jc_c1 hg6 (jc_c1 hg27 (jc_c1 (jxm_c103_ok hX hg19 hg20 hg40 hg41) jc_c0))) (by decide +kernel)
-- priceNows1
def jxm_c111 : jc_Cn := (269, 13, [.inr (some (some 359))], (2, [(1, .ofNat 0, .ofNat 2)], [(2949129, .inl (1, .ofNat 0))], [], [], [9, 12, 13, 14, 15, 16, 17, 18, 21, 22, 23, 24, 25]), [(360, 0, 602), (363, 0, 602), (362, 0, 602), (368, 0, 5), (359, 23, 24)], [((3, [(1, .negSucc 2147483647, .ofNat 2147483647), (2, .ofNat 0, .ofNat 2)], [(2949129, .inl (2, .ofNat 0))], [], [], [9, 12, 13, 14, 15, 16, 17, 18, 21, 22, 23, 24, 25]), some (.inl (1, .ofNat 0)))])
def jxm_c111_N : jc_Nt := []
set_option maxRecDepth 1000000 in
theorem jxm_c111_ok (hX : jc_Xo jxm X) (hg7 : jc_Con jP jxm X jxm_g7) (hg19 : jc_Con jP jxm X jxm_g19) (hg20 : jc_Con jP jxm X jxm_g20) (hg28 : jc_Con jP jxm X jxm_g28) (hg40 : jc_Con jP jxm X jxm_g40) (hg41 : jc_Con jP jxm X jxm_g41) : jc_Con jP jxm X jxm_c111 := jc_mth_ok (Z := (jxm, [], jT, [jxm_g7, jxm_g28, jxm_c103], jxm_S0, jxm_c111_N, .ofNat 100000)) (f := 100000) jxm_ok hX jT_ok (jc_c1 hg7 (jc_c1 hg28 (jc_c1 (jxm_c103_ok hX hg19 hg20 hg40 hg41) jc_c0))) (by decide +kernel)
-- priceNows2
def jxm_c112 : jc_Cn := (269, 13, [.inr (some (some 359))], (2, [(1, .ofNat 0, .ofNat 2)], [(2949137, .inl (1, .ofNat 0))], [], [], [9, 12, 13, 14, 15, 16, 17, 18, 21, 22, 23, 24, 25]), [(360, 0, 602), (363, 0, 602), (362, 0, 602), (368, 0, 5), (359, 23, 24)], [((3, [(1, .negSucc 2147483647, .ofNat 2147483647), (2, .ofNat 0, .ofNat 2)], [(2949137, .inl (2, .ofNat 0))], [], [], [9, 12, 13, 14, 15, 16, 17, 18, 21, 22, 23, 24, 25]), some (.inl (1, .ofNat 0)))])
def jxm_c112_N : jc_Nt := []
set_option maxRecDepth 1000000 in
theorem jxm_c112_ok (hX : jc_Xo jxm X) (hg8 : jc_Con jP jxm X jxm_g8) (hg19 : jc_Con jP jxm X jxm_g19) (hg20 : jc_Con jP jxm X jxm_g20) (hg29 : jc_Con jP jxm X jxm_g29) (hg40 : jc_Con jP jxm X jxm_g40) (hg41 : jc_Con jP jxm X jxm_g41) : jc_Con jP jxm X jxm_c112 := jc_mth_ok (Z := (jxm, [], jT, [jxm_g8, jxm_g29, jxm_c103], jxm_S0, jxm_c112_N, .ofNat 100000)) (f := 100000) jxm_ok hX jT_ok (jc_c1 hg8 (jc_c1 hg29 (jc_c1 (jxm_c103_ok hX hg19 hg20 hg40 hg41) jc_c0))) (by decide +kernel)
-- priceNows3
def jxm_c113 : jc_Cn := (269, 13, [.inr (some (some 359))], (2, [(1, .ofNat 0, .ofNat 2)], [(2949145, .inl (1, .ofNat 0))], [], [], [9, 12, 13, 14, 15, 16, 17, 18, 21, 22, 23, 24, 25]), [(360, 0, 602), (363, 0, 602), (362, 0, 602), (368, 0, 5), (359, 23, 24)], [((3, [(1, .negSucc 2147483647, .ofNat 2147483647), (2, .ofNat 0, .ofNat 2)], [(2949145, .inl (2, .ofNat 0))], [], [], [9, 12, 13, 14, 15, 16, 17, 18, 21, 22, 23, 24, 25]), some (.inl (1, .ofNat 0)))])
def jxm_c113_N : jc_Nt := []
set_option maxRecDepth 1000000 in
theorem jxm_c113_ok (hX : jc_Xo jxm X) (hg9 : jc_Con jP jxm X jxm_g9) (hg19 : jc_Con jP jxm X jxm_g19) (hg20 : jc_Con jP jxm X jxm_g20) (hg30 : jc_Con jP jxm X jxm_g30) (hg40 : jc_Con jP jxm X jxm_g40) (hg41 : jc_Con jP jxm X jxm_g41) : jc_Con jP jxm X jxm_c113 := jc_mth_ok (Z := (jxm, [], jT, [jxm_g9, jxm_g30, jxm_c103], jxm_S0, jxm_c113_N, .ofNat 100000)) (f := 100000) jxm_ok hX jT_ok (jc_c1 hg9 (jc_c1 hg30 (jc_c1 (jxm_c103_ok hX hg19 hg20 hg40 hg41) jc_c0))) (by decide +kernel)
-- priceNows4
def jxm_c114 : jc_Cn := (269, 13, [.inr (some (some 359))], (2, [(1, .ofNat 0, .ofNat 2)], [(2949153, .inl (1, .ofNat 0))], [], [], [9, 12, 13, 14, 15, 16, 17, 18, 21, 22, 23, 24, 25]), [(360, 0, 602), (363, 0, 602), (362, 0, 602), (368, 0, 5), (359, 23, 24)], [((3, [(1, .negSucc 2147483647, .ofNat 2147483647), (2, .ofNat 0, .ofNat 2)], [(2949153, .inl (2, .ofNat 0))], [], [], [9, 12, 13, 14, 15, 16, 17, 18, 21, 22, 23, 24, 25]), some (.inl (1, .ofNat 0)))])
def jxm_c114_N : jc_Nt := []
set_option maxRecDepth 1000000 in
theorem jxm_c114_ok (hX : jc_Xo jxm X) (hg10 : jc_Con jP jxm X jxm_g10) (hg19 : jc_Con jP jxm X jxm_g19) (hg20 : jc_Con jP jxm X jxm_g20) (hg31 : jc_Con jP jxm X jxm_g31) (hg40 : jc_Con jP jxm X jxm_g40) (hg41 : jc_Con jP jxm X jxm_g41) : jc_Con jP jxm X jxm_c114 := jc_mth_ok (Z := (jxm, [], jT, [jxm_g10, jxm_g31, jxm_c103], jxm_S0, jxm_c114_N, .ofNat 100000)) (f := 100000) jxm_ok hX jT_ok (jc_c1 hg10 (jc_c1 hg31 (jc_c1 (jxm_c103_ok hX hg19 hg20 hg40 hg41) jc_c0))) (by decide +kernel)
-- priceNows5
def jxm_c115 : jc_Cn := (269, 13, [.inr (some (some 359))], (2, [(1, .ofNat 0, .ofNat 2)], [(2949161, .inl (1, .ofNat 0))], [], [], [9, 12, 13, 14, 15, 16, 17, 18, 21, 22, 23, 24, 25]), [(360, 0, 602), (363, 0, 602), (362, 0, 602), (368, 0, 5), (359, 23, 24)], [((3, [(1, .negSucc 2147483647, .ofNat 2147483647), (2, .ofNat 0, .ofNat 2)], [(2949161, .inl (2, .ofNat 0))], [], [], [9, 12, 13, 14, 15, 16, 17, 18, 21, 22, 23, 24, 25]), some (.inl (1, .ofNat 0)))])
def jxm_c115_N : jc_Nt := []
set_option maxRecDepth 1000000 in
theorem jxm_c115_ok (hX : jc_Xo jxm X) (hg11 : jc_Con jP jxm X jxm_g11) (hg19 : jc_Con jP jxm X jxm_g19) (hg20 : jc_Con jP jxm X jxm_g20) (hg32 : jc_Con jP jxm X jxm_g32) (hg40 : jc_Con jP jxm X jxm_g40) (hg41 : jc_Con jP jxm X jxm_g41) : jc_Con jP jxm X jxm_c115 := jc_mth_ok (Z := (jxm, [], jT, [jxm_g11, jxm_g32, jxm_c103], jxm_S0, jxm_c115_N, .ofNat 100000)) (f := 100000) jxm_ok hX jT_ok (jc_c1 hg11 (jc_c1 hg32 (jc_c1 (jxm_c103_ok hX hg19 hg20 hg40 hg41) jc_c0))) (by decide +kernel)
-- priceNows6
def jxm_c116 : jc_Cn := (269, 13, [.inr (some (some 359))], (2, [(1, .ofNat 0, .ofNat 2)], [(2949169, .inl (1, .ofNat 0))], [], [], [9, 12, 13, 14, 15, 16, 17, 18, 21, 22, 23, 24, 25]), [(360, 0, 602), (363, 0, 602), (362, 0, 602), (368, 0, 5), (359, 23, 24)], [((3, [(1, .negSucc 2147483647, .ofNat 2147483647), (2, .ofNat 0, .ofNat 2)], [(2949169, .inl (2, .ofNat 0))], [], [], [9, 12, 13, 14, 15, 16, 17, 18, 21, 22, 23, 24, 25]), some (.inl (1, .ofNat 0)))])
def jxm_c116_N : jc_Nt := []
set_option maxRecDepth 1000000 in
theorem jxm_c116_ok (hX : jc_Xo jxm X) (hg12 : jc_Con jP jxm X jxm_g12) (hg19 : jc_Con jP jxm X jxm_g19) (hg20 : jc_Con jP jxm X jxm_g20) (hg33 : jc_Con jP jxm X jxm_g33) (hg40 : jc_Con jP jxm X jxm_g40) (hg41 : jc_Con jP jxm X jxm_g41) : jc_Con jP jxm X jxm_c116 := jc_mth_ok (Z := (jxm, [], jT, [jxm_g12, jxm_g33, jxm_c103], jxm_S0, jxm_c116_N, .ofNat 100000)) (f := 100000) jxm_ok hX jT_ok (jc_c1 hg12 (jc_c1 hg33 (jc_c1 (jxm_c103_ok hX hg19 hg20 hg40 hg41) jc_c0))) (by decide +kernel)
-- priceHeld0.1
def jxm_c117 : jc_Cn := (270, 13, [.inr (some (some 359)), .inl (0, .ofNat 0), .inl (1, .ofNat 0)], (2, [(1, .ofNat 0, .ofNat 99)], [(2949323, .inl (0, .ofNat 1))], [], [], [9, 12, 13, 14, 15, 16, 17, 18, 21, 22, 23, 24, 25]), [(360, 0, 602), (363, 0, 602), (362, 0, 602), (368, 0, 5), (359, 23, 24)], [((2, [(1, .negSucc 2147483647, .ofNat 2147483647)], [(2949323, .inl (0, .ofNat 1))], [], [], [9, 12, 13, 14, 15, 16, 17, 18, 21, 22, 23, 24, 25]), some (.inl (1, .ofNat 0)))])
def jxm_c117_N : jc_Nt := []
set_option maxRecDepth 1000000 in
theorem jxm_c117_ok (hX : jc_Xo jxm X) (hg1 : jc_Con jP jxm X jxm_g1) (hg19 : jc_Con jP jxm X jxm_g19) (hg20 : jc_Con jP jxm X jxm_g20) (hg22 : jc_Con jP jxm X jxm_g22) (hg40 : jc_Con jP jxm X jxm_g40) (hg41 : jc_Con jP jxm X jxm_g41) : jc_Con jP jxm X jxm_c117 := jc_mth_ok (Z := (jxm, [], jT, [jxm_g1, jxm_g22, jxm_c103], jxm_S0, jxm_c117_N, .ofNat 100000)) (f := 100000) jxm_ok hX jT_ok (jc_c1 hg1 (jc_c1 hg22 (jc_c1 (jxm_c103_ok hX hg19 hg20 hg40 hg41) jc_c0))) (by decide +kernel)
-- priceHeld0.2
def jxm_c118 : jc_Cn := (270, 13, [.inr (some (some 359)), .inl (0, .ofNat 0), .inl (1, .ofNat 0)], (2, [(1, .ofNat 0, .ofNat 99)], [(2949323, .inl (0, .ofNat 2))], [], [], [9, 12, 13, 14, 15, 16, 17, 18, 21, 22, 23, 24, 25]), [(360, 0, 602), (363, 0, 602), (362, 0, 602), (368, 0, 5), (359, 23, 24)], [((2, [(1, .negSucc 2147483647, .ofNat 2147483647)], [(2949323, .inl (0, .ofNat 2))], [], [], [9, 12, 13, 14, 15, 16, 17, 18, 21, 22, 23, 24, 25]), some (.inl (1, .ofNat 0)))])
def jxm_c118_N : jc_Nt := []
set_option maxRecDepth 1000000 in
theorem jxm_c118_ok (hX : jc_Xo jxm X) (hg2 : jc_Con jP jxm X jxm_g2) (hg19 : jc_Con jP jxm X jxm_g19) (hg20 : jc_Con jP jxm X jxm_g20) (hg23 : jc_Con jP jxm X jxm_g23) (hg40 : jc_Con jP jxm X jxm_g40) (hg41 : jc_Con jP jxm X jxm_g41) : jc_Con jP jxm X jxm_c118 := jc_mth_ok (Z := (jxm, [], jT, [jxm_g2, jxm_g23, jxm_c103], jxm_S0, jxm_c118_N, .ofNat 100000)) (f := 100000) jxm_ok hX jT_ok (jc_c1 hg2 (jc_c1 hg23 (jc_c1 (jxm_c103_ok hX hg19 hg20 hg40 hg41) jc_c0))) (by decide +kernel)
-- priceHeld1.2
def jxm_c119 : jc_Cn := (270, 13, [.inr (some (some 359)), .inl (0, .ofNat 1), .inl (1, .ofNat 0)], (2, [(1, .ofNat 0, .ofNat 99)], [(2949323, .inl (0, .ofNat 2))], [], [], [9, 12, 13, 14, 15, 16, 17, 18, 21, 22, 23, 24, 25]), [(360, 0, 602), (363, 0, 602), (362, 0, 602), (368, 0, 5), (359, 23, 24)], [((2, [(1, .negSucc 2147483647, .ofNat 2147483647)], [(2949323, .inl (0, .ofNat 2))], [], [], [9, 12, 13, 14, 15, 16, 17, 18, 21, 22, 23, 24, 25]), some (.inl (1, .ofNat 0)))])
def jxm_c119_N : jc_Nt := []
set_option maxRecDepth 1000000 in
theorem jxm_c119_ok (hX : jc_Xo jxm X) (hg2 : jc_Con jP jxm X jxm_g2) (hg19 : jc_Con jP jxm X jxm_g19) (hg20 : jc_Con jP jxm X jxm_g20) (hg23 : jc_Con jP jxm X jxm_g23) (hg40 : jc_Con jP jxm X jxm_g40) (hg41 : jc_Con jP jxm X jxm_g41) : jc_Con jP jxm X jxm_c119 := jc_mth_ok (Z := (jxm, [], jT, [jxm_g2, jxm_g23, jxm_c103], jxm_S0, jxm_c119_N, .ofNat 100000)) (f := 100000) jxm_ok hX jT_ok (jc_c1 hg2 (jc_c1 hg23 (jc_c1 (jxm_c103_ok hX hg19 hg20 hg40 hg41) jc_c0))) (by decide +kernel)
-- priceHeld0.3
def jxm_c120 : jc_Cn := (270, 13, [.inr (some (some 359)), .inl (0, .ofNat 0), .inl (1, .ofNat 0)], (2, [(1, .ofNat 0, .ofNat 99)], [(2949323, .inl (0, .ofNat 3))], [], [], [9, 12, 13, 14, 15, 16, 17, 18, 21, 22, 23, 24, 25]), [(360, 0, 602), (363, 0, 602), (362, 0, 602), (368, 0, 5), (359, 23, 24)], [((2, [(1, .negSucc 2147483647, .ofNat 2147483647)], [(2949323, .inl (0, .ofNat 3))], [], [], [9, 12, 13, 14, 15, 16, 17, 18, 21, 22, 23, 24, 25]), some (.inl (1, .ofNat 0)))])
def jxm_c120_N : jc_Nt := []
set_option maxRecDepth 1000000 in
theorem jxm_c120_ok (hX : jc_Xo jxm X) (hg3 : jc_Con jP jxm X jxm_g3) (hg19 : jc_Con jP jxm X jxm_g19) (hg20 : jc_Con jP jxm X jxm_g20) (hg24 : jc_Con jP jxm X jxm_g24) (hg40 : jc_Con jP jxm X jxm_g40) (hg41 : jc_Con jP jxm X jxm_g41) : jc_Con jP jxm X jxm_c120 := jc_mth_ok (Z := (jxm, [], jT, [jxm_g3, jxm_g24, jxm_c103], jxm_S0, jxm_c120_N, .ofNat 100000)) (f := 100000) jxm_ok hX jT_ok (jc_c1 hg3 (jc_c1 hg24 (jc_c1 (jxm_c103_ok hX hg19 hg20 hg40 hg41) jc_c0))) (by decide +kernel)
-- priceHeld1.3
def jxm_c121 : jc_Cn := (270, 13, [.inr (some (some 359)), .inl (0, .ofNat 1), .inl (1, .ofNat 0)], (2, [(1, .ofNat 0, .ofNat 99)], [(2949323, .inl (0, .ofNat 3))], [], [], [9, 12, 13, 14, 15, 16, 17, 18, 21, 22, 23, 24, 25]), [(360, 0, 602), (363, 0, 602), (362, 0, 602), (368, 0, 5), (359, 23, 24)], [((2, [(1, .negSucc 2147483647, .ofNat 2147483647)], [(2949323, .inl (0, .ofNat 3))], [], [], [9, 12, 13, 14, 15, 16, 17, 18, 21, 22, 23, 24, 25]), some (.inl (1, .ofNat 0)))])
def jxm_c121_N : jc_Nt := []
set_option maxRecDepth 1000000 in
theorem jxm_c121_ok (hX : jc_Xo jxm X) (hg3 : jc_Con jP jxm X jxm_g3) (hg19 : jc_Con jP jxm X jxm_g19) (hg20 : jc_Con jP jxm X jxm_g20) (hg24 : jc_Con jP jxm X jxm_g24) (hg40 : jc_Con jP jxm X jxm_g40) (hg41 : jc_Con jP jxm X jxm_g41) : jc_Con jP jxm X jxm_c121 := jc_mth_ok (Z := (jxm, [], jT, [jxm_g3, jxm_g24, jxm_c103], jxm_S0, jxm_c121_N, .ofNat 100000)) (f := 100000) jxm_ok hX jT_ok (jc_c1 hg3 (jc_c1 hg24 (jc_c1 (jxm_c103_ok hX hg19 hg20 hg40 hg41) jc_c0))) (by decide +kernel)
-- priceHeld2.3
def jxm_c122 : jc_Cn := (270, 13, [.inr (some (some 359)), .inl (0, .ofNat 2), .inl (1, .ofNat 0)], (2, [(1, .ofNat 0, .ofNat 99)], [(2949323, .inl (0, .ofNat 3))], [], [], [9, 12, 13, 14, 15, 16, 17, 18, 21, 22, 23, 24, 25]), [(360, 0, 602), (363, 0, 602), (362, 0, 602), (368, 0, 5), (359, 23, 24)], [((2, [(1, .negSucc 2147483647, .ofNat 2147483647)], [(2949323, .inl (0, .ofNat 3))], [], [], [9, 12, 13, 14, 15, 16, 17, 18, 21, 22, 23, 24, 25]), some (.inl (1, .ofNat 0)))])
def jxm_c122_N : jc_Nt := []
set_option maxRecDepth 1000000 in
theorem jxm_c122_ok (hX : jc_Xo jxm X) (hg3 : jc_Con jP jxm X jxm_g3) (hg19 : jc_Con jP jxm X jxm_g19) (hg20 : jc_Con jP jxm X jxm_g20) (hg24 : jc_Con jP jxm X jxm_g24) (hg40 : jc_Con jP jxm X jxm_g40) (hg41 : jc_Con jP jxm X jxm_g41) : jc_Con jP jxm X jxm_c122 := jc_mth_ok (Z := (jxm, [], jT, [jxm_g3, jxm_g24, jxm_c103], jxm_S0, jxm_c122_N, .ofNat 100000)) (f := 100000) jxm_ok hX jT_ok (jc_c1 hg3 (jc_c1 hg24 (jc_c1 (jxm_c103_ok hX hg19 hg20 hg40 hg41) jc_c0))) (by decide +kernel)
-- priceHeld0.4
def jxm_c123 : jc_Cn := (270, 13, [.inr (some (some 359)), .inl (0, .ofNat 0), .inl (1, .ofNat 0)], (2, [(1, .ofNat 0, .ofNat 99)], [(2949323, .inl (0, .ofNat 4))], [], [], [9, 12, 13, 14, 15, 16, 17, 18, 21, 22, 23, 24, 25]), [(360, 0, 602), (363, 0, 602), (362, 0, 602), (368, 0, 5), (359, 23, 24)], [((2, [(1, .negSucc 2147483647, .ofNat 2147483647)], [(2949323, .inl (0, .ofNat 4))], [], [], [9, 12, 13, 14, 15, 16, 17, 18, 21, 22, 23, 24, 25]), some (.inl (1, .ofNat 0)))])
def jxm_c123_N : jc_Nt := []
set_option maxRecDepth 1000000 in
theorem jxm_c123_ok (hX : jc_Xo jxm X) (hg4 : jc_Con jP jxm X jxm_g4) (hg19 : jc_Con jP jxm X jxm_g19) (hg20 : jc_Con jP jxm X jxm_g20) (hg25 : jc_Con jP jxm X jxm_g25) (hg40 : jc_Con jP jxm X jxm_g40) (hg41 : jc_Con jP jxm X jxm_g41) : jc_Con jP jxm X jxm_c123 := jc_mth_ok (Z := (jxm, [], jT, [jxm_g4, jxm_g25, jxm_c103], jxm_S0, jxm_c123_N, .ofNat 100000)) (f := 100000) jxm_ok hX jT_ok (jc_c1 hg4 (jc_c1 hg25 (jc_c1 (jxm_c103_ok hX hg19 hg20 hg40 hg41) jc_c0))) (by decide +kernel)
-- priceHeld1.4
def jxm_c124 : jc_Cn := (270, 13, [.inr (some (some 359)), .inl (0, .ofNat 1), .inl (1, .ofNat 0)], (2, [(1, .ofNat 0, .ofNat 99)], [(2949323, .inl (0, .ofNat 4))], [], [], [9, 12, 13, 14, 15, 16, 17, 18, 21, 22, 23, 24, 25]), [(360, 0, 602), (363, 0, 602), (362, 0, 602), (368, 0, 5), (359, 23, 24)], [((2, [(1, .negSucc 2147483647, .ofNat 2147483647)], [(2949323, .inl (0, .ofNat 4))], [], [], [9, 12, 13, 14, 15, 16, 17, 18, 21, 22, 23, 24, 25]), some (.inl (1, .ofNat 0)))])
def jxm_c124_N : jc_Nt := []
set_option maxRecDepth 1000000 in
theorem jxm_c124_ok (hX : jc_Xo jxm X) (hg4 : jc_Con jP jxm X jxm_g4) (hg19 : jc_Con jP jxm X jxm_g19) (hg20 : jc_Con jP jxm X jxm_g20) (hg25 : jc_Con jP jxm X jxm_g25) (hg40 : jc_Con jP jxm X jxm_g40) (hg41 : jc_Con jP jxm X jxm_g41) : jc_Con jP jxm X jxm_c124 := jc_mth_ok (Z := (jxm, [], jT, [jxm_g4, jxm_g25, jxm_c103], jxm_S0, jxm_c124_N, .ofNat 100000)) (f := 100000) jxm_ok hX jT_ok (jc_c1 hg4 (jc_c1 hg25 (jc_c1 (jxm_c103_ok hX hg19 hg20 hg40 hg41) jc_c0))) (by decide +kernel)
-- priceHeld2.4
def jxm_c125 : jc_Cn := (270, 13, [.inr (some (some 359)), .inl (0, .ofNat 2), .inl (1, .ofNat 0)], (2, [(1, .ofNat 0, .ofNat 99)], [(2949323, .inl (0, .ofNat 4))], [], [], [9, 12, 13, 14, 15, 16, 17, 18, 21, 22, 23, 24, 25]), [(360, 0, 602), (363, 0, 602), (362, 0, 602), (368, 0, 5), (359, 23, 24)], [((2, [(1, .negSucc 2147483647, .ofNat 2147483647)], [(2949323, .inl (0, .ofNat 4))], [], [], [9, 12, 13, 14, 15, 16, 17, 18, 21, 22, 23, 24, 25]), some (.inl (1, .ofNat 0)))])
def jxm_c125_N : jc_Nt := []
set_option maxRecDepth 1000000 in
theorem jxm_c125_ok (hX : jc_Xo jxm X) (hg4 : jc_Con jP jxm X jxm_g4) (hg19 : jc_Con jP jxm X jxm_g19) (hg20 : jc_Con jP jxm X jxm_g20) (hg25 : jc_Con jP jxm X jxm_g25) (hg40 : jc_Con jP jxm X jxm_g40) (hg41 : jc_Con jP jxm X jxm_g41) : jc_Con jP jxm X jxm_c125 := jc_mth_ok (Z := (jxm, [], jT, [jxm_g4, jxm_g25, jxm_c103], jxm_S0, jxm_c125_N, .ofNat 100000)) (f := 100000) jxm_ok hX jT_ok (jc_c1 hg4 (jc_c1 hg25 (jc_c1 (jxm_c103_ok hX hg19 hg20 hg40 hg41) jc_c0))) (by decide +kernel)
-- priceHeld3.4
def jxm_c126 : jc_Cn := (270, 13, [.inr (some (some 359)), .inl (0, .ofNat 3), .inl (1, .ofNat 0)], (2, [(1, .ofNat 0, .ofNat 99)], [(2949323, .inl (0, .ofNat 4))], [], [], [9, 12, 13, 14, 15, 16, 17, 18, 21, 22, 23, 24, 25]), [(360, 0, 602), (363, 0, 602), (362, 0, 602), (368, 0, 5), (359, 23, 24)], [((2, [(1, .negSucc 2147483647, .ofNat 2147483647)], [(2949323, .inl (0, .ofNat 4))], [], [], [9, 12, 13, 14, 15, 16, 17, 18, 21, 22, 23, 24, 25]), some (.inl (1, .ofNat 0)))])
def jxm_c126_N : jc_Nt := []
set_option maxRecDepth 1000000 in
theorem jxm_c126_ok (hX : jc_Xo jxm X) (hg4 : jc_Con jP jxm X jxm_g4) (hg19 : jc_Con jP jxm X jxm_g19) (hg20 : jc_Con jP jxm X jxm_g20) (hg25 : jc_Con jP jxm X jxm_g25) (hg40 : jc_Con jP jxm X jxm_g40) (hg41 : jc_Con jP jxm X jxm_g41) : jc_Con jP jxm X jxm_c126 := jc_mth_ok (Z := (jxm, [], jT, [jxm_g4, jxm_g25, jxm_c103], jxm_S0, jxm_c126_N, .ofNat 100000)) (f := 100000) jxm_ok hX jT_ok (jc_c1 hg4 (jc_c1 hg25 (jc_c1 (jxm_c103_ok hX hg19 hg20 hg40 hg41) jc_c0))) (by decide +kernel)
-- priceHeld0.5
def jxm_c127 : jc_Cn := (270, 13, [.inr (some (some 359)), .inl (0, .ofNat 0), .inl (1, .ofNat 0)], (2, [(1, .ofNat 0, .ofNat 99)], [(2949323, .inl (0, .ofNat 5))], [], [], [9, 12, 13, 14, 15, 16, 17, 18, 21, 22, 23, 24, 25]), [(360, 0, 602), (363, 0, 602), (362, 0, 602), (368, 0, 5), (359, 23, 24)], [((2, [(1, .negSucc 2147483647, .ofNat 2147483647)], [(2949323, .inl (0, .ofNat 5))], [], [], [9, 12, 13, 14, 15, 16, 17, 18, 21, 22, 23, 24, 25]), some (.inl (1, .ofNat 0)))])
def jxm_c127_N : jc_Nt := []
set_option maxRecDepth 1000000 in
theorem jxm_c127_ok (hX : jc_Xo jxm X) (hg5 : jc_Con jP jxm X jxm_g5) (hg19 : jc_Con jP jxm X jxm_g19) (hg20 : jc_Con jP jxm X jxm_g20) (hg26 : jc_Con jP jxm X jxm_g26) (hg40 : jc_Con jP jxm X jxm_g40) (hg41 : jc_Con jP jxm X jxm_g41) : jc_Con jP jxm X jxm_c127 := jc_mth_ok (Z := (jxm, [], jT, [jxm_g5, jxm_g26, jxm_c103], jxm_S0, jxm_c127_N, .ofNat 100000)) (f := 100000) jxm_ok hX jT_ok (jc_c1 hg5 (jc_c1 hg26 (jc_c1 (jxm_c103_ok hX hg19 hg20 hg40 hg41) jc_c0))) (by decide +kernel)
-- priceHeld1.5
def jxm_c128 : jc_Cn := (270, 13, [.inr (some (some 359)), .inl (0, .ofNat 1), .inl (1, .ofNat 0)], (2, [(1, .ofNat 0, .ofNat 99)], [(2949323, .inl (0, .ofNat 5))], [], [], [9, 12, 13, 14, 15, 16, 17, 18, 21, 22, 23, 24, 25]), [(360, 0, 602), (363, 0, 602), (362, 0, 602), (368, 0, 5), (359, 23, 24)], [((2, [(1, .negSucc 2147483647, .ofNat 2147483647)], [(2949323, .inl (0, .ofNat 5))], [], [], [9, 12, 13, 14, 15, 16, 17, 18, 21, 22, 23, 24, 25]), some (.inl (1, .ofNat 0)))])
def jxm_c128_N : jc_Nt := []
set_option maxRecDepth 1000000 in
theorem jxm_c128_ok (hX : jc_Xo jxm X) (hg5 : jc_Con jP jxm X jxm_g5) (hg19 : jc_Con jP jxm X jxm_g19) (hg20 : jc_Con jP jxm X jxm_g20) (hg26 : jc_Con jP jxm X jxm_g26) (hg40 : jc_Con jP jxm X jxm_g40) (hg41 : jc_Con jP jxm X jxm_g41) : jc_Con jP jxm X jxm_c128 := jc_mth_ok (Z := (jxm, [], jT, [jxm_g5, jxm_g26, jxm_c103], jxm_S0, jxm_c128_N, .ofNat 100000)) (f := 100000) jxm_ok hX jT_ok (jc_c1 hg5 (jc_c1 hg26 (jc_c1 (jxm_c103_ok hX hg19 hg20 hg40 hg41) jc_c0))) (by decide +kernel)
-- priceHeld2.5
def jxm_c129 : jc_Cn := (270, 13, [.inr (some (some 359)), .inl (0, .ofNat 2), .inl (1, .ofNat 0)], (2, [(1, .ofNat 0, .ofNat 99)], [(2949323, .inl (0, .ofNat 5))], [], [], [9, 12, 13, 14, 15, 16, 17, 18, 21, 22, 23, 24, 25]), [(360, 0, 602), (363, 0, 602), (362, 0, 602), (368, 0, 5), (359, 23, 24)], [((2, [(1, .negSucc 2147483647, .ofNat 2147483647)], [(2949323, .inl (0, .ofNat 5))], [], [], [9, 12, 13, 14, 15, 16, 17, 18, 21, 22, 23, 24, 25]), some (.inl (1, .ofNat 0)))])
def jxm_c129_N : jc_Nt := []
set_option maxRecDepth 1000000 in
theorem jxm_c129_ok (hX : jc_Xo jxm X) (hg5 : jc_Con jP jxm X jxm_g5) (hg19 : jc_Con jP jxm X jxm_g19) (hg20 : jc_Con jP jxm X jxm_g20) (hg26 : jc_Con jP jxm X jxm_g26) (hg40 : jc_Con jP jxm X jxm_g40) (hg41 : jc_Con jP jxm X jxm_g41) : jc_Con jP jxm X jxm_c129 := jc_mth_ok (Z := (jxm, [], jT, [jxm_g5, jxm_g26, jxm_c103], jxm_S0, jxm_c129_N, .ofNat 100000)) (f := 100000) jxm_ok hX jT_ok (jc_c1 hg5 (jc_c1 hg26 (jc_c1 (jxm_c103_ok hX hg19 hg20 hg40 hg41) jc_c0))) (by decide +kernel)
-- priceHeld3.5
def jxm_c130 : jc_Cn := (270, 13, [.inr (some (some 359)), .inl (0, .ofNat 3), .inl (1, .ofNat 0)], (2, [(1, .ofNat 0, .ofNat 99)], [(2949323, .inl (0, .ofNat 5))], [], [], [9, 12, 13, 14, 15, 16, 17, 18, 21, 22, 23, 24, 25]), [(360, 0, 602), (363, 0, 602), (362, 0, 602), (368, 0, 5), (359, 23, 24)], [((2, [(1, .negSucc 2147483647, .ofNat 2147483647)], [(2949323, .inl (0, .ofNat 5))], [], [], [9, 12, 13, 14, 15, 16, 17, 18, 21, 22, 23, 24, 25]), some (.inl (1, .ofNat 0)))])
def jxm_c130_N : jc_Nt := []
set_option maxRecDepth 1000000 in
theorem jxm_c130_ok (hX : jc_Xo jxm X) (hg5 : jc_Con jP jxm X jxm_g5) (hg19 : jc_Con jP jxm X jxm_g19) (hg20 : jc_Con jP jxm X jxm_g20) (hg26 : jc_Con jP jxm X jxm_g26) (hg40 : jc_Con jP jxm X jxm_g40) (hg41 : jc_Con jP jxm X jxm_g41) : jc_Con jP jxm X jxm_c130 := jc_mth_ok (Z := (jxm, [], jT, [jxm_g5, jxm_g26, jxm_c103], jxm_S0, jxm_c130_N, .ofNat 100000)) (f := 100000) jxm_ok hX jT_ok (jc_c1 hg5 (jc_c1 hg26 (jc_c1 (jxm_c103_ok hX hg19 hg20 hg40 hg41) jc_c0))) (by decide +kernel)
-- priceHeld4.5
def jxm_c131 : jc_Cn := (270, 13, [.inr (some (some 359)), .inl (0, .ofNat 4), .inl (1, .ofNat 0)], (2, [(1, .ofNat 0, .ofNat 99)], [(2949323, .inl (0, .ofNat 5))], [], [], [9, 12, 13, 14, 15, 16, 17, 18, 21, 22, 23, 24, 25]), [(360, 0, 602), (363, 0, 602), (362, 0, 602), (368, 0, 5), (359, 23, 24)], [((2, [(1, .negSucc 2147483647, .ofNat 2147483647)], [(2949323, .inl (0, .ofNat 5))], [], [], [9, 12, 13, 14, 15, 16, 17, 18, 21, 22, 23, 24, 25]), some (.inl (1, .ofNat 0)))])
def jxm_c131_N : jc_Nt := []
set_option maxRecDepth 1000000 in
theorem jxm_c131_ok (hX : jc_Xo jxm X) (hg5 : jc_Con jP jxm X jxm_g5) (hg19 : jc_Con jP jxm X jxm_g19) (hg20 : jc_Con jP jxm X jxm_g20) (hg26 : jc_Con jP jxm X jxm_g26) (hg40 : jc_Con jP jxm X jxm_g40) (hg41 : jc_Con jP jxm X jxm_g41) : jc_Con jP jxm X jxm_c131 := jc_mth_ok (Z := (jxm, [], jT, [jxm_g5, jxm_g26, jxm_c103], jxm_S0, jxm_c131_N, .ofNat 100000)) (f := 100000) jxm_ok hX jT_ok (jc_c1 hg5 (jc_c1 hg26 (jc_c1 (jxm_c103_ok hX hg19 hg20 hg40 hg41) jc_c0))) (by decide +kernel)
-- priceWith0
def jxm_c132 : jc_Cn := (278, 13, [.inr (some (some 359)), .inl (0, .ofNat 0), .inl (2, .ofNat 0)], (3, [(1, .ofNat 0, .ofNat 2), (2, .ofNat 1, .ofNat 99)], [(2949121, .inl (1, .ofNat 0))], [], [], [9, 12, 13, 14, 15, 16, 17, 18, 21, 22, 23, 24, 25]), [(360, 0, 602), (363, 0, 602), (362, 0, 602), (368, 0, 5), (359, 23, 24)], [((3, [(1, .negSucc 2147483647, .ofNat 2147483647), (2, .ofNat 0, .ofNat 2)], [(2949121, .inl (2, .ofNat 0))], [], [], [9, 12, 13, 14, 15, 16, 17, 18, 21, 22, 23, 24, 25]), some (.inl (1, .ofNat 0)))])
def jxm_c132_N : jc_Nt := []
set_option maxRecDepth 1000000 in
theorem jxm_c132_ok (hX : jc_Xo jxm X) (hg6 : jc_Con jP jxm X jxm_g6) (hg19 : jc_Con jP jxm X jxm_g19) (hg20 : jc_Con jP jxm X jxm_g20) (hg27 : jc_Con jP jxm X jxm_g27) (hg40 : jc_Con jP jxm X jxm_g40) (hg41 : jc_Con jP jxm X jxm_g41) : jc_Con jP jxm X jxm_c132 := jc_mth_ok (Z := (jxm, [], jT, [jxm_g6, jxm_g27, jxm_c103], jxm_S0, jxm_c132_N, .ofNat 100000)) (f := 100000) jxm_ok hX jT_ok (jc_c1 hg6 (jc_c1 hg27 (jc_c1 (jxm_c103_ok hX hg19 hg20 hg40 hg41) jc_c0))) (by decide +kernel)
-- priceWith1
def jxm_c133 : jc_Cn := (278, 13, [.inr (some (some 359)), .inl (0, .ofNat 1), .inl (2, .ofNat 0)], (3, [(1, .ofNat 0, .ofNat 2), (2, .ofNat 1, .ofNat 99)], [(2949129, .inl (1, .ofNat 0))], [], [], [9, 12, 13, 14, 15, 16, 17, 18, 21, 22, 23, 24, 25]), [(360, 0, 602), (363, 0, 602), (362, 0, 602), (368, 0, 5), (359, 23, 24)], [((3, [(1, .negSucc 2147483647, .ofNat 2147483647), (2, .ofNat 0, .ofNat 2)], [(2949129, .inl (2, .ofNat 0))], [], [], [9, 12, 13, 14, 15, 16, 17, 18, 21, 22, 23, 24, 25]), some (.inl (1, .ofNat 0)))])
def jxm_c133_N : jc_Nt := []
set_option maxRecDepth 1000000 in
theorem jxm_c133_ok (hX : jc_Xo jxm X) (hg7 : jc_Con jP jxm X jxm_g7) (hg19 : jc_Con jP jxm X jxm_g19) (hg20 : jc_Con jP jxm X jxm_g20) (hg28 : jc_Con jP jxm X jxm_g28) (hg40 : jc_Con jP jxm X jxm_g40) (hg41 : jc_Con jP jxm X jxm_g41) : jc_Con jP jxm X jxm_c133 := jc_mth_ok (Z := (jxm, [], jT, [jxm_g7, jxm_g28, jxm_c103], jxm_S0, jxm_c133_N, .ofNat 100000)) (f := 100000) jxm_ok hX jT_ok (jc_c1 hg7 (jc_c1 hg28 (jc_c1 (jxm_c103_ok hX hg19 hg20 hg40 hg41) jc_c0))) (by decide +kernel)
-- priceWith2
def jxm_c134 : jc_Cn := (278, 13, [.inr (some (some 359)), .inl (0, .ofNat 2), .inl (2, .ofNat 0)], (3, [(1, .ofNat 0, .ofNat 2), (2, .ofNat 1, .ofNat 99)], [(2949137, .inl (1, .ofNat 0))], [], [], [9, 12, 13, 14, 15, 16, 17, 18, 21, 22, 23, 24, 25]), [(360, 0, 602), (363, 0, 602), (362, 0, 602), (368, 0, 5), (359, 23, 24)], [((3, [(1, .negSucc 2147483647, .ofNat 2147483647), (2, .ofNat 0, .ofNat 2)], [(2949137, .inl (2, .ofNat 0))], [], [], [9, 12, 13, 14, 15, 16, 17, 18, 21, 22, 23, 24, 25]), some (.inl (1, .ofNat 0)))])
def jxm_c134_N : jc_Nt := []
set_option maxRecDepth 1000000 in
theorem jxm_c134_ok (hX : jc_Xo jxm X) (hg8 : jc_Con jP jxm X jxm_g8) (hg19 : jc_Con jP jxm X jxm_g19) (hg20 : jc_Con jP jxm X jxm_g20) (hg29 : jc_Con jP jxm X jxm_g29) (hg40 : jc_Con jP jxm X jxm_g40) (hg41 : jc_Con jP jxm X jxm_g41) : jc_Con jP jxm X jxm_c134 := jc_mth_ok (Z := (jxm, [], jT, [jxm_g8, jxm_g29, jxm_c103], jxm_S0, jxm_c134_N, .ofNat 100000)) (f := 100000) jxm_ok hX jT_ok (jc_c1 hg8 (jc_c1 hg29 (jc_c1 (jxm_c103_ok hX hg19 hg20 hg40 hg41) jc_c0))) (by decide +kernel)
-- priceWith3
def jxm_c135 : jc_Cn := (278, 13, [.inr (some (some 359)), .inl (0, .ofNat 3), .inl (2, .ofNat 0)], (3, [(1, .ofNat 0, .ofNat 2), (2, .ofNat 1, .ofNat 99)], [(2949145, .inl (1, .ofNat 0))], [], [], [9, 12, 13, 14, 15, 16, 17, 18, 21, 22, 23, 24, 25]), [(360, 0, 602), (363, 0, 602), (362, 0, 602), (368, 0, 5), (359, 23, 24)], [((3, [(1, .negSucc 2147483647, .ofNat 2147483647), (2, .ofNat 0, .ofNat 2)], [(2949145, .inl (2, .ofNat 0))], [], [], [9, 12, 13, 14, 15, 16, 17, 18, 21, 22, 23, 24, 25]), some (.inl (1, .ofNat 0)))])
def jxm_c135_N : jc_Nt := []
set_option maxRecDepth 1000000 in
theorem jxm_c135_ok (hX : jc_Xo jxm X) (hg9 : jc_Con jP jxm X jxm_g9) (hg19 : jc_Con jP jxm X jxm_g19) (hg20 : jc_Con jP jxm X jxm_g20) (hg30 : jc_Con jP jxm X jxm_g30) (hg40 : jc_Con jP jxm X jxm_g40) (hg41 : jc_Con jP jxm X jxm_g41) : jc_Con jP jxm X jxm_c135 := jc_mth_ok (Z := (jxm, [], jT, [jxm_g9, jxm_g30, jxm_c103], jxm_S0, jxm_c135_N, .ofNat 100000)) (f := 100000) jxm_ok hX jT_ok (jc_c1 hg9 (jc_c1 hg30 (jc_c1 (jxm_c103_ok hX hg19 hg20 hg40 hg41) jc_c0))) (by decide +kernel)
-- priceWith4
def jxm_c136 : jc_Cn := (278, 13, [.inr (some (some 359)), .inl (0, .ofNat 4), .inl (2, .ofNat 0)], (3, [(1, .ofNat 0, .ofNat 2), (2, .ofNat 1, .ofNat 99)], [(2949153, .inl (1, .ofNat 0))], [], [], [9, 12, 13, 14, 15, 16, 17, 18, 21, 22, 23, 24, 25]), [(360, 0, 602), (363, 0, 602), (362, 0, 602), (368, 0, 5), (359, 23, 24)], [((3, [(1, .negSucc 2147483647, .ofNat 2147483647), (2, .ofNat 0, .ofNat 2)], [(2949153, .inl (2, .ofNat 0))], [], [], [9, 12, 13, 14, 15, 16, 17, 18, 21, 22, 23, 24, 25]), some (.inl (1, .ofNat 0)))])
def jxm_c136_N : jc_Nt := []
set_option maxRecDepth 1000000 in
theorem jxm_c136_ok (hX : jc_Xo jxm X) (hg10 : jc_Con jP jxm X jxm_g10) (hg19 : jc_Con jP jxm X jxm_g19) (hg20 : jc_Con jP jxm X jxm_g20) (hg31 : jc_Con jP jxm X jxm_g31) (hg40 : jc_Con jP jxm X jxm_g40) (hg41 : jc_Con jP jxm X jxm_g41) : jc_Con jP jxm X jxm_c136 := jc_mth_ok (Z := (jxm, [], jT, [jxm_g10, jxm_g31, jxm_c103], jxm_S0, jxm_c136_N, .ofNat 100000)) (f := 100000) jxm_ok hX jT_ok (jc_c1 hg10 (jc_c1 hg31 (jc_c1 (jxm_c103_ok hX hg19 hg20 hg40 hg41) jc_c0))) (by decide +kernel)
-- priceWith5
def jxm_c137 : jc_Cn := (278, 13, [.inr (some (some 359)), .inl (0, .ofNat 5), .inl (2, .ofNat 0)], (3, [(1, .ofNat 0, .ofNat 2), (2, .ofNat 1, .ofNat 99)], [(2949161, .inl (1, .ofNat 0))], [], [], [9, 12, 13, 14, 15, 16, 17, 18, 21, 22, 23, 24, 25]), [(360, 0, 602), (363, 0, 602), (362, 0, 602), (368, 0, 5), (359, 23, 24)], [((3, [(1, .negSucc 2147483647, .ofNat 2147483647), (2, .ofNat 0, .ofNat 2)], [(2949161, .inl (2, .ofNat 0))], [], [], [9, 12, 13, 14, 15, 16, 17, 18, 21, 22, 23, 24, 25]), some (.inl (1, .ofNat 0)))])
def jxm_c137_N : jc_Nt := []
set_option maxRecDepth 1000000 in
theorem jxm_c137_ok (hX : jc_Xo jxm X) (hg11 : jc_Con jP jxm X jxm_g11) (hg19 : jc_Con jP jxm X jxm_g19) (hg20 : jc_Con jP jxm X jxm_g20) (hg32 : jc_Con jP jxm X jxm_g32) (hg40 : jc_Con jP jxm X jxm_g40) (hg41 : jc_Con jP jxm X jxm_g41) : jc_Con jP jxm X jxm_c137 := jc_mth_ok (Z := (jxm, [], jT, [jxm_g11, jxm_g32, jxm_c103], jxm_S0, jxm_c137_N, .ofNat 100000)) (f := 100000) jxm_ok hX jT_ok (jc_c1 hg11 (jc_c1 hg32 (jc_c1 (jxm_c103_ok hX hg19 hg20 hg40 hg41) jc_c0))) (by decide +kernel)
-- priceWith6
def jxm_c138 : jc_Cn := (278, 13, [.inr (some (some 359)), .inl (0, .ofNat 6), .inl (2, .ofNat 0)], (3, [(1, .ofNat 0, .ofNat 2), (2, .ofNat 1, .ofNat 99)], [(2949169, .inl (1, .ofNat 0))], [], [], [9, 12, 13, 14, 15, 16, 17, 18, 21, 22, 23, 24, 25]), [(360, 0, 602), (363, 0, 602), (362, 0, 602), (368, 0, 5), (359, 23, 24)], [((3, [(1, .negSucc 2147483647, .ofNat 2147483647), (2, .ofNat 0, .ofNat 2)], [(2949169, .inl (2, .ofNat 0))], [], [], [9, 12, 13, 14, 15, 16, 17, 18, 21, 22, 23, 24, 25]), some (.inl (1, .ofNat 0)))])
def jxm_c138_N : jc_Nt := []
set_option maxRecDepth 1000000 in
theorem jxm_c138_ok (hX : jc_Xo jxm X) (hg12 : jc_Con jP jxm X jxm_g12) (hg19 : jc_Con jP jxm X jxm_g19) (hg20 : jc_Con jP jxm X jxm_g20) (hg33 : jc_Con jP jxm X jxm_g33) (hg40 : jc_Con jP jxm X jxm_g40) (hg41 : jc_Con jP jxm X jxm_g41) : jc_Con jP jxm X jxm_c138 := jc_mth_ok (Z := (jxm, [], jT, [jxm_g12, jxm_g33, jxm_c103], jxm_S0, jxm_c138_N, .ofNat 100000)) (f := 100000) jxm_ok hX jT_ok (jc_c1 hg12 (jc_c1 hg33 (jc_c1 (jxm_c103_ok hX hg19 hg20 hg40 hg41) jc_c0))) (by decide +kernel)
-- dropsLink0.1
def jxm_c139 : jc_Cn := (274, 0, [.inr (some (some 359)), .inl (0, .ofNat 0)], (1, [], [(2949416, .inl (0, .ofNat 1))], [], [], [9, 10, 11, 12, 13, 14, 15, 16, 17, 18, 21, 22, 23, 24, 25]), [(360, 296, 309)], [((1, [], [(2949416, .inl (0, .ofNat 0))], [], [], [9, 10, 11, 12, 13, 14, 15, 16, 17, 18, 21, 22, 23, 24, 25]), none)])
def jxm_c139_N : jc_Nt := []
set_option maxRecDepth 1000000 in
theorem jxm_c139_ok (hX : jc_Xo jxm X) : jc_Con jP jxm X jxm_c139 := jc_mth_ok (Z := (jxm, [], jT, [], jxm_S0, jxm_c139_N, .ofNat 100000)) (f := 100000) jxm_ok hX jT_ok jc_c0 (by decide +kernel)
-- dropsLink0.2
def jxm_c140 : jc_Cn := (274, 0, [.inr (some (some 359)), .inl (0, .ofNat 0)], (1, [], [(2949416, .inl (0, .ofNat 2))], [], [], [9, 10, 11, 12, 13, 14, 15, 16, 17, 18, 21, 22, 23, 24, 25]), [(360, 296, 309)], [((1, [], [(2949416, .inl (0, .ofNat 1))], [], [], [9, 10, 11, 12, 13, 14, 15, 16, 17, 18, 21, 22, 23, 24, 25]), none)])
def jxm_c140_N : jc_Nt := []
set_option maxRecDepth 1000000 in
theorem jxm_c140_ok (hX : jc_Xo jxm X) : jc_Con jP jxm X jxm_c140 := jc_mth_ok (Z := (jxm, [], jT, [], jxm_S0, jxm_c140_N, .ofNat 100000)) (f := 100000) jxm_ok hX jT_ok jc_c0 (by decide +kernel)
-- dropsLink1.2
def jxm_c141 : jc_Cn := (274, 0, [.inr (some (some 359)), .inl (0, .ofNat 1)], (1, [], [(2949416, .inl (0, .ofNat 2))], [], [], [9, 10, 11, 12, 13, 14, 15, 16, 17, 18, 21, 22, 23, 24, 25]), [(360, 296, 309)], [((1, [], [(2949416, .inl (0, .ofNat 1))], [], [], [9, 10, 11, 12, 13, 14, 15, 16, 17, 18, 21, 22, 23, 24, 25]), none)])
def jxm_c141_N : jc_Nt := []
set_option maxRecDepth 1000000 in
theorem jxm_c141_ok (hX : jc_Xo jxm X) : jc_Con jP jxm X jxm_c141 := jc_mth_ok (Z := (jxm, [], jT, [], jxm_S0, jxm_c141_N, .ofNat 100000)) (f := 100000) jxm_ok hX jT_ok jc_c0 (by decide +kernel)
-- dropsLink0.3
def jxm_c142 : jc_Cn := (274, 0, [.inr (some (some 359)), .inl (0, .ofNat 0)], (1, [], [(2949416, .inl (0, .ofNat 3))], [], [], [9, 10, 11, 12, 13, 14, 15, 16, 17, 18, 21, 22, 23, 24, 25]), [(360, 296, 309)], [((1, [], [(2949416, .inl (0, .ofNat 2))], [], [], [9, 10, 11, 12, 13, 14, 15, 16, 17, 18, 21, 22, 23, 24, 25]), none)])
def jxm_c142_N : jc_Nt := []
set_option maxRecDepth 1000000 in
theorem jxm_c142_ok (hX : jc_Xo jxm X) : jc_Con jP jxm X jxm_c142 := jc_mth_ok (Z := (jxm, [], jT, [], jxm_S0, jxm_c142_N, .ofNat 100000)) (f := 100000) jxm_ok hX jT_ok jc_c0 (by decide +kernel)
-- dropsLink1.3
def jxm_c143 : jc_Cn := (274, 0, [.inr (some (some 359)), .inl (0, .ofNat 1)], (1, [], [(2949416, .inl (0, .ofNat 3))], [], [], [9, 10, 11, 12, 13, 14, 15, 16, 17, 18, 21, 22, 23, 24, 25]), [(360, 296, 309)], [((1, [], [(2949416, .inl (0, .ofNat 2))], [], [], [9, 10, 11, 12, 13, 14, 15, 16, 17, 18, 21, 22, 23, 24, 25]), none)])
def jxm_c143_N : jc_Nt := []
set_option maxRecDepth 1000000 in
theorem jxm_c143_ok (hX : jc_Xo jxm X) : jc_Con jP jxm X jxm_c143 := jc_mth_ok (Z := (jxm, [], jT, [], jxm_S0, jxm_c143_N, .ofNat 100000)) (f := 100000) jxm_ok hX jT_ok jc_c0 (by decide +kernel)
-- dropsLink2.3
def jxm_c144 : jc_Cn := (274, 0, [.inr (some (some 359)), .inl (0, .ofNat 2)], (1, [], [(2949416, .inl (0, .ofNat 3))], [], [], [9, 10, 11, 12, 13, 14, 15, 16, 17, 18, 21, 22, 23, 24, 25]), [(360, 296, 309)], [((1, [], [(2949416, .inl (0, .ofNat 2))], [], [], [9, 10, 11, 12, 13, 14, 15, 16, 17, 18, 21, 22, 23, 24, 25]), none)])
def jxm_c144_N : jc_Nt := []
set_option maxRecDepth 1000000 in
theorem jxm_c144_ok (hX : jc_Xo jxm X) : jc_Con jP jxm X jxm_c144 := jc_mth_ok (Z := (jxm, [], jT, [], jxm_S0, jxm_c144_N, .ofNat 100000)) (f := 100000) jxm_ok hX jT_ok jc_c0 (by decide +kernel)
-- dropsLink0.4
def jxm_c145 : jc_Cn := (274, 0, [.inr (some (some 359)), .inl (0, .ofNat 0)], (1, [], [(2949416, .inl (0, .ofNat 4))], [], [], [9, 10, 11, 12, 13, 14, 15, 16, 17, 18, 21, 22, 23, 24, 25]), [(360, 296, 309)], [((1, [], [(2949416, .inl (0, .ofNat 3))], [], [], [9, 10, 11, 12, 13, 14, 15, 16, 17, 18, 21, 22, 23, 24, 25]), none)])
def jxm_c145_N : jc_Nt := []
set_option maxRecDepth 1000000 in
theorem jxm_c145_ok (hX : jc_Xo jxm X) : jc_Con jP jxm X jxm_c145 := jc_mth_ok (Z := (jxm, [], jT, [], jxm_S0, jxm_c145_N, .ofNat 100000)) (f := 100000) jxm_ok hX jT_ok jc_c0 (by decide +kernel)
-- dropsLink1.4
def jxm_c146 : jc_Cn := (274, 0, [.inr (some (some 359)), .inl (0, .ofNat 1)], (1, [], [(2949416, .inl (0, .ofNat 4))], [], [], [9, 10, 11, 12, 13, 14, 15, 16, 17, 18, 21, 22, 23, 24, 25]), [(360, 296, 309)], [((1, [], [(2949416, .inl (0, .ofNat 3))], [], [], [9, 10, 11, 12, 13, 14, 15, 16, 17, 18, 21, 22, 23, 24, 25]), none)])
def jxm_c146_N : jc_Nt := []
set_option maxRecDepth 1000000 in
theorem jxm_c146_ok (hX : jc_Xo jxm X) : jc_Con jP jxm X jxm_c146 := jc_mth_ok (Z := (jxm, [], jT, [], jxm_S0, jxm_c146_N, .ofNat 100000)) (f := 100000) jxm_ok hX jT_ok jc_c0 (by decide +kernel)
-- dropsLink2.4
def jxm_c147 : jc_Cn := (274, 0, [.inr (some (some 359)), .inl (0, .ofNat 2)], (1, [], [(2949416, .inl (0, .ofNat 4))], [], [], [9, 10, 11, 12, 13, 14, 15, 16, 17, 18, 21, 22, 23, 24, 25]), [(360, 296, 309)], [((1, [], [(2949416, .inl (0, .ofNat 3))], [], [], [9, 10, 11, 12, 13, 14, 15, 16, 17, 18, 21, 22, 23, 24, 25]), none)])
def jxm_c147_N : jc_Nt := []
set_option maxRecDepth 1000000 in
theorem jxm_c147_ok (hX : jc_Xo jxm X) : jc_Con jP jxm X jxm_c147 := jc_mth_ok (Z := (jxm, [], jT, [], jxm_S0, jxm_c147_N, .ofNat 100000)) (f := 100000) jxm_ok hX jT_ok jc_c0 (by decide +kernel)
-- dropsLink3.4
def jxm_c148 : jc_Cn := (274, 0, [.inr (some (some 359)), .inl (0, .ofNat 3)], (1, [], [(2949416, .inl (0, .ofNat 4))], [], [], [9, 10, 11, 12, 13, 14, 15, 16, 17, 18, 21, 22, 23, 24, 25]), [(360, 296, 309)], [((1, [], [(2949416, .inl (0, .ofNat 3))], [], [], [9, 10, 11, 12, 13, 14, 15, 16, 17, 18, 21, 22, 23, 24, 25]), none)])
def jxm_c148_N : jc_Nt := []
set_option maxRecDepth 1000000 in
theorem jxm_c148_ok (hX : jc_Xo jxm X) : jc_Con jP jxm X jxm_c148 := jc_mth_ok (Z := (jxm, [], jT, [], jxm_S0, jxm_c148_N, .ofNat 100000)) (f := 100000) jxm_ok hX jT_ok jc_c0 (by decide +kernel)
-- drops0.1
def jxm_c149 : jc_Cn := (275, 1, [.inr (some (some 359)), .inl (0, .ofNat 0)], (1, [], [(2949323, .inl (0, .ofNat 1))], [], [], [9, 10, 11, 12, 13, 14, 15, 16, 17, 18, 21, 22, 23, 24, 25]), [(360, 0, 602)], [((1, [], [(2949323, .inl (0, .ofNat 0))], [], [], [9, 10, 11, 12, 13, 14, 15, 16, 17, 18, 21, 22, 23, 24, 25]), none)])
def jxm_c149_n11_0 : List jc_Nd := [(7, none, (1, [], [(2949323, .inl (0, .ofNat 1)), (2949416, .inl (0, .ofNat 0))], [], [], [9, 10, 11, 12, 13, 14, 15, 16, 17, 18, 21, 22, 23, 24, 25]), [(0, .inr (some (some 359))), (1, .inl (0, .ofNat 0)), (2, .inl (0, .negSucc 0))]),
    (8, none, (1, [], [(2949323, .inl (0, .ofNat 1)), (2949416, .inl (0, .ofNat 1))], [], [], [9, 10, 11, 12, 13, 14, 15, 16, 17, 18, 21, 22, 23, 24, 25]), [(0, .inr (some (some 359))), (1, .inl (0, .ofNat 0)), (2, .inl (0, .ofNat 0))]),
    (9, none, (1, [], [(2949323, .inl (0, .ofNat 1)), (2949416, .inl (0, .ofNat 2))], [], [], [9, 10, 11, 12, 13, 14, 15, 16, 17, 18, 21, 22, 23, 24, 25]), [(0, .inr (some (some 359))), (1, .inl (0, .ofNat 0)), (2, .inl (0, .ofNat 1))]),
    (10, none, (1, [], [(2949323, .inl (0, .ofNat 1)), (2949416, .inl (0, .ofNat 3))], [], [], [9, 10, 11, 12, 13, 14, 15, 16, 17, 18, 21, 22, 23, 24, 25]), [(0, .inr (some (some 359))), (1, .inl (0, .ofNat 0)), (2, .inl (0, .ofNat 2))]),
    (11, none, (1, [], [(2949323, .inl (0, .ofNat 1)), (2949416, .inl (0, .ofNat 4))], [], [], [9, 10, 11, 12, 13, 14, 15, 16, 17, 18, 21, 22, 23, 24, 25]), [(0, .inr (some (some 359))), (1, .inl (0, .ofNat 0)), (2, .inl (0, .ofNat 3))]),
    (7, none, (1, [], [(2949323, .inl (0, .ofNat 1)), (2949416, .inl (0, .ofNat 1))], [], [], [9, 10, 11, 12, 13, 14, 15, 16, 17, 18, 21, 22, 23, 24, 25]), [(0, .inr (some (some 359))), (1, .inl (0, .ofNat 0)), (2, .inl (0, .negSucc 0))]),
    (8, none, (1, [], [(2949323, .inl (0, .ofNat 1)), (2949416, .inl (0, .ofNat 2))], [], [], [9, 10, 11, 12, 13, 14, 15, 16, 17, 18, 21, 22, 23, 24, 25]), [(0, .inr (some (some 359))), (1, .inl (0, .ofNat 0)), (2, .inl (0, .ofNat 0))]),
    (9, none, (1, [], [(2949323, .inl (0, .ofNat 1)), (2949416, .inl (0, .ofNat 3))], [], [], [9, 10, 11, 12, 13, 14, 15, 16, 17, 18, 21, 22, 23, 24, 25]), [(0, .inr (some (some 359))), (1, .inl (0, .ofNat 0)), (2, .inl (0, .ofNat 1))]),
    (10, none, (1, [], [(2949323, .inl (0, .ofNat 1)), (2949416, .inl (0, .ofNat 4))], [], [], [9, 10, 11, 12, 13, 14, 15, 16, 17, 18, 21, 22, 23, 24, 25]), [(0, .inr (some (some 359))), (1, .inl (0, .ofNat 0)), (2, .inl (0, .ofNat 2))]),
    (7, none, (1, [], [(2949323, .inl (0, .ofNat 1)), (2949416, .inl (0, .ofNat 2))], [], [], [9, 10, 11, 12, 13, 14, 15, 16, 17, 18, 21, 22, 23, 24, 25]), [(0, .inr (some (some 359))), (1, .inl (0, .ofNat 0)), (2, .inl (0, .negSucc 0))]),
    (8, none, (1, [], [(2949323, .inl (0, .ofNat 1)), (2949416, .inl (0, .ofNat 3))], [], [], [9, 10, 11, 12, 13, 14, 15, 16, 17, 18, 21, 22, 23, 24, 25]), [(0, .inr (some (some 359))), (1, .inl (0, .ofNat 0)), (2, .inl (0, .ofNat 0))]),
    (9, none, (1, [], [(2949323, .inl (0, .ofNat 1)), (2949416, .inl (0, .ofNat 4))], [], [], [9, 10, 11, 12, 13, 14, 15, 16, 17, 18, 21, 22, 23, 24, 25]), [(0, .inr (some (some 359))), (1, .inl (0, .ofNat 0)), (2, .inl (0, .ofNat 1))]),
    (7, none, (1, [], [(2949323, .inl (0, .ofNat 1)), (2949416, .inl (0, .ofNat 3))], [], [], [9, 10, 11, 12, 13, 14, 15, 16, 17, 18, 21, 22, 23, 24, 25]), [(0, .inr (some (some 359))), (1, .inl (0, .ofNat 0)), (2, .inl (0, .negSucc 0))]),
    (8, none, (1, [], [(2949323, .inl (0, .ofNat 1)), (2949416, .inl (0, .ofNat 4))], [], [], [9, 10, 11, 12, 13, 14, 15, 16, 17, 18, 21, 22, 23, 24, 25]), [(0, .inr (some (some 359))), (1, .inl (0, .ofNat 0)), (2, .inl (0, .ofNat 0))]),
    (7, none, (1, [], [(2949323, .inl (0, .ofNat 1)), (2949416, .inl (0, .ofNat 4))], [], [], [9, 10, 11, 12, 13, 14, 15, 16, 17, 18, 21, 22, 23, 24, 25]), [(0, .inr (some (some 359))), (1, .inl (0, .ofNat 0)), (2, .inl (0, .negSucc 0))])]
def jxm_c149_n48_0 : List jc_Nd := [(6, none, (1, [], [(2949323, .inl (0, .ofNat 1))], [], [], [9, 10, 11, 12, 13, 14, 15, 16, 17, 18, 21, 22, 23, 24, 25]), [(0, .inr (some (some 359))), (1, .inl (0, .ofNat 0)), (2, .inl (0, .ofNat 0))]),
    (5, none, (1, [], [(2949323, .inl (0, .ofNat 1))], [], [], [9, 10, 11, 12, 13, 14, 15, 16, 17, 18, 21, 22, 23, 24, 25]), [(0, .inr (some (some 359))), (1, .inl (0, .ofNat 0)), (2, .inl (0, .ofNat 1))]),
    (4, none, (1, [], [(2949323, .inl (0, .ofNat 1))], [], [], [9, 10, 11, 12, 13, 14, 15, 16, 17, 18, 21, 22, 23, 24, 25]), [(0, .inr (some (some 359))), (1, .inl (0, .ofNat 0)), (2, .inl (0, .ofNat 2))]),
    (3, none, (1, [], [(2949323, .inl (0, .ofNat 1))], [], [], [9, 10, 11, 12, 13, 14, 15, 16, 17, 18, 21, 22, 23, 24, 25]), [(0, .inr (some (some 359))), (1, .inl (0, .ofNat 0)), (2, .inl (0, .ofNat 3))]),
    (2, none, (1, [], [(2949323, .inl (0, .ofNat 1))], [], [], [9, 10, 11, 12, 13, 14, 15, 16, 17, 18, 21, 22, 23, 24, 25]), [(0, .inr (some (some 359))), (1, .inl (0, .ofNat 0)), (2, .inl (0, .ofNat 4))])]
def jxm_c149_n235_0 : List jc_Nd := [(1, none, (1, [], [(2949323, .inl (0, .ofNat 1))], [], [], [9, 10, 11, 12, 13, 14, 15, 16, 17, 18, 19, 22, 23, 24, 25]), [(0, .inr (some (some 359))), (1, .inl (0, .ofNat 0)), (2, .inl (0, .ofNat 1)), (3, .inl (0, .ofNat 0)), (4, .inl (0, .ofNat 0))])]
def jxm_c149_N : jc_Nt := [some [none, none, none, none, none, none, none, none, none, none, none, some (jxm_c149_n11_0), none, none, none, none],
  none,
  none,
  some [some (jxm_c149_n48_0), none, none, none, none, none, none, none, none, none, none, none, none, none, none, none],
  none,
  none,
  none,
  none,
  none,
  none,
  none,
  none,
  none,
  none,
  some [none, none, none, none, none, none, none, none, none, none, none, some (jxm_c149_n235_0), none, none, none, none]]
noncomputable def jxm_c149_Z : jc_Ce := (jxm, [(75, (75, true)), (80, (135, false)), (81, (81, true))], jT, [jxm_c139, jxm_c140, jxm_c141, jxm_c142, jxm_c143, jxm_c144, jxm_c145, jxm_c146, jxm_c147, jxm_c148], jxm_S16, jxm_c149_N, .ofNat 100000)
set_option maxRecDepth 1000000 in
theorem jxm_c149_k11_0 : jc_ndc jxm_c149_Z 100000 jxm_c149 11 jxm_c149_n11_0 = true := by decide +kernel
set_option maxRecDepth 1000000 in
theorem jxm_c149_k48_0 : jc_ndc jxm_c149_Z 100000 jxm_c149 48 jxm_c149_n48_0 = true := by decide +kernel
set_option maxRecDepth 1000000 in
theorem jxm_c149_k235_0 : jc_ndc jxm_c149_Z 100000 jxm_c149 235 jxm_c149_n235_0 = true := by decide +kernel
set_option maxRecDepth 1000000 in
theorem jxm_c149_s : jc_mtg jxm_c149_Z 100000 jxm_c149 = true := by decide +kernel
theorem jxm_c149_h : ∀ pc ns, ja_n2 jxm_c149_N pc = some ns → jc_ndc jxm_c149_Z 100000 jxm_c149 pc ns = true := by
  intro pc ns h
  have hp := jc_inl_ok (ja_ch2_ok (p := fun i (_ : List jc_Nd) => jc_inl i [11, 48, 235]) (L := jxm_c149_N) (by decide +kernel) h)
  simp only [List.mem_cons, List.not_mem_nil, or_false] at hp
  rcases hp with rfl | rfl | rfl
  · exact (Option.some.inj (h.symm.trans (show ja_n2 jxm_c149_N 11 = some jxm_c149_n11_0 from rfl))) ▸ jxm_c149_k11_0
  · exact (Option.some.inj (h.symm.trans (show ja_n2 jxm_c149_N 48 = some jxm_c149_n48_0 from rfl))) ▸ jxm_c149_k48_0
  · exact (Option.some.inj (h.symm.trans (show ja_n2 jxm_c149_N 235 = some jxm_c149_n235_0 from rfl))) ▸ jxm_c149_k235_0
theorem jxm_c149_ok (hX : jc_Xo jxm X) : jc_Con jP jxm X jxm_c149 := jc_mthc_ok (Z := jxm_c149_Z) (f := 100000) jxm_ok hX jT_ok (jc_c1 (jxm_c139_ok hX) (jc_c1 (jxm_c140_ok hX) (jc_c1 (jxm_c141_ok hX) (jc_c1 (jxm_c142_ok hX) (jc_c1 (jxm_c143_ok hX) (jc_c1 (jxm_c144_ok hX) (jc_c1 (jxm_c145_ok hX) (jc_c1 (jxm_c146_ok hX) (jc_c1 (jxm_c147_ok hX) (jc_c1 (jxm_c148_ok hX) jc_c0)))))))))) jxm_c149_s jxm_c149_h
-- drops0.2
def jxm_c150 : jc_Cn := (275, 1, [.inr (some (some 359)), .inl (0, .ofNat 0)], (1, [], [(2949323, .inl (0, .ofNat 2))], [], [], [9, 10, 11, 12, 13, 14, 15, 16, 17, 18, 21, 22, 23, 24, 25]), [(360, 0, 602)], [((1, [], [(2949323, .inl (0, .ofNat 1))], [], [], [9, 10, 11, 12, 13, 14, 15, 16, 17, 18, 21, 22, 23, 24, 25]), none)])
def jxm_c150_n11_0 : List jc_Nd := [(7, none, (1, [], [(2949323, .inl (0, .ofNat 2)), (2949416, .inl (0, .ofNat 0))], [], [], [9, 10, 11, 12, 13, 14, 15, 16, 17, 18, 21, 22, 23, 24, 25]), [(0, .inr (some (some 359))), (1, .inl (0, .ofNat 0)), (2, .inl (0, .negSucc 0))]),
    (8, none, (1, [], [(2949323, .inl (0, .ofNat 2)), (2949416, .inl (0, .ofNat 1))], [], [], [9, 10, 11, 12, 13, 14, 15, 16, 17, 18, 21, 22, 23, 24, 25]), [(0, .inr (some (some 359))), (1, .inl (0, .ofNat 0)), (2, .inl (0, .ofNat 0))]),
    (9, none, (1, [], [(2949323, .inl (0, .ofNat 2)), (2949416, .inl (0, .ofNat 2))], [], [], [9, 10, 11, 12, 13, 14, 15, 16, 17, 18, 21, 22, 23, 24, 25]), [(0, .inr (some (some 359))), (1, .inl (0, .ofNat 0)), (2, .inl (0, .ofNat 1))]),
    (10, none, (1, [], [(2949323, .inl (0, .ofNat 2)), (2949416, .inl (0, .ofNat 3))], [], [], [9, 10, 11, 12, 13, 14, 15, 16, 17, 18, 21, 22, 23, 24, 25]), [(0, .inr (some (some 359))), (1, .inl (0, .ofNat 0)), (2, .inl (0, .ofNat 2))]),
    (11, none, (1, [], [(2949323, .inl (0, .ofNat 2)), (2949416, .inl (0, .ofNat 4))], [], [], [9, 10, 11, 12, 13, 14, 15, 16, 17, 18, 21, 22, 23, 24, 25]), [(0, .inr (some (some 359))), (1, .inl (0, .ofNat 0)), (2, .inl (0, .ofNat 3))]),
    (7, none, (1, [], [(2949323, .inl (0, .ofNat 2)), (2949416, .inl (0, .ofNat 1))], [], [], [9, 10, 11, 12, 13, 14, 15, 16, 17, 18, 21, 22, 23, 24, 25]), [(0, .inr (some (some 359))), (1, .inl (0, .ofNat 0)), (2, .inl (0, .negSucc 0))]),
    (8, none, (1, [], [(2949323, .inl (0, .ofNat 2)), (2949416, .inl (0, .ofNat 2))], [], [], [9, 10, 11, 12, 13, 14, 15, 16, 17, 18, 21, 22, 23, 24, 25]), [(0, .inr (some (some 359))), (1, .inl (0, .ofNat 0)), (2, .inl (0, .ofNat 0))]),
    (9, none, (1, [], [(2949323, .inl (0, .ofNat 2)), (2949416, .inl (0, .ofNat 3))], [], [], [9, 10, 11, 12, 13, 14, 15, 16, 17, 18, 21, 22, 23, 24, 25]), [(0, .inr (some (some 359))), (1, .inl (0, .ofNat 0)), (2, .inl (0, .ofNat 1))]),
    (10, none, (1, [], [(2949323, .inl (0, .ofNat 2)), (2949416, .inl (0, .ofNat 4))], [], [], [9, 10, 11, 12, 13, 14, 15, 16, 17, 18, 21, 22, 23, 24, 25]), [(0, .inr (some (some 359))), (1, .inl (0, .ofNat 0)), (2, .inl (0, .ofNat 2))]),
    (7, none, (1, [], [(2949323, .inl (0, .ofNat 2)), (2949416, .inl (0, .ofNat 2))], [], [], [9, 10, 11, 12, 13, 14, 15, 16, 17, 18, 21, 22, 23, 24, 25]), [(0, .inr (some (some 359))), (1, .inl (0, .ofNat 0)), (2, .inl (0, .negSucc 0))]),
    (8, none, (1, [], [(2949323, .inl (0, .ofNat 2)), (2949416, .inl (0, .ofNat 3))], [], [], [9, 10, 11, 12, 13, 14, 15, 16, 17, 18, 21, 22, 23, 24, 25]), [(0, .inr (some (some 359))), (1, .inl (0, .ofNat 0)), (2, .inl (0, .ofNat 0))]),
    (9, none, (1, [], [(2949323, .inl (0, .ofNat 2)), (2949416, .inl (0, .ofNat 4))], [], [], [9, 10, 11, 12, 13, 14, 15, 16, 17, 18, 21, 22, 23, 24, 25]), [(0, .inr (some (some 359))), (1, .inl (0, .ofNat 0)), (2, .inl (0, .ofNat 1))]),
    (7, none, (1, [], [(2949323, .inl (0, .ofNat 2)), (2949416, .inl (0, .ofNat 3))], [], [], [9, 10, 11, 12, 13, 14, 15, 16, 17, 18, 21, 22, 23, 24, 25]), [(0, .inr (some (some 359))), (1, .inl (0, .ofNat 0)), (2, .inl (0, .negSucc 0))]),
    (8, none, (1, [], [(2949323, .inl (0, .ofNat 2)), (2949416, .inl (0, .ofNat 4))], [], [], [9, 10, 11, 12, 13, 14, 15, 16, 17, 18, 21, 22, 23, 24, 25]), [(0, .inr (some (some 359))), (1, .inl (0, .ofNat 0)), (2, .inl (0, .ofNat 0))]),
    (7, none, (1, [], [(2949323, .inl (0, .ofNat 2)), (2949416, .inl (0, .ofNat 4))], [], [], [9, 10, 11, 12, 13, 14, 15, 16, 17, 18, 21, 22, 23, 24, 25]), [(0, .inr (some (some 359))), (1, .inl (0, .ofNat 0)), (2, .inl (0, .negSucc 0))])]
def jxm_c150_n48_0 : List jc_Nd := [(6, none, (1, [], [(2949323, .inl (0, .ofNat 2))], [], [], [9, 10, 11, 12, 13, 14, 15, 16, 17, 18, 21, 22, 23, 24, 25]), [(0, .inr (some (some 359))), (1, .inl (0, .ofNat 0)), (2, .inl (0, .ofNat 0))]),
    (5, none, (1, [], [(2949323, .inl (0, .ofNat 2))], [], [], [9, 10, 11, 12, 13, 14, 15, 16, 17, 18, 21, 22, 23, 24, 25]), [(0, .inr (some (some 359))), (1, .inl (0, .ofNat 0)), (2, .inl (0, .ofNat 1))]),
    (4, none, (1, [], [(2949323, .inl (0, .ofNat 2))], [], [], [9, 10, 11, 12, 13, 14, 15, 16, 17, 18, 21, 22, 23, 24, 25]), [(0, .inr (some (some 359))), (1, .inl (0, .ofNat 0)), (2, .inl (0, .ofNat 2))]),
    (3, none, (1, [], [(2949323, .inl (0, .ofNat 2))], [], [], [9, 10, 11, 12, 13, 14, 15, 16, 17, 18, 21, 22, 23, 24, 25]), [(0, .inr (some (some 359))), (1, .inl (0, .ofNat 0)), (2, .inl (0, .ofNat 3))]),
    (2, none, (1, [], [(2949323, .inl (0, .ofNat 2))], [], [], [9, 10, 11, 12, 13, 14, 15, 16, 17, 18, 21, 22, 23, 24, 25]), [(0, .inr (some (some 359))), (1, .inl (0, .ofNat 0)), (2, .inl (0, .ofNat 4))])]
def jxm_c150_n235_0 : List jc_Nd := [(1, none, (2, [(1, .ofNat 0, .ofNat 1)], [(2949323, .inl (0, .ofNat 2))], [], [], [9, 10, 11, 12, 13, 14, 15, 16, 17, 18, 19, 21, 23, 24, 25]), [(0, .inr (some (some 359))), (1, .inl (0, .ofNat 0)), (2, .inl (0, .ofNat 2)), (3, .inl (1, .ofNat 0)), (4, .inl (0, .ofNat 1))])]
def jxm_c150_N : jc_Nt := [some [none, none, none, none, none, none, none, none, none, none, none, some (jxm_c150_n11_0), none, none, none, none],
  none,
  none,
  some [some (jxm_c150_n48_0), none, none, none, none, none, none, none, none, none, none, none, none, none, none, none],
  none,
  none,
  none,
  none,
  none,
  none,
  none,
  none,
  none,
  none,
  some [none, none, none, none, none, none, none, none, none, none, none, some (jxm_c150_n235_0), none, none, none, none]]
noncomputable def jxm_c150_Z : jc_Ce := (jxm, [(75, (76, false)), (76, (76, true)), (80, (136, false)), (81, (82, false)), (82, (82, true))], jT, [jxm_c139, jxm_c140, jxm_c141, jxm_c142, jxm_c143, jxm_c144, jxm_c145, jxm_c146, jxm_c147, jxm_c148], jxm_S17, jxm_c150_N, .ofNat 100000)
set_option maxRecDepth 1000000 in
theorem jxm_c150_k11_0 : jc_ndc jxm_c150_Z 100000 jxm_c150 11 jxm_c150_n11_0 = true := by decide +kernel
set_option maxRecDepth 1000000 in
theorem jxm_c150_k48_0 : jc_ndc jxm_c150_Z 100000 jxm_c150 48 jxm_c150_n48_0 = true := by decide +kernel
end Jjxm24
