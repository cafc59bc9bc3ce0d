/-! contracts of the reference (8); written by wip/jc/e5.py -/
section Jjxm8
variable {X : J_H → Prop}
-- whyNot3
def jxm_c20 : jc_Cn := (214, 8, [.inr (some (some 359)), .inl (0, .ofNat 3)], (2, [(1, .ofNat 4, .ofNat 5)], [(2949323, .inl (1, .ofNat 0))], [], [], [9, 10, 11, 12, 13, 14, 15, 16, 17, 18, 21, 22, 23, 24, 25]), [], [((3, [(1, .ofNat 0, .ofNat 1), (2, .ofNat 4, .ofNat 5)], [(2949266, .inl (1, .ofNat 0)), (2949323, .inl (2, .ofNat 0))], [], [], [9, 10, 11, 12, 13, 14, 15, 16, 17, 18, 21, 22, 23, 24, 25]), some (.inl (0, .ofNat 0))), ((2, [(1, .ofNat 4, .ofNat 5)], [(2949266, .inl (0, .ofNat 3)), (2949323, .inl (1, .ofNat 0))], [], [], [9, 10, 11, 12, 13, 14, 15, 16, 17, 18, 21, 22, 23, 24, 25]), some (.inl (0, .ofNat 1))), ((2, [(1, .ofNat 4, .ofNat 5)], [(2949266, .inl (0, .ofNat 2)), (2949323, .inl (1, .ofNat 0))], [], [], [9, 10, 11, 12, 13, 14, 15, 16, 17, 18, 21, 22, 23, 24, 25]), some (.inl (0, .ofNat 2))), ((3, [(1, .ofNat 0, .ofNat 1), (2, .ofNat 4, .ofNat 5)], [(2949266, .inl (1, .ofNat 0)), (2949323, .inl (2, .ofNat 0))], [], [], [9, 10, 11, 12, 13, 14, 15, 16, 17, 18, 21, 22, 23, 24, 25]), some (.inl (0, .ofNat 3))), ((2, [(1, .ofNat 4, .ofNat 5)], [(2949266, .inl (0, .ofNat 1)), (2949323, .inl (1, .ofNat 0))], [], [], [9, 10, 11, 12, 13, 14, 15, 16, 17, 18, 21, 22, 23, 24, 25]), some (.inl (0, .ofNat 4)))])
def jxm_c20_N : jc_Nt := []
set_option maxRecDepth 1000000 in
theorem jxm_c20_ok (hX : jc_Xo jxm X) : jc_Con jP jxm X jxm_c20 := jc_mth_ok (Z := (jxm, [], jT, [jxm_c8, jxm_c9], jxm_S0, jxm_c20_N, .ofNat 100000)) (f := 100000) jxm_ok hX jT_ok (jc_c1 (jxm_c8_ok hX) (jc_c1 (jxm_c9_ok hX) jc_c0)) (by decide +kernel)
-- whyNot4
def jxm_c21 : jc_Cn := (214, 8, [.inr (some (some 359)), .inl (0, .ofNat 4)], (2, [(1, .ofNat 5, .ofNat 5)], [(2949323, .inl (1, .ofNat 0))], [], [], [9, 10, 11, 12, 13, 14, 15, 16, 17, 18, 21, 22, 23, 24, 25]), [], [((2, [(1, .ofNat 0, .ofNat 1)], [(2949294, .inl (1, .ofNat 0)), (2949323, .inl (0, .ofNat 5))], [], [], [9, 10, 11, 12, 13, 14, 15, 16, 17, 18, 21, 22, 23, 24, 25]), some (.inl (0, .ofNat 0))), ((1, [], [(2949294, .inl (0, .ofNat 3)), (2949323, .inl (0, .ofNat 5))], [], [], [9, 10, 11, 12, 13, 14, 15, 16, 17, 18, 21, 22, 23, 24, 25]), some (.inl (0, .ofNat 1))), ((1, [], [(2949294, .inl (0, .ofNat 2)), (2949323, .inl (0, .ofNat 5))], [], [], [9, 10, 11, 12, 13, 14, 15, 16, 17, 18, 21, 22, 23, 24, 25]), some (.inl (0, .ofNat 2))), ((2, [(1, .ofNat 0, .ofNat 1)], [(2949294, .inl (1, .ofNat 0)), (2949323, .inl (0, .ofNat 5))], [], [], [9, 10, 11, 12, 13, 14, 15, 16, 17, 18, 21, 22, 23, 24, 25]), some (.inl (0, .ofNat 3))), ((1, [], [(2949294, .inl (0, .ofNat 1)), (2949323, .inl (0, .ofNat 5))], [], [], [9, 10, 11, 12, 13, 14, 15, 16, 17, 18, 21, 22, 23, 24, 25]), some (.inl (0, .ofNat 4)))])
def jxm_c21_N : jc_Nt := []
set_option maxRecDepth 1000000 in
theorem jxm_c21_ok (hX : jc_Xo jxm X) : jc_Con jP jxm X jxm_c21 := jc_mth_ok (Z := (jxm, [], jT, [jxm_c8, jxm_c9], jxm_S0, jxm_c21_N, .ofNat 100000)) (f := 100000) jxm_ok hX jT_ok (jc_c1 (jxm_c8_ok hX) (jc_c1 (jxm_c9_ok hX) jc_c0)) (by decide +kernel)
-- isStuck
def jxm_c22 : jc_Cn := (220, 9, [.inr (some (some 359))], (1, [], [], [], [], [9, 10, 11, 12, 13, 14, 15, 16, 17, 18, 21, 22, 23, 24, 25]), [], [((2, [(1, .ofNat 0, .ofNat 1)], [], [], [], [9, 10, 11, 12, 13, 14, 15, 16, 17, 18, 21, 22, 23, 24, 25]), some (.inl (1, .ofNat 0)))])
def jxm_c22_N : jc_Nt := [some [none, none, none, none, some ([(6, none, (1, [], [], [], [], [9, 10, 11, 12, 13, 14, 15, 16, 17, 18, 21, 22, 23, 24, 25]), [(0, .inr (some (some 359))), (1, .inl (0, .ofNat 0)), (2, .inl (0, .ofNat 0))]),
    (5, none, (2, [(1, .ofNat 0, .ofNat 1)], [], [], [], [9, 10, 11, 12, 13, 14, 15, 16, 17, 18, 21, 22, 23, 24, 25]), [(0, .inr (some (some 359))), (1, .inl (1, .ofNat 0)), (2, .inl (0, .ofNat 1))]),
    (4, none, (2, [(1, .ofNat 0, .ofNat 1)], [], [], [], [9, 10, 11, 12, 13, 14, 15, 16, 17, 18, 21, 22, 23, 24, 25]), [(0, .inr (some (some 359))), (1, .inl (1, .ofNat 0)), (2, .inl (0, .ofNat 2))]),
    (3, none, (2, [(1, .ofNat 0, .ofNat 1)], [], [], [], [9, 10, 11, 12, 13, 14, 15, 16, 17, 18, 21, 22, 23, 24, 25]), [(0, .inr (some (some 359))), (1, .inl (1, .ofNat 0)), (2, .inl (0, .ofNat 3))]),
    (2, none, (2, [(1, .ofNat 0, .ofNat 1)], [], [], [], [9, 10, 11, 12, 13, 14, 15, 16, 17, 18, 21, 22, 23, 24, 25]), [(0, .inr (some (some 359))), (1, .inl (1, .ofNat 0)), (2, .inl (0, .ofNat 4))]),
    (1, none, (2, [(1, .ofNat 0, .ofNat 1)], [], [], [], [9, 10, 11, 12, 13, 14, 15, 16, 17, 18, 21, 22, 23, 24, 25]), [(0, .inr (some (some 359))), (1, .inl (1, .ofNat 0)), (2, .inl (0, .ofNat 5))])]), none, none, none, none, none, none, none, none, none, none, none]]
set_option maxRecDepth 1000000 in
theorem jxm_c22_ok (hX : jc_Xo jxm X) : jc_Con jP jxm X jxm_c22 := jc_mth_ok (Z := (jxm, [], jT, [jxm_c17, jxm_c18, jxm_c19, jxm_c20, jxm_c21], jxm_S0, jxm_c22_N, .ofNat 100000)) (f := 100000) jxm_ok hX jT_ok (jc_c1 (jxm_c17_ok hX) (jc_c1 (jxm_c18_ok hX) (jc_c1 (jxm_c19_ok hX) (jc_c1 (jxm_c20_ok hX) (jc_c1 (jxm_c21_ok hX) jc_c0))))) (by decide +kernel)
-- loneOf0
def jxm_c23 : jc_Cn := (212, 3, [.inr (some (some 359)), .inl (0, .ofNat 0)], (2, [(1, .ofNat 1, .ofNat 5)], [(2949323, .inl (1, .ofNat 0))], [], [], [9, 10, 11, 12, 13, 14, 15, 16, 17, 18, 21, 22, 23, 24, 25]), [], [((3, [(1, .negSucc 2147483647, .ofNat 2147483647), (2, .ofNat 1, .ofNat 5)], [(2949323, .inl (2, .ofNat 0))], [], [], [9, 10, 11, 12, 13, 14, 15, 16, 17, 18, 21, 22, 23, 24, 25]), some (.inl (1, .ofNat 0)))])
def jxm_c23_N : jc_Nt := []
set_option maxRecDepth 1000000 in
theorem jxm_c23_ok (hX : jc_Xo jxm X) : jc_Con jP jxm X jxm_c23 := jc_mth_ok (Z := (jxm, [], jT, [], jxm_S0, jxm_c23_N, .ofNat 100000)) (f := 100000) jxm_ok hX jT_ok jc_c0 (by decide +kernel)
-- loneOf1
def jxm_c24 : jc_Cn := (212, 3, [.inr (some (some 359)), .inl (0, .ofNat 1)], (2, [(1, .ofNat 2, .ofNat 5)], [(2949323, .inl (1, .ofNat 0))], [], [], [9, 10, 11, 12, 13, 14, 15, 16, 17, 18, 21, 22, 23, 24, 25]), [], [((3, [(1, .negSucc 2147483647, .ofNat 2147483647), (2, .ofNat 2, .ofNat 5)], [(2949323, .inl (2, .ofNat 0))], [], [], [9, 10, 11, 12, 13, 14, 15, 16, 17, 18, 21, 22, 23, 24, 25]), some (.inl (1, .ofNat 0)))])
def jxm_c24_N : jc_Nt := []
set_option maxRecDepth 1000000 in
theorem jxm_c24_ok (hX : jc_Xo jxm X) : jc_Con jP jxm X jxm_c24 := jc_mth_ok (Z := (jxm, [], jT, [], jxm_S0, jxm_c24_N, .ofNat 100000)) (f := 100000) jxm_ok hX jT_ok jc_c0 (by decide +kernel)
-- loneOf2
def jxm_c25 : jc_Cn := (212, 3, [.inr (some (some 359)), .inl (0, .ofNat 2)], (2, [(1, .ofNat 3, .ofNat 5)], [(2949323, .inl (1, .ofNat 0))], [], [], [9, 10, 11, 12, 13, 14, 15, 16, 17, 18, 21, 22, 23, 24, 25]), [], [((3, [(1, .negSucc 2147483647, .ofNat 2147483647), (2, .ofNat 3, .ofNat 5)], [(2949323, .inl (2, .ofNat 0))], [], [], [9, 10, 11, 12, 13, 14, 15, 16, 17, 18, 21, 22, 23, 24, 25]), some (.inl (1, .ofNat 0)))])
def jxm_c25_N : jc_Nt := []
set_option maxRecDepth 1000000 in
theorem jxm_c25_ok (hX : jc_Xo jxm X) : jc_Con jP jxm X jxm_c25 := jc_mth_ok (Z := (jxm, [], jT, [], jxm_S0, jxm_c25_N, .ofNat 100000)) (f := 100000) jxm_ok hX jT_ok jc_c0 (by decide +kernel)
-- loneOf3
def jxm_c26 : jc_Cn := (212, 3, [.inr (some (some 359)), .inl (0, .ofNat 3)], (2, [(1, .ofNat 4, .ofNat 5)], [(2949323, .inl (1, .ofNat 0))], [], [], [9, 10, 11, 12, 13, 14, 15, 16, 17, 18, 21, 22, 23, 24, 25]), [], [((3, [(1, .negSucc 2147483647, .ofNat 2147483647), (2, .ofNat 4, .ofNat 5)], [(2949323, .inl (2, .ofNat 0))], [], [], [9, 10, 11, 12, 13, 14, 15, 16, 17, 18, 21, 22, 23, 24, 25]), some (.inl (1, .ofNat 0)))])
def jxm_c26_N : jc_Nt := []
set_option maxRecDepth 1000000 in
theorem jxm_c26_ok (hX : jc_Xo jxm X) : jc_Con jP jxm X jxm_c26 := jc_mth_ok (Z := (jxm, [], jT, [], jxm_S0, jxm_c26_N, .ofNat 100000)) (f := 100000) jxm_ok hX jT_ok jc_c0 (by decide +kernel)
-- loneOf4
def jxm_c27 : jc_Cn := (212, 3, [.inr (some (some 359)), .inl (0, .ofNat 4)], (2, [(1, .ofNat 5, .ofNat 5)], [(2949323, .inl (1, .ofNat 0))], [], [], [9, 10, 11, 12, 13, 14, 15, 16, 17, 18, 21, 22, 23, 24, 25]), [], [((2, [(1, .negSucc 2147483647, .ofNat 2147483647)], [(2949323, .inl (0, .ofNat 5))], [], [], [9, 10, 11, 12, 13, 14, 15, 16, 17, 18, 21, 22, 23, 24, 25]), some (.inl (1, .ofNat 0)))])
def jxm_c27_N : jc_Nt := []
set_option maxRecDepth 1000000 in
theorem jxm_c27_ok (hX : jc_Xo jxm X) : jc_Con jP jxm X jxm_c27 := jc_mth_ok (Z := (jxm, [], jT, [], jxm_S0, jxm_c27_N, .ofNat 100000)) (f := 100000) jxm_ok hX jT_ok jc_c0 (by decide +kernel)
-- price
def jxm_c28 : jc_Cn := (230, 5, [.inr (some (some 359))], (1, [], [], [], [], [9, 10, 11, 12, 13, 14, 15, 16, 17, 18, 21, 22, 23, 24, 25]), [], [((2, [(1, .negSucc 2147483647, .ofNat 2147483647)], [], [], [], [9, 10, 11, 12, 13, 14, 15, 16, 17, 18, 21, 22, 23, 24, 25]), some (.inl (1, .ofNat 0)))])
def jxm_c28_N : jc_Nt := [some [none, none, none, none, some ([(6, none, (1, [], [], [], [], [9, 10, 11, 12, 13, 14, 15, 16, 17, 18, 21, 22, 23, 24, 25]), [(0, .inr (some (some 359))), (1, .inl (0, .ofNat 0)), (2, .inl (0, .ofNat 0))]),
    (5, none, (2, [(1, .negSucc 2147483647, .ofNat 2147483647)], [], [], [], [9, 10, 11, 12, 13, 14, 15, 16, 17, 18, 21, 22, 23, 24, 25]), [(0, .inr (some (some 359))), (1, .inl (1, .ofNat 0)), (2, .inl (0, .ofNat 1))]),
    (4, none, (2, [(1, .negSucc 2147483647, .ofNat 2147483647)], [], [], [], [9, 10, 11, 12, 13, 14, 15, 16, 17, 18, 21, 22, 23, 24, 25]), [(0, .inr (some (some 359))), (1, .inl (1, .ofNat 0)), (2, .inl (0, .ofNat 2))]),
    (3, none, (2, [(1, .negSucc 2147483647, .ofNat 2147483647)], [], [], [], [9, 10, 11, 12, 13, 14, 15, 16, 17, 18, 21, 22, 23, 24, 25]), [(0, .inr (some (some 359))), (1, .inl (1, .ofNat 0)), (2, .inl (0, .ofNat 3))]),
    (2, none, (2, [(1, .negSucc 2147483647, .ofNat 2147483647)], [], [], [], [9, 10, 11, 12, 13, 14, 15, 16, 17, 18, 21, 22, 23, 24, 25]), [(0, .inr (some (some 359))), (1, .inl (1, .ofNat 0)), (2, .inl (0, .ofNat 4))]),
    (1, none, (2, [(1, .negSucc 2147483647, .ofNat 2147483647)], [], [], [], [9, 10, 11, 12, 13, 14, 15, 16, 17, 18, 21, 22, 23, 24, 25]), [(0, .inr (some (some 359))), (1, .inl (1, .ofNat 0)), (2, .inl (0, .ofNat 5))])]), none, none, none, none, none, none, none, none, none, none, none]]
set_option maxRecDepth 1000000 in
theorem jxm_c28_ok (hX : jc_Xo jxm X) : jc_Con jP jxm X jxm_c28 := jc_mth_ok (Z := (jxm, [], jT, [jxm_c23, jxm_c24, jxm_c25, jxm_c26, jxm_c27], jxm_S0, jxm_c28_N, .ofNat 100000)) (f := 100000) jxm_ok hX jT_ok (jc_c1 (jxm_c23_ok hX) (jc_c1 (jxm_c24_ok hX) (jc_c1 (jxm_c25_ok hX) (jc_c1 (jxm_c26_ok hX) (jc_c1 (jxm_c27_ok hX) jc_c0))))) (by decide +kernel)
-- greatestDelay
def jxm_c29 : jc_Cn := (233, 5, [.inr (some (some 359))], (1, [], [], [], [], [9, 10, 11, 12, 13, 14, 15, 16, 17, 18, 21, 22, 23, 24, 25]), [], [((2, [(1, .negSucc 2147483647, .ofNat 2147483647)], [], [], [], [9, 10, 11, 12, 13, 14, 15, 16, 17, 18, 21, 22, 23, 24, 25]), some (.inl (1, .ofNat 0)))])
def jxm_c29_N : jc_Nt := [some [none, none, none, none, none, none, some ([(6, none, (1, [], [], [], [], [9, 10, 11, 12, 13, 14, 15, 16, 17, 18, 21, 22, 23, 24, 25]), [(0, .inr (some (some 359))), (1, .inl (0, .ofNat 0)), (2, .inl (0, .ofNat 0)), (3, .inl (0, .ofNat 0))]),
    (5, none, (3, [(1, .negSucc 2147483647, .ofNat 2147483647), (2, .ofNat 0, .ofNat 1)], [], [], [], [9, 10, 11, 12, 13, 14, 15, 16, 17, 18, 21, 22, 23, 24, 25]), [(0, .inr (some (some 359))), (1, .inl (1, .ofNat 0)), (2, .inl (2, .ofNat 0)), (3, .inl (0, .ofNat 1))]),
    (4, none, (3, [(1, .negSucc 2147483647, .ofNat 2147483647), (2, .ofNat 0, .ofNat 1)], [], [], [], [9, 10, 11, 12, 13, 14, 15, 16, 17, 18, 21, 22, 23, 24, 25]), [(0, .inr (some (some 359))), (1, .inl (1, .ofNat 0)), (2, .inl (2, .ofNat 0)), (3, .inl (0, .ofNat 2))]),
    (3, none, (3, [(1, .negSucc 2147483647, .ofNat 2147483647), (2, .ofNat 0, .ofNat 1)], [], [], [], [9, 10, 11, 12, 13, 14, 15, 16, 17, 18, 21, 22, 23, 24, 25]), [(0, .inr (some (some 359))), (1, .inl (1, .ofNat 0)), (2, .inl (2, .ofNat 0)), (3, .inl (0, .ofNat 3))]),
    (2, none, (3, [(1, .negSucc 2147483647, .ofNat 2147483647), (2, .ofNat 0, .ofNat 1)], [], [], [], [9, 10, 11, 12, 13, 14, 15, 16, 17, 18, 21, 22, 23, 24, 25]), [(0, .inr (some (some 359))), (1, .inl (1, .ofNat 0)), (2, .inl (2, .ofNat 0)), (3, .inl (0, .ofNat 4))]),
    (1, none, (3, [(1, .negSucc 2147483647, .ofNat 2147483647), (2, .ofNat 0, .ofNat 1)], [], [], [], [9, 10, 11, 12, 13, 14, 15, 16, 17, 18, 21, 22, 23, 24, 25]), [(0, .inr (some (some 359))), (1, .inl (1, .ofNat 0)), (2, .inl (2, .ofNat 0)), (3, .inl (0, .ofNat 5))])]), none, none, none, none, none, none, none, none, none]]
set_option maxRecDepth 1000000 in
theorem jxm_c29_ok (hX : jc_Xo jxm X) : jc_Con jP jxm X jxm_c29 := jc_mth_ok (Z := (jxm, [], jT, [jxm_c23, jxm_c24, jxm_c25, jxm_c26, jxm_c27], jxm_S0, jxm_c29_N, .ofNat 100000)) (f := 100000) jxm_ok hX jT_ok (jc_c1 (jxm_c23_ok hX) (jc_c1 (jxm_c24_ok hX) (jc_c1 (jxm_c25_ok hX) (jc_c1 (jxm_c26_ok hX) (jc_c1 (jxm_c27_ok hX) jc_c0))))) (by decide +kernel)
end Jjxm8
