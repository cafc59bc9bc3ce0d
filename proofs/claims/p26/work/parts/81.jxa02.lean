/-! contracts of the class, told in A (2); written by wip/jc/e4.py -/
section Jjxa2
variable {X : J_H → Prop}
-- now.A.nextDue
def jxa_c10 : jc_Cn := (94, 0, [.inr (some (some 4)), .inl (1, .ofNat 0)], (2, [(1, .negSucc 2147483647, .ofNat 2147483647)], [(32768, .inr (some (some 327)))], [], [], [1, 2, 3, 4, 5, 6, 7]), [], [((2, [(1, .negSucc 2147483647, .ofNat 2147483647)], [(32768, .inr (some (some 327)))], [], [], [1, 2, 3, 4, 5, 6, 7]), some (.inl (1, .ofNat 0)))])
def jxa_c10_N : jc_Nt := [some [none, none, none, none, some ([(6, none, (3, [(1, .negSucc 2147483647, .ofNat 2147483647), (2, .negSucc 2147483647, .ofNat 2147483647)], [(32768, .inr (some (some 327)))], [], [], [1, 2, 3, 4, 5, 6, 7]), [(0, .inr (some (some 4))), (1, .inl (1, .ofNat 0)), (2, .inl (2, .ofNat 0)), (3, .inl (0, .ofNat 0))]),
    (5, none, (3, [(1, .negSucc 2147483647, .ofNat 2147483647), (2, .negSucc 2147483647, .ofNat 2147483647)], [(32768, .inr (some (some 327)))], [], [], [1, 2, 3, 4, 5, 6, 7]), [(0, .inr (some (some 4))), (1, .inl (1, .ofNat 0)), (2, .inl (2, .ofNat 0)), (3, .inl (0, .ofNat 1))]),
    (4, none, (3, [(1, .negSucc 2147483647, .ofNat 2147483647), (2, .negSucc 2147483647, .ofNat 2147483647)], [(32768, .inr (some (some 327)))], [], [], [1, 2, 3, 4, 5, 6, 7]), [(0, .inr (some (some 4))), (1, .inl (1, .ofNat 0)), (2, .inl (2, .ofNat 0)), (3, .inl (0, .ofNat 2))]),
    (3, none, (3, [(1, .negSucc 2147483647, .ofNat 2147483647), (2, .negSucc 2147483647, .ofNat 2147483647)], [(32768, .inr (some (some 327)))], [], [], [1, 2, 3, 4, 5, 6, 7]), [(0, .inr (some (some 4))), (1, .inl (1, .ofNat 0)), (2, .inl (2, .ofNat 0)), (3, .inl (0, .ofNat 3))]),
    (2, none, (3, [(1, .negSucc 2147483647, .ofNat 2147483647), (2, .negSucc 2147483647, .ofNat 2147483647)], [(32768, .inr (some (some 327)))], [], [], [1, 2, 3, 4, 5, 6, 7]), [(0, .inr (some (some 4))), (1, .inl (1, .ofNat 0)), (2, .inl (2, .ofNat 0)), (3, .inl (0, .ofNat 4))]),
    (1, none, (3, [(1, .negSucc 2147483647, .ofNat 2147483647), (2, .negSucc 2147483647, .ofNat 2147483647)], [(32768, .inr (some (some 327)))], [], [], [1, 2, 3, 4, 5, 6, 7]), [(0, .inr (some (some 4))), (1, .inl (1, .ofNat 0)), (2, .inl (2, .ofNat 0)), (3, .inl (0, .ofNat 5))])]), none, none, none, none, none, none, none, none, none, none, none]]
set_option maxRecDepth 1000000 in
theorem jxa_c10_ok (hX : jc_Xo jxa X) : jc_Con jP jxa X jxa_c10 := jc_mth_ok (Z := (jxa, [], jT, [], jxa_SP, jxa_c10_N, .ofNat 100000)) (f := 100000) jxa_ok hX jT_ok jc_c0 (by decide +kernel)
-- now.A.isKept
def jxa_c11 : jc_Cn := (89, 1, [.inr (some (some 4)), .inl (1, .ofNat 0)], (2, [(1, .ofNat 0, .ofNat 4)], [(32768, .inr (some (some 327)))], [], [], [1, 2, 3, 4, 5, 6, 7]), [], [((2, [(1, .ofNat 0, .ofNat 1)], [(32768, .inr (some (some 327)))], [], [], [1, 2, 3, 4, 5, 6, 7]), some (.inl (1, .ofNat 0)))])
def jxa_c11_N : jc_Nt := [some [none, none, some ([(5, none, (2, [(1, .ofNat 0, .ofNat 4)], [(32768, .inr (some (some 327)))], [], [], [1, 2, 3, 4, 5, 6, 7]), [(0, .inr (some (some 4))), (1, .inl (1, .ofNat 0)), (2, .inl (0, .ofNat 0))]),
    (4, none, (2, [(1, .ofNat 0, .ofNat 4)], [(32768, .inr (some (some 327)))], [], [], [1, 2, 3, 4, 5, 6, 7]), [(0, .inr (some (some 4))), (1, .inl (1, .ofNat 0)), (2, .inl (0, .ofNat 1))]),
    (3, none, (2, [(1, .ofNat 0, .ofNat 4)], [(32768, .inr (some (some 327)))], [], [], [1, 2, 3, 4, 5, 6, 7]), [(0, .inr (some (some 4))), (1, .inl (1, .ofNat 0)), (2, .inl (0, .ofNat 2))]),
    (2, none, (2, [(1, .ofNat 0, .ofNat 4)], [(32768, .inr (some (some 327)))], [], [], [1, 2, 3, 4, 5, 6, 7]), [(0, .inr (some (some 4))), (1, .inl (1, .ofNat 0)), (2, .inl (0, .ofNat 3))]),
    (1, none, (2, [(1, .ofNat 0, .ofNat 4)], [(32768, .inr (some (some 327)))], [], [], [1, 2, 3, 4, 5, 6, 7]), [(0, .inr (some (some 4))), (1, .inl (1, .ofNat 0)), (2, .inl (0, .ofNat 4))])]), none, none, none, none, none, none, none, none, none, none, none, none, none]]
set_option maxRecDepth 1000000 in
theorem jxa_c11_ok (hX : jc_Xo jxa X) : jc_Con jP jxa X jxa_c11 := jc_mth_ok (Z := (jxa, [], jT, [], jxa_SP, jxa_c11_N, .ofNat 100000)) (f := 100000) jxa_ok hX jT_ok jc_c0 (by decide +kernel)
-- now.A.targetO0
def jxa_c12 : jc_Cn := (85, 1, [.inr (some (some 4)), .inl (0, .ofNat 0)], (2, [(1, .ofNat 1, .ofNat 5)], [(32768, .inr (some (some 327))), (57344, .inl (0, .ofNat 0)), (2678789, .inl (1, .ofNat 0))], [], [], [2, 3, 4, 5, 6, 7]), [], [((3, [(1, .negSucc 0, .ofNat 20), (2, .ofNat 1, .ofNat 5)], [(32768, .inr (some (some 327))), (57344, .inl (0, .ofNat 0)), (2678789, .inl (2, .ofNat 0))], [], [], [2, 3, 4, 5, 6, 7]), some (.inl (1, .ofNat 0)))])
def jxa_c12_N : jc_Nt := []
set_option maxRecDepth 1000000 in
theorem jxa_c12_ok (hX : jc_Xo jxa X) : jc_Con jP jxa X jxa_c12 := jc_mth_ok (Z := (jxa, [], jT, [jxa_c8], jxa_SP, jxa_c12_N, .ofNat 100000)) (f := 100000) jxa_ok hX jT_ok (jc_c1 (jxa_c8_ok hX) jc_c0) (by decide +kernel)
-- now.A.targetI0
def jxa_c13 : jc_Cn := (85, 1, [.inr (some (some 4)), .inl (0, .ofNat 0)], (2, [(1, .ofNat 1, .ofNat 5)], [(32768, .inr (some (some 327))), (57344, .inl (0, .ofNat 1)), (2678789, .inl (1, .ofNat 0))], [], [], [2, 3, 4, 5, 6, 7]), [], [((3, [(1, .negSucc 1, .ofNat 21), (2, .ofNat 1, .ofNat 5)], [(32768, .inr (some (some 327))), (57344, .inl (0, .ofNat 1)), (2678789, .inl (2, .ofNat 0))], [], [], [2, 3, 4, 5, 6, 7]), some (.inl (1, .ofNat 0)))])
def jxa_c13_N : jc_Nt := []
set_option maxRecDepth 1000000 in
theorem jxa_c13_ok (hX : jc_Xo jxa X) : jc_Con jP jxa X jxa_c13 := jc_mth_ok (Z := (jxa, [], jT, [jxa_c8], jxa_SP, jxa_c13_N, .ofNat 100000)) (f := 100000) jxa_ok hX jT_ok (jc_c1 (jxa_c8_ok hX) jc_c0) (by decide +kernel)
-- now.A.targetB0
def jxa_c14 : jc_Cn := (85, 1, [.inr (some (some 4)), .inl (0, .ofNat 0)], (3, [(1, .ofNat 1, .ofNat 5), (2, .ofNat 0, .ofNat 1)], [(32768, .inr (some (some 327))), (57344, .inl (2, .ofNat 0)), (2678789, .inl (1, .ofNat 0))], [], [], [2, 3, 4, 5, 6, 7]), [], [((4, [(1, .negSucc 1, .ofNat 21), (2, .ofNat 0, .ofNat 1), (3, .ofNat 1, .ofNat 5)], [(32768, .inr (some (some 327))), (57344, .inl (2, .ofNat 0)), (2678789, .inl (3, .ofNat 0))], [], [], [2, 3, 4, 5, 6, 7]), some (.inl (1, .ofNat 0)))])
def jxa_c14_N : jc_Nt := []
set_option maxRecDepth 1000000 in
theorem jxa_c14_ok (hX : jc_Xo jxa X) : jc_Con jP jxa X jxa_c14 := jc_mth_ok (Z := (jxa, [], jT, [jxa_c8], jxa_SP, jxa_c14_N, .ofNat 100000)) (f := 100000) jxa_ok hX jT_ok (jc_c1 (jxa_c8_ok hX) jc_c0) (by decide +kernel)
-- now.A.targetO1
def jxa_c15 : jc_Cn := (85, 1, [.inr (some (some 4)), .inl (0, .ofNat 1)], (2, [(1, .ofNat 2, .ofNat 5)], [(32768, .inr (some (some 327))), (57345, .inl (0, .ofNat 0)), (2678789, .inl (1, .ofNat 0))], [], [], [2, 3, 4, 5, 6, 7]), [], [((3, [(1, .negSucc 0, .ofNat 20), (2, .ofNat 2, .ofNat 5)], [(32768, .inr (some (some 327))), (57345, .inl (0, .ofNat 0)), (2678789, .inl (2, .ofNat 0))], [], [], [2, 3, 4, 5, 6, 7]), some (.inl (1, .ofNat 0)))])
def jxa_c15_N : jc_Nt := []
set_option maxRecDepth 1000000 in
theorem jxa_c15_ok (hX : jc_Xo jxa X) : jc_Con jP jxa X jxa_c15 := jc_mth_ok (Z := (jxa, [], jT, [jxa_c8], jxa_SP, jxa_c15_N, .ofNat 100000)) (f := 100000) jxa_ok hX jT_ok (jc_c1 (jxa_c8_ok hX) jc_c0) (by decide +kernel)
-- now.A.targetI1
def jxa_c16 : jc_Cn := (85, 1, [.inr (some (some 4)), .inl (0, .ofNat 1)], (2, [(1, .ofNat 2, .ofNat 5)], [(32768, .inr (some (some 327))), (57345, .inl (0, .ofNat 1)), (2678789, .inl (1, .ofNat 0))], [], [], [2, 3, 4, 5, 6, 7]), [], [((3, [(1, .negSucc 1, .ofNat 21), (2, .ofNat 2, .ofNat 5)], [(32768, .inr (some (some 327))), (57345, .inl (0, .ofNat 1)), (2678789, .inl (2, .ofNat 0))], [], [], [2, 3, 4, 5, 6, 7]), some (.inl (1, .ofNat 0)))])
def jxa_c16_N : jc_Nt := []
set_option maxRecDepth 1000000 in
theorem jxa_c16_ok (hX : jc_Xo jxa X) : jc_Con jP jxa X jxa_c16 := jc_mth_ok (Z := (jxa, [], jT, [jxa_c8], jxa_SP, jxa_c16_N, .ofNat 100000)) (f := 100000) jxa_ok hX jT_ok (jc_c1 (jxa_c8_ok hX) jc_c0) (by decide +kernel)
-- now.A.targetB1
def jxa_c17 : jc_Cn := (85, 1, [.inr (some (some 4)), .inl (0, .ofNat 1)], (3, [(1, .ofNat 2, .ofNat 5), (2, .ofNat 0, .ofNat 1)], [(32768, .inr (some (some 327))), (57345, .inl (2, .ofNat 0)), (2678789, .inl (1, .ofNat 0))], [], [], [2, 3, 4, 5, 6, 7]), [], [((4, [(1, .negSucc 1, .ofNat 21), (2, .ofNat 0, .ofNat 1), (3, .ofNat 2, .ofNat 5)], [(32768, .inr (some (some 327))), (57345, .inl (2, .ofNat 0)), (2678789, .inl (3, .ofNat 0))], [], [], [2, 3, 4, 5, 6, 7]), some (.inl (1, .ofNat 0)))])
def jxa_c17_N : jc_Nt := []
set_option maxRecDepth 1000000 in
theorem jxa_c17_ok (hX : jc_Xo jxa X) : jc_Con jP jxa X jxa_c17 := jc_mth_ok (Z := (jxa, [], jT, [jxa_c8], jxa_SP, jxa_c17_N, .ofNat 100000)) (f := 100000) jxa_ok hX jT_ok (jc_c1 (jxa_c8_ok hX) jc_c0) (by decide +kernel)
-- now.A.targetO2
def jxa_c18 : jc_Cn := (85, 1, [.inr (some (some 4)), .inl (0, .ofNat 2)], (2, [(1, .ofNat 3, .ofNat 5)], [(32768, .inr (some (some 327))), (57346, .inl (0, .ofNat 0)), (2678789, .inl (1, .ofNat 0))], [], [], [2, 3, 4, 5, 6, 7]), [], [((3, [(1, .negSucc 0, .ofNat 20), (2, .ofNat 3, .ofNat 5)], [(32768, .inr (some (some 327))), (57346, .inl (0, .ofNat 0)), (2678789, .inl (2, .ofNat 0))], [], [], [2, 3, 4, 5, 6, 7]), some (.inl (1, .ofNat 0)))])
def jxa_c18_N : jc_Nt := []
set_option maxRecDepth 1000000 in
theorem jxa_c18_ok (hX : jc_Xo jxa X) : jc_Con jP jxa X jxa_c18 := jc_mth_ok (Z := (jxa, [], jT, [jxa_c8], jxa_SP, jxa_c18_N, .ofNat 100000)) (f := 100000) jxa_ok hX jT_ok (jc_c1 (jxa_c8_ok hX) jc_c0) (by decide +kernel)
-- now.A.targetI2
def jxa_c19 : jc_Cn := (85, 1, [.inr (some (some 4)), .inl (0, .ofNat 2)], (2, [(1, .ofNat 3, .ofNat 5)], [(32768, .inr (some (some 327))), (57346, .inl (0, .ofNat 1)), (2678789, .inl (1, .ofNat 0))], [], [], [2, 3, 4, 5, 6, 7]), [], [((3, [(1, .negSucc 1, .ofNat 21), (2, .ofNat 3, .ofNat 5)], [(32768, .inr (some (some 327))), (57346, .inl (0, .ofNat 1)), (2678789, .inl (2, .ofNat 0))], [], [], [2, 3, 4, 5, 6, 7]), some (.inl (1, .ofNat 0)))])
def jxa_c19_N : jc_Nt := []
set_option maxRecDepth 1000000 in
theorem jxa_c19_ok (hX : jc_Xo jxa X) : jc_Con jP jxa X jxa_c19 := jc_mth_ok (Z := (jxa, [], jT, [jxa_c8], jxa_SP, jxa_c19_N, .ofNat 100000)) (f := 100000) jxa_ok hX jT_ok (jc_c1 (jxa_c8_ok hX) jc_c0) (by decide +kernel)
-- now.A.targetB2
def jxa_c20 : jc_Cn := (85, 1, [.inr (some (some 4)), .inl (0, .ofNat 2)], (3, [(1, .ofNat 3, .ofNat 5), (2, .ofNat 0, .ofNat 1)], [(32768, .inr (some (some 327))), (57346, .inl (2, .ofNat 0)), (2678789, .inl (1, .ofNat 0))], [], [], [2, 3, 4, 5, 6, 7]), [], [((4, [(1, .negSucc 1, .ofNat 21), (2, .ofNat 0, .ofNat 1), (3, .ofNat 3, .ofNat 5)], [(32768, .inr (some (some 327))), (57346, .inl (2, .ofNat 0)), (2678789, .inl (3, .ofNat 0))], [], [], [2, 3, 4, 5, 6, 7]), some (.inl (1, .ofNat 0)))])
def jxa_c20_N : jc_Nt := []
set_option maxRecDepth 1000000 in
theorem jxa_c20_ok (hX : jc_Xo jxa X) : jc_Con jP jxa X jxa_c20 := jc_mth_ok (Z := (jxa, [], jT, [jxa_c8], jxa_SP, jxa_c20_N, .ofNat 100000)) (f := 100000) jxa_ok hX jT_ok (jc_c1 (jxa_c8_ok hX) jc_c0) (by decide +kernel)
-- now.A.targetO3
def jxa_c21 : jc_Cn := (85, 1, [.inr (some (some 4)), .inl (0, .ofNat 3)], (2, [(1, .ofNat 4, .ofNat 5)], [(32768, .inr (some (some 327))), (57347, .inl (0, .ofNat 0)), (2678789, .inl (1, .ofNat 0))], [], [], [2, 3, 4, 5, 6, 7]), [], [((3, [(1, .negSucc 0, .ofNat 20), (2, .ofNat 4, .ofNat 5)], [(32768, .inr (some (some 327))), (57347, .inl (0, .ofNat 0)), (2678789, .inl (2, .ofNat 0))], [], [], [2, 3, 4, 5, 6, 7]), some (.inl (1, .ofNat 0)))])
def jxa_c21_N : jc_Nt := []
set_option maxRecDepth 1000000 in
theorem jxa_c21_ok (hX : jc_Xo jxa X) : jc_Con jP jxa X jxa_c21 := jc_mth_ok (Z := (jxa, [], jT, [jxa_c8], jxa_SP, jxa_c21_N, .ofNat 100000)) (f := 100000) jxa_ok hX jT_ok (jc_c1 (jxa_c8_ok hX) jc_c0) (by decide +kernel)
-- now.A.targetI3
def jxa_c22 : jc_Cn := (85, 1, [.inr (some (some 4)), .inl (0, .ofNat 3)], (2, [(1, .ofNat 4, .ofNat 5)], [(32768, .inr (some (some 327))), (57347, .inl (0, .ofNat 1)), (2678789, .inl (1, .ofNat 0))], [], [], [2, 3, 4, 5, 6, 7]), [], [((3, [(1, .negSucc 1, .ofNat 21), (2, .ofNat 4, .ofNat 5)], [(32768, .inr (some (some 327))), (57347, .inl (0, .ofNat 1)), (2678789, .inl (2, .ofNat 0))], [], [], [2, 3, 4, 5, 6, 7]), some (.inl (1, .ofNat 0)))])
def jxa_c22_N : jc_Nt := []
set_option maxRecDepth 1000000 in
theorem jxa_c22_ok (hX : jc_Xo jxa X) : jc_Con jP jxa X jxa_c22 := jc_mth_ok (Z := (jxa, [], jT, [jxa_c8], jxa_SP, jxa_c22_N, .ofNat 100000)) (f := 100000) jxa_ok hX jT_ok (jc_c1 (jxa_c8_ok hX) jc_c0) (by decide +kernel)
-- now.A.targetB3
def jxa_c23 : jc_Cn := (85, 1, [.inr (some (some 4)), .inl (0, .ofNat 3)], (3, [(1, .ofNat 4, .ofNat 5), (2, .ofNat 0, .ofNat 1)], [(32768, .inr (some (some 327))), (57347, .inl (2, .ofNat 0)), (2678789, .inl (1, .ofNat 0))], [], [], [2, 3, 4, 5, 6, 7]), [], [((4, [(1, .negSucc 1, .ofNat 21), (2, .ofNat 0, .ofNat 1), (3, .ofNat 4, .ofNat 5)], [(32768, .inr (some (some 327))), (57347, .inl (2, .ofNat 0)), (2678789, .inl (3, .ofNat 0))], [], [], [2, 3, 4, 5, 6, 7]), some (.inl (1, .ofNat 0)))])
def jxa_c23_N : jc_Nt := []
set_option maxRecDepth 1000000 in
theorem jxa_c23_ok (hX : jc_Xo jxa X) : jc_Con jP jxa X jxa_c23 := jc_mth_ok (Z := (jxa, [], jT, [jxa_c8], jxa_SP, jxa_c23_N, .ofNat 100000)) (f := 100000) jxa_ok hX jT_ok (jc_c1 (jxa_c8_ok hX) jc_c0) (by decide +kernel)
-- now.A.targetO4
def jxa_c24 : jc_Cn := (85, 1, [.inr (some (some 4)), .inl (0, .ofNat 4)], (2, [(1, .ofNat 5, .ofNat 5)], [(32768, .inr (some (some 327))), (57348, .inl (0, .ofNat 0)), (2678789, .inl (1, .ofNat 0))], [], [], [2, 3, 4, 5, 6, 7]), [], [((2, [(1, .negSucc 0, .ofNat 20)], [(32768, .inr (some (some 327))), (57348, .inl (0, .ofNat 0)), (2678789, .inl (0, .ofNat 5))], [], [], [2, 3, 4, 5, 6, 7]), some (.inl (1, .ofNat 0)))])
def jxa_c24_N : jc_Nt := []
set_option maxRecDepth 1000000 in
theorem jxa_c24_ok (hX : jc_Xo jxa X) : jc_Con jP jxa X jxa_c24 := jc_mth_ok (Z := (jxa, [], jT, [jxa_c8], jxa_SP, jxa_c24_N, .ofNat 100000)) (f := 100000) jxa_ok hX jT_ok (jc_c1 (jxa_c8_ok hX) jc_c0) (by decide +kernel)
-- now.A.targetI4
def jxa_c25 : jc_Cn := (85, 1, [.inr (some (some 4)), .inl (0, .ofNat 4)], (2, [(1, .ofNat 5, .ofNat 5)], [(32768, .inr (some (some 327))), (57348, .inl (0, .ofNat 1)), (2678789, .inl (1, .ofNat 0))], [], [], [2, 3, 4, 5, 6, 7]), [], [((2, [(1, .negSucc 1, .ofNat 21)], [(32768, .inr (some (some 327))), (57348, .inl (0, .ofNat 1)), (2678789, .inl (0, .ofNat 5))], [], [], [2, 3, 4, 5, 6, 7]), some (.inl (1, .ofNat 0)))])
def jxa_c25_N : jc_Nt := []
set_option maxRecDepth 1000000 in
theorem jxa_c25_ok (hX : jc_Xo jxa X) : jc_Con jP jxa X jxa_c25 := jc_mth_ok (Z := (jxa, [], jT, [jxa_c8], jxa_SP, jxa_c25_N, .ofNat 100000)) (f := 100000) jxa_ok hX jT_ok (jc_c1 (jxa_c8_ok hX) jc_c0) (by decide +kernel)
-- now.A.targetB4
def jxa_c26 : jc_Cn := (85, 1, [.inr (some (some 4)), .inl (0, .ofNat 4)], (3, [(1, .ofNat 5, .ofNat 5), (2, .ofNat 0, .ofNat 1)], [(32768, .inr (some (some 327))), (57348, .inl (2, .ofNat 0)), (2678789, .inl (1, .ofNat 0))], [], [], [2, 3, 4, 5, 6, 7]), [], [((3, [(1, .negSucc 1, .ofNat 21), (2, .ofNat 0, .ofNat 1)], [(32768, .inr (some (some 327))), (57348, .inl (2, .ofNat 0)), (2678789, .inl (0, .ofNat 5))], [], [], [2, 3, 4, 5, 6, 7]), some (.inl (1, .ofNat 0)))])
def jxa_c26_N : jc_Nt := []
set_option maxRecDepth 1000000 in
theorem jxa_c26_ok (hX : jc_Xo jxa X) : jc_Con jP jxa X jxa_c26 := jc_mth_ok (Z := (jxa, [], jT, [jxa_c8], jxa_SP, jxa_c26_N, .ofNat 100000)) (f := 100000) jxa_ok hX jT_ok (jc_c1 (jxa_c8_ok hX) jc_c0) (by decide +kernel)
-- now.A.waitsFor0
def jxa_c27 : jc_Cn := (81, 3, [.inr (some (some 4)), .inl (0, .ofNat 0)], (2, [(1, .ofNat 1, .ofNat 5)], [(32768, .inr (some (some 327))), (2678789, .inl (1, .ofNat 0))], [], [], [2, 3, 4, 5, 6, 7]), [], [((3, [(1, .negSucc 2147483647, .ofNat 2147483647), (2, .ofNat 1, .ofNat 5)], [(32768, .inr (some (some 327))), (2678789, .inl (2, .ofNat 0))], [], [], [2, 3, 4, 5, 6, 7]), some (.inl (1, .ofNat 0)))])
def jxa_c27_N : jc_Nt := [none,
  none,
  none,
  none,
  some [none, none, none, none, none, some ([(6, none, (3, [(1, .negSucc 2147483647, .ofNat 2147483647), (2, .ofNat 1, .ofNat 5)], [(32768, .inr (some (some 327))), (2678789, .inl (2, .ofNat 0))], [], [], [2, 3, 4, 5, 6, 7]), [(0, .inr (some (some 4))), (1, .inl (0, .ofNat 0)), (2, .inl (0, .negSucc 0)), (3, .inl (1, .ofNat 0)), (4, .inl (0, .ofNat 0)), (5, .inl (0, .ofNat 0))]),
    (5, none, (4, [(1, .negSucc 2147483647, .ofNat 2147483647), (2, .ofNat 0, .ofNat 1), (3, .ofNat 1, .ofNat 5)], [(32768, .inr (some (some 327))), (2678789, .inl (3, .ofNat 0))], [], [], [2, 3, 4, 5, 6, 7]), [(0, .inr (some (some 4))), (1, .inl (0, .ofNat 0)), (2, .inl (0, .negSucc 0)), (3, .inl (1, .ofNat 0)), (4, .inl (2, .ofNat 0)), (5, .inl (0, .ofNat 1))]),
    (4, none, (4, [(1, .negSucc 2147483647, .ofNat 2147483647), (2, .ofNat 0, .ofNat 127), (3, .ofNat 2, .ofNat 5)], [(32768, .inr (some (some 327))), (2678789, .inl (3, .ofNat 0))], [], [], [2, 3, 4, 5, 6, 7]), [(0, .inr (some (some 4))), (1, .inl (0, .ofNat 0)), (2, .inl (0, .negSucc 0)), (3, .inl (1, .ofNat 0)), (4, .inl (2, .ofNat 0)), (5, .inl (0, .ofNat 2))]),
    (3, none, (4, [(1, .negSucc 2147483647, .ofNat 2147483647), (2, .ofNat 0, .ofNat 127), (3, .ofNat 3, .ofNat 5)], [(32768, .inr (some (some 327))), (2678789, .inl (3, .ofNat 0))], [], [], [2, 3, 4, 5, 6, 7]), [(0, .inr (some (some 4))), (1, .inl (0, .ofNat 0)), (2, .inl (0, .negSucc 0)), (3, .inl (1, .ofNat 0)), (4, .inl (2, .ofNat 0)), (5, .inl (0, .ofNat 3))]),
    (2, none, (4, [(1, .negSucc 2147483647, .ofNat 2147483647), (2, .ofNat 0, .ofNat 127), (3, .ofNat 4, .ofNat 5)], [(32768, .inr (some (some 327))), (2678789, .inl (3, .ofNat 0))], [], [], [2, 3, 4, 5, 6, 7]), [(0, .inr (some (some 4))), (1, .inl (0, .ofNat 0)), (2, .inl (0, .negSucc 0)), (3, .inl (1, .ofNat 0)), (4, .inl (2, .ofNat 0)), (5, .inl (0, .ofNat 4))]),
    (1, none, (3, [(1, .negSucc 2147483647, .ofNat 2147483647), (2, .ofNat 0, .ofNat 127)], [(32768, .inr (some (some 327))), (2678789, .inl (0, .ofNat 5))], [], [], [2, 3, 4, 5, 6, 7]), [(0, .inr (some (some 4))), (1, .inl (0, .ofNat 0)), (2, .inl (0, .negSucc 0)), (3, .inl (1, .ofNat 0)), (4, .inl (2, .ofNat 0)), (5, .inl (0, .ofNat 5))])]), none, none, none, none, none, none, none, none, none, none]]
set_option maxRecDepth 1000000 in
theorem jxa_c27_ok (hX : jc_Xo jxa X) : jc_Con jP jxa X jxa_c27 := jc_mth_ok (Z := (jxa, [], jT, [jxa_c13], jxa_SP, jxa_c27_N, .ofNat 100000)) (f := 100000) jxa_ok hX jT_ok (jc_c1 (jxa_c13_ok hX) jc_c0) (by decide +kernel)
-- now.A.waitsFor1
def jxa_c28 : jc_Cn := (81, 3, [.inr (some (some 4)), .inl (0, .ofNat 1)], (2, [(1, .ofNat 2, .ofNat 5)], [(32768, .inr (some (some 327))), (2678789, .inl (1, .ofNat 0))], [], [], [2, 3, 4, 5, 6, 7]), [], [((3, [(1, .negSucc 2147483647, .ofNat 2147483647), (2, .ofNat 2, .ofNat 5)], [(32768, .inr (some (some 327))), (2678789, .inl (2, .ofNat 0))], [], [], [2, 3, 4, 5, 6, 7]), some (.inl (1, .ofNat 0)))])
def jxa_c28_N : jc_Nt := [none,
  none,
  none,
  none,
  some [none, none, none, none, none, some ([(6, none, (3, [(1, .negSucc 2147483647, .ofNat 2147483647), (2, .ofNat 2, .ofNat 5)], [(32768, .inr (some (some 327))), (2678789, .inl (2, .ofNat 0))], [], [], [2, 3, 4, 5, 6, 7]), [(0, .inr (some (some 4))), (1, .inl (0, .ofNat 1)), (2, .inl (0, .negSucc 0)), (3, .inl (1, .ofNat 0)), (4, .inl (0, .ofNat 0)), (5, .inl (0, .ofNat 0))]),
    (5, none, (4, [(1, .negSucc 2147483647, .ofNat 2147483647), (2, .ofNat 0, .ofNat 1), (3, .ofNat 2, .ofNat 5)], [(32768, .inr (some (some 327))), (2678789, .inl (3, .ofNat 0))], [], [], [2, 3, 4, 5, 6, 7]), [(0, .inr (some (some 4))), (1, .inl (0, .ofNat 1)), (2, .inl (0, .negSucc 0)), (3, .inl (1, .ofNat 0)), (4, .inl (2, .ofNat 0)), (5, .inl (0, .ofNat 1))]),
    (4, none, (4, [(1, .negSucc 2147483647, .ofNat 2147483647), (2, .ofNat 0, .ofNat 127), (3, .ofNat 2, .ofNat 5)], [(32768, .inr (some (some 327))), (2678789, .inl (3, .ofNat 0))], [], [], [2, 3, 4, 5, 6, 7]), [(0, .inr (some (some 4))), (1, .inl (0, .ofNat 1)), (2, .inl (0, .negSucc 0)), (3, .inl (1, .ofNat 0)), (4, .inl (2, .ofNat 0)), (5, .inl (0, .ofNat 2))]),
    (3, none, (4, [(1, .negSucc 2147483647, .ofNat 2147483647), (2, .ofNat 0, .ofNat 127), (3, .ofNat 3, .ofNat 5)], [(32768, .inr (some (some 327))), (2678789, .inl (3, .ofNat 0))], [], [], [2, 3, 4, 5, 6, 7]), [(0, .inr (some (some 4))), (1, .inl (0, .ofNat 1)), (2, .inl (0, .negSucc 0)), (3, .inl (1, .ofNat 0)), (4, .inl (2, .ofNat 0)), (5, .inl (0, .ofNat 3))]),
    (2, none, (4, [(1, .negSucc 2147483647, .ofNat 2147483647), (2, .ofNat 0, .ofNat 127), (3, .ofNat 4, .ofNat 5)], [(32768, .inr (some (some 327))), (2678789, .inl (3, .ofNat 0))], [], [], [2, 3, 4, 5, 6, 7]), [(0, .inr (some (some 4))), (1, .inl (0, .ofNat 1)), (2, .inl (0, .negSucc 0)), (3, .inl (1, .ofNat 0)), (4, .inl (2, .ofNat 0)), (5, .inl (0, .ofNat 4))]),
    (1, none, (3, [(1, .negSucc 2147483647, .ofNat 2147483647), (2, .ofNat 0, .ofNat 127)], [(32768, .inr (some (some 327))), (2678789, .inl (0, .ofNat 5))], [], [], [2, 3, 4, 5, 6, 7]), [(0, .inr (some (some 4))), (1, .inl (0, .ofNat 1)), (2, .inl (0, .negSucc 0)), (3, .inl (1, .ofNat 0)), (4, .inl (2, .ofNat 0)), (5, .inl (0, .ofNat 5))])]), none, none, none, none, none, none, none, none, none, none]]
set_option maxRecDepth 1000000 in
theorem jxa_c28_ok (hX : jc_Xo jxa X) : jc_Con jP jxa X jxa_c28 := jc_mth_ok (Z := (jxa, [], jT, [jxa_c16], jxa_SP, jxa_c28_N, .ofNat 100000)) (f := 100000) jxa_ok hX jT_ok (jc_c1 (jxa_c16_ok hX) jc_c0) (by decide +kernel)
-- now.A.waitsFor2
def jxa_c29 : jc_Cn := (81, 3, [.inr (some (some 4)), .inl (0, .ofNat 2)], (2, [(1, .ofNat 3, .ofNat 5)], [(32768, .inr (some (some 327))), (2678789, .inl (1, .ofNat 0))], [], [], [2, 3, 4, 5, 6, 7]), [], [((3, [(1, .negSucc 2147483647, .ofNat 2147483647), (2, .ofNat 3, .ofNat 5)], [(32768, .inr (some (some 327))), (2678789, .inl (2, .ofNat 0))], [], [], [2, 3, 4, 5, 6, 7]), some (.inl (1, .ofNat 0)))])
def jxa_c29_N : jc_Nt := [none,
  none,
  none,
  none,
  some [none, none, none, none, none, some ([(6, none, (3, [(1, .negSucc 2147483647, .ofNat 2147483647), (2, .ofNat 3, .ofNat 5)], [(32768, .inr (some (some 327))), (2678789, .inl (2, .ofNat 0))], [], [], [2, 3, 4, 5, 6, 7]), [(0, .inr (some (some 4))), (1, .inl (0, .ofNat 2)), (2, .inl (0, .negSucc 0)), (3, .inl (1, .ofNat 0)), (4, .inl (0, .ofNat 0)), (5, .inl (0, .ofNat 0))]),
    (5, none, (4, [(1, .negSucc 2147483647, .ofNat 2147483647), (2, .ofNat 0, .ofNat 1), (3, .ofNat 3, .ofNat 5)], [(32768, .inr (some (some 327))), (2678789, .inl (3, .ofNat 0))], [], [], [2, 3, 4, 5, 6, 7]), [(0, .inr (some (some 4))), (1, .inl (0, .ofNat 2)), (2, .inl (0, .negSucc 0)), (3, .inl (1, .ofNat 0)), (4, .inl (2, .ofNat 0)), (5, .inl (0, .ofNat 1))]),
    (4, none, (4, [(1, .negSucc 2147483647, .ofNat 2147483647), (2, .ofNat 0, .ofNat 127), (3, .ofNat 3, .ofNat 5)], [(32768, .inr (some (some 327))), (2678789, .inl (3, .ofNat 0))], [], [], [2, 3, 4, 5, 6, 7]), [(0, .inr (some (some 4))), (1, .inl (0, .ofNat 2)), (2, .inl (0, .negSucc 0)), (3, .inl (1, .ofNat 0)), (4, .inl (2, .ofNat 0)), (5, .inl (0, .ofNat 2))]),
    (3, none, (4, [(1, .negSucc 2147483647, .ofNat 2147483647), (2, .ofNat 0, .ofNat 127), (3, .ofNat 3, .ofNat 5)], [(32768, .inr (some (some 327))), (2678789, .inl (3, .ofNat 0))], [], [], [2, 3, 4, 5, 6, 7]), [(0, .inr (some (some 4))), (1, .inl (0, .ofNat 2)), (2, .inl (0, .negSucc 0)), (3, .inl (1, .ofNat 0)), (4, .inl (2, .ofNat 0)), (5, .inl (0, .ofNat 3))]),
    (2, none, (4, [(1, .negSucc 2147483647, .ofNat 2147483647), (2, .ofNat 0, .ofNat 127), (3, .ofNat 4, .ofNat 5)], [(32768, .inr (some (some 327))), (2678789, .inl (3, .ofNat 0))], [], [], [2, 3, 4, 5, 6, 7]), [(0, .inr (some (some 4))), (1, .inl (0, .ofNat 2)), (2, .inl (0, .negSucc 0)), (3, .inl (1, .ofNat 0)), (4, .inl (2, .ofNat 0)), (5, .inl (0, .ofNat 4))]),
    (1, none, (3, [(1, .negSucc 2147483647, .ofNat 2147483647), (2, .ofNat 0, .ofNat 127)], [(32768, .inr (some (some 327))), (2678789, .inl (0, .ofNat 5))], [], [], [2, 3, 4, 5, 6, 7]), [(0, .inr (some (some 4))), (1, .inl (0, .ofNat 2)), (2, .inl (0, .negSucc 0)), (3, .inl (1, .ofNat 0)), (4, .inl (2, .ofNat 0)), (5, .inl (0, .ofNat 5))])]), none, none, none, none, none, none, none, none, none, none]]
set_option maxRecDepth 1000000 in
theorem jxa_c29_ok (hX : jc_Xo jxa X) : jc_Con jP jxa X jxa_c29 := jc_mth_ok (Z := (jxa, [], jT, [jxa_c19], jxa_SP, jxa_c29_N, .ofNat 100000)) (f := 100000) jxa_ok hX jT_ok (jc_c1 (jxa_c19_ok hX) jc_c0) (by decide +kernel)
-- now.A.waitsFor3
def jxa_c30 : jc_Cn := (81, 3, [.inr (some (some 4)), .inl (0, .ofNat 3)], (2, [(1, .ofNat 4, .ofNat 5)], [(32768, .inr (some (some 327))), (2678789, .inl (1, .ofNat 0))], [], [], [2, 3, 4, 5, 6, 7]), [], [((3, [(1, .negSucc 2147483647, .ofNat 2147483647), (2, .ofNat 4, .ofNat 5)], [(32768, .inr (some (some 327))), (2678789, .inl (2, .ofNat 0))], [], [], [2, 3, 4, 5, 6, 7]), some (.inl (1, .ofNat 0)))])
def jxa_c30_N : jc_Nt := [none,
  none,
  none,
  none,
  some [none, none, none, none, none, some ([(6, none, (3, [(1, .negSucc 2147483647, .ofNat 2147483647), (2, .ofNat 4, .ofNat 5)], [(32768, .inr (some (some 327))), (2678789, .inl (2, .ofNat 0))], [], [], [2, 3, 4, 5, 6, 7]), [(0, .inr (some (some 4))), (1, .inl (0, .ofNat 3)), (2, .inl (0, .negSucc 0)), (3, .inl (1, .ofNat 0)), (4, .inl (0, .ofNat 0)), (5, .inl (0, .ofNat 0))]),
    (5, none, (4, [(1, .negSucc 2147483647, .ofNat 2147483647), (2, .ofNat 0, .ofNat 1), (3, .ofNat 4, .ofNat 5)], [(32768, .inr (some (some 327))), (2678789, .inl (3, .ofNat 0))], [], [], [2, 3, 4, 5, 6, 7]), [(0, .inr (some (some 4))), (1, .inl (0, .ofNat 3)), (2, .inl (0, .negSucc 0)), (3, .inl (1, .ofNat 0)), (4, .inl (2, .ofNat 0)), (5, .inl (0, .ofNat 1))]),
    (4, none, (4, [(1, .negSucc 2147483647, .ofNat 2147483647), (2, .ofNat 0, .ofNat 127), (3, .ofNat 4, .ofNat 5)], [(32768, .inr (some (some 327))), (2678789, .inl (3, .ofNat 0))], [], [], [2, 3, 4, 5, 6, 7]), [(0, .inr (some (some 4))), (1, .inl (0, .ofNat 3)), (2, .inl (0, .negSucc 0)), (3, .inl (1, .ofNat 0)), (4, .inl (2, .ofNat 0)), (5, .inl (0, .ofNat 2))]),
    (3, none, (4, [(1, .negSucc 2147483647, .ofNat 2147483647), (2, .ofNat 0, .ofNat 127), (3, .ofNat 4, .ofNat 5)], [(32768, .inr (some (some 327))), (2678789, .inl (3, .ofNat 0))], [], [], [2, 3, 4, 5, 6, 7]), [(0, .inr (some (some 4))), (1, .inl (0, .ofNat 3)), (2, .inl (0, .negSucc 0)), (3, .inl (1, .ofNat 0)), (4, .inl (2, .ofNat 0)), (5, .inl (0, .ofNat 3))]),
    (2, none, (4, [(1, .negSucc 2147483647, .ofNat 2147483647), (2, .ofNat 0, .ofNat 127), (3, .ofNat 4, .ofNat 5)], [(32768, .inr (some (some 327))), (2678789, .inl (3, .ofNat 0))], [], [], [2, 3, 4, 5, 6, 7]), [(0, .inr (some (some 4))), (1, .inl (0, .ofNat 3)), (2, .inl (0, .negSucc 0)), (3, .inl (1, .ofNat 0)), (4, .inl (2, .ofNat 0)), (5, .inl (0, .ofNat 4))]),
    (1, none, (3, [(1, .negSucc 2147483647, .ofNat 2147483647), (2, .ofNat 0, .ofNat 127)], [(32768, .inr (some (some 327))), (2678789, .inl (0, .ofNat 5))], [], [], [2, 3, 4, 5, 6, 7]), [(0, .inr (some (some 4))), (1, .inl (0, .ofNat 3)), (2, .inl (0, .negSucc 0)), (3, .inl (1, .ofNat 0)), (4, .inl (2, .ofNat 0)), (5, .inl (0, .ofNat 5))])]), none, none, none, none, none, none, none, none, none, none]]
set_option maxRecDepth 1000000 in
theorem jxa_c30_ok (hX : jc_Xo jxa X) : jc_Con jP jxa X jxa_c30 := jc_mth_ok (Z := (jxa, [], jT, [jxa_c22], jxa_SP, jxa_c30_N, .ofNat 100000)) (f := 100000) jxa_ok hX jT_ok (jc_c1 (jxa_c22_ok hX) jc_c0) (by decide +kernel)
-- now.A.waitsFor4
def jxa_c31 : jc_Cn := (81, 3, [.inr (some (some 4)), .inl (0, .ofNat 4)], (2, [(1, .ofNat 5, .ofNat 5)], [(32768, .inr (some (some 327))), (2678789, .inl (1, .ofNat 0))], [], [], [2, 3, 4, 5, 6, 7]), [], [((2, [(1, .negSucc 2147483647, .ofNat 2147483647)], [(32768, .inr (some (some 327))), (2678789, .inl (0, .ofNat 5))], [], [], [2, 3, 4, 5, 6, 7]), some (.inl (1, .ofNat 0)))])
def jxa_c31_N : jc_Nt := [none,
  none,
  none,
  none,
  some [none, none, none, none, none, some ([(6, none, (2, [(1, .negSucc 2147483647, .ofNat 2147483647)], [(32768, .inr (some (some 327))), (2678789, .inl (0, .ofNat 5))], [], [], [2, 3, 4, 5, 6, 7]), [(0, .inr (some (some 4))), (1, .inl (0, .ofNat 4)), (2, .inl (0, .negSucc 0)), (3, .inl (1, .ofNat 0)), (4, .inl (0, .ofNat 0)), (5, .inl (0, .ofNat 0))]),
    (5, none, (3, [(1, .negSucc 2147483647, .ofNat 2147483647), (2, .ofNat 0, .ofNat 1)], [(32768, .inr (some (some 327))), (2678789, .inl (0, .ofNat 5))], [], [], [2, 3, 4, 5, 6, 7]), [(0, .inr (some (some 4))), (1, .inl (0, .ofNat 4)), (2, .inl (0, .negSucc 0)), (3, .inl (1, .ofNat 0)), (4, .inl (2, .ofNat 0)), (5, .inl (0, .ofNat 1))]),
    (4, none, (3, [(1, .negSucc 2147483647, .ofNat 2147483647), (2, .ofNat 0, .ofNat 127)], [(32768, .inr (some (some 327))), (2678789, .inl (0, .ofNat 5))], [], [], [2, 3, 4, 5, 6, 7]), [(0, .inr (some (some 4))), (1, .inl (0, .ofNat 4)), (2, .inl (0, .negSucc 0)), (3, .inl (1, .ofNat 0)), (4, .inl (2, .ofNat 0)), (5, .inl (0, .ofNat 2))]),
    (3, none, (3, [(1, .negSucc 2147483647, .ofNat 2147483647), (2, .ofNat 0, .ofNat 127)], [(32768, .inr (some (some 327))), (2678789, .inl (0, .ofNat 5))], [], [], [2, 3, 4, 5, 6, 7]), [(0, .inr (some (some 4))), (1, .inl (0, .ofNat 4)), (2, .inl (0, .negSucc 0)), (3, .inl (1, .ofNat 0)), (4, .inl (2, .ofNat 0)), (5, .inl (0, .ofNat 3))]),
    (2, none, (3, [(1, .negSucc 2147483647, .ofNat 2147483647), (2, .ofNat 0, .ofNat 127)], [(32768, .inr (some (some 327))), (2678789, .inl (0, .ofNat 5))], [], [], [2, 3, 4, 5, 6, 7]), [(0, .inr (some (some 4))), (1, .inl (0, .ofNat 4)), (2, .inl (0, .negSucc 0)), (3, .inl (1, .ofNat 0)), (4, .inl (2, .ofNat 0)), (5, .inl (0, .ofNat 4))]),
    (1, none, (3, [(1, .negSucc 2147483647, .ofNat 2147483647), (2, .ofNat 0, .ofNat 127)], [(32768, .inr (some (some 327))), (2678789, .inl (0, .ofNat 5))], [], [], [2, 3, 4, 5, 6, 7]), [(0, .inr (some (some 4))), (1, .inl (0, .ofNat 4)), (2, .inl (0, .negSucc 0)), (3, .inl (1, .ofNat 0)), (4, .inl (2, .ofNat 0)), (5, .inl (0, .ofNat 5))])]), none, none, none, none, none, none, none, none, none, none]]
set_option maxRecDepth 1000000 in
theorem jxa_c31_ok (hX : jc_Xo jxa X) : jc_Con jP jxa X jxa_c31 := jc_mth_ok (Z := (jxa, [], jT, [jxa_c25], jxa_SP, jxa_c31_N, .ofNat 100000)) (f := 100000) jxa_ok hX jT_ok (jc_c1 (jxa_c25_ok hX) jc_c0) (by decide +kernel)
end Jjxa2
